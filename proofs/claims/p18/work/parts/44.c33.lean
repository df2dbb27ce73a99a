set_option maxHeartbeats 4000000 in
set_option maxRecDepth 100000 in
theorem cs_QX8_digest_4 (l : Launch) (dC : Nat → ClassId) (dI : Nat → Nat → Nat) (ed : Nat) (mr : Nat) (ll : Nat) (lt : Nat) (lp : Nat) (ola : Nat) (ota : Nat) (cOl : ClassId) (fol : Nat → Option Nat) (la0 : Nat) (la1 : Nat) (cOt : ClassId) (fot : Nat → Option Nat) (ta0 : Nat) (ta1 : Nat) (ta2 : Nat) (ta3 : Nat) (ta4 : Nat) (ta5 : Nat) (ta6 : Nat) (ta7 : Nat) (ta8 : Nat) (ta9 : Nat) (mo : Nat) (x9 : Int32) (s9 : Int64) (cA0 : ClassId) (fa0 : Nat → Int32) (cA1 : ClassId) (fa1 : Nat → Int32) (cB0 : ClassId) (fb0 : Nat → Int32) (cB1 : ClassId) (fb1 : Nat → Int32) (cB2 : ClassId) (fb2 : Nat → Int32) (cB3 : ClassId) (fb3 : Nat → Int32) (cB4 : ClassId) (fb4 : Nat → Int32) (cB5 : ClassId) (fb5 : Nat → Int32) (cB6 : ClassId) (fb6 : Nat → Int32) (cB7 : ClassId) (fb7 : Nat → Int32) (cB8 : ClassId) (fb8 : Nat → Int32) (cB9 : ClassId) (fb9 : Nat → Int32) (hol0 : fol 0 = some la0) (hol1 : fol 1 = some la1) (hot0 : fot 0 = some ta0) (hot1 : fot 1 = some ta1) (hot2 : fot 2 = some ta2) (hot3 : fot 3 = some ta3) (hot4 : fot 4 = some ta4) (hot5 : fot 5 = some ta5) (hot6 : fot 6 = some ta6) (hot7 : fot 7 = some ta7) (hot8 : fot 8 = some ta8) (hot9 : fot 9 = some ta9) (ha0_0 : fa0 0 = 0) (ha0_1 : fa0 1 = 0) (ha0_2 : fa0 2 = 60) (ha0_3 : fa0 3 = 0) (ha0_4 : fa0 4 = 0) (ha0_5 : fa0 5 = 0) (ha0_6 : fa0 6 = 0) (ha0_7 : fa0 7 = 0) (ha0_8 : fa0 8 = 0) (ha0_9 : fa0 9 = 0) (ha1_0 : fa1 0 = 0) (ha1_1 : fa1 1 = 0) (ha1_2 : fa1 2 = 60) (ha1_3 : fa1 3 = 0) (ha1_4 : fa1 4 = 0) (ha1_5 : fa1 5 = 0) (ha1_6 : fa1 6 = 0) (ha1_7 : fa1 7 = 0) (ha1_8 : fa1 8 = 0) (ha1_9 : fa1 9 = 0) (hb0_0 : fb0 0 = (-1)) (hb0_1 : fb0 1 = 0) (hb0_2 : fb0 2 = 0) (hb0_3 : fb0 3 = 0) (hb0_4 : fb0 4 = 0) (hb1_0 : fb1 0 = (-1)) (hb1_1 : fb1 1 = 0) (hb1_2 : fb1 2 = 0) (hb1_3 : fb1 3 = 0) (hb1_4 : fb1 4 = 0) (hb2_0 : fb2 0 = (-1)) (hb2_1 : fb2 1 = 0) (hb2_2 : fb2 2 = 0) (hb2_3 : fb2 3 = 0) (hb2_4 : fb2 4 = 0) (hb3_0 : fb3 0 = (-1)) (hb3_1 : fb3 1 = 0) (hb3_2 : fb3 2 = 0) (hb3_3 : fb3 3 = 0) (hb3_4 : fb3 4 = 0) (hb4_0 : fb4 0 = (-1)) (hb4_1 : fb4 1 = 0) (hb4_2 : fb4 2 = 0) (hb4_3 : fb4 3 = 0) (hb4_4 : fb4 4 = 0) (hb5_0 : fb5 0 = (-1)) (hb5_1 : fb5 1 = 0) (hb5_2 : fb5 2 = 0) (hb5_3 : fb5 3 = 0) (hb5_4 : fb5 4 = 0) (hb6_0 : fb6 0 = (-1)) (hb6_1 : fb6 1 = 0) (hb6_2 : fb6 2 = 0) (hb6_3 : fb6 3 = 0) (hb6_4 : fb6 4 = 0) (hb7_0 : fb7 0 = (-1)) (hb7_1 : fb7 1 = 0) (hb7_2 : fb7 2 = 0) (hb7_3 : fb7 3 = 0) (hb7_4 : fb7 4 = 0) (hb8_0 : fb8 0 = (-1)) (hb8_1 : fb8 1 = 0) (hb8_2 : fb8 2 = 0) (hb8_3 : fb8 3 = 0) (hb8_4 : fb8 4 = 0) (hb9_0 : fb9 0 = (-1)) (hb9_1 : fb9 1 = 0) (hb9_2 : fb9 2 = 0) (hb9_3 : fb9 3 = 0) (hb9_4 : fb9 4 = 0) {p : Program} {e : Env} {s : State} {m : MethodId} {below : List Frame} {meth : Method} {c : Code} {A : Nat → Prop} {H : Heap} {locs : List Loc} {ls : Array Slot} (hx : p.tables.exec = Jvm.exec) (hb : c.code = cX8_digest) (hr : meth.sig.returnType = (some .long)) (hml : c.maxLocals = 7) (hown : s.vm.findClass RX8 = some m.cls) (hlocks : meth.locks = false) (hts : ∀ w ∈ wsX8_digest, w.before ([.ref mo] : List Value).toArray s = true) (hR0 : va_P (dC, dI) vwCl [(mr, .inr (9, [.ref ll, .ref lt, .ref lp, .int 0, .int 0, .int 0, .int 0, .int 0, .int 0, .int 0, .int (-1), .int 0, .int 0, .int 0])), (ll, .inr (1, [.int 2, .ref ola, .int 2])), (lt, .inr (1, [.int 10, .ref ota, .int 10])), (lp, .inr (1, [.int 0, .ref ed, .int 0])), (ola, .inl (cOl, 10, .inr (.inr (.inr (.inr fol))))), (ota, .inl (cOt, 10, .inr (.inr (.inr (.inr fot)))))] s.heap) (hN : zN s) (hA : ∀ q : Nat, s.heap.size ≤ q → A q) (hAr : ∀ p ∈ ([(mr, .inr (9, [.ref ll, .ref lt, .ref lp, .int 0, .int 0, .int 0, .int 0, .int 0, .int 0, .int 0, .int (-1), .int 0, .int 0, .int 0])), (ll, .inr (1, [.int 2, .ref ola, .int 2])), (lt, .inr (1, [.int 10, .ref ota, .int 10])), (lp, .inr (1, [.int 0, .ref ed, .int 0])), (ola, .inl (cOl, 10, .inr (.inr (.inr (.inr fol))))), (ota, .inl (cOt, 10, .inr (.inr (.inr (.inr fot)))))] : va_W), ¬ A p.1) (hH : zH ed A s s.heap) (hAe : va_A [(mo, .inr (10, [.int x9, .ref mr, .int 1, .long s9])), (la0, .inl (cA0, 10, .inl fa0)), (la1, .inl (cA1, 10, .inl fa1)), (ta0, .inl (cB0, 5, .inl fb0)), (ta1, .inl (cB1, 5, .inl fb1)), (ta2, .inl (cB2, 5, .inl fb2)), (ta3, .inl (cB3, 5, .inl fb3)), (ta4, .inl (cB4, 5, .inl fb4)), (ta5, .inl (cB5, 5, .inl fb5)), (ta6, .inl (cB6, 5, .inl fb6)), (ta7, .inl (cB7, 5, .inl fb7)), (ta8, .inl (cB8, 5, .inl fb8)), (ta9, .inl (cB9, 5, .inl fb9))] s.heap.size = A) (hK : va_K (dC, dI) vwCl [(cOl, .object "java/lang/Object"), (cOt, .object "java/lang/Object"), (cA0, .int), (cA1, .int), (cB0, .int), (cB1, .int), (cB2, .int), (cB3, .int), (cB4, .int), (cB5, .int), (cB6, .int), (cB7, .int), (cB8, .int), (cB9, .int)] s) (hP : va_P (dC, dI) vwCl [(la0, .inl (cA0, 10, .inl fa0)), (la1, .inl (cA1, 10, .inl fa1)), (ta0, .inl (cB0, 5, .inl fb0)), (ta1, .inl (cB1, 5, .inl fb1)), (ta2, .inl (cB2, 5, .inl fb2)), (ta3, .inl (cB3, 5, .inl fb3)), (ta4, .inl (cB4, 5, .inl fb4)), (ta5, .inl (cB5, 5, .inl fb5)), (ta6, .inl (cB6, 5, .inl fb6)), (ta7, .inl (cB7, 5, .inl fb7)), (ta8, .inl (cB8, 5, .inl fb8)), (ta9, .inl (cB9, 5, .inl fb9)), (mo, .inr (10, [.int 0, .ref mr, .int 1, .long (-3095540102686843009)]))] H) (hD : va_D A [(la0, .inl (cA0, 10, .inl fa0)), (la1, .inl (cA1, 10, .inl fa1)), (ta0, .inl (cB0, 5, .inl fb0)), (ta1, .inl (cB1, 5, .inl fb1)), (ta2, .inl (cB2, 5, .inl fb2)), (ta3, .inl (cB3, 5, .inl fb3)), (ta4, .inl (cB4, 5, .inl fb4)), (ta5, .inl (cB5, 5, .inl fb5)), (ta6, .inl (cB6, 5, .inl fb6)), (ta7, .inl (cB7, 5, .inl fb7)), (ta8, .inl (cB8, 5, .inl fb8)), (ta9, .inl (cB9, 5, .inl fb9)), (mo, .inr (10, [.int 0, .ref mr, .int 1, .long (-3095540102686843009)]))]) (hS : va_S A s.heap H locs) (hl : lv_has ls 7 [(1, .int 2), (2, .int 6), (0, .ref mo)]) : W p l e (headSpec wsX8_digest ({ frames := 9, cells := 59, slots := 18922, locals := 211 } : Jvm.Room)).room s m (([.ref mo] : List Value).toArray) below meth c H locs 19 361 (MQ below (va_Ql (fun (r : Int64) (_ : Unit) => r = 1244744325466633148) (fun (_ : Unit) (t : State) => (18432 ≤ zc_S s.heap.size t.heap) ∧ (fa0 0 = 0 ∧ fa0 1 = 0 ∧ fa0 2 = 60 ∧ fa0 3 = 0 ∧ fa0 4 = 0 ∧ fa0 5 = 0 ∧ fa0 6 = 0 ∧ fa0 7 = 0 ∧ fa0 8 = 0 ∧ fa0 9 = 0 ∧ fa1 0 = 0 ∧ fa1 1 = 0 ∧ fa1 2 = 60 ∧ fa1 3 = 0 ∧ fa1 4 = 0 ∧ fa1 5 = 0 ∧ fa1 6 = 0 ∧ fa1 7 = 0 ∧ fa1 8 = 0 ∧ fa1 9 = 0 ∧ fb0 0 = (-1) ∧ fb0 1 = 0 ∧ fb0 2 = 0 ∧ fb0 3 = 0 ∧ fb0 4 = 0 ∧ fb1 0 = (-1) ∧ fb1 1 = 0 ∧ fb1 2 = 0 ∧ fb1 3 = 0 ∧ fb1 4 = 0 ∧ fb2 0 = (-1) ∧ fb2 1 = 0 ∧ fb2 2 = 0 ∧ fb2 3 = 0 ∧ fb2 4 = 0 ∧ fb3 0 = (-1) ∧ fb3 1 = 0 ∧ fb3 2 = 0 ∧ fb3 3 = 0 ∧ fb3 4 = 0 ∧ fb4 0 = (-1) ∧ fb4 1 = 0 ∧ fb4 2 = 0 ∧ fb4 3 = 0 ∧ fb4 4 = 0 ∧ fb5 0 = (-1) ∧ fb5 1 = 0 ∧ fb5 2 = 0 ∧ fb5 3 = 0 ∧ fb5 4 = 0 ∧ fb6 0 = (-1) ∧ fb6 1 = 0 ∧ fb6 2 = 0 ∧ fb6 3 = 0 ∧ fb6 4 = 0 ∧ fb7 0 = (-1) ∧ fb7 1 = 0 ∧ fb7 2 = 0 ∧ fb7 3 = 0 ∧ fb7 4 = 0 ∧ fb8 0 = (-1) ∧ fb8 1 = 0 ∧ fb8 2 = 0 ∧ fb8 3 = 0 ∧ fb8 4 = 0 ∧ fb9 0 = (-1) ∧ fb9 1 = 0 ∧ fb9 2 = 0 ∧ fb9 3 = 0 ∧ fb9 4 = 0) ∧ va_P (dC, dI) vwCl [(mo, .inr (10, [.int 0, .ref mr, .int 1, .long 1244744325466633148])), (la0, .inl (cA0, 10, .inl fa0)), (la1, .inl (cA1, 10, .inl fa1)), (ta0, .inl (cB0, 5, .inl fb0)), (ta1, .inl (cB1, 5, .inl fb1)), (ta2, .inl (cB2, 5, .inl fb2)), (ta3, .inl (cB3, 5, .inl fb3)), (ta4, .inl (cB4, 5, .inl fb4)), (ta5, .inl (cB5, 5, .inl fb5)), (ta6, .inl (cB6, 5, .inl fb6)), (ta7, .inl (cB7, 5, .inl fb7)), (ta8, .inl (cB8, 5, .inl fb8)), (ta9, .inl (cB9, 5, .inl fb9))] t.heap ∧ va_D A [(mo, .inr (10, [.int 0, .ref mr, .int 1, .long 1244744325466633148])), (la0, .inl (cA0, 10, .inl fa0)), (la1, .inl (cA1, 10, .inl fa1)), (ta0, .inl (cB0, 5, .inl fb0)), (ta1, .inl (cB1, 5, .inl fb1)), (ta2, .inl (cB2, 5, .inl fb2)), (ta3, .inl (cB3, 5, .inl fb3)), (ta4, .inl (cB4, 5, .inl fb4)), (ta5, .inl (cB5, 5, .inl fb5)), (ta6, .inl (cB6, 5, .inl fb6)), (ta7, .inl (cB7, 5, .inl fb7)), (ta8, .inl (cB8, 5, .inl fb8)), (ta9, .inl (cB9, 5, .inl fb9))] ∧ va_K (dC, dI) vwCl [(cA0, .int), (cA1, .int), (cB0, .int), (cB1, .int), (cB2, .int), (cB3, .int), (cB4, .int), (cB5, .int), (cB6, .int), (cB7, .int), (cB8, .int), (cB9, .int)] t) A) (([.ref mo] : List Value).toArray) s 59 18922 A) (F0 m 83 ls []) := by
  refine lv_iload_n hx hb dX8_digest_83 rfl (lv_at hl 0 rfl) ?_
  refine lv_aload_n hx hb dX8_digest_84 rfl (lv_at hl 2 rfl) ?_
  refine va_get (D := (dC, dI)) (ci := 10) (v := .ref mr) (C := RX8) (T := TX8) (N := 4) hx hb hts zi_X8_digest_X8 hown hK hP 12 rfl rfl 1 (by decide) (hts (.fieldLink RX8 10 "LockRoomsModel" "room" "LLockRoomsModel$Room;") (by decide +kernel)) (fun _ h9 => h9) rfl dX8_digest_85 ?_
  refine va_getN (D := (dC, dI)) (ci := 9) (v := .ref lt) (C := RX7) (T := TX7) (N := 14) hx hb hts zi_X8_digest_X7 hown hK (zo_R hR0 hS hAr) 0 rfl rfl 1 (by decide) (va_Nw.use rfl (hN.1 ("LockRoomsModel", 38, "LockRoomsModel$Room", "things", "Ljava/util/ArrayList;", "LockRoomsModel") (List.mem_of_getElem? (i := 2) rfl))) (fun _ h9 => h9) rfl dX8_digest_88 ?_
  have hPr := ((zo_R hR0 hS hAr)).sub (ws' := [(lt, .inr (1, [.int 10, .ref ota, .int 10]))]) [2] rfl
  have hPc := hP.sub (ws' := []) [] rfl
  have hDc := hD.sub (ws' := []) [] (by decide) rfl
  have hKc := hK.sub (tys' := []) [] rfl
  have hFc := va_free (wc := []) hD hS hA [] rfl
  refine va_calli (va_runV (As := []) (rest := [.int 2]) ⟨hx, hb, hml, hown, hts⟩ (cz_Qsize l dC dI ed H.size lt 10 ota 10) (cwV 0 hts gX8_digest_Jx4a65c_size_8abf5 rfl rfl rfl (by decide +kernel) ⟨Nat.le_of_ble_eq_true rfl, Nat.le_of_ble_eq_true rfl⟩) ⟨zb_blind, va_recv hK (zo_R hR0 hS hAr) (ci := 1) (q0 := 2) rfl rfl, fun U hU hW => ⟨rfl, zb_mk hU hW hPr hPc hKc hDc hN hH hS hFc zx_e⟩⟩ rfl rfl hl.1 rfl (lv_room (Nat.le_of_ble_eq_true rfl)) dX8_digest_91 ⟨Nat.le_of_ble_eq_true rfl, Nat.le_of_ble_eq_true rfl⟩) hS (fun q _ h => hFc q h) hFc (fun r269 u t H268 locs ht hvm hw hB hz1 hk1 hS => ?_)
  obtain rfl : r269 = 10 := hw.trans (by decide +kernel)
  have hP := zo_K hP hk1
  refine lv_icmp_ge (tgt := 127) hx hb dX8_digest_94 (by decide) (fun h => absurd h (by decide)) (fun _ => ?_)
  refine lv_iconst (v := 0) hx hb dX8_digest_97 (by decide) ?_
  refine lv_istore_n (lv' := [(2, .int 0), (1, .int 2), (0, .ref mo)]) hx hb dX8_digest_98 rfl hl (by decide) rfl (fun ls hl => ?_)
  refine lv_iload_n hx hb dX8_digest_99 rfl (lv_at hl 0 rfl) ?_
  refine lv_bipush (v := 6) hx hb dX8_digest_100 (by decide) ?_
  refine lv_icmp_ge (tgt := 121) hx hb dX8_digest_102 (by decide) (fun h => absurd h (by decide)) (fun _ => ?_)
  refine lv_aload_n hx hb dX8_digest_105 rfl (lv_at hl 2 rfl) ?_
  refine lv_aload_n hx hb dX8_digest_106 rfl (lv_at hl 2 rfl) ?_
  refine lv_iload_n hx hb dX8_digest_107 rfl (lv_at hl 1 rfl) ?_
  refine lv_iload_n hx hb dX8_digest_108 rfl (lv_at hl 0 rfl) ?_
  have hPr := (show va_P (dC, dI) vwCl [(mo, .inr (10, [.int 0, .ref mr, .int 1, .long (-3095540102686843009)])), (mr, .inr (9, [.ref ll, .ref lt, .ref lp, .int 0, .int 0, .int 0, .int 0, .int 0, .int 0, .int 0, .int (-1), .int 0, .int 0, .int 0])), (lt, .inr (1, [.int 10, .ref ota, .int 10])), (ota, .inl (cOt, 10, .inr (.inr (.inr (.inr fot))))), (ta2, .inl (cB2, 5, .inl fb2))] H268 from (zo_cons ((hP) 12 _ rfl) (zo_cons (((zo_R hR0 hS hAr)) 0 _ rfl) (zo_cons (((zo_R hR0 hS hAr)) 2 _ rfl) (zo_cons (((zo_R hR0 hS hAr)) 5 _ rfl) (zo_cons ((hP) 4 _ rfl) (zo_nil : va_P (dC, dI) vwCl [] H268)))))))
  have hPc := hP.sub (ws' := []) [] rfl
  have hDc := hD.sub (ws' := []) [] (by decide) rfl
  have hKc := hK.sub (tys' := [(cOt, .object "java/lang/Object"), (cB2, .int)]) [1, 6] rfl
  have hFc := va_free (wc := []) hD hS hA [] rfl
  refine va_calli (va_runV (As := [.int 2, .int 0]) (rest := [.ref mo]) ⟨hx, hb, hml, hown, hts⟩ (cz_QofThingNow_2_0 l dC dI ed H268.size mo mr 0 (-3095540102686843009) ll lt lp ota cOt fot ta2 cB2 fb2 hot2 hb2_0) (cwV 2 hts gX8_digest_X8_ofThingNow rfl rfl rfl (by decide +kernel) ⟨Nat.le_of_ble_eq_true rfl, Nat.le_of_ble_eq_true rfl⟩) ⟨zb_blind, va_recv hK hP (ci := 10) (q0 := 12) rfl rfl, fun U hU hW => ⟨rfl, zb_mk hU hW hPr hPc hKc hDc hN hH hS hFc zx_e⟩⟩ rfl rfl hl.1 rfl (lv_room (Nat.le_of_ble_eq_true rfl)) dX8_digest_109 ⟨Nat.le_of_ble_eq_true rfl, Nat.le_of_ble_eq_true rfl⟩) hS (fun q _ h => hFc q h) hFc (fun r271 u t H270 locs ht hvm hw hB hz1 hk1 hS => ?_)
  obtain rfl : r271 = (-1) := hw
  have hP := zo_K hP hk1
  have hPr := (zo_nil : va_P (dC, dI) vwCl [] H270)
  have hPc := hP.sub (ws' := [(mo, .inr (10, [.int 0, .ref mr, .int 1, .long (-3095540102686843009)]))]) [12] rfl
  have hDc := hD.sub (ws' := [(mo, .inr (10, [.int 0, .ref mr, .int 1, .long (-3095540102686843009)]))]) [12] (by decide) rfl
  have hKc := hK.sub (tys' := []) [] rfl
  have hFc := va_free (wc := [(mo, .inr (10, [.int 0, .ref mr, .int 1, .long (-3095540102686843009)]))]) hD hS hA [12] rfl
  refine va_callv (va_runV (As := [.int (-1)]) (rest := []) ⟨hx, hb, hml, hown, hts⟩ (cz_X8_add l dC dI ed H270.size mo mr 0 (-3095540102686843009) (-1)) (cwV 1 hts gX8_digest_X8_add rfl rfl rfl (by decide +kernel) ⟨Nat.le_of_ble_eq_true rfl, Nat.le_of_ble_eq_true rfl⟩) ⟨zb_blind, va_recv hK hP (ci := 10) (q0 := 12) rfl rfl, fun U hU hW => ⟨rfl, zb_mk hU hW hPr hPc hKc hDc hN hH hS hFc zx_nil⟩⟩ rfl rfl hl.1 rfl (lv_room (Nat.le_of_ble_eq_true rfl)) dX8_digest_112 ⟨Nat.le_of_ble_eq_true rfl, Nat.le_of_ble_eq_true rfl⟩) hS (fun q _ h => hFc q h) hFc (fun u t H272 locs ht hvm hw hB hz1 hk1 hS => ?_)
  obtain ⟨s1_274, hf274_0, hP1, hD1, hK1⟩ := hB
  obtain rfl : s1_274 = (-3728022814744375200) := hf274_0.trans (by first | rfl | decide +kernel)
  rw [ht] at hP1
  obtain ⟨hP, hD⟩ := va_join (wr := [(la0, .inl (cA0, 10, .inl fa0)), (la1, .inl (cA1, 10, .inl fa1)), (ta0, .inl (cB0, 5, .inl fb0)), (ta1, .inl (cB1, 5, .inl fb1)), (ta2, .inl (cB2, 5, .inl fb2)), (ta3, .inl (cB3, 5, .inl fb3)), (ta4, .inl (cB4, 5, .inl fb4)), (ta5, .inl (cB5, 5, .inl fb5)), (ta6, .inl (cB6, 5, .inl fb6)), (ta7, .inl (cB7, 5, .inl fb7)), (ta8, .inl (cB8, 5, .inl fb8)), (ta9, .inl (cB9, 5, .inl fb9))]) (w1 := [(mo, .inr (10, [.int 0, .ref mr, .int 1, .long (-3728022814744375200)]))]) hP hD [12] [0, 1, 2, 3, 4, 5, 6, 7, 8, 9, 10, 11] rfl rfl (by decide) (by decide) hk1 hFc hP1 hD1
  have hP : va_P (dC, dI) vwCl [(la0, .inl (cA0, 10, .inl fa0)), (la1, .inl (cA1, 10, .inl fa1)), (ta0, .inl (cB0, 5, .inl fb0)), (ta1, .inl (cB1, 5, .inl fb1)), (ta2, .inl (cB2, 5, .inl fb2)), (ta3, .inl (cB3, 5, .inl fb3)), (ta4, .inl (cB4, 5, .inl fb4)), (ta5, .inl (cB5, 5, .inl fb5)), (ta6, .inl (cB6, 5, .inl fb6)), (ta7, .inl (cB7, 5, .inl fb7)), (ta8, .inl (cB8, 5, .inl fb8)), (ta9, .inl (cB9, 5, .inl fb9)), (mo, .inr (10, [.int 0, .ref mr, .int 1, .long (-3728022814744375200)]))] H272 := hP
  have hD : va_D A [(la0, .inl (cA0, 10, .inl fa0)), (la1, .inl (cA1, 10, .inl fa1)), (ta0, .inl (cB0, 5, .inl fb0)), (ta1, .inl (cB1, 5, .inl fb1)), (ta2, .inl (cB2, 5, .inl fb2)), (ta3, .inl (cB3, 5, .inl fb3)), (ta4, .inl (cB4, 5, .inl fb4)), (ta5, .inl (cB5, 5, .inl fb5)), (ta6, .inl (cB6, 5, .inl fb6)), (ta7, .inl (cB7, 5, .inl fb7)), (ta8, .inl (cB8, 5, .inl fb8)), (ta9, .inl (cB9, 5, .inl fb9)), (mo, .inr (10, [.int 0, .ref mr, .int 1, .long (-3728022814744375200)]))] := hD
  refine lv_iinc (v := 1) (lv' := [(2, .int 1), (1, .int 2), (0, .ref mo)]) hx hb dX8_digest_115 hl (k := 0) rfl (by decide) (by decide) rfl (fun ls hl => ?_)
  refine lv_goto (tgt := 99) hx hb dX8_digest_118 (by decide) ?_
  refine lv_iload_n hx hb dX8_digest_99 rfl (lv_at hl 0 rfl) ?_
  refine lv_bipush (v := 6) hx hb dX8_digest_100 (by decide) ?_
  refine lv_icmp_ge (tgt := 121) hx hb dX8_digest_102 (by decide) (fun h => absurd h (by decide)) (fun _ => ?_)
  refine lv_aload_n hx hb dX8_digest_105 rfl (lv_at hl 2 rfl) ?_
  refine lv_aload_n hx hb dX8_digest_106 rfl (lv_at hl 2 rfl) ?_
  refine lv_iload_n hx hb dX8_digest_107 rfl (lv_at hl 1 rfl) ?_
  refine lv_iload_n hx hb dX8_digest_108 rfl (lv_at hl 0 rfl) ?_
  have hPr := (show va_P (dC, dI) vwCl [(mo, .inr (10, [.int 0, .ref mr, .int 1, .long (-3728022814744375200)])), (mr, .inr (9, [.ref ll, .ref lt, .ref lp, .int 0, .int 0, .int 0, .int 0, .int 0, .int 0, .int 0, .int (-1), .int 0, .int 0, .int 0])), (lt, .inr (1, [.int 10, .ref ota, .int 10])), (ota, .inl (cOt, 10, .inr (.inr (.inr (.inr fot))))), (ta2, .inl (cB2, 5, .inl fb2))] H272 from (zo_cons ((hP) 12 _ rfl) (zo_cons (((zo_R hR0 hS hAr)) 0 _ rfl) (zo_cons (((zo_R hR0 hS hAr)) 2 _ rfl) (zo_cons (((zo_R hR0 hS hAr)) 5 _ rfl) (zo_cons ((hP) 4 _ rfl) (zo_nil : va_P (dC, dI) vwCl [] H272)))))))
  have hPc := hP.sub (ws' := []) [] rfl
  have hDc := hD.sub (ws' := []) [] (by decide) rfl
  have hKc := hK.sub (tys' := [(cOt, .object "java/lang/Object"), (cB2, .int)]) [1, 6] rfl
  have hFc := va_free (wc := []) hD hS hA [] rfl
  refine va_calli (va_runV (As := [.int 2, .int 1]) (rest := [.ref mo]) ⟨hx, hb, hml, hown, hts⟩ (cz_QofThingNow_2_1 l dC dI ed H272.size mo mr 0 (-3728022814744375200) ll lt lp ota cOt fot ta2 cB2 fb2 hot2 hb2_1) (cwV 2 hts gX8_digest_X8_ofThingNow rfl rfl rfl (by decide +kernel) ⟨Nat.le_of_ble_eq_true rfl, Nat.le_of_ble_eq_true rfl⟩) ⟨zb_blind, va_recv hK hP (ci := 10) (q0 := 12) rfl rfl, fun U hU hW => ⟨rfl, zb_mk hU hW hPr hPc hKc hDc hN hH hS hFc zx_e⟩⟩ rfl rfl hl.1 rfl (lv_room (Nat.le_of_ble_eq_true rfl)) dX8_digest_109 ⟨Nat.le_of_ble_eq_true rfl, Nat.le_of_ble_eq_true rfl⟩) hS (fun q _ h => hFc q h) hFc (fun r276 u t H275 locs ht hvm hw hB hz1 hk1 hS => ?_)
  obtain rfl : r276 = 0 := hw
  have hP := zo_K hP hk1
  have hPr := (zo_nil : va_P (dC, dI) vwCl [] H275)
  have hPc := hP.sub (ws' := [(mo, .inr (10, [.int 0, .ref mr, .int 1, .long (-3728022814744375200)]))]) [12] rfl
  have hDc := hD.sub (ws' := [(mo, .inr (10, [.int 0, .ref mr, .int 1, .long (-3728022814744375200)]))]) [12] (by decide) rfl
  have hKc := hK.sub (tys' := []) [] rfl
  have hFc := va_free (wc := [(mo, .inr (10, [.int 0, .ref mr, .int 1, .long (-3728022814744375200)]))]) hD hS hA [12] rfl
  refine va_callv (va_runV (As := [.int 0]) (rest := []) ⟨hx, hb, hml, hown, hts⟩ (cz_X8_add l dC dI ed H275.size mo mr 0 (-3728022814744375200) 0) (cwV 1 hts gX8_digest_X8_add rfl rfl rfl (by decide +kernel) ⟨Nat.le_of_ble_eq_true rfl, Nat.le_of_ble_eq_true rfl⟩) ⟨zb_blind, va_recv hK hP (ci := 10) (q0 := 12) rfl rfl, fun U hU hW => ⟨rfl, zb_mk hU hW hPr hPc hKc hDc hN hH hS hFc zx_nil⟩⟩ rfl rfl hl.1 rfl (lv_room (Nat.le_of_ble_eq_true rfl)) dX8_digest_112 ⟨Nat.le_of_ble_eq_true rfl, Nat.le_of_ble_eq_true rfl⟩) hS (fun q _ h => hFc q h) hFc (fun u t H277 locs ht hvm hw hB hz1 hk1 hS => ?_)
  obtain ⟨s1_279, hf279_0, hP1, hD1, hK1⟩ := hB
  obtain rfl : s1_279 = (-4888242814818321504) := hf279_0.trans (by first | rfl | decide +kernel)
  rw [ht] at hP1
  obtain ⟨hP, hD⟩ := va_join (wr := [(la0, .inl (cA0, 10, .inl fa0)), (la1, .inl (cA1, 10, .inl fa1)), (ta0, .inl (cB0, 5, .inl fb0)), (ta1, .inl (cB1, 5, .inl fb1)), (ta2, .inl (cB2, 5, .inl fb2)), (ta3, .inl (cB3, 5, .inl fb3)), (ta4, .inl (cB4, 5, .inl fb4)), (ta5, .inl (cB5, 5, .inl fb5)), (ta6, .inl (cB6, 5, .inl fb6)), (ta7, .inl (cB7, 5, .inl fb7)), (ta8, .inl (cB8, 5, .inl fb8)), (ta9, .inl (cB9, 5, .inl fb9))]) (w1 := [(mo, .inr (10, [.int 0, .ref mr, .int 1, .long (-4888242814818321504)]))]) hP hD [12] [0, 1, 2, 3, 4, 5, 6, 7, 8, 9, 10, 11] rfl rfl (by decide) (by decide) hk1 hFc hP1 hD1
  have hP : va_P (dC, dI) vwCl [(la0, .inl (cA0, 10, .inl fa0)), (la1, .inl (cA1, 10, .inl fa1)), (ta0, .inl (cB0, 5, .inl fb0)), (ta1, .inl (cB1, 5, .inl fb1)), (ta2, .inl (cB2, 5, .inl fb2)), (ta3, .inl (cB3, 5, .inl fb3)), (ta4, .inl (cB4, 5, .inl fb4)), (ta5, .inl (cB5, 5, .inl fb5)), (ta6, .inl (cB6, 5, .inl fb6)), (ta7, .inl (cB7, 5, .inl fb7)), (ta8, .inl (cB8, 5, .inl fb8)), (ta9, .inl (cB9, 5, .inl fb9)), (mo, .inr (10, [.int 0, .ref mr, .int 1, .long (-4888242814818321504)]))] H277 := hP
  have hD : va_D A [(la0, .inl (cA0, 10, .inl fa0)), (la1, .inl (cA1, 10, .inl fa1)), (ta0, .inl (cB0, 5, .inl fb0)), (ta1, .inl (cB1, 5, .inl fb1)), (ta2, .inl (cB2, 5, .inl fb2)), (ta3, .inl (cB3, 5, .inl fb3)), (ta4, .inl (cB4, 5, .inl fb4)), (ta5, .inl (cB5, 5, .inl fb5)), (ta6, .inl (cB6, 5, .inl fb6)), (ta7, .inl (cB7, 5, .inl fb7)), (ta8, .inl (cB8, 5, .inl fb8)), (ta9, .inl (cB9, 5, .inl fb9)), (mo, .inr (10, [.int 0, .ref mr, .int 1, .long (-4888242814818321504)]))] := hD
  refine lv_iinc (v := 2) (lv' := [(2, .int 2), (1, .int 2), (0, .ref mo)]) hx hb dX8_digest_115 hl (k := 0) rfl (by decide) (by decide) rfl (fun ls hl => ?_)
  refine lv_goto (tgt := 99) hx hb dX8_digest_118 (by decide) ?_
  refine lv_iload_n hx hb dX8_digest_99 rfl (lv_at hl 0 rfl) ?_
  refine lv_bipush (v := 6) hx hb dX8_digest_100 (by decide) ?_
  refine lv_icmp_ge (tgt := 121) hx hb dX8_digest_102 (by decide) (fun h => absurd h (by decide)) (fun _ => ?_)
  refine lv_aload_n hx hb dX8_digest_105 rfl (lv_at hl 2 rfl) ?_
  refine lv_aload_n hx hb dX8_digest_106 rfl (lv_at hl 2 rfl) ?_
  refine lv_iload_n hx hb dX8_digest_107 rfl (lv_at hl 1 rfl) ?_
  refine lv_iload_n hx hb dX8_digest_108 rfl (lv_at hl 0 rfl) ?_
  have hPr := (show va_P (dC, dI) vwCl [(mo, .inr (10, [.int 0, .ref mr, .int 1, .long (-4888242814818321504)])), (mr, .inr (9, [.ref ll, .ref lt, .ref lp, .int 0, .int 0, .int 0, .int 0, .int 0, .int 0, .int 0, .int (-1), .int 0, .int 0, .int 0])), (lt, .inr (1, [.int 10, .ref ota, .int 10])), (ota, .inl (cOt, 10, .inr (.inr (.inr (.inr fot))))), (ta2, .inl (cB2, 5, .inl fb2))] H277 from (zo_cons ((hP) 12 _ rfl) (zo_cons (((zo_R hR0 hS hAr)) 0 _ rfl) (zo_cons (((zo_R hR0 hS hAr)) 2 _ rfl) (zo_cons (((zo_R hR0 hS hAr)) 5 _ rfl) (zo_cons ((hP) 4 _ rfl) (zo_nil : va_P (dC, dI) vwCl [] H277)))))))
  have hPc := hP.sub (ws' := []) [] rfl
  have hDc := hD.sub (ws' := []) [] (by decide) rfl
  have hKc := hK.sub (tys' := [(cOt, .object "java/lang/Object"), (cB2, .int)]) [1, 6] rfl
  have hFc := va_free (wc := []) hD hS hA [] rfl
  refine va_calli (va_runV (As := [.int 2, .int 2]) (rest := [.ref mo]) ⟨hx, hb, hml, hown, hts⟩ (cz_QofThingNow_2_2 l dC dI ed H277.size mo mr 0 (-4888242814818321504) ll lt lp ota cOt fot ta2 cB2 fb2 hot2 hb2_2) (cwV 2 hts gX8_digest_X8_ofThingNow rfl rfl rfl (by decide +kernel) ⟨Nat.le_of_ble_eq_true rfl, Nat.le_of_ble_eq_true rfl⟩) ⟨zb_blind, va_recv hK hP (ci := 10) (q0 := 12) rfl rfl, fun U hU hW => ⟨rfl, zb_mk hU hW hPr hPc hKc hDc hN hH hS hFc zx_e⟩⟩ rfl rfl hl.1 rfl (lv_room (Nat.le_of_ble_eq_true rfl)) dX8_digest_109 ⟨Nat.le_of_ble_eq_true rfl, Nat.le_of_ble_eq_true rfl⟩) hS (fun q _ h => hFc q h) hFc (fun r281 u t H280 locs ht hvm hw hB hz1 hk1 hS => ?_)
  obtain rfl : r281 = 0 := hw
  have hP := zo_K hP hk1
  have hPr := (zo_nil : va_P (dC, dI) vwCl [] H280)
  have hPc := hP.sub (ws' := [(mo, .inr (10, [.int 0, .ref mr, .int 1, .long (-4888242814818321504)]))]) [12] rfl
  have hDc := hD.sub (ws' := [(mo, .inr (10, [.int 0, .ref mr, .int 1, .long (-4888242814818321504)]))]) [12] (by decide) rfl
  have hKc := hK.sub (tys' := []) [] rfl
  have hFc := va_free (wc := [(mo, .inr (10, [.int 0, .ref mr, .int 1, .long (-4888242814818321504)]))]) hD hS hA [12] rfl
  refine va_callv (va_runV (As := [.int 0]) (rest := []) ⟨hx, hb, hml, hown, hts⟩ (cz_X8_add l dC dI ed H280.size mo mr 0 (-4888242814818321504) 0) (cwV 1 hts gX8_digest_X8_add rfl rfl rfl (by decide +kernel) ⟨Nat.le_of_ble_eq_true rfl, Nat.le_of_ble_eq_true rfl⟩) ⟨zb_blind, va_recv hK hP (ci := 10) (q0 := 12) rfl rfl, fun U hU hW => ⟨rfl, zb_mk hU hW hPr hPc hKc hDc hN hH hS hFc zx_nil⟩⟩ rfl rfl hl.1 rfl (lv_room (Nat.le_of_ble_eq_true rfl)) dX8_digest_112 ⟨Nat.le_of_ble_eq_true rfl, Nat.le_of_ble_eq_true rfl⟩) hS (fun q _ h => hFc q h) hFc (fun u t H282 locs ht hvm hw hB hz1 hk1 hS => ?_)
  obtain ⟨s1_284, hf284_0, hP1, hD1, hK1⟩ := hB
  obtain rfl : s1_284 = (-3961574669691553696) := hf284_0.trans (by first | rfl | decide +kernel)
  rw [ht] at hP1
  obtain ⟨hP, hD⟩ := va_join (wr := [(la0, .inl (cA0, 10, .inl fa0)), (la1, .inl (cA1, 10, .inl fa1)), (ta0, .inl (cB0, 5, .inl fb0)), (ta1, .inl (cB1, 5, .inl fb1)), (ta2, .inl (cB2, 5, .inl fb2)), (ta3, .inl (cB3, 5, .inl fb3)), (ta4, .inl (cB4, 5, .inl fb4)), (ta5, .inl (cB5, 5, .inl fb5)), (ta6, .inl (cB6, 5, .inl fb6)), (ta7, .inl (cB7, 5, .inl fb7)), (ta8, .inl (cB8, 5, .inl fb8)), (ta9, .inl (cB9, 5, .inl fb9))]) (w1 := [(mo, .inr (10, [.int 0, .ref mr, .int 1, .long (-3961574669691553696)]))]) hP hD [12] [0, 1, 2, 3, 4, 5, 6, 7, 8, 9, 10, 11] rfl rfl (by decide) (by decide) hk1 hFc hP1 hD1
  have hP : va_P (dC, dI) vwCl [(la0, .inl (cA0, 10, .inl fa0)), (la1, .inl (cA1, 10, .inl fa1)), (ta0, .inl (cB0, 5, .inl fb0)), (ta1, .inl (cB1, 5, .inl fb1)), (ta2, .inl (cB2, 5, .inl fb2)), (ta3, .inl (cB3, 5, .inl fb3)), (ta4, .inl (cB4, 5, .inl fb4)), (ta5, .inl (cB5, 5, .inl fb5)), (ta6, .inl (cB6, 5, .inl fb6)), (ta7, .inl (cB7, 5, .inl fb7)), (ta8, .inl (cB8, 5, .inl fb8)), (ta9, .inl (cB9, 5, .inl fb9)), (mo, .inr (10, [.int 0, .ref mr, .int 1, .long (-3961574669691553696)]))] H282 := hP
  have hD : va_D A [(la0, .inl (cA0, 10, .inl fa0)), (la1, .inl (cA1, 10, .inl fa1)), (ta0, .inl (cB0, 5, .inl fb0)), (ta1, .inl (cB1, 5, .inl fb1)), (ta2, .inl (cB2, 5, .inl fb2)), (ta3, .inl (cB3, 5, .inl fb3)), (ta4, .inl (cB4, 5, .inl fb4)), (ta5, .inl (cB5, 5, .inl fb5)), (ta6, .inl (cB6, 5, .inl fb6)), (ta7, .inl (cB7, 5, .inl fb7)), (ta8, .inl (cB8, 5, .inl fb8)), (ta9, .inl (cB9, 5, .inl fb9)), (mo, .inr (10, [.int 0, .ref mr, .int 1, .long (-3961574669691553696)]))] := hD
  refine lv_iinc (v := 3) (lv' := [(2, .int 3), (1, .int 2), (0, .ref mo)]) hx hb dX8_digest_115 hl (k := 0) rfl (by decide) (by decide) rfl (fun ls hl => ?_)
  refine lv_goto (tgt := 99) hx hb dX8_digest_118 (by decide) ?_
  refine lv_iload_n hx hb dX8_digest_99 rfl (lv_at hl 0 rfl) ?_
  refine lv_bipush (v := 6) hx hb dX8_digest_100 (by decide) ?_
  refine lv_icmp_ge (tgt := 121) hx hb dX8_digest_102 (by decide) (fun h => absurd h (by decide)) (fun _ => ?_)
  refine lv_aload_n hx hb dX8_digest_105 rfl (lv_at hl 2 rfl) ?_
  refine lv_aload_n hx hb dX8_digest_106 rfl (lv_at hl 2 rfl) ?_
  refine lv_iload_n hx hb dX8_digest_107 rfl (lv_at hl 1 rfl) ?_
  refine lv_iload_n hx hb dX8_digest_108 rfl (lv_at hl 0 rfl) ?_
  have hPr := (show va_P (dC, dI) vwCl [(mo, .inr (10, [.int 0, .ref mr, .int 1, .long (-3961574669691553696)])), (mr, .inr (9, [.ref ll, .ref lt, .ref lp, .int 0, .int 0, .int 0, .int 0, .int 0, .int 0, .int 0, .int (-1), .int 0, .int 0, .int 0])), (lt, .inr (1, [.int 10, .ref ota, .int 10])), (ota, .inl (cOt, 10, .inr (.inr (.inr (.inr fot))))), (ta2, .inl (cB2, 5, .inl fb2))] H282 from (zo_cons ((hP) 12 _ rfl) (zo_cons (((zo_R hR0 hS hAr)) 0 _ rfl) (zo_cons (((zo_R hR0 hS hAr)) 2 _ rfl) (zo_cons (((zo_R hR0 hS hAr)) 5 _ rfl) (zo_cons ((hP) 4 _ rfl) (zo_nil : va_P (dC, dI) vwCl [] H282)))))))
  have hPc := hP.sub (ws' := []) [] rfl
  have hDc := hD.sub (ws' := []) [] (by decide) rfl
  have hKc := hK.sub (tys' := [(cOt, .object "java/lang/Object"), (cB2, .int)]) [1, 6] rfl
  have hFc := va_free (wc := []) hD hS hA [] rfl
  refine va_calli (va_runV (As := [.int 2, .int 3]) (rest := [.ref mo]) ⟨hx, hb, hml, hown, hts⟩ (cz_QofThingNow_2_3 l dC dI ed H282.size mo mr 0 (-3961574669691553696) ll lt lp ota cOt fot ta2 cB2 fb2 hot2 hb2_3) (cwV 2 hts gX8_digest_X8_ofThingNow rfl rfl rfl (by decide +kernel) ⟨Nat.le_of_ble_eq_true rfl, Nat.le_of_ble_eq_true rfl⟩) ⟨zb_blind, va_recv hK hP (ci := 10) (q0 := 12) rfl rfl, fun U hU hW => ⟨rfl, zb_mk hU hW hPr hPc hKc hDc hN hH hS hFc zx_e⟩⟩ rfl rfl hl.1 rfl (lv_room (Nat.le_of_ble_eq_true rfl)) dX8_digest_109 ⟨Nat.le_of_ble_eq_true rfl, Nat.le_of_ble_eq_true rfl⟩) hS (fun q _ h => hFc q h) hFc (fun r286 u t H285 locs ht hvm hw hB hz1 hk1 hS => ?_)
  obtain rfl : r286 = 0 := hw
  have hP := zo_K hP hk1
  have hPr := (zo_nil : va_P (dC, dI) vwCl [] H285)
  have hPc := hP.sub (ws' := [(mo, .inr (10, [.int 0, .ref mr, .int 1, .long (-3961574669691553696)]))]) [12] rfl
  have hDc := hD.sub (ws' := [(mo, .inr (10, [.int 0, .ref mr, .int 1, .long (-3961574669691553696)]))]) [12] (by decide) rfl
  have hKc := hK.sub (tys' := []) [] rfl
  have hFc := va_free (wc := [(mo, .inr (10, [.int 0, .ref mr, .int 1, .long (-3961574669691553696)]))]) hD hS hA [12] rfl
  refine va_callv (va_runV (As := [.int 0]) (rest := []) ⟨hx, hb, hml, hown, hts⟩ (cz_X8_add l dC dI ed H285.size mo mr 0 (-3961574669691553696) 0) (cwV 1 hts gX8_digest_X8_add rfl rfl rfl (by decide +kernel) ⟨Nat.le_of_ble_eq_true rfl, Nat.le_of_ble_eq_true rfl⟩) ⟨zb_blind, va_recv hK hP (ci := 10) (q0 := 12) rfl rfl, fun U hU hW => ⟨rfl, zb_mk hU hW hPr hPc hKc hDc hN hH hS hFc zx_nil⟩⟩ rfl rfl hl.1 rfl (lv_room (Nat.le_of_ble_eq_true rfl)) dX8_digest_112 ⟨Nat.le_of_ble_eq_true rfl, Nat.le_of_ble_eq_true rfl⟩) hS (fun q _ h => hFc q h) hFc (fun u t H287 locs ht hvm hw hB hz1 hk1 hS => ?_)
  obtain ⟨s1_289, hf289_0, hP1, hD1, hK1⟩ := hB
  obtain rfl : s1_289 = 6318393755528696736 := hf289_0.trans (by first | rfl | decide +kernel)
  rw [ht] at hP1
  obtain ⟨hP, hD⟩ := va_join (wr := [(la0, .inl (cA0, 10, .inl fa0)), (la1, .inl (cA1, 10, .inl fa1)), (ta0, .inl (cB0, 5, .inl fb0)), (ta1, .inl (cB1, 5, .inl fb1)), (ta2, .inl (cB2, 5, .inl fb2)), (ta3, .inl (cB3, 5, .inl fb3)), (ta4, .inl (cB4, 5, .inl fb4)), (ta5, .inl (cB5, 5, .inl fb5)), (ta6, .inl (cB6, 5, .inl fb6)), (ta7, .inl (cB7, 5, .inl fb7)), (ta8, .inl (cB8, 5, .inl fb8)), (ta9, .inl (cB9, 5, .inl fb9))]) (w1 := [(mo, .inr (10, [.int 0, .ref mr, .int 1, .long 6318393755528696736]))]) hP hD [12] [0, 1, 2, 3, 4, 5, 6, 7, 8, 9, 10, 11] rfl rfl (by decide) (by decide) hk1 hFc hP1 hD1
  have hP : va_P (dC, dI) vwCl [(la0, .inl (cA0, 10, .inl fa0)), (la1, .inl (cA1, 10, .inl fa1)), (ta0, .inl (cB0, 5, .inl fb0)), (ta1, .inl (cB1, 5, .inl fb1)), (ta2, .inl (cB2, 5, .inl fb2)), (ta3, .inl (cB3, 5, .inl fb3)), (ta4, .inl (cB4, 5, .inl fb4)), (ta5, .inl (cB5, 5, .inl fb5)), (ta6, .inl (cB6, 5, .inl fb6)), (ta7, .inl (cB7, 5, .inl fb7)), (ta8, .inl (cB8, 5, .inl fb8)), (ta9, .inl (cB9, 5, .inl fb9)), (mo, .inr (10, [.int 0, .ref mr, .int 1, .long 6318393755528696736]))] H287 := hP
  have hD : va_D A [(la0, .inl (cA0, 10, .inl fa0)), (la1, .inl (cA1, 10, .inl fa1)), (ta0, .inl (cB0, 5, .inl fb0)), (ta1, .inl (cB1, 5, .inl fb1)), (ta2, .inl (cB2, 5, .inl fb2)), (ta3, .inl (cB3, 5, .inl fb3)), (ta4, .inl (cB4, 5, .inl fb4)), (ta5, .inl (cB5, 5, .inl fb5)), (ta6, .inl (cB6, 5, .inl fb6)), (ta7, .inl (cB7, 5, .inl fb7)), (ta8, .inl (cB8, 5, .inl fb8)), (ta9, .inl (cB9, 5, .inl fb9)), (mo, .inr (10, [.int 0, .ref mr, .int 1, .long 6318393755528696736]))] := hD
  refine lv_iinc (v := 4) (lv' := [(2, .int 4), (1, .int 2), (0, .ref mo)]) hx hb dX8_digest_115 hl (k := 0) rfl (by decide) (by decide) rfl (fun ls hl => ?_)
  refine lv_goto (tgt := 99) hx hb dX8_digest_118 (by decide) ?_
  refine lv_iload_n hx hb dX8_digest_99 rfl (lv_at hl 0 rfl) ?_
  refine lv_bipush (v := 6) hx hb dX8_digest_100 (by decide) ?_
  refine lv_icmp_ge (tgt := 121) hx hb dX8_digest_102 (by decide) (fun h => absurd h (by decide)) (fun _ => ?_)
  refine lv_aload_n hx hb dX8_digest_105 rfl (lv_at hl 2 rfl) ?_
  refine lv_aload_n hx hb dX8_digest_106 rfl (lv_at hl 2 rfl) ?_
  refine lv_iload_n hx hb dX8_digest_107 rfl (lv_at hl 1 rfl) ?_
  refine lv_iload_n hx hb dX8_digest_108 rfl (lv_at hl 0 rfl) ?_
  have hPr := (show va_P (dC, dI) vwCl [(mo, .inr (10, [.int 0, .ref mr, .int 1, .long 6318393755528696736])), (mr, .inr (9, [.ref ll, .ref lt, .ref lp, .int 0, .int 0, .int 0, .int 0, .int 0, .int 0, .int 0, .int (-1), .int 0, .int 0, .int 0])), (lt, .inr (1, [.int 10, .ref ota, .int 10])), (ota, .inl (cOt, 10, .inr (.inr (.inr (.inr fot))))), (ta2, .inl (cB2, 5, .inl fb2))] H287 from (zo_cons ((hP) 12 _ rfl) (zo_cons (((zo_R hR0 hS hAr)) 0 _ rfl) (zo_cons (((zo_R hR0 hS hAr)) 2 _ rfl) (zo_cons (((zo_R hR0 hS hAr)) 5 _ rfl) (zo_cons ((hP) 4 _ rfl) (zo_nil : va_P (dC, dI) vwCl [] H287)))))))
  have hPc := hP.sub (ws' := []) [] rfl
  have hDc := hD.sub (ws' := []) [] (by decide) rfl
  have hKc := hK.sub (tys' := [(cOt, .object "java/lang/Object"), (cB2, .int)]) [1, 6] rfl
  have hFc := va_free (wc := []) hD hS hA [] rfl
  refine va_calli (va_runV (As := [.int 2, .int 4]) (rest := [.ref mo]) ⟨hx, hb, hml, hown, hts⟩ (cz_QofThingNow_2_4 l dC dI ed H287.size mo mr 0 6318393755528696736 ll lt lp ota cOt fot ta2 cB2 fb2 hot2 hb2_0 hb2_3) (cwV 2 hts gX8_digest_X8_ofThingNow rfl rfl rfl (by decide +kernel) ⟨Nat.le_of_ble_eq_true rfl, Nat.le_of_ble_eq_true rfl⟩) ⟨zb_blind, va_recv hK hP (ci := 10) (q0 := 12) rfl rfl, fun U hU hW => ⟨rfl, zb_mk hU hW hPr hPc hKc hDc hN hH hS hFc zx_e⟩⟩ rfl rfl hl.1 rfl (lv_room (Nat.le_of_ble_eq_true rfl)) dX8_digest_109 ⟨Nat.le_of_ble_eq_true rfl, Nat.le_of_ble_eq_true rfl⟩) hS (fun q _ h => hFc q h) hFc (fun r291 u t H290 locs ht hvm hw hB hz1 hk1 hS => ?_)
  obtain rfl : r291 = 1 := hw
  have hP := zo_K hP hk1
  have hPr := (zo_nil : va_P (dC, dI) vwCl [] H290)
  have hPc := hP.sub (ws' := [(mo, .inr (10, [.int 0, .ref mr, .int 1, .long 6318393755528696736]))]) [12] rfl
  have hDc := hD.sub (ws' := [(mo, .inr (10, [.int 0, .ref mr, .int 1, .long 6318393755528696736]))]) [12] (by decide) rfl
  have hKc := hK.sub (tys' := []) [] rfl
  have hFc := va_free (wc := [(mo, .inr (10, [.int 0, .ref mr, .int 1, .long 6318393755528696736]))]) hD hS hA [12] rfl
  refine va_callv (va_runV (As := [.int 1]) (rest := []) ⟨hx, hb, hml, hown, hts⟩ (cz_X8_add l dC dI ed H290.size mo mr 0 6318393755528696736 1) (cwV 1 hts gX8_digest_X8_add rfl rfl rfl (by decide +kernel) ⟨Nat.le_of_ble_eq_true rfl, Nat.le_of_ble_eq_true rfl⟩) ⟨zb_blind, va_recv hK hP (ci := 10) (q0 := 12) rfl rfl, fun U hU hW => ⟨rfl, zb_mk hU hW hPr hPc hKc hDc hN hH hS hFc zx_nil⟩⟩ rfl rfl hl.1 rfl (lv_room (Nat.le_of_ble_eq_true rfl)) dX8_digest_112 ⟨Nat.le_of_ble_eq_true rfl, Nat.le_of_ble_eq_true rfl⟩) hS (fun q _ h => hFc q h) hFc (fun u t H292 locs ht hvm hw hB hz1 hk1 hS => ?_)
  obtain ⟨s1_294, hf294_0, hP1, hD1, hK1⟩ := hB
  obtain rfl : s1_294 = (-7043978389415468959) := hf294_0.trans (by first | rfl | decide +kernel)
  rw [ht] at hP1
  obtain ⟨hP, hD⟩ := va_join (wr := [(la0, .inl (cA0, 10, .inl fa0)), (la1, .inl (cA1, 10, .inl fa1)), (ta0, .inl (cB0, 5, .inl fb0)), (ta1, .inl (cB1, 5, .inl fb1)), (ta2, .inl (cB2, 5, .inl fb2)), (ta3, .inl (cB3, 5, .inl fb3)), (ta4, .inl (cB4, 5, .inl fb4)), (ta5, .inl (cB5, 5, .inl fb5)), (ta6, .inl (cB6, 5, .inl fb6)), (ta7, .inl (cB7, 5, .inl fb7)), (ta8, .inl (cB8, 5, .inl fb8)), (ta9, .inl (cB9, 5, .inl fb9))]) (w1 := [(mo, .inr (10, [.int 0, .ref mr, .int 1, .long (-7043978389415468959)]))]) hP hD [12] [0, 1, 2, 3, 4, 5, 6, 7, 8, 9, 10, 11] rfl rfl (by decide) (by decide) hk1 hFc hP1 hD1
  have hP : va_P (dC, dI) vwCl [(la0, .inl (cA0, 10, .inl fa0)), (la1, .inl (cA1, 10, .inl fa1)), (ta0, .inl (cB0, 5, .inl fb0)), (ta1, .inl (cB1, 5, .inl fb1)), (ta2, .inl (cB2, 5, .inl fb2)), (ta3, .inl (cB3, 5, .inl fb3)), (ta4, .inl (cB4, 5, .inl fb4)), (ta5, .inl (cB5, 5, .inl fb5)), (ta6, .inl (cB6, 5, .inl fb6)), (ta7, .inl (cB7, 5, .inl fb7)), (ta8, .inl (cB8, 5, .inl fb8)), (ta9, .inl (cB9, 5, .inl fb9)), (mo, .inr (10, [.int 0, .ref mr, .int 1, .long (-7043978389415468959)]))] H292 := hP
  have hD : va_D A [(la0, .inl (cA0, 10, .inl fa0)), (la1, .inl (cA1, 10, .inl fa1)), (ta0, .inl (cB0, 5, .inl fb0)), (ta1, .inl (cB1, 5, .inl fb1)), (ta2, .inl (cB2, 5, .inl fb2)), (ta3, .inl (cB3, 5, .inl fb3)), (ta4, .inl (cB4, 5, .inl fb4)), (ta5, .inl (cB5, 5, .inl fb5)), (ta6, .inl (cB6, 5, .inl fb6)), (ta7, .inl (cB7, 5, .inl fb7)), (ta8, .inl (cB8, 5, .inl fb8)), (ta9, .inl (cB9, 5, .inl fb9)), (mo, .inr (10, [.int 0, .ref mr, .int 1, .long (-7043978389415468959)]))] := hD
  refine lv_iinc (v := 5) (lv' := [(2, .int 5), (1, .int 2), (0, .ref mo)]) hx hb dX8_digest_115 hl (k := 0) rfl (by decide) (by decide) rfl (fun ls hl => ?_)
  refine lv_goto (tgt := 99) hx hb dX8_digest_118 (by decide) ?_
  refine lv_iload_n hx hb dX8_digest_99 rfl (lv_at hl 0 rfl) ?_
  refine lv_bipush (v := 6) hx hb dX8_digest_100 (by decide) ?_
  refine lv_icmp_ge (tgt := 121) hx hb dX8_digest_102 (by decide) (fun h => absurd h (by decide)) (fun _ => ?_)
  refine lv_aload_n hx hb dX8_digest_105 rfl (lv_at hl 2 rfl) ?_
  refine lv_aload_n hx hb dX8_digest_106 rfl (lv_at hl 2 rfl) ?_
  refine lv_iload_n hx hb dX8_digest_107 rfl (lv_at hl 1 rfl) ?_
  refine lv_iload_n hx hb dX8_digest_108 rfl (lv_at hl 0 rfl) ?_
  have hPr := (show va_P (dC, dI) vwCl [(mo, .inr (10, [.int 0, .ref mr, .int 1, .long (-7043978389415468959)])), (mr, .inr (9, [.ref ll, .ref lt, .ref lp, .int 0, .int 0, .int 0, .int 0, .int 0, .int 0, .int 0, .int (-1), .int 0, .int 0, .int 0])), (ll, .inr (1, [.int 2, .ref ola, .int 2])), (ola, .inl (cOl, 10, .inr (.inr (.inr (.inr fol))))), (la0, .inl (cA0, 10, .inl fa0)), (la1, .inl (cA1, 10, .inl fa1))] H292 from (zo_cons ((hP) 12 _ rfl) (zo_cons (((zo_R hR0 hS hAr)) 0 _ rfl) (zo_cons (((zo_R hR0 hS hAr)) 1 _ rfl) (zo_cons (((zo_R hR0 hS hAr)) 4 _ rfl) (zo_cons ((hP) 0 _ rfl) (zo_cons ((hP) 1 _ rfl) (zo_nil : va_P (dC, dI) vwCl [] H292))))))))
  have hPc := hP.sub (ws' := []) [] rfl
  have hDc := hD.sub (ws' := []) [] (by decide) rfl
  have hKc := hK.sub (tys' := [(cOl, .object "java/lang/Object"), (cA0, .int), (cA1, .int)]) [0, 2, 3] rfl
  have hFc := va_free (wc := []) hD hS hA [] rfl
  refine va_calli (va_runV (As := [.int 2, .int 5]) (rest := [.ref mo]) ⟨hx, hb, hml, hown, hts⟩ (cz_QofThingNow_2_5 l dC dI ed H292.size mo mr 0 (-7043978389415468959) ll lt lp ola cOl fol la0 la1 cA0 fa0 cA1 fa1 hol0 hol1 ha0_0 ha1_0) (cwV 2 hts gX8_digest_X8_ofThingNow rfl rfl rfl (by decide +kernel) ⟨Nat.le_of_ble_eq_true rfl, Nat.le_of_ble_eq_true rfl⟩) ⟨zb_blind, va_recv hK hP (ci := 10) (q0 := 12) rfl rfl, fun U hU hW => ⟨rfl, zb_mk hU hW hPr hPc hKc hDc hN hH hS hFc zx_e⟩⟩ rfl rfl hl.1 rfl (lv_room (Nat.le_of_ble_eq_true rfl)) dX8_digest_109 ⟨Nat.le_of_ble_eq_true rfl, Nat.le_of_ble_eq_true rfl⟩) hS (fun q _ h => hFc q h) hFc (fun r296 u t H295 locs ht hvm hw hB hz1 hk1 hS => ?_)
  obtain rfl : r296 = 0 := hw
  have hP := zo_K hP hk1
  have hPr := (zo_nil : va_P (dC, dI) vwCl [] H295)
  have hPc := hP.sub (ws' := [(mo, .inr (10, [.int 0, .ref mr, .int 1, .long (-7043978389415468959)]))]) [12] rfl
  have hDc := hD.sub (ws' := [(mo, .inr (10, [.int 0, .ref mr, .int 1, .long (-7043978389415468959)]))]) [12] (by decide) rfl
  have hKc := hK.sub (tys' := []) [] rfl
  have hFc := va_free (wc := [(mo, .inr (10, [.int 0, .ref mr, .int 1, .long (-7043978389415468959)]))]) hD hS hA [12] rfl
  refine va_callv (va_runV (As := [.int 0]) (rest := []) ⟨hx, hb, hml, hown, hts⟩ (cz_X8_add l dC dI ed H295.size mo mr 0 (-7043978389415468959) 0) (cwV 1 hts gX8_digest_X8_add rfl rfl rfl (by decide +kernel) ⟨Nat.le_of_ble_eq_true rfl, Nat.le_of_ble_eq_true rfl⟩) ⟨zb_blind, va_recv hK hP (ci := 10) (q0 := 12) rfl rfl, fun U hU hW => ⟨rfl, zb_mk hU hW hPr hPc hKc hDc hN hH hS hFc zx_nil⟩⟩ rfl rfl hl.1 rfl (lv_room (Nat.le_of_ble_eq_true rfl)) dX8_digest_112 ⟨Nat.le_of_ble_eq_true rfl, Nat.le_of_ble_eq_true rfl⟩) hS (fun q _ h => hFc q h) hFc (fun u t H297 locs ht hvm hw hB hz1 hk1 hS => ?_)
  obtain ⟨s1_299, hf299_0, hP1, hD1, hK1⟩ := hB
  obtain rfl : s1_299 = 2997598812635081663 := hf299_0.trans (by first | rfl | decide +kernel)
  rw [ht] at hP1
  obtain ⟨hP, hD⟩ := va_join (wr := [(la0, .inl (cA0, 10, .inl fa0)), (la1, .inl (cA1, 10, .inl fa1)), (ta0, .inl (cB0, 5, .inl fb0)), (ta1, .inl (cB1, 5, .inl fb1)), (ta2, .inl (cB2, 5, .inl fb2)), (ta3, .inl (cB3, 5, .inl fb3)), (ta4, .inl (cB4, 5, .inl fb4)), (ta5, .inl (cB5, 5, .inl fb5)), (ta6, .inl (cB6, 5, .inl fb6)), (ta7, .inl (cB7, 5, .inl fb7)), (ta8, .inl (cB8, 5, .inl fb8)), (ta9, .inl (cB9, 5, .inl fb9))]) (w1 := [(mo, .inr (10, [.int 0, .ref mr, .int 1, .long 2997598812635081663]))]) hP hD [12] [0, 1, 2, 3, 4, 5, 6, 7, 8, 9, 10, 11] rfl rfl (by decide) (by decide) hk1 hFc hP1 hD1
  have hP : va_P (dC, dI) vwCl [(la0, .inl (cA0, 10, .inl fa0)), (la1, .inl (cA1, 10, .inl fa1)), (ta0, .inl (cB0, 5, .inl fb0)), (ta1, .inl (cB1, 5, .inl fb1)), (ta2, .inl (cB2, 5, .inl fb2)), (ta3, .inl (cB3, 5, .inl fb3)), (ta4, .inl (cB4, 5, .inl fb4)), (ta5, .inl (cB5, 5, .inl fb5)), (ta6, .inl (cB6, 5, .inl fb6)), (ta7, .inl (cB7, 5, .inl fb7)), (ta8, .inl (cB8, 5, .inl fb8)), (ta9, .inl (cB9, 5, .inl fb9)), (mo, .inr (10, [.int 0, .ref mr, .int 1, .long 2997598812635081663]))] H297 := hP
  have hD : va_D A [(la0, .inl (cA0, 10, .inl fa0)), (la1, .inl (cA1, 10, .inl fa1)), (ta0, .inl (cB0, 5, .inl fb0)), (ta1, .inl (cB1, 5, .inl fb1)), (ta2, .inl (cB2, 5, .inl fb2)), (ta3, .inl (cB3, 5, .inl fb3)), (ta4, .inl (cB4, 5, .inl fb4)), (ta5, .inl (cB5, 5, .inl fb5)), (ta6, .inl (cB6, 5, .inl fb6)), (ta7, .inl (cB7, 5, .inl fb7)), (ta8, .inl (cB8, 5, .inl fb8)), (ta9, .inl (cB9, 5, .inl fb9)), (mo, .inr (10, [.int 0, .ref mr, .int 1, .long 2997598812635081663]))] := hD
  refine lv_iinc (v := 6) (lv' := [(2, .int 6), (1, .int 2), (0, .ref mo)]) hx hb dX8_digest_115 hl (k := 0) rfl (by decide) (by decide) rfl (fun ls hl => ?_)
  refine lv_goto (tgt := 99) hx hb dX8_digest_118 (by decide) ?_
  refine lv_iload_n hx hb dX8_digest_99 rfl (lv_at hl 0 rfl) ?_
  refine lv_bipush (v := 6) hx hb dX8_digest_100 (by decide) ?_
  refine lv_icmp_ge (tgt := 121) hx hb dX8_digest_102 (by decide) (fun _ => ?_) (fun h => absurd h (by decide))
  refine lv_iinc (v := 3) (lv' := [(1, .int 3), (2, .int 6), (0, .ref mo)]) hx hb dX8_digest_121 hl (k := 1) rfl (by decide) (by decide) rfl (fun ls hl => ?_)
  refine lv_goto (tgt := 83) hx hb dX8_digest_124 (by decide) ?_
  refine lv_iload_n hx hb dX8_digest_83 rfl (lv_at hl 0 rfl) ?_
  refine lv_aload_n hx hb dX8_digest_84 rfl (lv_at hl 2 rfl) ?_
  refine va_get (D := (dC, dI)) (ci := 10) (v := .ref mr) (C := RX8) (T := TX8) (N := 4) hx hb hts zi_X8_digest_X8 hown hK hP 12 rfl rfl 1 (by decide) (hts (.fieldLink RX8 10 "LockRoomsModel" "room" "LLockRoomsModel$Room;") (by decide +kernel)) (fun _ h9 => h9) rfl dX8_digest_85 ?_
  refine va_getN (D := (dC, dI)) (ci := 9) (v := .ref lt) (C := RX7) (T := TX7) (N := 14) hx hb hts zi_X8_digest_X7 hown hK (zo_R hR0 hS hAr) 0 rfl rfl 1 (by decide) (va_Nw.use rfl (hN.1 ("LockRoomsModel", 38, "LockRoomsModel$Room", "things", "Ljava/util/ArrayList;", "LockRoomsModel") (List.mem_of_getElem? (i := 2) rfl))) (fun _ h9 => h9) rfl dX8_digest_88 ?_
  have hPr := ((zo_R hR0 hS hAr)).sub (ws' := [(lt, .inr (1, [.int 10, .ref ota, .int 10]))]) [2] rfl
  have hPc := hP.sub (ws' := []) [] rfl
  have hDc := hD.sub (ws' := []) [] (by decide) rfl
  have hKc := hK.sub (tys' := []) [] rfl
  have hFc := va_free (wc := []) hD hS hA [] rfl
  refine va_calli (va_runV (As := []) (rest := [.int 3]) ⟨hx, hb, hml, hown, hts⟩ (cz_Qsize l dC dI ed H297.size lt 10 ota 10) (cwV 0 hts gX8_digest_Jx4a65c_size_8abf5 rfl rfl rfl (by decide +kernel) ⟨Nat.le_of_ble_eq_true rfl, Nat.le_of_ble_eq_true rfl⟩) ⟨zb_blind, va_recv hK (zo_R hR0 hS hAr) (ci := 1) (q0 := 2) rfl rfl, fun U hU hW => ⟨rfl, zb_mk hU hW hPr hPc hKc hDc hN hH hS hFc zx_e⟩⟩ rfl rfl hl.1 rfl (lv_room (Nat.le_of_ble_eq_true rfl)) dX8_digest_91 ⟨Nat.le_of_ble_eq_true rfl, Nat.le_of_ble_eq_true rfl⟩) hS (fun q _ h => hFc q h) hFc (fun r301 u t H300 locs ht hvm hw hB hz1 hk1 hS => ?_)
  obtain rfl : r301 = 10 := hw.trans (by decide +kernel)
  have hP := zo_K hP hk1
  refine lv_icmp_ge (tgt := 127) hx hb dX8_digest_94 (by decide) (fun h => absurd h (by decide)) (fun _ => ?_)
  refine lv_iconst (v := 0) hx hb dX8_digest_97 (by decide) ?_
  refine lv_istore_n (lv' := [(2, .int 0), (1, .int 3), (0, .ref mo)]) hx hb dX8_digest_98 rfl hl (by decide) rfl (fun ls hl => ?_)
  refine lv_iload_n hx hb dX8_digest_99 rfl (lv_at hl 0 rfl) ?_
  refine lv_bipush (v := 6) hx hb dX8_digest_100 (by decide) ?_
  refine lv_icmp_ge (tgt := 121) hx hb dX8_digest_102 (by decide) (fun h => absurd h (by decide)) (fun _ => ?_)
  refine lv_aload_n hx hb dX8_digest_105 rfl (lv_at hl 2 rfl) ?_
  refine lv_aload_n hx hb dX8_digest_106 rfl (lv_at hl 2 rfl) ?_
  refine lv_iload_n hx hb dX8_digest_107 rfl (lv_at hl 1 rfl) ?_
  refine lv_iload_n hx hb dX8_digest_108 rfl (lv_at hl 0 rfl) ?_
  have hPr := (show va_P (dC, dI) vwCl [(mo, .inr (10, [.int 0, .ref mr, .int 1, .long 2997598812635081663])), (mr, .inr (9, [.ref ll, .ref lt, .ref lp, .int 0, .int 0, .int 0, .int 0, .int 0, .int 0, .int 0, .int (-1), .int 0, .int 0, .int 0])), (lt, .inr (1, [.int 10, .ref ota, .int 10])), (ota, .inl (cOt, 10, .inr (.inr (.inr (.inr fot))))), (ta3, .inl (cB3, 5, .inl fb3))] H300 from (zo_cons ((hP) 12 _ rfl) (zo_cons (((zo_R hR0 hS hAr)) 0 _ rfl) (zo_cons (((zo_R hR0 hS hAr)) 2 _ rfl) (zo_cons (((zo_R hR0 hS hAr)) 5 _ rfl) (zo_cons ((hP) 5 _ rfl) (zo_nil : va_P (dC, dI) vwCl [] H300)))))))
  have hPc := hP.sub (ws' := []) [] rfl
  have hDc := hD.sub (ws' := []) [] (by decide) rfl
  have hKc := hK.sub (tys' := [(cOt, .object "java/lang/Object"), (cB3, .int)]) [1, 7] rfl
  have hFc := va_free (wc := []) hD hS hA [] rfl
  refine va_calli (va_runV (As := [.int 3, .int 0]) (rest := [.ref mo]) ⟨hx, hb, hml, hown, hts⟩ (cz_QofThingNow_3_0 l dC dI ed H300.size mo mr 0 2997598812635081663 ll lt lp ota cOt fot ta3 cB3 fb3 hot3 hb3_0) (cwV 2 hts gX8_digest_X8_ofThingNow rfl rfl rfl (by decide +kernel) ⟨Nat.le_of_ble_eq_true rfl, Nat.le_of_ble_eq_true rfl⟩) ⟨zb_blind, va_recv hK hP (ci := 10) (q0 := 12) rfl rfl, fun U hU hW => ⟨rfl, zb_mk hU hW hPr hPc hKc hDc hN hH hS hFc zx_e⟩⟩ rfl rfl hl.1 rfl (lv_room (Nat.le_of_ble_eq_true rfl)) dX8_digest_109 ⟨Nat.le_of_ble_eq_true rfl, Nat.le_of_ble_eq_true rfl⟩) hS (fun q _ h => hFc q h) hFc (fun r303 u t H302 locs ht hvm hw hB hz1 hk1 hS => ?_)
  obtain rfl : r303 = (-1) := hw
  have hP := zo_K hP hk1
  have hPr := (zo_nil : va_P (dC, dI) vwCl [] H302)
  have hPc := hP.sub (ws' := [(mo, .inr (10, [.int 0, .ref mr, .int 1, .long 2997598812635081663]))]) [12] rfl
  have hDc := hD.sub (ws' := [(mo, .inr (10, [.int 0, .ref mr, .int 1, .long 2997598812635081663]))]) [12] (by decide) rfl
  have hKc := hK.sub (tys' := []) [] rfl
  have hFc := va_free (wc := [(mo, .inr (10, [.int 0, .ref mr, .int 1, .long 2997598812635081663]))]) hD hS hA [12] rfl
  refine va_callv (va_runV (As := [.int (-1)]) (rest := []) ⟨hx, hb, hml, hown, hts⟩ (cz_X8_add l dC dI ed H302.size mo mr 0 2997598812635081663 (-1)) (cwV 1 hts gX8_digest_X8_add rfl rfl rfl (by decide +kernel) ⟨Nat.le_of_ble_eq_true rfl, Nat.le_of_ble_eq_true rfl⟩) ⟨zb_blind, va_recv hK hP (ci := 10) (q0 := 12) rfl rfl, fun U hU hW => ⟨rfl, zb_mk hU hW hPr hPc hKc hDc hN hH hS hFc zx_nil⟩⟩ rfl rfl hl.1 rfl (lv_room (Nat.le_of_ble_eq_true rfl)) dX8_digest_112 ⟨Nat.le_of_ble_eq_true rfl, Nat.le_of_ble_eq_true rfl⟩) hS (fun q _ h => hFc q h) hFc (fun u t H304 locs ht hvm hw hB hz1 hk1 hS => ?_)
  obtain ⟨s1_306, hf306_0, hP1, hD1, hK1⟩ := hB
  obtain rfl : s1_306 = 691842823139773472 := hf306_0.trans (by first | rfl | decide +kernel)
  rw [ht] at hP1
  obtain ⟨hP, hD⟩ := va_join (wr := [(la0, .inl (cA0, 10, .inl fa0)), (la1, .inl (cA1, 10, .inl fa1)), (ta0, .inl (cB0, 5, .inl fb0)), (ta1, .inl (cB1, 5, .inl fb1)), (ta2, .inl (cB2, 5, .inl fb2)), (ta3, .inl (cB3, 5, .inl fb3)), (ta4, .inl (cB4, 5, .inl fb4)), (ta5, .inl (cB5, 5, .inl fb5)), (ta6, .inl (cB6, 5, .inl fb6)), (ta7, .inl (cB7, 5, .inl fb7)), (ta8, .inl (cB8, 5, .inl fb8)), (ta9, .inl (cB9, 5, .inl fb9))]) (w1 := [(mo, .inr (10, [.int 0, .ref mr, .int 1, .long 691842823139773472]))]) hP hD [12] [0, 1, 2, 3, 4, 5, 6, 7, 8, 9, 10, 11] rfl rfl (by decide) (by decide) hk1 hFc hP1 hD1
  have hP : va_P (dC, dI) vwCl [(la0, .inl (cA0, 10, .inl fa0)), (la1, .inl (cA1, 10, .inl fa1)), (ta0, .inl (cB0, 5, .inl fb0)), (ta1, .inl (cB1, 5, .inl fb1)), (ta2, .inl (cB2, 5, .inl fb2)), (ta3, .inl (cB3, 5, .inl fb3)), (ta4, .inl (cB4, 5, .inl fb4)), (ta5, .inl (cB5, 5, .inl fb5)), (ta6, .inl (cB6, 5, .inl fb6)), (ta7, .inl (cB7, 5, .inl fb7)), (ta8, .inl (cB8, 5, .inl fb8)), (ta9, .inl (cB9, 5, .inl fb9)), (mo, .inr (10, [.int 0, .ref mr, .int 1, .long 691842823139773472]))] H304 := hP
  have hD : va_D A [(la0, .inl (cA0, 10, .inl fa0)), (la1, .inl (cA1, 10, .inl fa1)), (ta0, .inl (cB0, 5, .inl fb0)), (ta1, .inl (cB1, 5, .inl fb1)), (ta2, .inl (cB2, 5, .inl fb2)), (ta3, .inl (cB3, 5, .inl fb3)), (ta4, .inl (cB4, 5, .inl fb4)), (ta5, .inl (cB5, 5, .inl fb5)), (ta6, .inl (cB6, 5, .inl fb6)), (ta7, .inl (cB7, 5, .inl fb7)), (ta8, .inl (cB8, 5, .inl fb8)), (ta9, .inl (cB9, 5, .inl fb9)), (mo, .inr (10, [.int 0, .ref mr, .int 1, .long 691842823139773472]))] := hD
  refine lv_iinc (v := 1) (lv' := [(2, .int 1), (1, .int 3), (0, .ref mo)]) hx hb dX8_digest_115 hl (k := 0) rfl (by decide) (by decide) rfl (fun ls hl => ?_)
  refine lv_goto (tgt := 99) hx hb dX8_digest_118 (by decide) ?_
  refine lv_iload_n hx hb dX8_digest_99 rfl (lv_at hl 0 rfl) ?_
  refine lv_bipush (v := 6) hx hb dX8_digest_100 (by decide) ?_
  refine lv_icmp_ge (tgt := 121) hx hb dX8_digest_102 (by decide) (fun h => absurd h (by decide)) (fun _ => ?_)
  refine lv_aload_n hx hb dX8_digest_105 rfl (lv_at hl 2 rfl) ?_
  refine lv_aload_n hx hb dX8_digest_106 rfl (lv_at hl 2 rfl) ?_
  refine lv_iload_n hx hb dX8_digest_107 rfl (lv_at hl 1 rfl) ?_
  refine lv_iload_n hx hb dX8_digest_108 rfl (lv_at hl 0 rfl) ?_
  have hPr := (show va_P (dC, dI) vwCl [(mo, .inr (10, [.int 0, .ref mr, .int 1, .long 691842823139773472])), (mr, .inr (9, [.ref ll, .ref lt, .ref lp, .int 0, .int 0, .int 0, .int 0, .int 0, .int 0, .int 0, .int (-1), .int 0, .int 0, .int 0])), (lt, .inr (1, [.int 10, .ref ota, .int 10])), (ota, .inl (cOt, 10, .inr (.inr (.inr (.inr fot))))), (ta3, .inl (cB3, 5, .inl fb3))] H304 from (zo_cons ((hP) 12 _ rfl) (zo_cons (((zo_R hR0 hS hAr)) 0 _ rfl) (zo_cons (((zo_R hR0 hS hAr)) 2 _ rfl) (zo_cons (((zo_R hR0 hS hAr)) 5 _ rfl) (zo_cons ((hP) 5 _ rfl) (zo_nil : va_P (dC, dI) vwCl [] H304)))))))
  have hPc := hP.sub (ws' := []) [] rfl
  have hDc := hD.sub (ws' := []) [] (by decide) rfl
  have hKc := hK.sub (tys' := [(cOt, .object "java/lang/Object"), (cB3, .int)]) [1, 7] rfl
  have hFc := va_free (wc := []) hD hS hA [] rfl
  refine va_calli (va_runV (As := [.int 3, .int 1]) (rest := [.ref mo]) ⟨hx, hb, hml, hown, hts⟩ (cz_QofThingNow_3_1 l dC dI ed H304.size mo mr 0 691842823139773472 ll lt lp ota cOt fot ta3 cB3 fb3 hot3 hb3_1) (cwV 2 hts gX8_digest_X8_ofThingNow rfl rfl rfl (by decide +kernel) ⟨Nat.le_of_ble_eq_true rfl, Nat.le_of_ble_eq_true rfl⟩) ⟨zb_blind, va_recv hK hP (ci := 10) (q0 := 12) rfl rfl, fun U hU hW => ⟨rfl, zb_mk hU hW hPr hPc hKc hDc hN hH hS hFc zx_e⟩⟩ rfl rfl hl.1 rfl (lv_room (Nat.le_of_ble_eq_true rfl)) dX8_digest_109 ⟨Nat.le_of_ble_eq_true rfl, Nat.le_of_ble_eq_true rfl⟩) hS (fun q _ h => hFc q h) hFc (fun r308 u t H307 locs ht hvm hw hB hz1 hk1 hS => ?_)
  obtain rfl : r308 = 0 := hw
  have hP := zo_K hP hk1
  have hPr := (zo_nil : va_P (dC, dI) vwCl [] H307)
  have hPc := hP.sub (ws' := [(mo, .inr (10, [.int 0, .ref mr, .int 1, .long 691842823139773472]))]) [12] rfl
  have hDc := hD.sub (ws' := [(mo, .inr (10, [.int 0, .ref mr, .int 1, .long 691842823139773472]))]) [12] (by decide) rfl
  have hKc := hK.sub (tys' := []) [] rfl
  have hFc := va_free (wc := [(mo, .inr (10, [.int 0, .ref mr, .int 1, .long 691842823139773472]))]) hD hS hA [12] rfl
  refine va_callv (va_runV (As := [.int 0]) (rest := []) ⟨hx, hb, hml, hown, hts⟩ (cz_X8_add l dC dI ed H307.size mo mr 0 691842823139773472 0) (cwV 1 hts gX8_digest_X8_add rfl rfl rfl (by decide +kernel) ⟨Nat.le_of_ble_eq_true rfl, Nat.le_of_ble_eq_true rfl⟩) ⟨zb_blind, va_recv hK hP (ci := 10) (q0 := 12) rfl rfl, fun U hU hW => ⟨rfl, zb_mk hU hW hPr hPc hKc hDc hN hH hS hFc zx_nil⟩⟩ rfl rfl hl.1 rfl (lv_room (Nat.le_of_ble_eq_true rfl)) dX8_digest_112 ⟨Nat.le_of_ble_eq_true rfl, Nat.le_of_ble_eq_true rfl⟩) hS (fun q _ h => hFc q h) hFc (fun u t H309 locs ht hvm hw hB hz1 hk1 hS => ?_)
  obtain ⟨s1_311, hf311_0, hP1, hD1, hK1⟩ := hB
  obtain rfl : s1_311 = 3000383443623426016 := hf311_0.trans (by first | rfl | decide +kernel)
  rw [ht] at hP1
  obtain ⟨hP, hD⟩ := va_join (wr := [(la0, .inl (cA0, 10, .inl fa0)), (la1, .inl (cA1, 10, .inl fa1)), (ta0, .inl (cB0, 5, .inl fb0)), (ta1, .inl (cB1, 5, .inl fb1)), (ta2, .inl (cB2, 5, .inl fb2)), (ta3, .inl (cB3, 5, .inl fb3)), (ta4, .inl (cB4, 5, .inl fb4)), (ta5, .inl (cB5, 5, .inl fb5)), (ta6, .inl (cB6, 5, .inl fb6)), (ta7, .inl (cB7, 5, .inl fb7)), (ta8, .inl (cB8, 5, .inl fb8)), (ta9, .inl (cB9, 5, .inl fb9))]) (w1 := [(mo, .inr (10, [.int 0, .ref mr, .int 1, .long 3000383443623426016]))]) hP hD [12] [0, 1, 2, 3, 4, 5, 6, 7, 8, 9, 10, 11] rfl rfl (by decide) (by decide) hk1 hFc hP1 hD1
  have hP : va_P (dC, dI) vwCl [(la0, .inl (cA0, 10, .inl fa0)), (la1, .inl (cA1, 10, .inl fa1)), (ta0, .inl (cB0, 5, .inl fb0)), (ta1, .inl (cB1, 5, .inl fb1)), (ta2, .inl (cB2, 5, .inl fb2)), (ta3, .inl (cB3, 5, .inl fb3)), (ta4, .inl (cB4, 5, .inl fb4)), (ta5, .inl (cB5, 5, .inl fb5)), (ta6, .inl (cB6, 5, .inl fb6)), (ta7, .inl (cB7, 5, .inl fb7)), (ta8, .inl (cB8, 5, .inl fb8)), (ta9, .inl (cB9, 5, .inl fb9)), (mo, .inr (10, [.int 0, .ref mr, .int 1, .long 3000383443623426016]))] H309 := hP
  have hD : va_D A [(la0, .inl (cA0, 10, .inl fa0)), (la1, .inl (cA1, 10, .inl fa1)), (ta0, .inl (cB0, 5, .inl fb0)), (ta1, .inl (cB1, 5, .inl fb1)), (ta2, .inl (cB2, 5, .inl fb2)), (ta3, .inl (cB3, 5, .inl fb3)), (ta4, .inl (cB4, 5, .inl fb4)), (ta5, .inl (cB5, 5, .inl fb5)), (ta6, .inl (cB6, 5, .inl fb6)), (ta7, .inl (cB7, 5, .inl fb7)), (ta8, .inl (cB8, 5, .inl fb8)), (ta9, .inl (cB9, 5, .inl fb9)), (mo, .inr (10, [.int 0, .ref mr, .int 1, .long 3000383443623426016]))] := hD
  refine lv_iinc (v := 2) (lv' := [(2, .int 2), (1, .int 3), (0, .ref mo)]) hx hb dX8_digest_115 hl (k := 0) rfl (by decide) (by decide) rfl (fun ls hl => ?_)
  refine lv_goto (tgt := 99) hx hb dX8_digest_118 (by decide) ?_
  refine lv_iload_n hx hb dX8_digest_99 rfl (lv_at hl 0 rfl) ?_
  refine lv_bipush (v := 6) hx hb dX8_digest_100 (by decide) ?_
  refine lv_icmp_ge (tgt := 121) hx hb dX8_digest_102 (by decide) (fun h => absurd h (by decide)) (fun _ => ?_)
  refine lv_aload_n hx hb dX8_digest_105 rfl (lv_at hl 2 rfl) ?_
  refine lv_aload_n hx hb dX8_digest_106 rfl (lv_at hl 2 rfl) ?_
  refine lv_iload_n hx hb dX8_digest_107 rfl (lv_at hl 1 rfl) ?_
  refine lv_iload_n hx hb dX8_digest_108 rfl (lv_at hl 0 rfl) ?_
  have hPr := (show va_P (dC, dI) vwCl [(mo, .inr (10, [.int 0, .ref mr, .int 1, .long 3000383443623426016])), (mr, .inr (9, [.ref ll, .ref lt, .ref lp, .int 0, .int 0, .int 0, .int 0, .int 0, .int 0, .int 0, .int (-1), .int 0, .int 0, .int 0])), (lt, .inr (1, [.int 10, .ref ota, .int 10])), (ota, .inl (cOt, 10, .inr (.inr (.inr (.inr fot))))), (ta3, .inl (cB3, 5, .inl fb3))] H309 from (zo_cons ((hP) 12 _ rfl) (zo_cons (((zo_R hR0 hS hAr)) 0 _ rfl) (zo_cons (((zo_R hR0 hS hAr)) 2 _ rfl) (zo_cons (((zo_R hR0 hS hAr)) 5 _ rfl) (zo_cons ((hP) 5 _ rfl) (zo_nil : va_P (dC, dI) vwCl [] H309)))))))
  have hPc := hP.sub (ws' := []) [] rfl
  have hDc := hD.sub (ws' := []) [] (by decide) rfl
  have hKc := hK.sub (tys' := [(cOt, .object "java/lang/Object"), (cB3, .int)]) [1, 7] rfl
  have hFc := va_free (wc := []) hD hS hA [] rfl
  refine va_calli (va_runV (As := [.int 3, .int 2]) (rest := [.ref mo]) ⟨hx, hb, hml, hown, hts⟩ (cz_QofThingNow_3_2 l dC dI ed H309.size mo mr 0 3000383443623426016 ll lt lp ota cOt fot ta3 cB3 fb3 hot3 hb3_2) (cwV 2 hts gX8_digest_X8_ofThingNow rfl rfl rfl (by decide +kernel) ⟨Nat.le_of_ble_eq_true rfl, Nat.le_of_ble_eq_true rfl⟩) ⟨zb_blind, va_recv hK hP (ci := 10) (q0 := 12) rfl rfl, fun U hU hW => ⟨rfl, zb_mk hU hW hPr hPc hKc hDc hN hH hS hFc zx_e⟩⟩ rfl rfl hl.1 rfl (lv_room (Nat.le_of_ble_eq_true rfl)) dX8_digest_109 ⟨Nat.le_of_ble_eq_true rfl, Nat.le_of_ble_eq_true rfl⟩) hS (fun q _ h => hFc q h) hFc (fun r313 u t H312 locs ht hvm hw hB hz1 hk1 hS => ?_)
  obtain rfl : r313 = 0 := hw
  have hP := zo_K hP hk1
  have hPr := (zo_nil : va_P (dC, dI) vwCl [] H312)
  have hPc := hP.sub (ws' := [(mo, .inr (10, [.int 0, .ref mr, .int 1, .long 3000383443623426016]))]) [12] rfl
  have hDc := hD.sub (ws' := [(mo, .inr (10, [.int 0, .ref mr, .int 1, .long 3000383443623426016]))]) [12] (by decide) rfl
  have hKc := hK.sub (tys' := []) [] rfl
  have hFc := va_free (wc := [(mo, .inr (10, [.int 0, .ref mr, .int 1, .long 3000383443623426016]))]) hD hS hA [12] rfl
  refine va_callv (va_runV (As := [.int 0]) (rest := []) ⟨hx, hb, hml, hown, hts⟩ (cz_X8_add l dC dI ed H312.size mo mr 0 3000383443623426016 0) (cwV 1 hts gX8_digest_X8_add rfl rfl rfl (by decide +kernel) ⟨Nat.le_of_ble_eq_true rfl, Nat.le_of_ble_eq_true rfl⟩) ⟨zb_blind, va_recv hK hP (ci := 10) (q0 := 12) rfl rfl, fun U hU hW => ⟨rfl, zb_mk hU hW hPr hPc hKc hDc hN hH hS hFc zx_nil⟩⟩ rfl rfl hl.1 rfl (lv_room (Nat.le_of_ble_eq_true rfl)) dX8_digest_112 ⟨Nat.le_of_ble_eq_true rfl, Nat.le_of_ble_eq_true rfl⟩) hS (fun q _ h => hFc q h) hFc (fun u t H314 locs ht hvm hw hB hz1 hk1 hS => ?_)
  obtain ⟨s1_316, hf316_0, hP1, hD1, hK1⟩ := hB
  obtain rfl : s1_316 = 778166383778448416 := hf316_0.trans (by first | rfl | decide +kernel)
  rw [ht] at hP1
  obtain ⟨hP, hD⟩ := va_join (wr := [(la0, .inl (cA0, 10, .inl fa0)), (la1, .inl (cA1, 10, .inl fa1)), (ta0, .inl (cB0, 5, .inl fb0)), (ta1, .inl (cB1, 5, .inl fb1)), (ta2, .inl (cB2, 5, .inl fb2)), (ta3, .inl (cB3, 5, .inl fb3)), (ta4, .inl (cB4, 5, .inl fb4)), (ta5, .inl (cB5, 5, .inl fb5)), (ta6, .inl (cB6, 5, .inl fb6)), (ta7, .inl (cB7, 5, .inl fb7)), (ta8, .inl (cB8, 5, .inl fb8)), (ta9, .inl (cB9, 5, .inl fb9))]) (w1 := [(mo, .inr (10, [.int 0, .ref mr, .int 1, .long 778166383778448416]))]) hP hD [12] [0, 1, 2, 3, 4, 5, 6, 7, 8, 9, 10, 11] rfl rfl (by decide) (by decide) hk1 hFc hP1 hD1
  have hP : va_P (dC, dI) vwCl [(la0, .inl (cA0, 10, .inl fa0)), (la1, .inl (cA1, 10, .inl fa1)), (ta0, .inl (cB0, 5, .inl fb0)), (ta1, .inl (cB1, 5, .inl fb1)), (ta2, .inl (cB2, 5, .inl fb2)), (ta3, .inl (cB3, 5, .inl fb3)), (ta4, .inl (cB4, 5, .inl fb4)), (ta5, .inl (cB5, 5, .inl fb5)), (ta6, .inl (cB6, 5, .inl fb6)), (ta7, .inl (cB7, 5, .inl fb7)), (ta8, .inl (cB8, 5, .inl fb8)), (ta9, .inl (cB9, 5, .inl fb9)), (mo, .inr (10, [.int 0, .ref mr, .int 1, .long 778166383778448416]))] H314 := hP
  have hD : va_D A [(la0, .inl (cA0, 10, .inl fa0)), (la1, .inl (cA1, 10, .inl fa1)), (ta0, .inl (cB0, 5, .inl fb0)), (ta1, .inl (cB1, 5, .inl fb1)), (ta2, .inl (cB2, 5, .inl fb2)), (ta3, .inl (cB3, 5, .inl fb3)), (ta4, .inl (cB4, 5, .inl fb4)), (ta5, .inl (cB5, 5, .inl fb5)), (ta6, .inl (cB6, 5, .inl fb6)), (ta7, .inl (cB7, 5, .inl fb7)), (ta8, .inl (cB8, 5, .inl fb8)), (ta9, .inl (cB9, 5, .inl fb9)), (mo, .inr (10, [.int 0, .ref mr, .int 1, .long 778166383778448416]))] := hD
  refine lv_iinc (v := 3) (lv' := [(2, .int 3), (1, .int 3), (0, .ref mo)]) hx hb dX8_digest_115 hl (k := 0) rfl (by decide) (by decide) rfl (fun ls hl => ?_)
  refine lv_goto (tgt := 99) hx hb dX8_digest_118 (by decide) ?_
  refine lv_iload_n hx hb dX8_digest_99 rfl (lv_at hl 0 rfl) ?_
  refine lv_bipush (v := 6) hx hb dX8_digest_100 (by decide) ?_
  refine lv_icmp_ge (tgt := 121) hx hb dX8_digest_102 (by decide) (fun h => absurd h (by decide)) (fun _ => ?_)
  refine lv_aload_n hx hb dX8_digest_105 rfl (lv_at hl 2 rfl) ?_
  refine lv_aload_n hx hb dX8_digest_106 rfl (lv_at hl 2 rfl) ?_
  refine lv_iload_n hx hb dX8_digest_107 rfl (lv_at hl 1 rfl) ?_
  refine lv_iload_n hx hb dX8_digest_108 rfl (lv_at hl 0 rfl) ?_
  have hPr := (show va_P (dC, dI) vwCl [(mo, .inr (10, [.int 0, .ref mr, .int 1, .long 778166383778448416])), (mr, .inr (9, [.ref ll, .ref lt, .ref lp, .int 0, .int 0, .int 0, .int 0, .int 0, .int 0, .int 0, .int (-1), .int 0, .int 0, .int 0])), (lt, .inr (1, [.int 10, .ref ota, .int 10])), (ota, .inl (cOt, 10, .inr (.inr (.inr (.inr fot))))), (ta3, .inl (cB3, 5, .inl fb3))] H314 from (zo_cons ((hP) 12 _ rfl) (zo_cons (((zo_R hR0 hS hAr)) 0 _ rfl) (zo_cons (((zo_R hR0 hS hAr)) 2 _ rfl) (zo_cons (((zo_R hR0 hS hAr)) 5 _ rfl) (zo_cons ((hP) 5 _ rfl) (zo_nil : va_P (dC, dI) vwCl [] H314)))))))
  have hPc := hP.sub (ws' := []) [] rfl
  have hDc := hD.sub (ws' := []) [] (by decide) rfl
  have hKc := hK.sub (tys' := [(cOt, .object "java/lang/Object"), (cB3, .int)]) [1, 7] rfl
  have hFc := va_free (wc := []) hD hS hA [] rfl
  refine va_calli (va_runV (As := [.int 3, .int 3]) (rest := [.ref mo]) ⟨hx, hb, hml, hown, hts⟩ (cz_QofThingNow_3_3 l dC dI ed H314.size mo mr 0 778166383778448416 ll lt lp ota cOt fot ta3 cB3 fb3 hot3 hb3_3) (cwV 2 hts gX8_digest_X8_ofThingNow rfl rfl rfl (by decide +kernel) ⟨Nat.le_of_ble_eq_true rfl, Nat.le_of_ble_eq_true rfl⟩) ⟨zb_blind, va_recv hK hP (ci := 10) (q0 := 12) rfl rfl, fun U hU hW => ⟨rfl, zb_mk hU hW hPr hPc hKc hDc hN hH hS hFc zx_e⟩⟩ rfl rfl hl.1 rfl (lv_room (Nat.le_of_ble_eq_true rfl)) dX8_digest_109 ⟨Nat.le_of_ble_eq_true rfl, Nat.le_of_ble_eq_true rfl⟩) hS (fun q _ h => hFc q h) hFc (fun r318 u t H317 locs ht hvm hw hB hz1 hk1 hS => ?_)
  obtain rfl : r318 = 0 := hw
  have hP := zo_K hP hk1
  have hPr := (zo_nil : va_P (dC, dI) vwCl [] H317)
  have hPc := hP.sub (ws' := [(mo, .inr (10, [.int 0, .ref mr, .int 1, .long 778166383778448416]))]) [12] rfl
  have hDc := hD.sub (ws' := [(mo, .inr (10, [.int 0, .ref mr, .int 1, .long 778166383778448416]))]) [12] (by decide) rfl
  have hKc := hK.sub (tys' := []) [] rfl
  have hFc := va_free (wc := [(mo, .inr (10, [.int 0, .ref mr, .int 1, .long 778166383778448416]))]) hD hS hA [12] rfl
  refine va_callv (va_runV (As := [.int 0]) (rest := []) ⟨hx, hb, hml, hown, hts⟩ (cz_X8_add l dC dI ed H317.size mo mr 0 778166383778448416 0) (cwV 1 hts gX8_digest_X8_add rfl rfl rfl (by decide +kernel) ⟨Nat.le_of_ble_eq_true rfl, Nat.le_of_ble_eq_true rfl⟩) ⟨zb_blind, va_recv hK hP (ci := 10) (q0 := 12) rfl rfl, fun U hU hW => ⟨rfl, zb_mk hU hW hPr hPc hKc hDc hN hH hS hFc zx_nil⟩⟩ rfl rfl hl.1 rfl (lv_room (Nat.le_of_ble_eq_true rfl)) dX8_digest_112 ⟨Nat.le_of_ble_eq_true rfl, Nat.le_of_ble_eq_true rfl⟩) hS (fun q _ h => hFc q h) hFc (fun u t H319 locs ht hvm hw hB hz1 hk1 hS => ?_)
  obtain ⟨s1_321, hf321_0, hP1, hD1, hK1⟩ := hB
  obtain rfl : s1_321 = 5676413823422349280 := hf321_0.trans (by first | rfl | decide +kernel)
  rw [ht] at hP1
  obtain ⟨hP, hD⟩ := va_join (wr := [(la0, .inl (cA0, 10, .inl fa0)), (la1, .inl (cA1, 10, .inl fa1)), (ta0, .inl (cB0, 5, .inl fb0)), (ta1, .inl (cB1, 5, .inl fb1)), (ta2, .inl (cB2, 5, .inl fb2)), (ta3, .inl (cB3, 5, .inl fb3)), (ta4, .inl (cB4, 5, .inl fb4)), (ta5, .inl (cB5, 5, .inl fb5)), (ta6, .inl (cB6, 5, .inl fb6)), (ta7, .inl (cB7, 5, .inl fb7)), (ta8, .inl (cB8, 5, .inl fb8)), (ta9, .inl (cB9, 5, .inl fb9))]) (w1 := [(mo, .inr (10, [.int 0, .ref mr, .int 1, .long 5676413823422349280]))]) hP hD [12] [0, 1, 2, 3, 4, 5, 6, 7, 8, 9, 10, 11] rfl rfl (by decide) (by decide) hk1 hFc hP1 hD1
  have hP : va_P (dC, dI) vwCl [(la0, .inl (cA0, 10, .inl fa0)), (la1, .inl (cA1, 10, .inl fa1)), (ta0, .inl (cB0, 5, .inl fb0)), (ta1, .inl (cB1, 5, .inl fb1)), (ta2, .inl (cB2, 5, .inl fb2)), (ta3, .inl (cB3, 5, .inl fb3)), (ta4, .inl (cB4, 5, .inl fb4)), (ta5, .inl (cB5, 5, .inl fb5)), (ta6, .inl (cB6, 5, .inl fb6)), (ta7, .inl (cB7, 5, .inl fb7)), (ta8, .inl (cB8, 5, .inl fb8)), (ta9, .inl (cB9, 5, .inl fb9)), (mo, .inr (10, [.int 0, .ref mr, .int 1, .long 5676413823422349280]))] H319 := hP
  have hD : va_D A [(la0, .inl (cA0, 10, .inl fa0)), (la1, .inl (cA1, 10, .inl fa1)), (ta0, .inl (cB0, 5, .inl fb0)), (ta1, .inl (cB1, 5, .inl fb1)), (ta2, .inl (cB2, 5, .inl fb2)), (ta3, .inl (cB3, 5, .inl fb3)), (ta4, .inl (cB4, 5, .inl fb4)), (ta5, .inl (cB5, 5, .inl fb5)), (ta6, .inl (cB6, 5, .inl fb6)), (ta7, .inl (cB7, 5, .inl fb7)), (ta8, .inl (cB8, 5, .inl fb8)), (ta9, .inl (cB9, 5, .inl fb9)), (mo, .inr (10, [.int 0, .ref mr, .int 1, .long 5676413823422349280]))] := hD
  refine lv_iinc (v := 4) (lv' := [(2, .int 4), (1, .int 3), (0, .ref mo)]) hx hb dX8_digest_115 hl (k := 0) rfl (by decide) (by decide) rfl (fun ls hl => ?_)
  refine lv_goto (tgt := 99) hx hb dX8_digest_118 (by decide) ?_
  refine lv_iload_n hx hb dX8_digest_99 rfl (lv_at hl 0 rfl) ?_
  refine lv_bipush (v := 6) hx hb dX8_digest_100 (by decide) ?_
  refine lv_icmp_ge (tgt := 121) hx hb dX8_digest_102 (by decide) (fun h => absurd h (by decide)) (fun _ => ?_)
  refine lv_aload_n hx hb dX8_digest_105 rfl (lv_at hl 2 rfl) ?_
  refine lv_aload_n hx hb dX8_digest_106 rfl (lv_at hl 2 rfl) ?_
  refine lv_iload_n hx hb dX8_digest_107 rfl (lv_at hl 1 rfl) ?_
  refine lv_iload_n hx hb dX8_digest_108 rfl (lv_at hl 0 rfl) ?_
  have hPr := (show va_P (dC, dI) vwCl [(mo, .inr (10, [.int 0, .ref mr, .int 1, .long 5676413823422349280])), (mr, .inr (9, [.ref ll, .ref lt, .ref lp, .int 0, .int 0, .int 0, .int 0, .int 0, .int 0, .int 0, .int (-1), .int 0, .int 0, .int 0])), (lt, .inr (1, [.int 10, .ref ota, .int 10])), (ota, .inl (cOt, 10, .inr (.inr (.inr (.inr fot))))), (ta3, .inl (cB3, 5, .inl fb3))] H319 from (zo_cons ((hP) 12 _ rfl) (zo_cons (((zo_R hR0 hS hAr)) 0 _ rfl) (zo_cons (((zo_R hR0 hS hAr)) 2 _ rfl) (zo_cons (((zo_R hR0 hS hAr)) 5 _ rfl) (zo_cons ((hP) 5 _ rfl) (zo_nil : va_P (dC, dI) vwCl [] H319)))))))
  have hPc := hP.sub (ws' := []) [] rfl
  have hDc := hD.sub (ws' := []) [] (by decide) rfl
  have hKc := hK.sub (tys' := [(cOt, .object "java/lang/Object"), (cB3, .int)]) [1, 7] rfl
  have hFc := va_free (wc := []) hD hS hA [] rfl
  refine va_calli (va_runV (As := [.int 3, .int 4]) (rest := [.ref mo]) ⟨hx, hb, hml, hown, hts⟩ (cz_QofThingNow_3_4 l dC dI ed H319.size mo mr 0 5676413823422349280 ll lt lp ota cOt fot ta3 cB3 fb3 hot3 hb3_0 hb3_3) (cwV 2 hts gX8_digest_X8_ofThingNow rfl rfl rfl (by decide +kernel) ⟨Nat.le_of_ble_eq_true rfl, Nat.le_of_ble_eq_true rfl⟩) ⟨zb_blind, va_recv hK hP (ci := 10) (q0 := 12) rfl rfl, fun U hU hW => ⟨rfl, zb_mk hU hW hPr hPc hKc hDc hN hH hS hFc zx_e⟩⟩ rfl rfl hl.1 rfl (lv_room (Nat.le_of_ble_eq_true rfl)) dX8_digest_109 ⟨Nat.le_of_ble_eq_true rfl, Nat.le_of_ble_eq_true rfl⟩) hS (fun q _ h => hFc q h) hFc (fun r323 u t H322 locs ht hvm hw hB hz1 hk1 hS => ?_)
  obtain rfl : r323 = 1 := hw
  have hP := zo_K hP hk1
  have hPr := (zo_nil : va_P (dC, dI) vwCl [] H322)
  have hPc := hP.sub (ws' := [(mo, .inr (10, [.int 0, .ref mr, .int 1, .long 5676413823422349280]))]) [12] rfl
  have hDc := hD.sub (ws' := [(mo, .inr (10, [.int 0, .ref mr, .int 1, .long 5676413823422349280]))]) [12] (by decide) rfl
  have hKc := hK.sub (tys' := []) [] rfl
  have hFc := va_free (wc := [(mo, .inr (10, [.int 0, .ref mr, .int 1, .long 5676413823422349280]))]) hD hS hA [12] rfl
  refine va_callv (va_runV (As := [.int 1]) (rest := []) ⟨hx, hb, hml, hown, hts⟩ (cz_X8_add l dC dI ed H322.size mo mr 0 5676413823422349280 1) (cwV 1 hts gX8_digest_X8_add rfl rfl rfl (by decide +kernel) ⟨Nat.le_of_ble_eq_true rfl, Nat.le_of_ble_eq_true rfl⟩) ⟨zb_blind, va_recv hK hP (ci := 10) (q0 := 12) rfl rfl, fun U hU hW => ⟨rfl, zb_mk hU hW hPr hPc hKc hDc hN hH hS hFc zx_nil⟩⟩ rfl rfl hl.1 rfl (lv_room (Nat.le_of_ble_eq_true rfl)) dX8_digest_112 ⟨Nat.le_of_ble_eq_true rfl, Nat.le_of_ble_eq_true rfl⟩) hS (fun q _ h => hFc q h) hFc (fun u t H324 locs ht hvm hw hB hz1 hk1 hS => ?_)
  obtain ⟨s1_326, hf326_0, hP1, hD1, hK1⟩ := hB
  obtain rfl : s1_326 = (-8498612211002688479) := hf326_0.trans (by first | rfl | decide +kernel)
  rw [ht] at hP1
  obtain ⟨hP, hD⟩ := va_join (wr := [(la0, .inl (cA0, 10, .inl fa0)), (la1, .inl (cA1, 10, .inl fa1)), (ta0, .inl (cB0, 5, .inl fb0)), (ta1, .inl (cB1, 5, .inl fb1)), (ta2, .inl (cB2, 5, .inl fb2)), (ta3, .inl (cB3, 5, .inl fb3)), (ta4, .inl (cB4, 5, .inl fb4)), (ta5, .inl (cB5, 5, .inl fb5)), (ta6, .inl (cB6, 5, .inl fb6)), (ta7, .inl (cB7, 5, .inl fb7)), (ta8, .inl (cB8, 5, .inl fb8)), (ta9, .inl (cB9, 5, .inl fb9))]) (w1 := [(mo, .inr (10, [.int 0, .ref mr, .int 1, .long (-8498612211002688479)]))]) hP hD [12] [0, 1, 2, 3, 4, 5, 6, 7, 8, 9, 10, 11] rfl rfl (by decide) (by decide) hk1 hFc hP1 hD1
  have hP : va_P (dC, dI) vwCl [(la0, .inl (cA0, 10, .inl fa0)), (la1, .inl (cA1, 10, .inl fa1)), (ta0, .inl (cB0, 5, .inl fb0)), (ta1, .inl (cB1, 5, .inl fb1)), (ta2, .inl (cB2, 5, .inl fb2)), (ta3, .inl (cB3, 5, .inl fb3)), (ta4, .inl (cB4, 5, .inl fb4)), (ta5, .inl (cB5, 5, .inl fb5)), (ta6, .inl (cB6, 5, .inl fb6)), (ta7, .inl (cB7, 5, .inl fb7)), (ta8, .inl (cB8, 5, .inl fb8)), (ta9, .inl (cB9, 5, .inl fb9)), (mo, .inr (10, [.int 0, .ref mr, .int 1, .long (-8498612211002688479)]))] H324 := hP
  have hD : va_D A [(la0, .inl (cA0, 10, .inl fa0)), (la1, .inl (cA1, 10, .inl fa1)), (ta0, .inl (cB0, 5, .inl fb0)), (ta1, .inl (cB1, 5, .inl fb1)), (ta2, .inl (cB2, 5, .inl fb2)), (ta3, .inl (cB3, 5, .inl fb3)), (ta4, .inl (cB4, 5, .inl fb4)), (ta5, .inl (cB5, 5, .inl fb5)), (ta6, .inl (cB6, 5, .inl fb6)), (ta7, .inl (cB7, 5, .inl fb7)), (ta8, .inl (cB8, 5, .inl fb8)), (ta9, .inl (cB9, 5, .inl fb9)), (mo, .inr (10, [.int 0, .ref mr, .int 1, .long (-8498612211002688479)]))] := hD
  refine lv_iinc (v := 5) (lv' := [(2, .int 5), (1, .int 3), (0, .ref mo)]) hx hb dX8_digest_115 hl (k := 0) rfl (by decide) (by decide) rfl (fun ls hl => ?_)
  refine lv_goto (tgt := 99) hx hb dX8_digest_118 (by decide) ?_
  refine lv_iload_n hx hb dX8_digest_99 rfl (lv_at hl 0 rfl) ?_
  refine lv_bipush (v := 6) hx hb dX8_digest_100 (by decide) ?_
  refine lv_icmp_ge (tgt := 121) hx hb dX8_digest_102 (by decide) (fun h => absurd h (by decide)) (fun _ => ?_)
  refine lv_aload_n hx hb dX8_digest_105 rfl (lv_at hl 2 rfl) ?_
  refine lv_aload_n hx hb dX8_digest_106 rfl (lv_at hl 2 rfl) ?_
  refine lv_iload_n hx hb dX8_digest_107 rfl (lv_at hl 1 rfl) ?_
  refine lv_iload_n hx hb dX8_digest_108 rfl (lv_at hl 0 rfl) ?_
  have hPr := (show va_P (dC, dI) vwCl [(mo, .inr (10, [.int 0, .ref mr, .int 1, .long (-8498612211002688479)])), (mr, .inr (9, [.ref ll, .ref lt, .ref lp, .int 0, .int 0, .int 0, .int 0, .int 0, .int 0, .int 0, .int (-1), .int 0, .int 0, .int 0])), (ll, .inr (1, [.int 2, .ref ola, .int 2])), (ola, .inl (cOl, 10, .inr (.inr (.inr (.inr fol))))), (la0, .inl (cA0, 10, .inl fa0)), (la1, .inl (cA1, 10, .inl fa1))] H324 from (zo_cons ((hP) 12 _ rfl) (zo_cons (((zo_R hR0 hS hAr)) 0 _ rfl) (zo_cons (((zo_R hR0 hS hAr)) 1 _ rfl) (zo_cons (((zo_R hR0 hS hAr)) 4 _ rfl) (zo_cons ((hP) 0 _ rfl) (zo_cons ((hP) 1 _ rfl) (zo_nil : va_P (dC, dI) vwCl [] H324))))))))
  have hPc := hP.sub (ws' := []) [] rfl
  have hDc := hD.sub (ws' := []) [] (by decide) rfl
  have hKc := hK.sub (tys' := [(cOl, .object "java/lang/Object"), (cA0, .int), (cA1, .int)]) [0, 2, 3] rfl
  have hFc := va_free (wc := []) hD hS hA [] rfl
  refine va_calli (va_runV (As := [.int 3, .int 5]) (rest := [.ref mo]) ⟨hx, hb, hml, hown, hts⟩ (cz_QofThingNow_3_5 l dC dI ed H324.size mo mr 0 (-8498612211002688479) ll lt lp ola cOl fol la0 la1 cA0 fa0 cA1 fa1 hol0 hol1 ha0_0 ha1_0) (cwV 2 hts gX8_digest_X8_ofThingNow rfl rfl rfl (by decide +kernel) ⟨Nat.le_of_ble_eq_true rfl, Nat.le_of_ble_eq_true rfl⟩) ⟨zb_blind, va_recv hK hP (ci := 10) (q0 := 12) rfl rfl, fun U hU hW => ⟨rfl, zb_mk hU hW hPr hPc hKc hDc hN hH hS hFc zx_e⟩⟩ rfl rfl hl.1 rfl (lv_room (Nat.le_of_ble_eq_true rfl)) dX8_digest_109 ⟨Nat.le_of_ble_eq_true rfl, Nat.le_of_ble_eq_true rfl⟩) hS (fun q _ h => hFc q h) hFc (fun r328 u t H327 locs ht hvm hw hB hz1 hk1 hS => ?_)
  obtain rfl : r328 = 0 := hw
  have hP := zo_K hP hk1
  have hPr := (zo_nil : va_P (dC, dI) vwCl [] H327)
  have hPc := hP.sub (ws' := [(mo, .inr (10, [.int 0, .ref mr, .int 1, .long (-8498612211002688479)]))]) [12] rfl
  have hDc := hD.sub (ws' := [(mo, .inr (10, [.int 0, .ref mr, .int 1, .long (-8498612211002688479)]))]) [12] (by decide) rfl
  have hKc := hK.sub (tys' := []) [] rfl
  have hFc := va_free (wc := [(mo, .inr (10, [.int 0, .ref mr, .int 1, .long (-8498612211002688479)]))]) hD hS hA [12] rfl
  refine va_callv (va_runV (As := [.int 0]) (rest := []) ⟨hx, hb, hml, hown, hts⟩ (cz_X8_add l dC dI ed H327.size mo mr 0 (-8498612211002688479) 0) (cwV 1 hts gX8_digest_X8_add rfl rfl rfl (by decide +kernel) ⟨Nat.le_of_ble_eq_true rfl, Nat.le_of_ble_eq_true rfl⟩) ⟨zb_blind, va_recv hK hP (ci := 10) (q0 := 12) rfl rfl, fun U hU hW => ⟨rfl, zb_mk hU hW hPr hPc hKc hDc hN hH hS hFc zx_nil⟩⟩ rfl rfl hl.1 rfl (lv_room (Nat.le_of_ble_eq_true rfl)) dX8_digest_112 ⟨Nat.le_of_ble_eq_true rfl, Nat.le_of_ble_eq_true rfl⟩) hS (fun q _ h => hFc q h) hFc (fun u t H329 locs ht hvm hw hB hz1 hk1 hS => ?_)
  obtain ⟨s1_331, hf331_0, hP1, hD1, hK1⟩ := hB
  obtain rfl : s1_331 = (-5202561509149620225) := hf331_0.trans (by first | rfl | decide +kernel)
  rw [ht] at hP1
  obtain ⟨hP, hD⟩ := va_join (wr := [(la0, .inl (cA0, 10, .inl fa0)), (la1, .inl (cA1, 10, .inl fa1)), (ta0, .inl (cB0, 5, .inl fb0)), (ta1, .inl (cB1, 5, .inl fb1)), (ta2, .inl (cB2, 5, .inl fb2)), (ta3, .inl (cB3, 5, .inl fb3)), (ta4, .inl (cB4, 5, .inl fb4)), (ta5, .inl (cB5, 5, .inl fb5)), (ta6, .inl (cB6, 5, .inl fb6)), (ta7, .inl (cB7, 5, .inl fb7)), (ta8, .inl (cB8, 5, .inl fb8)), (ta9, .inl (cB9, 5, .inl fb9))]) (w1 := [(mo, .inr (10, [.int 0, .ref mr, .int 1, .long (-5202561509149620225)]))]) hP hD [12] [0, 1, 2, 3, 4, 5, 6, 7, 8, 9, 10, 11] rfl rfl (by decide) (by decide) hk1 hFc hP1 hD1
  have hP : va_P (dC, dI) vwCl [(la0, .inl (cA0, 10, .inl fa0)), (la1, .inl (cA1, 10, .inl fa1)), (ta0, .inl (cB0, 5, .inl fb0)), (ta1, .inl (cB1, 5, .inl fb1)), (ta2, .inl (cB2, 5, .inl fb2)), (ta3, .inl (cB3, 5, .inl fb3)), (ta4, .inl (cB4, 5, .inl fb4)), (ta5, .inl (cB5, 5, .inl fb5)), (ta6, .inl (cB6, 5, .inl fb6)), (ta7, .inl (cB7, 5, .inl fb7)), (ta8, .inl (cB8, 5, .inl fb8)), (ta9, .inl (cB9, 5, .inl fb9)), (mo, .inr (10, [.int 0, .ref mr, .int 1, .long (-5202561509149620225)]))] H329 := hP
  have hD : va_D A [(la0, .inl (cA0, 10, .inl fa0)), (la1, .inl (cA1, 10, .inl fa1)), (ta0, .inl (cB0, 5, .inl fb0)), (ta1, .inl (cB1, 5, .inl fb1)), (ta2, .inl (cB2, 5, .inl fb2)), (ta3, .inl (cB3, 5, .inl fb3)), (ta4, .inl (cB4, 5, .inl fb4)), (ta5, .inl (cB5, 5, .inl fb5)), (ta6, .inl (cB6, 5, .inl fb6)), (ta7, .inl (cB7, 5, .inl fb7)), (ta8, .inl (cB8, 5, .inl fb8)), (ta9, .inl (cB9, 5, .inl fb9)), (mo, .inr (10, [.int 0, .ref mr, .int 1, .long (-5202561509149620225)]))] := hD
  refine lv_iinc (v := 6) (lv' := [(2, .int 6), (1, .int 3), (0, .ref mo)]) hx hb dX8_digest_115 hl (k := 0) rfl (by decide) (by decide) rfl (fun ls hl => ?_)
  refine lv_goto (tgt := 99) hx hb dX8_digest_118 (by decide) ?_
  refine lv_iload_n hx hb dX8_digest_99 rfl (lv_at hl 0 rfl) ?_
  refine lv_bipush (v := 6) hx hb dX8_digest_100 (by decide) ?_
  refine lv_icmp_ge (tgt := 121) hx hb dX8_digest_102 (by decide) (fun _ => ?_) (fun h => absurd h (by decide))
  refine lv_iinc (v := 4) (lv' := [(1, .int 4), (2, .int 6), (0, .ref mo)]) hx hb dX8_digest_121 hl (k := 1) rfl (by decide) (by decide) rfl (fun ls hl => ?_)
  refine lv_goto (tgt := 83) hx hb dX8_digest_124 (by decide) ?_
  exact cs_QX8_digest_5 l dC dI ed mr ll lt lp ola ota cOl fol la0 la1 cOt fot ta0 ta1 ta2 ta3 ta4 ta5 ta6 ta7 ta8 ta9 mo x9 s9 cA0 fa0 cA1 fa1 cB0 fb0 cB1 fb1 cB2 fb2 cB3 fb3 cB4 fb4 cB5 fb5 cB6 fb6 cB7 fb7 cB8 fb8 cB9 fb9 hol0 hol1 hot0 hot1 hot2 hot3 hot4 hot5 hot6 hot7 hot8 hot9 ha0_0 ha0_1 ha0_2 ha0_3 ha0_4 ha0_5 ha0_6 ha0_7 ha0_8 ha0_9 ha1_0 ha1_1 ha1_2 ha1_3 ha1_4 ha1_5 ha1_6 ha1_7 ha1_8 ha1_9 hb0_0 hb0_1 hb0_2 hb0_3 hb0_4 hb1_0 hb1_1 hb1_2 hb1_3 hb1_4 hb2_0 hb2_1 hb2_2 hb2_3 hb2_4 hb3_0 hb3_1 hb3_2 hb3_3 hb3_4 hb4_0 hb4_1 hb4_2 hb4_3 hb4_4 hb5_0 hb5_1 hb5_2 hb5_3 hb5_4 hb6_0 hb6_1 hb6_2 hb6_3 hb6_4 hb7_0 hb7_1 hb7_2 hb7_3 hb7_4 hb8_0 hb8_1 hb8_2 hb8_3 hb8_4 hb9_0 hb9_1 hb9_2 hb9_3 hb9_4 hx hb hr hml hown hlocks hts hR0 hN hA hAr hH hAe hK hP hD hS hl
set_option maxHeartbeats 4000000 in
set_option maxRecDepth 100000 in
theorem cs_QX8_digest_3 (l : Launch) (dC : Nat → ClassId) (dI : Nat → Nat → Nat) (ed : Nat) (mr : Nat) (ll : Nat) (lt : Nat) (lp : Nat) (ola : Nat) (ota : Nat) (cOl : ClassId) (fol : Nat → Option Nat) (la0 : Nat) (la1 : Nat) (cOt : ClassId) (fot : Nat → Option Nat) (ta0 : Nat) (ta1 : Nat) (ta2 : Nat) (ta3 : Nat) (ta4 : Nat) (ta5 : Nat) (ta6 : Nat) (ta7 : Nat) (ta8 : Nat) (ta9 : Nat) (mo : Nat) (x9 : Int32) (s9 : Int64) (cA0 : ClassId) (fa0 : Nat → Int32) (cA1 : ClassId) (fa1 : Nat → Int32) (cB0 : ClassId) (fb0 : Nat → Int32) (cB1 : ClassId) (fb1 : Nat → Int32) (cB2 : ClassId) (fb2 : Nat → Int32) (cB3 : ClassId) (fb3 : Nat → Int32) (cB4 : ClassId) (fb4 : Nat → Int32) (cB5 : ClassId) (fb5 : Nat → Int32) (cB6 : ClassId) (fb6 : Nat → Int32) (cB7 : ClassId) (fb7 : Nat → Int32) (cB8 : ClassId) (fb8 : Nat → Int32) (cB9 : ClassId) (fb9 : Nat → Int32) (hol0 : fol 0 = some la0) (hol1 : fol 1 = some la1) (hot0 : fot 0 = some ta0) (hot1 : fot 1 = some ta1) (hot2 : fot 2 = some ta2) (hot3 : fot 3 = some ta3) (hot4 : fot 4 = some ta4) (hot5 : fot 5 = some ta5) (hot6 : fot 6 = some ta6) (hot7 : fot 7 = some ta7) (hot8 : fot 8 = some ta8) (hot9 : fot 9 = some ta9) (ha0_0 : fa0 0 = 0) (ha0_1 : fa0 1 = 0) (ha0_2 : fa0 2 = 60) (ha0_3 : fa0 3 = 0) (ha0_4 : fa0 4 = 0) (ha0_5 : fa0 5 = 0) (ha0_6 : fa0 6 = 0) (ha0_7 : fa0 7 = 0) (ha0_8 : fa0 8 = 0) (ha0_9 : fa0 9 = 0) (ha1_0 : fa1 0 = 0) (ha1_1 : fa1 1 = 0) (ha1_2 : fa1 2 = 60) (ha1_3 : fa1 3 = 0) (ha1_4 : fa1 4 = 0) (ha1_5 : fa1 5 = 0) (ha1_6 : fa1 6 = 0) (ha1_7 : fa1 7 = 0) (ha1_8 : fa1 8 = 0) (ha1_9 : fa1 9 = 0) (hb0_0 : fb0 0 = (-1)) (hb0_1 : fb0 1 = 0) (hb0_2 : fb0 2 = 0) (hb0_3 : fb0 3 = 0) (hb0_4 : fb0 4 = 0) (hb1_0 : fb1 0 = (-1)) (hb1_1 : fb1 1 = 0) (hb1_2 : fb1 2 = 0) (hb1_3 : fb1 3 = 0) (hb1_4 : fb1 4 = 0) (hb2_0 : fb2 0 = (-1)) (hb2_1 : fb2 1 = 0) (hb2_2 : fb2 2 = 0) (hb2_3 : fb2 3 = 0) (hb2_4 : fb2 4 = 0) (hb3_0 : fb3 0 = (-1)) (hb3_1 : fb3 1 = 0) (hb3_2 : fb3 2 = 0) (hb3_3 : fb3 3 = 0) (hb3_4 : fb3 4 = 0) (hb4_0 : fb4 0 = (-1)) (hb4_1 : fb4 1 = 0) (hb4_2 : fb4 2 = 0) (hb4_3 : fb4 3 = 0) (hb4_4 : fb4 4 = 0) (hb5_0 : fb5 0 = (-1)) (hb5_1 : fb5 1 = 0) (hb5_2 : fb5 2 = 0) (hb5_3 : fb5 3 = 0) (hb5_4 : fb5 4 = 0) (hb6_0 : fb6 0 = (-1)) (hb6_1 : fb6 1 = 0) (hb6_2 : fb6 2 = 0) (hb6_3 : fb6 3 = 0) (hb6_4 : fb6 4 = 0) (hb7_0 : fb7 0 = (-1)) (hb7_1 : fb7 1 = 0) (hb7_2 : fb7 2 = 0) (hb7_3 : fb7 3 = 0) (hb7_4 : fb7 4 = 0) (hb8_0 : fb8 0 = (-1)) (hb8_1 : fb8 1 = 0) (hb8_2 : fb8 2 = 0) (hb8_3 : fb8 3 = 0) (hb8_4 : fb8 4 = 0) (hb9_0 : fb9 0 = (-1)) (hb9_1 : fb9 1 = 0) (hb9_2 : fb9 2 = 0) (hb9_3 : fb9 3 = 0) (hb9_4 : fb9 4 = 0) {p : Program} {e : Env} {s : State} {m : MethodId} {below : List Frame} {meth : Method} {c : Code} {A : Nat → Prop} {H : Heap} {locs : List Loc} {ls : Array Slot} (hx : p.tables.exec = Jvm.exec) (hb : c.code = cX8_digest) (hr : meth.sig.returnType = (some .long)) (hml : c.maxLocals = 7) (hown : s.vm.findClass RX8 = some m.cls) (hlocks : meth.locks = false) (hts : ∀ w ∈ wsX8_digest, w.before ([.ref mo] : List Value).toArray s = true) (hR0 : va_P (dC, dI) vwCl [(mr, .inr (9, [.ref ll, .ref lt, .ref lp, .int 0, .int 0, .int 0, .int 0, .int 0, .int 0, .int 0, .int (-1), .int 0, .int 0, .int 0])), (ll, .inr (1, [.int 2, .ref ola, .int 2])), (lt, .inr (1, [.int 10, .ref ota, .int 10])), (lp, .inr (1, [.int 0, .ref ed, .int 0])), (ola, .inl (cOl, 10, .inr (.inr (.inr (.inr fol))))), (ota, .inl (cOt, 10, .inr (.inr (.inr (.inr fot)))))] s.heap) (hN : zN s) (hA : ∀ q : Nat, s.heap.size ≤ q → A q) (hAr : ∀ p ∈ ([(mr, .inr (9, [.ref ll, .ref lt, .ref lp, .int 0, .int 0, .int 0, .int 0, .int 0, .int 0, .int 0, .int (-1), .int 0, .int 0, .int 0])), (ll, .inr (1, [.int 2, .ref ola, .int 2])), (lt, .inr (1, [.int 10, .ref ota, .int 10])), (lp, .inr (1, [.int 0, .ref ed, .int 0])), (ola, .inl (cOl, 10, .inr (.inr (.inr (.inr fol))))), (ota, .inl (cOt, 10, .inr (.inr (.inr (.inr fot)))))] : va_W), ¬ A p.1) (hH : zH ed A s s.heap) (hAe : va_A [(mo, .inr (10, [.int x9, .ref mr, .int 1, .long s9])), (la0, .inl (cA0, 10, .inl fa0)), (la1, .inl (cA1, 10, .inl fa1)), (ta0, .inl (cB0, 5, .inl fb0)), (ta1, .inl (cB1, 5, .inl fb1)), (ta2, .inl (cB2, 5, .inl fb2)), (ta3, .inl (cB3, 5, .inl fb3)), (ta4, .inl (cB4, 5, .inl fb4)), (ta5, .inl (cB5, 5, .inl fb5)), (ta6, .inl (cB6, 5, .inl fb6)), (ta7, .inl (cB7, 5, .inl fb7)), (ta8, .inl (cB8, 5, .inl fb8)), (ta9, .inl (cB9, 5, .inl fb9))] s.heap.size = A) (hK : va_K (dC, dI) vwCl [(cOl, .object "java/lang/Object"), (cOt, .object "java/lang/Object"), (cA0, .int), (cA1, .int), (cB0, .int), (cB1, .int), (cB2, .int), (cB3, .int), (cB4, .int), (cB5, .int), (cB6, .int), (cB7, .int), (cB8, .int), (cB9, .int)] s) (hP : va_P (dC, dI) vwCl [(la0, .inl (cA0, 10, .inl fa0)), (la1, .inl (cA1, 10, .inl fa1)), (ta0, .inl (cB0, 5, .inl fb0)), (ta1, .inl (cB1, 5, .inl fb1)), (ta2, .inl (cB2, 5, .inl fb2)), (ta3, .inl (cB3, 5, .inl fb3)), (ta4, .inl (cB4, 5, .inl fb4)), (ta5, .inl (cB5, 5, .inl fb5)), (ta6, .inl (cB6, 5, .inl fb6)), (ta7, .inl (cB7, 5, .inl fb7)), (ta8, .inl (cB8, 5, .inl fb8)), (ta9, .inl (cB9, 5, .inl fb9)), (mo, .inr (10, [.int 0, .ref mr, .int 1, .long (-1160429273186388225)]))] H) (hD : va_D A [(la0, .inl (cA0, 10, .inl fa0)), (la1, .inl (cA1, 10, .inl fa1)), (ta0, .inl (cB0, 5, .inl fb0)), (ta1, .inl (cB1, 5, .inl fb1)), (ta2, .inl (cB2, 5, .inl fb2)), (ta3, .inl (cB3, 5, .inl fb3)), (ta4, .inl (cB4, 5, .inl fb4)), (ta5, .inl (cB5, 5, .inl fb5)), (ta6, .inl (cB6, 5, .inl fb6)), (ta7, .inl (cB7, 5, .inl fb7)), (ta8, .inl (cB8, 5, .inl fb8)), (ta9, .inl (cB9, 5, .inl fb9)), (mo, .inr (10, [.int 0, .ref mr, .int 1, .long (-1160429273186388225)]))]) (hS : va_S A s.heap H locs) (hl : lv_has ls 7 [(1, .int 0), (2, .int 10), (0, .ref mo)]) : W p l e (headSpec wsX8_digest ({ frames := 9, cells := 59, slots := 18922, locals := 211 } : Jvm.Room)).room s m (([.ref mo] : List Value).toArray) below meth c H locs 19 361 (MQ below (va_Ql (fun (r : Int64) (_ : Unit) => r = 1244744325466633148) (fun (_ : Unit) (t : State) => (18432 ≤ zc_S s.heap.size t.heap) ∧ (fa0 0 = 0 ∧ fa0 1 = 0 ∧ fa0 2 = 60 ∧ fa0 3 = 0 ∧ fa0 4 = 0 ∧ fa0 5 = 0 ∧ fa0 6 = 0 ∧ fa0 7 = 0 ∧ fa0 8 = 0 ∧ fa0 9 = 0 ∧ fa1 0 = 0 ∧ fa1 1 = 0 ∧ fa1 2 = 60 ∧ fa1 3 = 0 ∧ fa1 4 = 0 ∧ fa1 5 = 0 ∧ fa1 6 = 0 ∧ fa1 7 = 0 ∧ fa1 8 = 0 ∧ fa1 9 = 0 ∧ fb0 0 = (-1) ∧ fb0 1 = 0 ∧ fb0 2 = 0 ∧ fb0 3 = 0 ∧ fb0 4 = 0 ∧ fb1 0 = (-1) ∧ fb1 1 = 0 ∧ fb1 2 = 0 ∧ fb1 3 = 0 ∧ fb1 4 = 0 ∧ fb2 0 = (-1) ∧ fb2 1 = 0 ∧ fb2 2 = 0 ∧ fb2 3 = 0 ∧ fb2 4 = 0 ∧ fb3 0 = (-1) ∧ fb3 1 = 0 ∧ fb3 2 = 0 ∧ fb3 3 = 0 ∧ fb3 4 = 0 ∧ fb4 0 = (-1) ∧ fb4 1 = 0 ∧ fb4 2 = 0 ∧ fb4 3 = 0 ∧ fb4 4 = 0 ∧ fb5 0 = (-1) ∧ fb5 1 = 0 ∧ fb5 2 = 0 ∧ fb5 3 = 0 ∧ fb5 4 = 0 ∧ fb6 0 = (-1) ∧ fb6 1 = 0 ∧ fb6 2 = 0 ∧ fb6 3 = 0 ∧ fb6 4 = 0 ∧ fb7 0 = (-1) ∧ fb7 1 = 0 ∧ fb7 2 = 0 ∧ fb7 3 = 0 ∧ fb7 4 = 0 ∧ fb8 0 = (-1) ∧ fb8 1 = 0 ∧ fb8 2 = 0 ∧ fb8 3 = 0 ∧ fb8 4 = 0 ∧ fb9 0 = (-1) ∧ fb9 1 = 0 ∧ fb9 2 = 0 ∧ fb9 3 = 0 ∧ fb9 4 = 0) ∧ va_P (dC, dI) vwCl [(mo, .inr (10, [.int 0, .ref mr, .int 1, .long 1244744325466633148])), (la0, .inl (cA0, 10, .inl fa0)), (la1, .inl (cA1, 10, .inl fa1)), (ta0, .inl (cB0, 5, .inl fb0)), (ta1, .inl (cB1, 5, .inl fb1)), (ta2, .inl (cB2, 5, .inl fb2)), (ta3, .inl (cB3, 5, .inl fb3)), (ta4, .inl (cB4, 5, .inl fb4)), (ta5, .inl (cB5, 5, .inl fb5)), (ta6, .inl (cB6, 5, .inl fb6)), (ta7, .inl (cB7, 5, .inl fb7)), (ta8, .inl (cB8, 5, .inl fb8)), (ta9, .inl (cB9, 5, .inl fb9))] t.heap ∧ va_D A [(mo, .inr (10, [.int 0, .ref mr, .int 1, .long 1244744325466633148])), (la0, .inl (cA0, 10, .inl fa0)), (la1, .inl (cA1, 10, .inl fa1)), (ta0, .inl (cB0, 5, .inl fb0)), (ta1, .inl (cB1, 5, .inl fb1)), (ta2, .inl (cB2, 5, .inl fb2)), (ta3, .inl (cB3, 5, .inl fb3)), (ta4, .inl (cB4, 5, .inl fb4)), (ta5, .inl (cB5, 5, .inl fb5)), (ta6, .inl (cB6, 5, .inl fb6)), (ta7, .inl (cB7, 5, .inl fb7)), (ta8, .inl (cB8, 5, .inl fb8)), (ta9, .inl (cB9, 5, .inl fb9))] ∧ va_K (dC, dI) vwCl [(cA0, .int), (cA1, .int), (cB0, .int), (cB1, .int), (cB2, .int), (cB3, .int), (cB4, .int), (cB5, .int), (cB6, .int), (cB7, .int), (cB8, .int), (cB9, .int)] t) A) (([.ref mo] : List Value).toArray) s 59 18922 A) (F0 m 83 ls []) := by
  refine lv_iload_n hx hb dX8_digest_83 rfl (lv_at hl 0 rfl) ?_
  refine lv_aload_n hx hb dX8_digest_84 rfl (lv_at hl 2 rfl) ?_
  refine va_get (D := (dC, dI)) (ci := 10) (v := .ref mr) (C := RX8) (T := TX8) (N := 4) hx hb hts zi_X8_digest_X8 hown hK hP 12 rfl rfl 1 (by decide) (hts (.fieldLink RX8 10 "LockRoomsModel" "room" "LLockRoomsModel$Room;") (by decide +kernel)) (fun _ h9 => h9) rfl dX8_digest_85 ?_
  refine va_getN (D := (dC, dI)) (ci := 9) (v := .ref lt) (C := RX7) (T := TX7) (N := 14) hx hb hts zi_X8_digest_X7 hown hK (zo_R hR0 hS hAr) 0 rfl rfl 1 (by decide) (va_Nw.use rfl (hN.1 ("LockRoomsModel", 38, "LockRoomsModel$Room", "things", "Ljava/util/ArrayList;", "LockRoomsModel") (List.mem_of_getElem? (i := 2) rfl))) (fun _ h9 => h9) rfl dX8_digest_88 ?_
  have hPr := ((zo_R hR0 hS hAr)).sub (ws' := [(lt, .inr (1, [.int 10, .ref ota, .int 10]))]) [2] rfl
  have hPc := hP.sub (ws' := []) [] rfl
  have hDc := hD.sub (ws' := []) [] (by decide) rfl
  have hKc := hK.sub (tys' := []) [] rfl
  have hFc := va_free (wc := []) hD hS hA [] rfl
  refine va_calli (va_runV (As := []) (rest := [.int 0]) ⟨hx, hb, hml, hown, hts⟩ (cz_Qsize l dC dI ed H.size lt 10 ota 10) (cwV 0 hts gX8_digest_Jx4a65c_size_8abf5 rfl rfl rfl (by decide +kernel) ⟨Nat.le_of_ble_eq_true rfl, Nat.le_of_ble_eq_true rfl⟩) ⟨zb_blind, va_recv hK (zo_R hR0 hS hAr) (ci := 1) (q0 := 2) rfl rfl, fun U hU hW => ⟨rfl, zb_mk hU hW hPr hPc hKc hDc hN hH hS hFc zx_e⟩⟩ rfl rfl hl.1 rfl (lv_room (Nat.le_of_ble_eq_true rfl)) dX8_digest_91 ⟨Nat.le_of_ble_eq_true rfl, Nat.le_of_ble_eq_true rfl⟩) hS (fun q _ h => hFc q h) hFc (fun r205 u t H204 locs ht hvm hw hB hz1 hk1 hS => ?_)
  obtain rfl : r205 = 10 := hw.trans (by decide +kernel)
  have hP := zo_K hP hk1
  refine lv_icmp_ge (tgt := 127) hx hb dX8_digest_94 (by decide) (fun h => absurd h (by decide)) (fun _ => ?_)
  refine lv_iconst (v := 0) hx hb dX8_digest_97 (by decide) ?_
  refine lv_istore_n (lv' := [(2, .int 0), (1, .int 0), (0, .ref mo)]) hx hb dX8_digest_98 rfl hl (by decide) rfl (fun ls hl => ?_)
  refine lv_iload_n hx hb dX8_digest_99 rfl (lv_at hl 0 rfl) ?_
  refine lv_bipush (v := 6) hx hb dX8_digest_100 (by decide) ?_
  refine lv_icmp_ge (tgt := 121) hx hb dX8_digest_102 (by decide) (fun h => absurd h (by decide)) (fun _ => ?_)
  refine lv_aload_n hx hb dX8_digest_105 rfl (lv_at hl 2 rfl) ?_
  refine lv_aload_n hx hb dX8_digest_106 rfl (lv_at hl 2 rfl) ?_
  refine lv_iload_n hx hb dX8_digest_107 rfl (lv_at hl 1 rfl) ?_
  refine lv_iload_n hx hb dX8_digest_108 rfl (lv_at hl 0 rfl) ?_
  have hPr := (show va_P (dC, dI) vwCl [(mo, .inr (10, [.int 0, .ref mr, .int 1, .long (-1160429273186388225)])), (mr, .inr (9, [.ref ll, .ref lt, .ref lp, .int 0, .int 0, .int 0, .int 0, .int 0, .int 0, .int 0, .int (-1), .int 0, .int 0, .int 0])), (lt, .inr (1, [.int 10, .ref ota, .int 10])), (ota, .inl (cOt, 10, .inr (.inr (.inr (.inr fot))))), (ta0, .inl (cB0, 5, .inl fb0))] H204 from (zo_cons ((hP) 12 _ rfl) (zo_cons (((zo_R hR0 hS hAr)) 0 _ rfl) (zo_cons (((zo_R hR0 hS hAr)) 2 _ rfl) (zo_cons (((zo_R hR0 hS hAr)) 5 _ rfl) (zo_cons ((hP) 2 _ rfl) (zo_nil : va_P (dC, dI) vwCl [] H204)))))))
  have hPc := hP.sub (ws' := []) [] rfl
  have hDc := hD.sub (ws' := []) [] (by decide) rfl
  have hKc := hK.sub (tys' := [(cOt, .object "java/lang/Object"), (cB0, .int)]) [1, 4] rfl
  have hFc := va_free (wc := []) hD hS hA [] rfl
  refine va_calli (va_runV (As := [.int 0, .int 0]) (rest := [.ref mo]) ⟨hx, hb, hml, hown, hts⟩ (cz_QofThingNow_0_0 l dC dI ed H204.size mo mr 0 (-1160429273186388225) ll lt lp ota cOt fot ta0 cB0 fb0 hot0 hb0_0) (cwV 2 hts gX8_digest_X8_ofThingNow rfl rfl rfl (by decide +kernel) ⟨Nat.le_of_ble_eq_true rfl, Nat.le_of_ble_eq_true rfl⟩) ⟨zb_blind, va_recv hK hP (ci := 10) (q0 := 12) rfl rfl, fun U hU hW => ⟨rfl, zb_mk hU hW hPr hPc hKc hDc hN hH hS hFc zx_e⟩⟩ rfl rfl hl.1 rfl (lv_room (Nat.le_of_ble_eq_true rfl)) dX8_digest_109 ⟨Nat.le_of_ble_eq_true rfl, Nat.le_of_ble_eq_true rfl⟩) hS (fun q _ h => hFc q h) hFc (fun r207 u t H206 locs ht hvm hw hB hz1 hk1 hS => ?_)
  obtain rfl : r207 = (-1) := hw
  have hP := zo_K hP hk1
  have hPr := (zo_nil : va_P (dC, dI) vwCl [] H206)
  have hPc := hP.sub (ws' := [(mo, .inr (10, [.int 0, .ref mr, .int 1, .long (-1160429273186388225)]))]) [12] rfl
  have hDc := hD.sub (ws' := [(mo, .inr (10, [.int 0, .ref mr, .int 1, .long (-1160429273186388225)]))]) [12] (by decide) rfl
  have hKc := hK.sub (tys' := []) [] rfl
  have hFc := va_free (wc := [(mo, .inr (10, [.int 0, .ref mr, .int 1, .long (-1160429273186388225)]))]) hD hS hA [12] rfl
  refine va_callv (va_runV (As := [.int (-1)]) (rest := []) ⟨hx, hb, hml, hown, hts⟩ (cz_X8_add l dC dI ed H206.size mo mr 0 (-1160429273186388225) (-1)) (cwV 1 hts gX8_digest_X8_add rfl rfl rfl (by decide +kernel) ⟨Nat.le_of_ble_eq_true rfl, Nat.le_of_ble_eq_true rfl⟩) ⟨zb_blind, va_recv hK hP (ci := 10) (q0 := 12) rfl rfl, fun U hU hW => ⟨rfl, zb_mk hU hW hPr hPc hKc hDc hN hH hS hFc zx_nil⟩⟩ rfl rfl hl.1 rfl (lv_room (Nat.le_of_ble_eq_true rfl)) dX8_digest_112 ⟨Nat.le_of_ble_eq_true rfl, Nat.le_of_ble_eq_true rfl⟩) hS (fun q _ h => hFc q h) hFc (fun u t H208 locs ht hvm hw hB hz1 hk1 hS => ?_)
  obtain ⟨s1_210, hf210_0, hP1, hD1, hK1⟩ := hB
  obtain rfl : s1_210 = 920180678641068256 := hf210_0.trans (by first | rfl | decide +kernel)
  rw [ht] at hP1
  obtain ⟨hP, hD⟩ := va_join (wr := [(la0, .inl (cA0, 10, .inl fa0)), (la1, .inl (cA1, 10, .inl fa1)), (ta0, .inl (cB0, 5, .inl fb0)), (ta1, .inl (cB1, 5, .inl fb1)), (ta2, .inl (cB2, 5, .inl fb2)), (ta3, .inl (cB3, 5, .inl fb3)), (ta4, .inl (cB4, 5, .inl fb4)), (ta5, .inl (cB5, 5, .inl fb5)), (ta6, .inl (cB6, 5, .inl fb6)), (ta7, .inl (cB7, 5, .inl fb7)), (ta8, .inl (cB8, 5, .inl fb8)), (ta9, .inl (cB9, 5, .inl fb9))]) (w1 := [(mo, .inr (10, [.int 0, .ref mr, .int 1, .long 920180678641068256]))]) hP hD [12] [0, 1, 2, 3, 4, 5, 6, 7, 8, 9, 10, 11] rfl rfl (by decide) (by decide) hk1 hFc hP1 hD1
  have hP : va_P (dC, dI) vwCl [(la0, .inl (cA0, 10, .inl fa0)), (la1, .inl (cA1, 10, .inl fa1)), (ta0, .inl (cB0, 5, .inl fb0)), (ta1, .inl (cB1, 5, .inl fb1)), (ta2, .inl (cB2, 5, .inl fb2)), (ta3, .inl (cB3, 5, .inl fb3)), (ta4, .inl (cB4, 5, .inl fb4)), (ta5, .inl (cB5, 5, .inl fb5)), (ta6, .inl (cB6, 5, .inl fb6)), (ta7, .inl (cB7, 5, .inl fb7)), (ta8, .inl (cB8, 5, .inl fb8)), (ta9, .inl (cB9, 5, .inl fb9)), (mo, .inr (10, [.int 0, .ref mr, .int 1, .long 920180678641068256]))] H208 := hP
  have hD : va_D A [(la0, .inl (cA0, 10, .inl fa0)), (la1, .inl (cA1, 10, .inl fa1)), (ta0, .inl (cB0, 5, .inl fb0)), (ta1, .inl (cB1, 5, .inl fb1)), (ta2, .inl (cB2, 5, .inl fb2)), (ta3, .inl (cB3, 5, .inl fb3)), (ta4, .inl (cB4, 5, .inl fb4)), (ta5, .inl (cB5, 5, .inl fb5)), (ta6, .inl (cB6, 5, .inl fb6)), (ta7, .inl (cB7, 5, .inl fb7)), (ta8, .inl (cB8, 5, .inl fb8)), (ta9, .inl (cB9, 5, .inl fb9)), (mo, .inr (10, [.int 0, .ref mr, .int 1, .long 920180678641068256]))] := hD
  refine lv_iinc (v := 1) (lv' := [(2, .int 1), (1, .int 0), (0, .ref mo)]) hx hb dX8_digest_115 hl (k := 0) rfl (by decide) (by decide) rfl (fun ls hl => ?_)
  refine lv_goto (tgt := 99) hx hb dX8_digest_118 (by decide) ?_
  refine lv_iload_n hx hb dX8_digest_99 rfl (lv_at hl 0 rfl) ?_
  refine lv_bipush (v := 6) hx hb dX8_digest_100 (by decide) ?_
  refine lv_icmp_ge (tgt := 121) hx hb dX8_digest_102 (by decide) (fun h => absurd h (by decide)) (fun _ => ?_)
  refine lv_aload_n hx hb dX8_digest_105 rfl (lv_at hl 2 rfl) ?_
  refine lv_aload_n hx hb dX8_digest_106 rfl (lv_at hl 2 rfl) ?_
  refine lv_iload_n hx hb dX8_digest_107 rfl (lv_at hl 1 rfl) ?_
  refine lv_iload_n hx hb dX8_digest_108 rfl (lv_at hl 0 rfl) ?_
  have hPr := (show va_P (dC, dI) vwCl [(mo, .inr (10, [.int 0, .ref mr, .int 1, .long 920180678641068256])), (mr, .inr (9, [.ref ll, .ref lt, .ref lp, .int 0, .int 0, .int 0, .int 0, .int 0, .int 0, .int 0, .int (-1), .int 0, .int 0, .int 0])), (lt, .inr (1, [.int 10, .ref ota, .int 10])), (ota, .inl (cOt, 10, .inr (.inr (.inr (.inr fot))))), (ta0, .inl (cB0, 5, .inl fb0))] H208 from (zo_cons ((hP) 12 _ rfl) (zo_cons (((zo_R hR0 hS hAr)) 0 _ rfl) (zo_cons (((zo_R hR0 hS hAr)) 2 _ rfl) (zo_cons (((zo_R hR0 hS hAr)) 5 _ rfl) (zo_cons ((hP) 2 _ rfl) (zo_nil : va_P (dC, dI) vwCl [] H208)))))))
  have hPc := hP.sub (ws' := []) [] rfl
  have hDc := hD.sub (ws' := []) [] (by decide) rfl
  have hKc := hK.sub (tys' := [(cOt, .object "java/lang/Object"), (cB0, .int)]) [1, 4] rfl
  have hFc := va_free (wc := []) hD hS hA [] rfl
  refine va_calli (va_runV (As := [.int 0, .int 1]) (rest := [.ref mo]) ⟨hx, hb, hml, hown, hts⟩ (cz_QofThingNow_0_1 l dC dI ed H208.size mo mr 0 920180678641068256 ll lt lp ota cOt fot ta0 cB0 fb0 hot0 hb0_1) (cwV 2 hts gX8_digest_X8_ofThingNow rfl rfl rfl (by decide +kernel) ⟨Nat.le_of_ble_eq_true rfl, Nat.le_of_ble_eq_true rfl⟩) ⟨zb_blind, va_recv hK hP (ci := 10) (q0 := 12) rfl rfl, fun U hU hW => ⟨rfl, zb_mk hU hW hPr hPc hKc hDc hN hH hS hFc zx_e⟩⟩ rfl rfl hl.1 rfl (lv_room (Nat.le_of_ble_eq_true rfl)) dX8_digest_109 ⟨Nat.le_of_ble_eq_true rfl, Nat.le_of_ble_eq_true rfl⟩) hS (fun q _ h => hFc q h) hFc (fun r212 u t H211 locs ht hvm hw hB hz1 hk1 hS => ?_)
  obtain rfl : r212 = 0 := hw
  have hP := zo_K hP hk1
  have hPr := (zo_nil : va_P (dC, dI) vwCl [] H211)
  have hPc := hP.sub (ws' := [(mo, .inr (10, [.int 0, .ref mr, .int 1, .long 920180678641068256]))]) [12] rfl
  have hDc := hD.sub (ws' := [(mo, .inr (10, [.int 0, .ref mr, .int 1, .long 920180678641068256]))]) [12] (by decide) rfl
  have hKc := hK.sub (tys' := []) [] rfl
  have hFc := va_free (wc := [(mo, .inr (10, [.int 0, .ref mr, .int 1, .long 920180678641068256]))]) hD hS hA [12] rfl
  refine va_callv (va_runV (As := [.int 0]) (rest := []) ⟨hx, hb, hml, hown, hts⟩ (cz_X8_add l dC dI ed H211.size mo mr 0 920180678641068256 0) (cwV 1 hts gX8_digest_X8_add rfl rfl rfl (by decide +kernel) ⟨Nat.le_of_ble_eq_true rfl, Nat.le_of_ble_eq_true rfl⟩) ⟨zb_blind, va_recv hK hP (ci := 10) (q0 := 12) rfl rfl, fun U hU hW => ⟨rfl, zb_mk hU hW hPr hPc hKc hDc hN hH hS hFc zx_nil⟩⟩ rfl rfl hl.1 rfl (lv_room (Nat.le_of_ble_eq_true rfl)) dX8_digest_112 ⟨Nat.le_of_ble_eq_true rfl, Nat.le_of_ble_eq_true rfl⟩) hS (fun q _ h => hFc q h) hFc (fun u t H213 locs ht hvm hw hB hz1 hk1 hS => ?_)
  obtain ⟨s1_215, hf215_0, hP1, hD1, hK1⟩ := hB
  obtain rfl : s1_215 = (-8367887109545987296) := hf215_0.trans (by first | rfl | decide +kernel)
  rw [ht] at hP1
  obtain ⟨hP, hD⟩ := va_join (wr := [(la0, .inl (cA0, 10, .inl fa0)), (la1, .inl (cA1, 10, .inl fa1)), (ta0, .inl (cB0, 5, .inl fb0)), (ta1, .inl (cB1, 5, .inl fb1)), (ta2, .inl (cB2, 5, .inl fb2)), (ta3, .inl (cB3, 5, .inl fb3)), (ta4, .inl (cB4, 5, .inl fb4)), (ta5, .inl (cB5, 5, .inl fb5)), (ta6, .inl (cB6, 5, .inl fb6)), (ta7, .inl (cB7, 5, .inl fb7)), (ta8, .inl (cB8, 5, .inl fb8)), (ta9, .inl (cB9, 5, .inl fb9))]) (w1 := [(mo, .inr (10, [.int 0, .ref mr, .int 1, .long (-8367887109545987296)]))]) hP hD [12] [0, 1, 2, 3, 4, 5, 6, 7, 8, 9, 10, 11] rfl rfl (by decide) (by decide) hk1 hFc hP1 hD1
  have hP : va_P (dC, dI) vwCl [(la0, .inl (cA0, 10, .inl fa0)), (la1, .inl (cA1, 10, .inl fa1)), (ta0, .inl (cB0, 5, .inl fb0)), (ta1, .inl (cB1, 5, .inl fb1)), (ta2, .inl (cB2, 5, .inl fb2)), (ta3, .inl (cB3, 5, .inl fb3)), (ta4, .inl (cB4, 5, .inl fb4)), (ta5, .inl (cB5, 5, .inl fb5)), (ta6, .inl (cB6, 5, .inl fb6)), (ta7, .inl (cB7, 5, .inl fb7)), (ta8, .inl (cB8, 5, .inl fb8)), (ta9, .inl (cB9, 5, .inl fb9)), (mo, .inr (10, [.int 0, .ref mr, .int 1, .long (-8367887109545987296)]))] H213 := hP
  have hD : va_D A [(la0, .inl (cA0, 10, .inl fa0)), (la1, .inl (cA1, 10, .inl fa1)), (ta0, .inl (cB0, 5, .inl fb0)), (ta1, .inl (cB1, 5, .inl fb1)), (ta2, .inl (cB2, 5, .inl fb2)), (ta3, .inl (cB3, 5, .inl fb3)), (ta4, .inl (cB4, 5, .inl fb4)), (ta5, .inl (cB5, 5, .inl fb5)), (ta6, .inl (cB6, 5, .inl fb6)), (ta7, .inl (cB7, 5, .inl fb7)), (ta8, .inl (cB8, 5, .inl fb8)), (ta9, .inl (cB9, 5, .inl fb9)), (mo, .inr (10, [.int 0, .ref mr, .int 1, .long (-8367887109545987296)]))] := hD
  refine lv_iinc (v := 2) (lv' := [(2, .int 2), (1, .int 0), (0, .ref mo)]) hx hb dX8_digest_115 hl (k := 0) rfl (by decide) (by decide) rfl (fun ls hl => ?_)
  refine lv_goto (tgt := 99) hx hb dX8_digest_118 (by decide) ?_
  refine lv_iload_n hx hb dX8_digest_99 rfl (lv_at hl 0 rfl) ?_
  refine lv_bipush (v := 6) hx hb dX8_digest_100 (by decide) ?_
  refine lv_icmp_ge (tgt := 121) hx hb dX8_digest_102 (by decide) (fun h => absurd h (by decide)) (fun _ => ?_)
  refine lv_aload_n hx hb dX8_digest_105 rfl (lv_at hl 2 rfl) ?_
  refine lv_aload_n hx hb dX8_digest_106 rfl (lv_at hl 2 rfl) ?_
  refine lv_iload_n hx hb dX8_digest_107 rfl (lv_at hl 1 rfl) ?_
  refine lv_iload_n hx hb dX8_digest_108 rfl (lv_at hl 0 rfl) ?_
  have hPr := (show va_P (dC, dI) vwCl [(mo, .inr (10, [.int 0, .ref mr, .int 1, .long (-8367887109545987296)])), (mr, .inr (9, [.ref ll, .ref lt, .ref lp, .int 0, .int 0, .int 0, .int 0, .int 0, .int 0, .int 0, .int (-1), .int 0, .int 0, .int 0])), (lt, .inr (1, [.int 10, .ref ota, .int 10])), (ota, .inl (cOt, 10, .inr (.inr (.inr (.inr fot))))), (ta0, .inl (cB0, 5, .inl fb0))] H213 from (zo_cons ((hP) 12 _ rfl) (zo_cons (((zo_R hR0 hS hAr)) 0 _ rfl) (zo_cons (((zo_R hR0 hS hAr)) 2 _ rfl) (zo_cons (((zo_R hR0 hS hAr)) 5 _ rfl) (zo_cons ((hP) 2 _ rfl) (zo_nil : va_P (dC, dI) vwCl [] H213)))))))
  have hPc := hP.sub (ws' := []) [] rfl
  have hDc := hD.sub (ws' := []) [] (by decide) rfl
  have hKc := hK.sub (tys' := [(cOt, .object "java/lang/Object"), (cB0, .int)]) [1, 4] rfl
  have hFc := va_free (wc := []) hD hS hA [] rfl
  refine va_calli (va_runV (As := [.int 0, .int 2]) (rest := [.ref mo]) ⟨hx, hb, hml, hown, hts⟩ (cz_QofThingNow_0_2 l dC dI ed H213.size mo mr 0 (-8367887109545987296) ll lt lp ota cOt fot ta0 cB0 fb0 hot0 hb0_2) (cwV 2 hts gX8_digest_X8_ofThingNow rfl rfl rfl (by decide +kernel) ⟨Nat.le_of_ble_eq_true rfl, Nat.le_of_ble_eq_true rfl⟩) ⟨zb_blind, va_recv hK hP (ci := 10) (q0 := 12) rfl rfl, fun U hU hW => ⟨rfl, zb_mk hU hW hPr hPc hKc hDc hN hH hS hFc zx_e⟩⟩ rfl rfl hl.1 rfl (lv_room (Nat.le_of_ble_eq_true rfl)) dX8_digest_109 ⟨Nat.le_of_ble_eq_true rfl, Nat.le_of_ble_eq_true rfl⟩) hS (fun q _ h => hFc q h) hFc (fun r217 u t H216 locs ht hvm hw hB hz1 hk1 hS => ?_)
  obtain rfl : r217 = 0 := hw
  have hP := zo_K hP hk1
  have hPr := (zo_nil : va_P (dC, dI) vwCl [] H216)
  have hPc := hP.sub (ws' := [(mo, .inr (10, [.int 0, .ref mr, .int 1, .long (-8367887109545987296)]))]) [12] rfl
  have hDc := hD.sub (ws' := [(mo, .inr (10, [.int 0, .ref mr, .int 1, .long (-8367887109545987296)]))]) [12] (by decide) rfl
  have hKc := hK.sub (tys' := []) [] rfl
  have hFc := va_free (wc := [(mo, .inr (10, [.int 0, .ref mr, .int 1, .long (-8367887109545987296)]))]) hD hS hA [12] rfl
  refine va_callv (va_runV (As := [.int 0]) (rest := []) ⟨hx, hb, hml, hown, hts⟩ (cz_X8_add l dC dI ed H216.size mo mr 0 (-8367887109545987296) 0) (cwV 1 hts gX8_digest_X8_add rfl rfl rfl (by decide +kernel) ⟨Nat.le_of_ble_eq_true rfl, Nat.le_of_ble_eq_true rfl⟩) ⟨zb_blind, va_recv hK hP (ci := 10) (q0 := 12) rfl rfl, fun U hU hW => ⟨rfl, zb_mk hU hW hPr hPc hKc hDc hN hH hS hFc zx_nil⟩⟩ rfl rfl hl.1 rfl (lv_room (Nat.le_of_ble_eq_true rfl)) dX8_digest_112 ⟨Nat.le_of_ble_eq_true rfl, Nat.le_of_ble_eq_true rfl⟩) hS (fun q _ h => hFc q h) hFc (fun u t H218 locs ht hvm hw hB hz1 hk1 hS => ?_)
  obtain ⟨s1_220, hf220_0, hP1, hD1, hK1⟩ := hB
  obtain rfl : s1_220 = (-1150083363991883552) := hf220_0.trans (by first | rfl | decide +kernel)
  rw [ht] at hP1
  obtain ⟨hP, hD⟩ := va_join (wr := [(la0, .inl (cA0, 10, .inl fa0)), (la1, .inl (cA1, 10, .inl fa1)), (ta0, .inl (cB0, 5, .inl fb0)), (ta1, .inl (cB1, 5, .inl fb1)), (ta2, .inl (cB2, 5, .inl fb2)), (ta3, .inl (cB3, 5, .inl fb3)), (ta4, .inl (cB4, 5, .inl fb4)), (ta5, .inl (cB5, 5, .inl fb5)), (ta6, .inl (cB6, 5, .inl fb6)), (ta7, .inl (cB7, 5, .inl fb7)), (ta8, .inl (cB8, 5, .inl fb8)), (ta9, .inl (cB9, 5, .inl fb9))]) (w1 := [(mo, .inr (10, [.int 0, .ref mr, .int 1, .long (-1150083363991883552)]))]) hP hD [12] [0, 1, 2, 3, 4, 5, 6, 7, 8, 9, 10, 11] rfl rfl (by decide) (by decide) hk1 hFc hP1 hD1
  have hP : va_P (dC, dI) vwCl [(la0, .inl (cA0, 10, .inl fa0)), (la1, .inl (cA1, 10, .inl fa1)), (ta0, .inl (cB0, 5, .inl fb0)), (ta1, .inl (cB1, 5, .inl fb1)), (ta2, .inl (cB2, 5, .inl fb2)), (ta3, .inl (cB3, 5, .inl fb3)), (ta4, .inl (cB4, 5, .inl fb4)), (ta5, .inl (cB5, 5, .inl fb5)), (ta6, .inl (cB6, 5, .inl fb6)), (ta7, .inl (cB7, 5, .inl fb7)), (ta8, .inl (cB8, 5, .inl fb8)), (ta9, .inl (cB9, 5, .inl fb9)), (mo, .inr (10, [.int 0, .ref mr, .int 1, .long (-1150083363991883552)]))] H218 := hP
  have hD : va_D A [(la0, .inl (cA0, 10, .inl fa0)), (la1, .inl (cA1, 10, .inl fa1)), (ta0, .inl (cB0, 5, .inl fb0)), (ta1, .inl (cB1, 5, .inl fb1)), (ta2, .inl (cB2, 5, .inl fb2)), (ta3, .inl (cB3, 5, .inl fb3)), (ta4, .inl (cB4, 5, .inl fb4)), (ta5, .inl (cB5, 5, .inl fb5)), (ta6, .inl (cB6, 5, .inl fb6)), (ta7, .inl (cB7, 5, .inl fb7)), (ta8, .inl (cB8, 5, .inl fb8)), (ta9, .inl (cB9, 5, .inl fb9)), (mo, .inr (10, [.int 0, .ref mr, .int 1, .long (-1150083363991883552)]))] := hD
  refine lv_iinc (v := 3) (lv' := [(2, .int 3), (1, .int 0), (0, .ref mo)]) hx hb dX8_digest_115 hl (k := 0) rfl (by decide) (by decide) rfl (fun ls hl => ?_)
  refine lv_goto (tgt := 99) hx hb dX8_digest_118 (by decide) ?_
  refine lv_iload_n hx hb dX8_digest_99 rfl (lv_at hl 0 rfl) ?_
  refine lv_bipush (v := 6) hx hb dX8_digest_100 (by decide) ?_
  refine lv_icmp_ge (tgt := 121) hx hb dX8_digest_102 (by decide) (fun h => absurd h (by decide)) (fun _ => ?_)
  refine lv_aload_n hx hb dX8_digest_105 rfl (lv_at hl 2 rfl) ?_
  refine lv_aload_n hx hb dX8_digest_106 rfl (lv_at hl 2 rfl) ?_
  refine lv_iload_n hx hb dX8_digest_107 rfl (lv_at hl 1 rfl) ?_
  refine lv_iload_n hx hb dX8_digest_108 rfl (lv_at hl 0 rfl) ?_
  have hPr := (show va_P (dC, dI) vwCl [(mo, .inr (10, [.int 0, .ref mr, .int 1, .long (-1150083363991883552)])), (mr, .inr (9, [.ref ll, .ref lt, .ref lp, .int 0, .int 0, .int 0, .int 0, .int 0, .int 0, .int 0, .int (-1), .int 0, .int 0, .int 0])), (lt, .inr (1, [.int 10, .ref ota, .int 10])), (ota, .inl (cOt, 10, .inr (.inr (.inr (.inr fot))))), (ta0, .inl (cB0, 5, .inl fb0))] H218 from (zo_cons ((hP) 12 _ rfl) (zo_cons (((zo_R hR0 hS hAr)) 0 _ rfl) (zo_cons (((zo_R hR0 hS hAr)) 2 _ rfl) (zo_cons (((zo_R hR0 hS hAr)) 5 _ rfl) (zo_cons ((hP) 2 _ rfl) (zo_nil : va_P (dC, dI) vwCl [] H218)))))))
  have hPc := hP.sub (ws' := []) [] rfl
  have hDc := hD.sub (ws' := []) [] (by decide) rfl
  have hKc := hK.sub (tys' := [(cOt, .object "java/lang/Object"), (cB0, .int)]) [1, 4] rfl
  have hFc := va_free (wc := []) hD hS hA [] rfl
  refine va_calli (va_runV (As := [.int 0, .int 3]) (rest := [.ref mo]) ⟨hx, hb, hml, hown, hts⟩ (cz_QofThingNow_0_3 l dC dI ed H218.size mo mr 0 (-1150083363991883552) ll lt lp ota cOt fot ta0 cB0 fb0 hot0 hb0_3) (cwV 2 hts gX8_digest_X8_ofThingNow rfl rfl rfl (by decide +kernel) ⟨Nat.le_of_ble_eq_true rfl, Nat.le_of_ble_eq_true rfl⟩) ⟨zb_blind, va_recv hK hP (ci := 10) (q0 := 12) rfl rfl, fun U hU hW => ⟨rfl, zb_mk hU hW hPr hPc hKc hDc hN hH hS hFc zx_e⟩⟩ rfl rfl hl.1 rfl (lv_room (Nat.le_of_ble_eq_true rfl)) dX8_digest_109 ⟨Nat.le_of_ble_eq_true rfl, Nat.le_of_ble_eq_true rfl⟩) hS (fun q _ h => hFc q h) hFc (fun r222 u t H221 locs ht hvm hw hB hz1 hk1 hS => ?_)
  obtain rfl : r222 = 0 := hw
  have hP := zo_K hP hk1
  have hPr := (zo_nil : va_P (dC, dI) vwCl [] H221)
  have hPc := hP.sub (ws' := [(mo, .inr (10, [.int 0, .ref mr, .int 1, .long (-1150083363991883552)]))]) [12] rfl
  have hDc := hD.sub (ws' := [(mo, .inr (10, [.int 0, .ref mr, .int 1, .long (-1150083363991883552)]))]) [12] (by decide) rfl
  have hKc := hK.sub (tys' := []) [] rfl
  have hFc := va_free (wc := [(mo, .inr (10, [.int 0, .ref mr, .int 1, .long (-1150083363991883552)]))]) hD hS hA [12] rfl
  refine va_callv (va_runV (As := [.int 0]) (rest := []) ⟨hx, hb, hml, hown, hts⟩ (cz_X8_add l dC dI ed H221.size mo mr 0 (-1150083363991883552) 0) (cwV 1 hts gX8_digest_X8_add rfl rfl rfl (by decide +kernel) ⟨Nat.le_of_ble_eq_true rfl, Nat.le_of_ble_eq_true rfl⟩) ⟨zb_blind, va_recv hK hP (ci := 10) (q0 := 12) rfl rfl, fun U hU hW => ⟨rfl, zb_mk hU hW hPr hPc hKc hDc hN hH hS hFc zx_nil⟩⟩ rfl rfl hl.1 rfl (lv_room (Nat.le_of_ble_eq_true rfl)) dX8_digest_112 ⟨Nat.le_of_ble_eq_true rfl, Nat.le_of_ble_eq_true rfl⟩) hS (fun q _ h => hFc q h) hFc (fun u t H223 locs ht hvm hw hB hz1 hk1 hS => ?_)
  obtain ⟨s1_225, hf225_0, hP1, hD1, hK1⟩ := hB
  obtain rfl : s1_225 = 1240903863670713120 := hf225_0.trans (by first | rfl | decide +kernel)
  rw [ht] at hP1
  obtain ⟨hP, hD⟩ := va_join (wr := [(la0, .inl (cA0, 10, .inl fa0)), (la1, .inl (cA1, 10, .inl fa1)), (ta0, .inl (cB0, 5, .inl fb0)), (ta1, .inl (cB1, 5, .inl fb1)), (ta2, .inl (cB2, 5, .inl fb2)), (ta3, .inl (cB3, 5, .inl fb3)), (ta4, .inl (cB4, 5, .inl fb4)), (ta5, .inl (cB5, 5, .inl fb5)), (ta6, .inl (cB6, 5, .inl fb6)), (ta7, .inl (cB7, 5, .inl fb7)), (ta8, .inl (cB8, 5, .inl fb8)), (ta9, .inl (cB9, 5, .inl fb9))]) (w1 := [(mo, .inr (10, [.int 0, .ref mr, .int 1, .long 1240903863670713120]))]) hP hD [12] [0, 1, 2, 3, 4, 5, 6, 7, 8, 9, 10, 11] rfl rfl (by decide) (by decide) hk1 hFc hP1 hD1
  have hP : va_P (dC, dI) vwCl [(la0, .inl (cA0, 10, .inl fa0)), (la1, .inl (cA1, 10, .inl fa1)), (ta0, .inl (cB0, 5, .inl fb0)), (ta1, .inl (cB1, 5, .inl fb1)), (ta2, .inl (cB2, 5, .inl fb2)), (ta3, .inl (cB3, 5, .inl fb3)), (ta4, .inl (cB4, 5, .inl fb4)), (ta5, .inl (cB5, 5, .inl fb5)), (ta6, .inl (cB6, 5, .inl fb6)), (ta7, .inl (cB7, 5, .inl fb7)), (ta8, .inl (cB8, 5, .inl fb8)), (ta9, .inl (cB9, 5, .inl fb9)), (mo, .inr (10, [.int 0, .ref mr, .int 1, .long 1240903863670713120]))] H223 := hP
  have hD : va_D A [(la0, .inl (cA0, 10, .inl fa0)), (la1, .inl (cA1, 10, .inl fa1)), (ta0, .inl (cB0, 5, .inl fb0)), (ta1, .inl (cB1, 5, .inl fb1)), (ta2, .inl (cB2, 5, .inl fb2)), (ta3, .inl (cB3, 5, .inl fb3)), (ta4, .inl (cB4, 5, .inl fb4)), (ta5, .inl (cB5, 5, .inl fb5)), (ta6, .inl (cB6, 5, .inl fb6)), (ta7, .inl (cB7, 5, .inl fb7)), (ta8, .inl (cB8, 5, .inl fb8)), (ta9, .inl (cB9, 5, .inl fb9)), (mo, .inr (10, [.int 0, .ref mr, .int 1, .long 1240903863670713120]))] := hD
  refine lv_iinc (v := 4) (lv' := [(2, .int 4), (1, .int 0), (0, .ref mo)]) hx hb dX8_digest_115 hl (k := 0) rfl (by decide) (by decide) rfl (fun ls hl => ?_)
  refine lv_goto (tgt := 99) hx hb dX8_digest_118 (by decide) ?_
  refine lv_iload_n hx hb dX8_digest_99 rfl (lv_at hl 0 rfl) ?_
  refine lv_bipush (v := 6) hx hb dX8_digest_100 (by decide) ?_
  refine lv_icmp_ge (tgt := 121) hx hb dX8_digest_102 (by decide) (fun h => absurd h (by decide)) (fun _ => ?_)
  refine lv_aload_n hx hb dX8_digest_105 rfl (lv_at hl 2 rfl) ?_
  refine lv_aload_n hx hb dX8_digest_106 rfl (lv_at hl 2 rfl) ?_
  refine lv_iload_n hx hb dX8_digest_107 rfl (lv_at hl 1 rfl) ?_
  refine lv_iload_n hx hb dX8_digest_108 rfl (lv_at hl 0 rfl) ?_
  have hPr := (show va_P (dC, dI) vwCl [(mo, .inr (10, [.int 0, .ref mr, .int 1, .long 1240903863670713120])), (mr, .inr (9, [.ref ll, .ref lt, .ref lp, .int 0, .int 0, .int 0, .int 0, .int 0, .int 0, .int 0, .int (-1), .int 0, .int 0, .int 0])), (lt, .inr (1, [.int 10, .ref ota, .int 10])), (ota, .inl (cOt, 10, .inr (.inr (.inr (.inr fot))))), (ta0, .inl (cB0, 5, .inl fb0))] H223 from (zo_cons ((hP) 12 _ rfl) (zo_cons (((zo_R hR0 hS hAr)) 0 _ rfl) (zo_cons (((zo_R hR0 hS hAr)) 2 _ rfl) (zo_cons (((zo_R hR0 hS hAr)) 5 _ rfl) (zo_cons ((hP) 2 _ rfl) (zo_nil : va_P (dC, dI) vwCl [] H223)))))))
  have hPc := hP.sub (ws' := []) [] rfl
  have hDc := hD.sub (ws' := []) [] (by decide) rfl
  have hKc := hK.sub (tys' := [(cOt, .object "java/lang/Object"), (cB0, .int)]) [1, 4] rfl
  have hFc := va_free (wc := []) hD hS hA [] rfl
  refine va_calli (va_runV (As := [.int 0, .int 4]) (rest := [.ref mo]) ⟨hx, hb, hml, hown, hts⟩ (cz_QofThingNow_0_4 l dC dI ed H223.size mo mr 0 1240903863670713120 ll lt lp ota cOt fot ta0 cB0 fb0 hot0 hb0_0 hb0_3) (cwV 2 hts gX8_digest_X8_ofThingNow rfl rfl rfl (by decide +kernel) ⟨Nat.le_of_ble_eq_true rfl, Nat.le_of_ble_eq_true rfl⟩) ⟨zb_blind, va_recv hK hP (ci := 10) (q0 := 12) rfl rfl, fun U hU hW => ⟨rfl, zb_mk hU hW hPr hPc hKc hDc hN hH hS hFc zx_e⟩⟩ rfl rfl hl.1 rfl (lv_room (Nat.le_of_ble_eq_true rfl)) dX8_digest_109 ⟨Nat.le_of_ble_eq_true rfl, Nat.le_of_ble_eq_true rfl⟩) hS (fun q _ h => hFc q h) hFc (fun r227 u t H226 locs ht hvm hw hB hz1 hk1 hS => ?_)
  obtain rfl : r227 = 1 := hw
  have hP := zo_K hP hk1
  have hPr := (zo_nil : va_P (dC, dI) vwCl [] H226)
  have hPc := hP.sub (ws' := [(mo, .inr (10, [.int 0, .ref mr, .int 1, .long 1240903863670713120]))]) [12] rfl
  have hDc := hD.sub (ws' := [(mo, .inr (10, [.int 0, .ref mr, .int 1, .long 1240903863670713120]))]) [12] (by decide) rfl
  have hKc := hK.sub (tys' := []) [] rfl
  have hFc := va_free (wc := [(mo, .inr (10, [.int 0, .ref mr, .int 1, .long 1240903863670713120]))]) hD hS hA [12] rfl
  refine va_callv (va_runV (As := [.int 1]) (rest := []) ⟨hx, hb, hml, hown, hts⟩ (cz_X8_add l dC dI ed H226.size mo mr 0 1240903863670713120 1) (cwV 1 hts gX8_digest_X8_add rfl rfl rfl (by decide +kernel) ⟨Nat.le_of_ble_eq_true rfl, Nat.le_of_ble_eq_true rfl⟩) ⟨zb_blind, va_recv hK hP (ci := 10) (q0 := 12) rfl rfl, fun U hU hW => ⟨rfl, zb_mk hU hW hPr hPc hKc hDc hN hH hS hFc zx_nil⟩⟩ rfl rfl hl.1 rfl (lv_room (Nat.le_of_ble_eq_true rfl)) dX8_digest_112 ⟨Nat.le_of_ble_eq_true rfl, Nat.le_of_ble_eq_true rfl⟩) hS (fun q _ h => hFc q h) hFc (fun u t H228 locs ht hvm hw hB hz1 hk1 hS => ?_)
  obtain ⟨s1_230, hf230_0, hP1, hD1, hK1⟩ := hB
  obtain rfl : s1_230 = 1574531626373003489 := hf230_0.trans (by first | rfl | decide +kernel)
  rw [ht] at hP1
  obtain ⟨hP, hD⟩ := va_join (wr := [(la0, .inl (cA0, 10, .inl fa0)), (la1, .inl (cA1, 10, .inl fa1)), (ta0, .inl (cB0, 5, .inl fb0)), (ta1, .inl (cB1, 5, .inl fb1)), (ta2, .inl (cB2, 5, .inl fb2)), (ta3, .inl (cB3, 5, .inl fb3)), (ta4, .inl (cB4, 5, .inl fb4)), (ta5, .inl (cB5, 5, .inl fb5)), (ta6, .inl (cB6, 5, .inl fb6)), (ta7, .inl (cB7, 5, .inl fb7)), (ta8, .inl (cB8, 5, .inl fb8)), (ta9, .inl (cB9, 5, .inl fb9))]) (w1 := [(mo, .inr (10, [.int 0, .ref mr, .int 1, .long 1574531626373003489]))]) hP hD [12] [0, 1, 2, 3, 4, 5, 6, 7, 8, 9, 10, 11] rfl rfl (by decide) (by decide) hk1 hFc hP1 hD1
  have hP : va_P (dC, dI) vwCl [(la0, .inl (cA0, 10, .inl fa0)), (la1, .inl (cA1, 10, .inl fa1)), (ta0, .inl (cB0, 5, .inl fb0)), (ta1, .inl (cB1, 5, .inl fb1)), (ta2, .inl (cB2, 5, .inl fb2)), (ta3, .inl (cB3, 5, .inl fb3)), (ta4, .inl (cB4, 5, .inl fb4)), (ta5, .inl (cB5, 5, .inl fb5)), (ta6, .inl (cB6, 5, .inl fb6)), (ta7, .inl (cB7, 5, .inl fb7)), (ta8, .inl (cB8, 5, .inl fb8)), (ta9, .inl (cB9, 5, .inl fb9)), (mo, .inr (10, [.int 0, .ref mr, .int 1, .long 1574531626373003489]))] H228 := hP
  have hD : va_D A [(la0, .inl (cA0, 10, .inl fa0)), (la1, .inl (cA1, 10, .inl fa1)), (ta0, .inl (cB0, 5, .inl fb0)), (ta1, .inl (cB1, 5, .inl fb1)), (ta2, .inl (cB2, 5, .inl fb2)), (ta3, .inl (cB3, 5, .inl fb3)), (ta4, .inl (cB4, 5, .inl fb4)), (ta5, .inl (cB5, 5, .inl fb5)), (ta6, .inl (cB6, 5, .inl fb6)), (ta7, .inl (cB7, 5, .inl fb7)), (ta8, .inl (cB8, 5, .inl fb8)), (ta9, .inl (cB9, 5, .inl fb9)), (mo, .inr (10, [.int 0, .ref mr, .int 1, .long 1574531626373003489]))] := hD
  refine lv_iinc (v := 5) (lv' := [(2, .int 5), (1, .int 0), (0, .ref mo)]) hx hb dX8_digest_115 hl (k := 0) rfl (by decide) (by decide) rfl (fun ls hl => ?_)
  refine lv_goto (tgt := 99) hx hb dX8_digest_118 (by decide) ?_
  refine lv_iload_n hx hb dX8_digest_99 rfl (lv_at hl 0 rfl) ?_
  refine lv_bipush (v := 6) hx hb dX8_digest_100 (by decide) ?_
  refine lv_icmp_ge (tgt := 121) hx hb dX8_digest_102 (by decide) (fun h => absurd h (by decide)) (fun _ => ?_)
  refine lv_aload_n hx hb dX8_digest_105 rfl (lv_at hl 2 rfl) ?_
  refine lv_aload_n hx hb dX8_digest_106 rfl (lv_at hl 2 rfl) ?_
  refine lv_iload_n hx hb dX8_digest_107 rfl (lv_at hl 1 rfl) ?_
  refine lv_iload_n hx hb dX8_digest_108 rfl (lv_at hl 0 rfl) ?_
  have hPr := (show va_P (dC, dI) vwCl [(mo, .inr (10, [.int 0, .ref mr, .int 1, .long 1574531626373003489])), (mr, .inr (9, [.ref ll, .ref lt, .ref lp, .int 0, .int 0, .int 0, .int 0, .int 0, .int 0, .int 0, .int (-1), .int 0, .int 0, .int 0])), (ll, .inr (1, [.int 2, .ref ola, .int 2])), (ola, .inl (cOl, 10, .inr (.inr (.inr (.inr fol))))), (la0, .inl (cA0, 10, .inl fa0)), (la1, .inl (cA1, 10, .inl fa1))] H228 from (zo_cons ((hP) 12 _ rfl) (zo_cons (((zo_R hR0 hS hAr)) 0 _ rfl) (zo_cons (((zo_R hR0 hS hAr)) 1 _ rfl) (zo_cons (((zo_R hR0 hS hAr)) 4 _ rfl) (zo_cons ((hP) 0 _ rfl) (zo_cons ((hP) 1 _ rfl) (zo_nil : va_P (dC, dI) vwCl [] H228))))))))
  have hPc := hP.sub (ws' := []) [] rfl
  have hDc := hD.sub (ws' := []) [] (by decide) rfl
  have hKc := hK.sub (tys' := [(cOl, .object "java/lang/Object"), (cA0, .int), (cA1, .int)]) [0, 2, 3] rfl
  have hFc := va_free (wc := []) hD hS hA [] rfl
  refine va_calli (va_runV (As := [.int 0, .int 5]) (rest := [.ref mo]) ⟨hx, hb, hml, hown, hts⟩ (cz_QofThingNow_0_5 l dC dI ed H228.size mo mr 0 1574531626373003489 ll lt lp ola cOl fol la0 la1 cA0 fa0 cA1 fa1 hol0 hol1 ha0_0 ha1_0) (cwV 2 hts gX8_digest_X8_ofThingNow rfl rfl rfl (by decide +kernel) ⟨Nat.le_of_ble_eq_true rfl, Nat.le_of_ble_eq_true rfl⟩) ⟨zb_blind, va_recv hK hP (ci := 10) (q0 := 12) rfl rfl, fun U hU hW => ⟨rfl, zb_mk hU hW hPr hPc hKc hDc hN hH hS hFc zx_e⟩⟩ rfl rfl hl.1 rfl (lv_room (Nat.le_of_ble_eq_true rfl)) dX8_digest_109 ⟨Nat.le_of_ble_eq_true rfl, Nat.le_of_ble_eq_true rfl⟩) hS (fun q _ h => hFc q h) hFc (fun r232 u t H231 locs ht hvm hw hB hz1 hk1 hS => ?_)
  obtain rfl : r232 = 0 := hw
  have hP := zo_K hP hk1
  have hPr := (zo_nil : va_P (dC, dI) vwCl [] H231)
  have hPc := hP.sub (ws' := [(mo, .inr (10, [.int 0, .ref mr, .int 1, .long 1574531626373003489]))]) [12] rfl
  have hDc := hD.sub (ws' := [(mo, .inr (10, [.int 0, .ref mr, .int 1, .long 1574531626373003489]))]) [12] (by decide) rfl
  have hKc := hK.sub (tys' := []) [] rfl
  have hFc := va_free (wc := [(mo, .inr (10, [.int 0, .ref mr, .int 1, .long 1574531626373003489]))]) hD hS hA [12] rfl
  refine va_callv (va_runV (As := [.int 0]) (rest := []) ⟨hx, hb, hml, hown, hts⟩ (cz_X8_add l dC dI ed H231.size mo mr 0 1574531626373003489 0) (cwV 1 hts gX8_digest_X8_add rfl rfl rfl (by decide +kernel) ⟨Nat.le_of_ble_eq_true rfl, Nat.le_of_ble_eq_true rfl⟩) ⟨zb_blind, va_recv hK hP (ci := 10) (q0 := 12) rfl rfl, fun U hU hW => ⟨rfl, zb_mk hU hW hPr hPc hKc hDc hN hH hS hFc zx_nil⟩⟩ rfl rfl hl.1 rfl (lv_room (Nat.le_of_ble_eq_true rfl)) dX8_digest_112 ⟨Nat.le_of_ble_eq_true rfl, Nat.le_of_ble_eq_true rfl⟩) hS (fun q _ h => hFc q h) hFc (fun u t H233 locs ht hvm hw hB hz1 hk1 hS => ?_)
  obtain ⟨s1_235, hf235_0, hP1, hD1, hK1⟩ := hB
  obtain rfl : s1_235 = (-6529751803565546689) := hf235_0.trans (by first | rfl | decide +kernel)
  rw [ht] at hP1
  obtain ⟨hP, hD⟩ := va_join (wr := [(la0, .inl (cA0, 10, .inl fa0)), (la1, .inl (cA1, 10, .inl fa1)), (ta0, .inl (cB0, 5, .inl fb0)), (ta1, .inl (cB1, 5, .inl fb1)), (ta2, .inl (cB2, 5, .inl fb2)), (ta3, .inl (cB3, 5, .inl fb3)), (ta4, .inl (cB4, 5, .inl fb4)), (ta5, .inl (cB5, 5, .inl fb5)), (ta6, .inl (cB6, 5, .inl fb6)), (ta7, .inl (cB7, 5, .inl fb7)), (ta8, .inl (cB8, 5, .inl fb8)), (ta9, .inl (cB9, 5, .inl fb9))]) (w1 := [(mo, .inr (10, [.int 0, .ref mr, .int 1, .long (-6529751803565546689)]))]) hP hD [12] [0, 1, 2, 3, 4, 5, 6, 7, 8, 9, 10, 11] rfl rfl (by decide) (by decide) hk1 hFc hP1 hD1
  have hP : va_P (dC, dI) vwCl [(la0, .inl (cA0, 10, .inl fa0)), (la1, .inl (cA1, 10, .inl fa1)), (ta0, .inl (cB0, 5, .inl fb0)), (ta1, .inl (cB1, 5, .inl fb1)), (ta2, .inl (cB2, 5, .inl fb2)), (ta3, .inl (cB3, 5, .inl fb3)), (ta4, .inl (cB4, 5, .inl fb4)), (ta5, .inl (cB5, 5, .inl fb5)), (ta6, .inl (cB6, 5, .inl fb6)), (ta7, .inl (cB7, 5, .inl fb7)), (ta8, .inl (cB8, 5, .inl fb8)), (ta9, .inl (cB9, 5, .inl fb9)), (mo, .inr (10, [.int 0, .ref mr, .int 1, .long (-6529751803565546689)]))] H233 := hP
  have hD : va_D A [(la0, .inl (cA0, 10, .inl fa0)), (la1, .inl (cA1, 10, .inl fa1)), (ta0, .inl (cB0, 5, .inl fb0)), (ta1, .inl (cB1, 5, .inl fb1)), (ta2, .inl (cB2, 5, .inl fb2)), (ta3, .inl (cB3, 5, .inl fb3)), (ta4, .inl (cB4, 5, .inl fb4)), (ta5, .inl (cB5, 5, .inl fb5)), (ta6, .inl (cB6, 5, .inl fb6)), (ta7, .inl (cB7, 5, .inl fb7)), (ta8, .inl (cB8, 5, .inl fb8)), (ta9, .inl (cB9, 5, .inl fb9)), (mo, .inr (10, [.int 0, .ref mr, .int 1, .long (-6529751803565546689)]))] := hD
  refine lv_iinc (v := 6) (lv' := [(2, .int 6), (1, .int 0), (0, .ref mo)]) hx hb dX8_digest_115 hl (k := 0) rfl (by decide) (by decide) rfl (fun ls hl => ?_)
  refine lv_goto (tgt := 99) hx hb dX8_digest_118 (by decide) ?_
  refine lv_iload_n hx hb dX8_digest_99 rfl (lv_at hl 0 rfl) ?_
  refine lv_bipush (v := 6) hx hb dX8_digest_100 (by decide) ?_
  refine lv_icmp_ge (tgt := 121) hx hb dX8_digest_102 (by decide) (fun _ => ?_) (fun h => absurd h (by decide))
  refine lv_iinc (v := 1) (lv' := [(1, .int 1), (2, .int 6), (0, .ref mo)]) hx hb dX8_digest_121 hl (k := 1) rfl (by decide) (by decide) rfl (fun ls hl => ?_)
  refine lv_goto (tgt := 83) hx hb dX8_digest_124 (by decide) ?_
  refine lv_iload_n hx hb dX8_digest_83 rfl (lv_at hl 0 rfl) ?_
  refine lv_aload_n hx hb dX8_digest_84 rfl (lv_at hl 2 rfl) ?_
  refine va_get (D := (dC, dI)) (ci := 10) (v := .ref mr) (C := RX8) (T := TX8) (N := 4) hx hb hts zi_X8_digest_X8 hown hK hP 12 rfl rfl 1 (by decide) (hts (.fieldLink RX8 10 "LockRoomsModel" "room" "LLockRoomsModel$Room;") (by decide +kernel)) (fun _ h9 => h9) rfl dX8_digest_85 ?_
  refine va_getN (D := (dC, dI)) (ci := 9) (v := .ref lt) (C := RX7) (T := TX7) (N := 14) hx hb hts zi_X8_digest_X7 hown hK (zo_R hR0 hS hAr) 0 rfl rfl 1 (by decide) (va_Nw.use rfl (hN.1 ("LockRoomsModel", 38, "LockRoomsModel$Room", "things", "Ljava/util/ArrayList;", "LockRoomsModel") (List.mem_of_getElem? (i := 2) rfl))) (fun _ h9 => h9) rfl dX8_digest_88 ?_
  have hPr := ((zo_R hR0 hS hAr)).sub (ws' := [(lt, .inr (1, [.int 10, .ref ota, .int 10]))]) [2] rfl
  have hPc := hP.sub (ws' := []) [] rfl
  have hDc := hD.sub (ws' := []) [] (by decide) rfl
  have hKc := hK.sub (tys' := []) [] rfl
  have hFc := va_free (wc := []) hD hS hA [] rfl
  refine va_calli (va_runV (As := []) (rest := [.int 1]) ⟨hx, hb, hml, hown, hts⟩ (cz_Qsize l dC dI ed H233.size lt 10 ota 10) (cwV 0 hts gX8_digest_Jx4a65c_size_8abf5 rfl rfl rfl (by decide +kernel) ⟨Nat.le_of_ble_eq_true rfl, Nat.le_of_ble_eq_true rfl⟩) ⟨zb_blind, va_recv hK (zo_R hR0 hS hAr) (ci := 1) (q0 := 2) rfl rfl, fun U hU hW => ⟨rfl, zb_mk hU hW hPr hPc hKc hDc hN hH hS hFc zx_e⟩⟩ rfl rfl hl.1 rfl (lv_room (Nat.le_of_ble_eq_true rfl)) dX8_digest_91 ⟨Nat.le_of_ble_eq_true rfl, Nat.le_of_ble_eq_true rfl⟩) hS (fun q _ h => hFc q h) hFc (fun r237 u t H236 locs ht hvm hw hB hz1 hk1 hS => ?_)
  obtain rfl : r237 = 10 := hw.trans (by decide +kernel)
  have hP := zo_K hP hk1
  refine lv_icmp_ge (tgt := 127) hx hb dX8_digest_94 (by decide) (fun h => absurd h (by decide)) (fun _ => ?_)
  refine lv_iconst (v := 0) hx hb dX8_digest_97 (by decide) ?_
  refine lv_istore_n (lv' := [(2, .int 0), (1, .int 1), (0, .ref mo)]) hx hb dX8_digest_98 rfl hl (by decide) rfl (fun ls hl => ?_)
  refine lv_iload_n hx hb dX8_digest_99 rfl (lv_at hl 0 rfl) ?_
  refine lv_bipush (v := 6) hx hb dX8_digest_100 (by decide) ?_
  refine lv_icmp_ge (tgt := 121) hx hb dX8_digest_102 (by decide) (fun h => absurd h (by decide)) (fun _ => ?_)
  refine lv_aload_n hx hb dX8_digest_105 rfl (lv_at hl 2 rfl) ?_
  refine lv_aload_n hx hb dX8_digest_106 rfl (lv_at hl 2 rfl) ?_
  refine lv_iload_n hx hb dX8_digest_107 rfl (lv_at hl 1 rfl) ?_
  refine lv_iload_n hx hb dX8_digest_108 rfl (lv_at hl 0 rfl) ?_
  have hPr := (show va_P (dC, dI) vwCl [(mo, .inr (10, [.int 0, .ref mr, .int 1, .long (-6529751803565546689)])), (mr, .inr (9, [.ref ll, .ref lt, .ref lp, .int 0, .int 0, .int 0, .int 0, .int 0, .int 0, .int 0, .int (-1), .int 0, .int 0, .int 0])), (lt, .inr (1, [.int 10, .ref ota, .int 10])), (ota, .inl (cOt, 10, .inr (.inr (.inr (.inr fot))))), (ta1, .inl (cB1, 5, .inl fb1))] H236 from (zo_cons ((hP) 12 _ rfl) (zo_cons (((zo_R hR0 hS hAr)) 0 _ rfl) (zo_cons (((zo_R hR0 hS hAr)) 2 _ rfl) (zo_cons (((zo_R hR0 hS hAr)) 5 _ rfl) (zo_cons ((hP) 3 _ rfl) (zo_nil : va_P (dC, dI) vwCl [] H236)))))))
  have hPc := hP.sub (ws' := []) [] rfl
  have hDc := hD.sub (ws' := []) [] (by decide) rfl
  have hKc := hK.sub (tys' := [(cOt, .object "java/lang/Object"), (cB1, .int)]) [1, 5] rfl
  have hFc := va_free (wc := []) hD hS hA [] rfl
  refine va_calli (va_runV (As := [.int 1, .int 0]) (rest := [.ref mo]) ⟨hx, hb, hml, hown, hts⟩ (cz_QofThingNow_1_0 l dC dI ed H236.size mo mr 0 (-6529751803565546689) ll lt lp ota cOt fot ta1 cB1 fb1 hot1 hb1_0) (cwV 2 hts gX8_digest_X8_ofThingNow rfl rfl rfl (by decide +kernel) ⟨Nat.le_of_ble_eq_true rfl, Nat.le_of_ble_eq_true rfl⟩) ⟨zb_blind, va_recv hK hP (ci := 10) (q0 := 12) rfl rfl, fun U hU hW => ⟨rfl, zb_mk hU hW hPr hPc hKc hDc hN hH hS hFc zx_e⟩⟩ rfl rfl hl.1 rfl (lv_room (Nat.le_of_ble_eq_true rfl)) dX8_digest_109 ⟨Nat.le_of_ble_eq_true rfl, Nat.le_of_ble_eq_true rfl⟩) hS (fun q _ h => hFc q h) hFc (fun r239 u t H238 locs ht hvm hw hB hz1 hk1 hS => ?_)
  obtain rfl : r239 = (-1) := hw
  have hP := zo_K hP hk1
  have hPr := (zo_nil : va_P (dC, dI) vwCl [] H238)
  have hPc := hP.sub (ws' := [(mo, .inr (10, [.int 0, .ref mr, .int 1, .long (-6529751803565546689)]))]) [12] rfl
  have hDc := hD.sub (ws' := [(mo, .inr (10, [.int 0, .ref mr, .int 1, .long (-6529751803565546689)]))]) [12] (by decide) rfl
  have hKc := hK.sub (tys' := []) [] rfl
  have hFc := va_free (wc := [(mo, .inr (10, [.int 0, .ref mr, .int 1, .long (-6529751803565546689)]))]) hD hS hA [12] rfl
  refine va_callv (va_runV (As := [.int (-1)]) (rest := []) ⟨hx, hb, hml, hown, hts⟩ (cz_X8_add l dC dI ed H238.size mo mr 0 (-6529751803565546689) (-1)) (cwV 1 hts gX8_digest_X8_add rfl rfl rfl (by decide +kernel) ⟨Nat.le_of_ble_eq_true rfl, Nat.le_of_ble_eq_true rfl⟩) ⟨zb_blind, va_recv hK hP (ci := 10) (q0 := 12) rfl rfl, fun U hU hW => ⟨rfl, zb_mk hU hW hPr hPc hKc hDc hN hH hS hFc zx_nil⟩⟩ rfl rfl hl.1 rfl (lv_room (Nat.le_of_ble_eq_true rfl)) dX8_digest_112 ⟨Nat.le_of_ble_eq_true rfl, Nat.le_of_ble_eq_true rfl⟩) hS (fun q _ h => hFc q h) hFc (fun u t H240 locs ht hvm hw hB hz1 hk1 hS => ?_)
  obtain ⟨s1_242, hf242_0, hP1, hD1, hK1⟩ := hB
  obtain rfl : s1_242 = 491878900273120416 := hf242_0.trans (by first | rfl | decide +kernel)
  rw [ht] at hP1
  obtain ⟨hP, hD⟩ := va_join (wr := [(la0, .inl (cA0, 10, .inl fa0)), (la1, .inl (cA1, 10, .inl fa1)), (ta0, .inl (cB0, 5, .inl fb0)), (ta1, .inl (cB1, 5, .inl fb1)), (ta2, .inl (cB2, 5, .inl fb2)), (ta3, .inl (cB3, 5, .inl fb3)), (ta4, .inl (cB4, 5, .inl fb4)), (ta5, .inl (cB5, 5, .inl fb5)), (ta6, .inl (cB6, 5, .inl fb6)), (ta7, .inl (cB7, 5, .inl fb7)), (ta8, .inl (cB8, 5, .inl fb8)), (ta9, .inl (cB9, 5, .inl fb9))]) (w1 := [(mo, .inr (10, [.int 0, .ref mr, .int 1, .long 491878900273120416]))]) hP hD [12] [0, 1, 2, 3, 4, 5, 6, 7, 8, 9, 10, 11] rfl rfl (by decide) (by decide) hk1 hFc hP1 hD1
  have hP : va_P (dC, dI) vwCl [(la0, .inl (cA0, 10, .inl fa0)), (la1, .inl (cA1, 10, .inl fa1)), (ta0, .inl (cB0, 5, .inl fb0)), (ta1, .inl (cB1, 5, .inl fb1)), (ta2, .inl (cB2, 5, .inl fb2)), (ta3, .inl (cB3, 5, .inl fb3)), (ta4, .inl (cB4, 5, .inl fb4)), (ta5, .inl (cB5, 5, .inl fb5)), (ta6, .inl (cB6, 5, .inl fb6)), (ta7, .inl (cB7, 5, .inl fb7)), (ta8, .inl (cB8, 5, .inl fb8)), (ta9, .inl (cB9, 5, .inl fb9)), (mo, .inr (10, [.int 0, .ref mr, .int 1, .long 491878900273120416]))] H240 := hP
  have hD : va_D A [(la0, .inl (cA0, 10, .inl fa0)), (la1, .inl (cA1, 10, .inl fa1)), (ta0, .inl (cB0, 5, .inl fb0)), (ta1, .inl (cB1, 5, .inl fb1)), (ta2, .inl (cB2, 5, .inl fb2)), (ta3, .inl (cB3, 5, .inl fb3)), (ta4, .inl (cB4, 5, .inl fb4)), (ta5, .inl (cB5, 5, .inl fb5)), (ta6, .inl (cB6, 5, .inl fb6)), (ta7, .inl (cB7, 5, .inl fb7)), (ta8, .inl (cB8, 5, .inl fb8)), (ta9, .inl (cB9, 5, .inl fb9)), (mo, .inr (10, [.int 0, .ref mr, .int 1, .long 491878900273120416]))] := hD
  refine lv_iinc (v := 1) (lv' := [(2, .int 1), (1, .int 1), (0, .ref mo)]) hx hb dX8_digest_115 hl (k := 0) rfl (by decide) (by decide) rfl (fun ls hl => ?_)
  refine lv_goto (tgt := 99) hx hb dX8_digest_118 (by decide) ?_
  refine lv_iload_n hx hb dX8_digest_99 rfl (lv_at hl 0 rfl) ?_
  refine lv_bipush (v := 6) hx hb dX8_digest_100 (by decide) ?_
  refine lv_icmp_ge (tgt := 121) hx hb dX8_digest_102 (by decide) (fun h => absurd h (by decide)) (fun _ => ?_)
  refine lv_aload_n hx hb dX8_digest_105 rfl (lv_at hl 2 rfl) ?_
  refine lv_aload_n hx hb dX8_digest_106 rfl (lv_at hl 2 rfl) ?_
  refine lv_iload_n hx hb dX8_digest_107 rfl (lv_at hl 1 rfl) ?_
  refine lv_iload_n hx hb dX8_digest_108 rfl (lv_at hl 0 rfl) ?_
  have hPr := (show va_P (dC, dI) vwCl [(mo, .inr (10, [.int 0, .ref mr, .int 1, .long 491878900273120416])), (mr, .inr (9, [.ref ll, .ref lt, .ref lp, .int 0, .int 0, .int 0, .int 0, .int 0, .int 0, .int 0, .int (-1), .int 0, .int 0, .int 0])), (lt, .inr (1, [.int 10, .ref ota, .int 10])), (ota, .inl (cOt, 10, .inr (.inr (.inr (.inr fot))))), (ta1, .inl (cB1, 5, .inl fb1))] H240 from (zo_cons ((hP) 12 _ rfl) (zo_cons (((zo_R hR0 hS hAr)) 0 _ rfl) (zo_cons (((zo_R hR0 hS hAr)) 2 _ rfl) (zo_cons (((zo_R hR0 hS hAr)) 5 _ rfl) (zo_cons ((hP) 3 _ rfl) (zo_nil : va_P (dC, dI) vwCl [] H240)))))))
  have hPc := hP.sub (ws' := []) [] rfl
  have hDc := hD.sub (ws' := []) [] (by decide) rfl
  have hKc := hK.sub (tys' := [(cOt, .object "java/lang/Object"), (cB1, .int)]) [1, 5] rfl
  have hFc := va_free (wc := []) hD hS hA [] rfl
  refine va_calli (va_runV (As := [.int 1, .int 1]) (rest := [.ref mo]) ⟨hx, hb, hml, hown, hts⟩ (cz_QofThingNow_1_1 l dC dI ed H240.size mo mr 0 491878900273120416 ll lt lp ota cOt fot ta1 cB1 fb1 hot1 hb1_1) (cwV 2 hts gX8_digest_X8_ofThingNow rfl rfl rfl (by decide +kernel) ⟨Nat.le_of_ble_eq_true rfl, Nat.le_of_ble_eq_true rfl⟩) ⟨zb_blind, va_recv hK hP (ci := 10) (q0 := 12) rfl rfl, fun U hU hW => ⟨rfl, zb_mk hU hW hPr hPc hKc hDc hN hH hS hFc zx_e⟩⟩ rfl rfl hl.1 rfl (lv_room (Nat.le_of_ble_eq_true rfl)) dX8_digest_109 ⟨Nat.le_of_ble_eq_true rfl, Nat.le_of_ble_eq_true rfl⟩) hS (fun q _ h => hFc q h) hFc (fun r244 u t H243 locs ht hvm hw hB hz1 hk1 hS => ?_)
  obtain rfl : r244 = 0 := hw
  have hP := zo_K hP hk1
  have hPr := (zo_nil : va_P (dC, dI) vwCl [] H243)
  have hPc := hP.sub (ws' := [(mo, .inr (10, [.int 0, .ref mr, .int 1, .long 491878900273120416]))]) [12] rfl
  have hDc := hD.sub (ws' := [(mo, .inr (10, [.int 0, .ref mr, .int 1, .long 491878900273120416]))]) [12] (by decide) rfl
  have hKc := hK.sub (tys' := []) [] rfl
  have hFc := va_free (wc := [(mo, .inr (10, [.int 0, .ref mr, .int 1, .long 491878900273120416]))]) hD hS hA [12] rfl
  refine va_callv (va_runV (As := [.int 0]) (rest := []) ⟨hx, hb, hml, hown, hts⟩ (cz_X8_add l dC dI ed H243.size mo mr 0 491878900273120416 0) (cwV 1 hts gX8_digest_X8_add rfl rfl rfl (by decide +kernel) ⟨Nat.le_of_ble_eq_true rfl, Nat.le_of_ble_eq_true rfl⟩) ⟨zb_blind, va_recv hK hP (ci := 10) (q0 := 12) rfl rfl, fun U hU hW => ⟨rfl, zb_mk hU hW hPr hPc hKc hDc hN hH hS hFc zx_nil⟩⟩ rfl rfl hl.1 rfl (lv_room (Nat.le_of_ble_eq_true rfl)) dX8_digest_112 ⟨Nat.le_of_ble_eq_true rfl, Nat.le_of_ble_eq_true rfl⟩) hS (fun q _ h => hFc q h) hFc (fun u t H245 locs ht hvm hw hB hz1 hk1 hS => ?_)
  obtain ⟨s1_247, hf247_0, hP1, hD1, hK1⟩ := hB
  obtain rfl : s1_247 = (-3198498165242818720) := hf247_0.trans (by first | rfl | decide +kernel)
  rw [ht] at hP1
  obtain ⟨hP, hD⟩ := va_join (wr := [(la0, .inl (cA0, 10, .inl fa0)), (la1, .inl (cA1, 10, .inl fa1)), (ta0, .inl (cB0, 5, .inl fb0)), (ta1, .inl (cB1, 5, .inl fb1)), (ta2, .inl (cB2, 5, .inl fb2)), (ta3, .inl (cB3, 5, .inl fb3)), (ta4, .inl (cB4, 5, .inl fb4)), (ta5, .inl (cB5, 5, .inl fb5)), (ta6, .inl (cB6, 5, .inl fb6)), (ta7, .inl (cB7, 5, .inl fb7)), (ta8, .inl (cB8, 5, .inl fb8)), (ta9, .inl (cB9, 5, .inl fb9))]) (w1 := [(mo, .inr (10, [.int 0, .ref mr, .int 1, .long (-3198498165242818720)]))]) hP hD [12] [0, 1, 2, 3, 4, 5, 6, 7, 8, 9, 10, 11] rfl rfl (by decide) (by decide) hk1 hFc hP1 hD1
  have hP : va_P (dC, dI) vwCl [(la0, .inl (cA0, 10, .inl fa0)), (la1, .inl (cA1, 10, .inl fa1)), (ta0, .inl (cB0, 5, .inl fb0)), (ta1, .inl (cB1, 5, .inl fb1)), (ta2, .inl (cB2, 5, .inl fb2)), (ta3, .inl (cB3, 5, .inl fb3)), (ta4, .inl (cB4, 5, .inl fb4)), (ta5, .inl (cB5, 5, .inl fb5)), (ta6, .inl (cB6, 5, .inl fb6)), (ta7, .inl (cB7, 5, .inl fb7)), (ta8, .inl (cB8, 5, .inl fb8)), (ta9, .inl (cB9, 5, .inl fb9)), (mo, .inr (10, [.int 0, .ref mr, .int 1, .long (-3198498165242818720)]))] H245 := hP
  have hD : va_D A [(la0, .inl (cA0, 10, .inl fa0)), (la1, .inl (cA1, 10, .inl fa1)), (ta0, .inl (cB0, 5, .inl fb0)), (ta1, .inl (cB1, 5, .inl fb1)), (ta2, .inl (cB2, 5, .inl fb2)), (ta3, .inl (cB3, 5, .inl fb3)), (ta4, .inl (cB4, 5, .inl fb4)), (ta5, .inl (cB5, 5, .inl fb5)), (ta6, .inl (cB6, 5, .inl fb6)), (ta7, .inl (cB7, 5, .inl fb7)), (ta8, .inl (cB8, 5, .inl fb8)), (ta9, .inl (cB9, 5, .inl fb9)), (mo, .inr (10, [.int 0, .ref mr, .int 1, .long (-3198498165242818720)]))] := hD
  refine lv_iinc (v := 2) (lv' := [(2, .int 2), (1, .int 1), (0, .ref mo)]) hx hb dX8_digest_115 hl (k := 0) rfl (by decide) (by decide) rfl (fun ls hl => ?_)
  refine lv_goto (tgt := 99) hx hb dX8_digest_118 (by decide) ?_
  refine lv_iload_n hx hb dX8_digest_99 rfl (lv_at hl 0 rfl) ?_
  refine lv_bipush (v := 6) hx hb dX8_digest_100 (by decide) ?_
  refine lv_icmp_ge (tgt := 121) hx hb dX8_digest_102 (by decide) (fun h => absurd h (by decide)) (fun _ => ?_)
  refine lv_aload_n hx hb dX8_digest_105 rfl (lv_at hl 2 rfl) ?_
  refine lv_aload_n hx hb dX8_digest_106 rfl (lv_at hl 2 rfl) ?_
  refine lv_iload_n hx hb dX8_digest_107 rfl (lv_at hl 1 rfl) ?_
  refine lv_iload_n hx hb dX8_digest_108 rfl (lv_at hl 0 rfl) ?_
  have hPr := (show va_P (dC, dI) vwCl [(mo, .inr (10, [.int 0, .ref mr, .int 1, .long (-3198498165242818720)])), (mr, .inr (9, [.ref ll, .ref lt, .ref lp, .int 0, .int 0, .int 0, .int 0, .int 0, .int 0, .int 0, .int (-1), .int 0, .int 0, .int 0])), (lt, .inr (1, [.int 10, .ref ota, .int 10])), (ota, .inl (cOt, 10, .inr (.inr (.inr (.inr fot))))), (ta1, .inl (cB1, 5, .inl fb1))] H245 from (zo_cons ((hP) 12 _ rfl) (zo_cons (((zo_R hR0 hS hAr)) 0 _ rfl) (zo_cons (((zo_R hR0 hS hAr)) 2 _ rfl) (zo_cons (((zo_R hR0 hS hAr)) 5 _ rfl) (zo_cons ((hP) 3 _ rfl) (zo_nil : va_P (dC, dI) vwCl [] H245)))))))
  have hPc := hP.sub (ws' := []) [] rfl
  have hDc := hD.sub (ws' := []) [] (by decide) rfl
  have hKc := hK.sub (tys' := [(cOt, .object "java/lang/Object"), (cB1, .int)]) [1, 5] rfl
  have hFc := va_free (wc := []) hD hS hA [] rfl
  refine va_calli (va_runV (As := [.int 1, .int 2]) (rest := [.ref mo]) ⟨hx, hb, hml, hown, hts⟩ (cz_QofThingNow_1_2 l dC dI ed H245.size mo mr 0 (-3198498165242818720) ll lt lp ota cOt fot ta1 cB1 fb1 hot1 hb1_2) (cwV 2 hts gX8_digest_X8_ofThingNow rfl rfl rfl (by decide +kernel) ⟨Nat.le_of_ble_eq_true rfl, Nat.le_of_ble_eq_true rfl⟩) ⟨zb_blind, va_recv hK hP (ci := 10) (q0 := 12) rfl rfl, fun U hU hW => ⟨rfl, zb_mk hU hW hPr hPc hKc hDc hN hH hS hFc zx_e⟩⟩ rfl rfl hl.1 rfl (lv_room (Nat.le_of_ble_eq_true rfl)) dX8_digest_109 ⟨Nat.le_of_ble_eq_true rfl, Nat.le_of_ble_eq_true rfl⟩) hS (fun q _ h => hFc q h) hFc (fun r249 u t H248 locs ht hvm hw hB hz1 hk1 hS => ?_)
  obtain rfl : r249 = 0 := hw
  have hP := zo_K hP hk1
  have hPr := (zo_nil : va_P (dC, dI) vwCl [] H248)
  have hPc := hP.sub (ws' := [(mo, .inr (10, [.int 0, .ref mr, .int 1, .long (-3198498165242818720)]))]) [12] rfl
  have hDc := hD.sub (ws' := [(mo, .inr (10, [.int 0, .ref mr, .int 1, .long (-3198498165242818720)]))]) [12] (by decide) rfl
  have hKc := hK.sub (tys' := []) [] rfl
  have hFc := va_free (wc := [(mo, .inr (10, [.int 0, .ref mr, .int 1, .long (-3198498165242818720)]))]) hD hS hA [12] rfl
  refine va_callv (va_runV (As := [.int 0]) (rest := []) ⟨hx, hb, hml, hown, hts⟩ (cz_X8_add l dC dI ed H248.size mo mr 0 (-3198498165242818720) 0) (cwV 1 hts gX8_digest_X8_add rfl rfl rfl (by decide +kernel) ⟨Nat.le_of_ble_eq_true rfl, Nat.le_of_ble_eq_true rfl⟩) ⟨zb_blind, va_recv hK hP (ci := 10) (q0 := 12) rfl rfl, fun U hU hW => ⟨rfl, zb_mk hU hW hPr hPc hKc hDc hN hH hS hFc zx_nil⟩⟩ rfl rfl hl.1 rfl (lv_room (Nat.le_of_ble_eq_true rfl)) dX8_digest_112 ⟨Nat.le_of_ble_eq_true rfl, Nat.le_of_ble_eq_true rfl⟩) hS (fun q _ h => hFc q h) hFc (fun u t H250 locs ht hvm hw hB hz1 hk1 hS => ?_)
  obtain ⟨s1_252, hf252_0, hP1, hD1, hK1⟩ := hB
  obtain rfl : s1_252 = (-6919722753979622240) := hf252_0.trans (by first | rfl | decide +kernel)
  rw [ht] at hP1
  obtain ⟨hP, hD⟩ := va_join (wr := [(la0, .inl (cA0, 10, .inl fa0)), (la1, .inl (cA1, 10, .inl fa1)), (ta0, .inl (cB0, 5, .inl fb0)), (ta1, .inl (cB1, 5, .inl fb1)), (ta2, .inl (cB2, 5, .inl fb2)), (ta3, .inl (cB3, 5, .inl fb3)), (ta4, .inl (cB4, 5, .inl fb4)), (ta5, .inl (cB5, 5, .inl fb5)), (ta6, .inl (cB6, 5, .inl fb6)), (ta7, .inl (cB7, 5, .inl fb7)), (ta8, .inl (cB8, 5, .inl fb8)), (ta9, .inl (cB9, 5, .inl fb9))]) (w1 := [(mo, .inr (10, [.int 0, .ref mr, .int 1, .long (-6919722753979622240)]))]) hP hD [12] [0, 1, 2, 3, 4, 5, 6, 7, 8, 9, 10, 11] rfl rfl (by decide) (by decide) hk1 hFc hP1 hD1
  have hP : va_P (dC, dI) vwCl [(la0, .inl (cA0, 10, .inl fa0)), (la1, .inl (cA1, 10, .inl fa1)), (ta0, .inl (cB0, 5, .inl fb0)), (ta1, .inl (cB1, 5, .inl fb1)), (ta2, .inl (cB2, 5, .inl fb2)), (ta3, .inl (cB3, 5, .inl fb3)), (ta4, .inl (cB4, 5, .inl fb4)), (ta5, .inl (cB5, 5, .inl fb5)), (ta6, .inl (cB6, 5, .inl fb6)), (ta7, .inl (cB7, 5, .inl fb7)), (ta8, .inl (cB8, 5, .inl fb8)), (ta9, .inl (cB9, 5, .inl fb9)), (mo, .inr (10, [.int 0, .ref mr, .int 1, .long (-6919722753979622240)]))] H250 := hP
  have hD : va_D A [(la0, .inl (cA0, 10, .inl fa0)), (la1, .inl (cA1, 10, .inl fa1)), (ta0, .inl (cB0, 5, .inl fb0)), (ta1, .inl (cB1, 5, .inl fb1)), (ta2, .inl (cB2, 5, .inl fb2)), (ta3, .inl (cB3, 5, .inl fb3)), (ta4, .inl (cB4, 5, .inl fb4)), (ta5, .inl (cB5, 5, .inl fb5)), (ta6, .inl (cB6, 5, .inl fb6)), (ta7, .inl (cB7, 5, .inl fb7)), (ta8, .inl (cB8, 5, .inl fb8)), (ta9, .inl (cB9, 5, .inl fb9)), (mo, .inr (10, [.int 0, .ref mr, .int 1, .long (-6919722753979622240)]))] := hD
  refine lv_iinc (v := 3) (lv' := [(2, .int 3), (1, .int 1), (0, .ref mo)]) hx hb dX8_digest_115 hl (k := 0) rfl (by decide) (by decide) rfl (fun ls hl => ?_)
  refine lv_goto (tgt := 99) hx hb dX8_digest_118 (by decide) ?_
  refine lv_iload_n hx hb dX8_digest_99 rfl (lv_at hl 0 rfl) ?_
  refine lv_bipush (v := 6) hx hb dX8_digest_100 (by decide) ?_
  refine lv_icmp_ge (tgt := 121) hx hb dX8_digest_102 (by decide) (fun h => absurd h (by decide)) (fun _ => ?_)
  refine lv_aload_n hx hb dX8_digest_105 rfl (lv_at hl 2 rfl) ?_
  refine lv_aload_n hx hb dX8_digest_106 rfl (lv_at hl 2 rfl) ?_
  refine lv_iload_n hx hb dX8_digest_107 rfl (lv_at hl 1 rfl) ?_
  refine lv_iload_n hx hb dX8_digest_108 rfl (lv_at hl 0 rfl) ?_
  have hPr := (show va_P (dC, dI) vwCl [(mo, .inr (10, [.int 0, .ref mr, .int 1, .long (-6919722753979622240)])), (mr, .inr (9, [.ref ll, .ref lt, .ref lp, .int 0, .int 0, .int 0, .int 0, .int 0, .int 0, .int 0, .int (-1), .int 0, .int 0, .int 0])), (lt, .inr (1, [.int 10, .ref ota, .int 10])), (ota, .inl (cOt, 10, .inr (.inr (.inr (.inr fot))))), (ta1, .inl (cB1, 5, .inl fb1))] H250 from (zo_cons ((hP) 12 _ rfl) (zo_cons (((zo_R hR0 hS hAr)) 0 _ rfl) (zo_cons (((zo_R hR0 hS hAr)) 2 _ rfl) (zo_cons (((zo_R hR0 hS hAr)) 5 _ rfl) (zo_cons ((hP) 3 _ rfl) (zo_nil : va_P (dC, dI) vwCl [] H250)))))))
  have hPc := hP.sub (ws' := []) [] rfl
  have hDc := hD.sub (ws' := []) [] (by decide) rfl
  have hKc := hK.sub (tys' := [(cOt, .object "java/lang/Object"), (cB1, .int)]) [1, 5] rfl
  have hFc := va_free (wc := []) hD hS hA [] rfl
  refine va_calli (va_runV (As := [.int 1, .int 3]) (rest := [.ref mo]) ⟨hx, hb, hml, hown, hts⟩ (cz_QofThingNow_1_3 l dC dI ed H250.size mo mr 0 (-6919722753979622240) ll lt lp ota cOt fot ta1 cB1 fb1 hot1 hb1_3) (cwV 2 hts gX8_digest_X8_ofThingNow rfl rfl rfl (by decide +kernel) ⟨Nat.le_of_ble_eq_true rfl, Nat.le_of_ble_eq_true rfl⟩) ⟨zb_blind, va_recv hK hP (ci := 10) (q0 := 12) rfl rfl, fun U hU hW => ⟨rfl, zb_mk hU hW hPr hPc hKc hDc hN hH hS hFc zx_e⟩⟩ rfl rfl hl.1 rfl (lv_room (Nat.le_of_ble_eq_true rfl)) dX8_digest_109 ⟨Nat.le_of_ble_eq_true rfl, Nat.le_of_ble_eq_true rfl⟩) hS (fun q _ h => hFc q h) hFc (fun r254 u t H253 locs ht hvm hw hB hz1 hk1 hS => ?_)
  obtain rfl : r254 = 0 := hw
  have hP := zo_K hP hk1
  have hPr := (zo_nil : va_P (dC, dI) vwCl [] H253)
  have hPc := hP.sub (ws' := [(mo, .inr (10, [.int 0, .ref mr, .int 1, .long (-6919722753979622240)]))]) [12] rfl
  have hDc := hD.sub (ws' := [(mo, .inr (10, [.int 0, .ref mr, .int 1, .long (-6919722753979622240)]))]) [12] (by decide) rfl
  have hKc := hK.sub (tys' := []) [] rfl
  have hFc := va_free (wc := [(mo, .inr (10, [.int 0, .ref mr, .int 1, .long (-6919722753979622240)]))]) hD hS hA [12] rfl
  refine va_callv (va_runV (As := [.int 0]) (rest := []) ⟨hx, hb, hml, hown, hts⟩ (cz_X8_add l dC dI ed H253.size mo mr 0 (-6919722753979622240) 0) (cwV 1 hts gX8_digest_X8_add rfl rfl rfl (by decide +kernel) ⟨Nat.le_of_ble_eq_true rfl, Nat.le_of_ble_eq_true rfl⟩) ⟨zb_blind, va_recv hK hP (ci := 10) (q0 := 12) rfl rfl, fun U hU hW => ⟨rfl, zb_mk hU hW hPr hPc hKc hDc hN hH hS hFc zx_nil⟩⟩ rfl rfl hl.1 rfl (lv_room (Nat.le_of_ble_eq_true rfl)) dX8_digest_112 ⟨Nat.le_of_ble_eq_true rfl, Nat.le_of_ble_eq_true rfl⟩) hS (fun q _ h => hFc q h) hFc (fun u t H255 locs ht hvm hw hB hz1 hk1 hS => ?_)
  obtain ⟨s1_257, hf257_0, hP1, hD1, hK1⟩ := hB
  obtain rfl : s1_257 = 6849523511146329952 := hf257_0.trans (by first | rfl | decide +kernel)
  rw [ht] at hP1
  obtain ⟨hP, hD⟩ := va_join (wr := [(la0, .inl (cA0, 10, .inl fa0)), (la1, .inl (cA1, 10, .inl fa1)), (ta0, .inl (cB0, 5, .inl fb0)), (ta1, .inl (cB1, 5, .inl fb1)), (ta2, .inl (cB2, 5, .inl fb2)), (ta3, .inl (cB3, 5, .inl fb3)), (ta4, .inl (cB4, 5, .inl fb4)), (ta5, .inl (cB5, 5, .inl fb5)), (ta6, .inl (cB6, 5, .inl fb6)), (ta7, .inl (cB7, 5, .inl fb7)), (ta8, .inl (cB8, 5, .inl fb8)), (ta9, .inl (cB9, 5, .inl fb9))]) (w1 := [(mo, .inr (10, [.int 0, .ref mr, .int 1, .long 6849523511146329952]))]) hP hD [12] [0, 1, 2, 3, 4, 5, 6, 7, 8, 9, 10, 11] rfl rfl (by decide) (by decide) hk1 hFc hP1 hD1
  have hP : va_P (dC, dI) vwCl [(la0, .inl (cA0, 10, .inl fa0)), (la1, .inl (cA1, 10, .inl fa1)), (ta0, .inl (cB0, 5, .inl fb0)), (ta1, .inl (cB1, 5, .inl fb1)), (ta2, .inl (cB2, 5, .inl fb2)), (ta3, .inl (cB3, 5, .inl fb3)), (ta4, .inl (cB4, 5, .inl fb4)), (ta5, .inl (cB5, 5, .inl fb5)), (ta6, .inl (cB6, 5, .inl fb6)), (ta7, .inl (cB7, 5, .inl fb7)), (ta8, .inl (cB8, 5, .inl fb8)), (ta9, .inl (cB9, 5, .inl fb9)), (mo, .inr (10, [.int 0, .ref mr, .int 1, .long 6849523511146329952]))] H255 := hP
  have hD : va_D A [(la0, .inl (cA0, 10, .inl fa0)), (la1, .inl (cA1, 10, .inl fa1)), (ta0, .inl (cB0, 5, .inl fb0)), (ta1, .inl (cB1, 5, .inl fb1)), (ta2, .inl (cB2, 5, .inl fb2)), (ta3, .inl (cB3, 5, .inl fb3)), (ta4, .inl (cB4, 5, .inl fb4)), (ta5, .inl (cB5, 5, .inl fb5)), (ta6, .inl (cB6, 5, .inl fb6)), (ta7, .inl (cB7, 5, .inl fb7)), (ta8, .inl (cB8, 5, .inl fb8)), (ta9, .inl (cB9, 5, .inl fb9)), (mo, .inr (10, [.int 0, .ref mr, .int 1, .long 6849523511146329952]))] := hD
  refine lv_iinc (v := 4) (lv' := [(2, .int 4), (1, .int 1), (0, .ref mo)]) hx hb dX8_digest_115 hl (k := 0) rfl (by decide) (by decide) rfl (fun ls hl => ?_)
  refine lv_goto (tgt := 99) hx hb dX8_digest_118 (by decide) ?_
  refine lv_iload_n hx hb dX8_digest_99 rfl (lv_at hl 0 rfl) ?_
  refine lv_bipush (v := 6) hx hb dX8_digest_100 (by decide) ?_
  refine lv_icmp_ge (tgt := 121) hx hb dX8_digest_102 (by decide) (fun h => absurd h (by decide)) (fun _ => ?_)
  refine lv_aload_n hx hb dX8_digest_105 rfl (lv_at hl 2 rfl) ?_
  refine lv_aload_n hx hb dX8_digest_106 rfl (lv_at hl 2 rfl) ?_
  refine lv_iload_n hx hb dX8_digest_107 rfl (lv_at hl 1 rfl) ?_
  refine lv_iload_n hx hb dX8_digest_108 rfl (lv_at hl 0 rfl) ?_
  have hPr := (show va_P (dC, dI) vwCl [(mo, .inr (10, [.int 0, .ref mr, .int 1, .long 6849523511146329952])), (mr, .inr (9, [.ref ll, .ref lt, .ref lp, .int 0, .int 0, .int 0, .int 0, .int 0, .int 0, .int 0, .int (-1), .int 0, .int 0, .int 0])), (lt, .inr (1, [.int 10, .ref ota, .int 10])), (ota, .inl (cOt, 10, .inr (.inr (.inr (.inr fot))))), (ta1, .inl (cB1, 5, .inl fb1))] H255 from (zo_cons ((hP) 12 _ rfl) (zo_cons (((zo_R hR0 hS hAr)) 0 _ rfl) (zo_cons (((zo_R hR0 hS hAr)) 2 _ rfl) (zo_cons (((zo_R hR0 hS hAr)) 5 _ rfl) (zo_cons ((hP) 3 _ rfl) (zo_nil : va_P (dC, dI) vwCl [] H255)))))))
  have hPc := hP.sub (ws' := []) [] rfl
  have hDc := hD.sub (ws' := []) [] (by decide) rfl
  have hKc := hK.sub (tys' := [(cOt, .object "java/lang/Object"), (cB1, .int)]) [1, 5] rfl
  have hFc := va_free (wc := []) hD hS hA [] rfl
  refine va_calli (va_runV (As := [.int 1, .int 4]) (rest := [.ref mo]) ⟨hx, hb, hml, hown, hts⟩ (cz_QofThingNow_1_4 l dC dI ed H255.size mo mr 0 6849523511146329952 ll lt lp ota cOt fot ta1 cB1 fb1 hot1 hb1_0 hb1_3) (cwV 2 hts gX8_digest_X8_ofThingNow rfl rfl rfl (by decide +kernel) ⟨Nat.le_of_ble_eq_true rfl, Nat.le_of_ble_eq_true rfl⟩) ⟨zb_blind, va_recv hK hP (ci := 10) (q0 := 12) rfl rfl, fun U hU hW => ⟨rfl, zb_mk hU hW hPr hPc hKc hDc hN hH hS hFc zx_e⟩⟩ rfl rfl hl.1 rfl (lv_room (Nat.le_of_ble_eq_true rfl)) dX8_digest_109 ⟨Nat.le_of_ble_eq_true rfl, Nat.le_of_ble_eq_true rfl⟩) hS (fun q _ h => hFc q h) hFc (fun r259 u t H258 locs ht hvm hw hB hz1 hk1 hS => ?_)
  obtain rfl : r259 = 1 := hw
  have hP := zo_K hP hk1
  have hPr := (zo_nil : va_P (dC, dI) vwCl [] H258)
  have hPc := hP.sub (ws' := [(mo, .inr (10, [.int 0, .ref mr, .int 1, .long 6849523511146329952]))]) [12] rfl
  have hDc := hD.sub (ws' := [(mo, .inr (10, [.int 0, .ref mr, .int 1, .long 6849523511146329952]))]) [12] (by decide) rfl
  have hKc := hK.sub (tys' := []) [] rfl
  have hFc := va_free (wc := [(mo, .inr (10, [.int 0, .ref mr, .int 1, .long 6849523511146329952]))]) hD hS hA [12] rfl
  refine va_callv (va_runV (As := [.int 1]) (rest := []) ⟨hx, hb, hml, hown, hts⟩ (cz_X8_add l dC dI ed H258.size mo mr 0 6849523511146329952 1) (cwV 1 hts gX8_digest_X8_add rfl rfl rfl (by decide +kernel) ⟨Nat.le_of_ble_eq_true rfl, Nat.le_of_ble_eq_true rfl⟩) ⟨zb_blind, va_recv hK hP (ci := 10) (q0 := 12) rfl rfl, fun U hU hW => ⟨rfl, zb_mk hU hW hPr hPc hKc hDc hN hH hS hFc zx_nil⟩⟩ rfl rfl hl.1 rfl (lv_room (Nat.le_of_ble_eq_true rfl)) dX8_digest_112 ⟨Nat.le_of_ble_eq_true rfl, Nat.le_of_ble_eq_true rfl⟩) hS (fun q _ h => hFc q h) hFc (fun u t H260 locs ht hvm hw hB hz1 hk1 hS => ?_)
  obtain ⟨s1_262, hf262_0, hP1, hD1, hK1⟩ := hB
  obtain rfl : s1_262 = (-9025700038978390879) := hf262_0.trans (by first | rfl | decide +kernel)
  rw [ht] at hP1
  obtain ⟨hP, hD⟩ := va_join (wr := [(la0, .inl (cA0, 10, .inl fa0)), (la1, .inl (cA1, 10, .inl fa1)), (ta0, .inl (cB0, 5, .inl fb0)), (ta1, .inl (cB1, 5, .inl fb1)), (ta2, .inl (cB2, 5, .inl fb2)), (ta3, .inl (cB3, 5, .inl fb3)), (ta4, .inl (cB4, 5, .inl fb4)), (ta5, .inl (cB5, 5, .inl fb5)), (ta6, .inl (cB6, 5, .inl fb6)), (ta7, .inl (cB7, 5, .inl fb7)), (ta8, .inl (cB8, 5, .inl fb8)), (ta9, .inl (cB9, 5, .inl fb9))]) (w1 := [(mo, .inr (10, [.int 0, .ref mr, .int 1, .long (-9025700038978390879)]))]) hP hD [12] [0, 1, 2, 3, 4, 5, 6, 7, 8, 9, 10, 11] rfl rfl (by decide) (by decide) hk1 hFc hP1 hD1
  have hP : va_P (dC, dI) vwCl [(la0, .inl (cA0, 10, .inl fa0)), (la1, .inl (cA1, 10, .inl fa1)), (ta0, .inl (cB0, 5, .inl fb0)), (ta1, .inl (cB1, 5, .inl fb1)), (ta2, .inl (cB2, 5, .inl fb2)), (ta3, .inl (cB3, 5, .inl fb3)), (ta4, .inl (cB4, 5, .inl fb4)), (ta5, .inl (cB5, 5, .inl fb5)), (ta6, .inl (cB6, 5, .inl fb6)), (ta7, .inl (cB7, 5, .inl fb7)), (ta8, .inl (cB8, 5, .inl fb8)), (ta9, .inl (cB9, 5, .inl fb9)), (mo, .inr (10, [.int 0, .ref mr, .int 1, .long (-9025700038978390879)]))] H260 := hP
  have hD : va_D A [(la0, .inl (cA0, 10, .inl fa0)), (la1, .inl (cA1, 10, .inl fa1)), (ta0, .inl (cB0, 5, .inl fb0)), (ta1, .inl (cB1, 5, .inl fb1)), (ta2, .inl (cB2, 5, .inl fb2)), (ta3, .inl (cB3, 5, .inl fb3)), (ta4, .inl (cB4, 5, .inl fb4)), (ta5, .inl (cB5, 5, .inl fb5)), (ta6, .inl (cB6, 5, .inl fb6)), (ta7, .inl (cB7, 5, .inl fb7)), (ta8, .inl (cB8, 5, .inl fb8)), (ta9, .inl (cB9, 5, .inl fb9)), (mo, .inr (10, [.int 0, .ref mr, .int 1, .long (-9025700038978390879)]))] := hD
  refine lv_iinc (v := 5) (lv' := [(2, .int 5), (1, .int 1), (0, .ref mo)]) hx hb dX8_digest_115 hl (k := 0) rfl (by decide) (by decide) rfl (fun ls hl => ?_)
  refine lv_goto (tgt := 99) hx hb dX8_digest_118 (by decide) ?_
  refine lv_iload_n hx hb dX8_digest_99 rfl (lv_at hl 0 rfl) ?_
  refine lv_bipush (v := 6) hx hb dX8_digest_100 (by decide) ?_
  refine lv_icmp_ge (tgt := 121) hx hb dX8_digest_102 (by decide) (fun h => absurd h (by decide)) (fun _ => ?_)
  refine lv_aload_n hx hb dX8_digest_105 rfl (lv_at hl 2 rfl) ?_
  refine lv_aload_n hx hb dX8_digest_106 rfl (lv_at hl 2 rfl) ?_
  refine lv_iload_n hx hb dX8_digest_107 rfl (lv_at hl 1 rfl) ?_
  refine lv_iload_n hx hb dX8_digest_108 rfl (lv_at hl 0 rfl) ?_
  have hPr := (show va_P (dC, dI) vwCl [(mo, .inr (10, [.int 0, .ref mr, .int 1, .long (-9025700038978390879)])), (mr, .inr (9, [.ref ll, .ref lt, .ref lp, .int 0, .int 0, .int 0, .int 0, .int 0, .int 0, .int 0, .int (-1), .int 0, .int 0, .int 0])), (ll, .inr (1, [.int 2, .ref ola, .int 2])), (ola, .inl (cOl, 10, .inr (.inr (.inr (.inr fol))))), (la0, .inl (cA0, 10, .inl fa0)), (la1, .inl (cA1, 10, .inl fa1))] H260 from (zo_cons ((hP) 12 _ rfl) (zo_cons (((zo_R hR0 hS hAr)) 0 _ rfl) (zo_cons (((zo_R hR0 hS hAr)) 1 _ rfl) (zo_cons (((zo_R hR0 hS hAr)) 4 _ rfl) (zo_cons ((hP) 0 _ rfl) (zo_cons ((hP) 1 _ rfl) (zo_nil : va_P (dC, dI) vwCl [] H260))))))))
  have hPc := hP.sub (ws' := []) [] rfl
  have hDc := hD.sub (ws' := []) [] (by decide) rfl
  have hKc := hK.sub (tys' := [(cOl, .object "java/lang/Object"), (cA0, .int), (cA1, .int)]) [0, 2, 3] rfl
  have hFc := va_free (wc := []) hD hS hA [] rfl
  refine va_calli (va_runV (As := [.int 1, .int 5]) (rest := [.ref mo]) ⟨hx, hb, hml, hown, hts⟩ (cz_QofThingNow_1_5 l dC dI ed H260.size mo mr 0 (-9025700038978390879) ll lt lp ola cOl fol la0 la1 cA0 fa0 cA1 fa1 hol0 hol1 ha0_0 ha1_0) (cwV 2 hts gX8_digest_X8_ofThingNow rfl rfl rfl (by decide +kernel) ⟨Nat.le_of_ble_eq_true rfl, Nat.le_of_ble_eq_true rfl⟩) ⟨zb_blind, va_recv hK hP (ci := 10) (q0 := 12) rfl rfl, fun U hU hW => ⟨rfl, zb_mk hU hW hPr hPc hKc hDc hN hH hS hFc zx_e⟩⟩ rfl rfl hl.1 rfl (lv_room (Nat.le_of_ble_eq_true rfl)) dX8_digest_109 ⟨Nat.le_of_ble_eq_true rfl, Nat.le_of_ble_eq_true rfl⟩) hS (fun q _ h => hFc q h) hFc (fun r264 u t H263 locs ht hvm hw hB hz1 hk1 hS => ?_)
  obtain rfl : r264 = 0 := hw
  have hP := zo_K hP hk1
  have hPr := (zo_nil : va_P (dC, dI) vwCl [] H263)
  have hPc := hP.sub (ws' := [(mo, .inr (10, [.int 0, .ref mr, .int 1, .long (-9025700038978390879)]))]) [12] rfl
  have hDc := hD.sub (ws' := [(mo, .inr (10, [.int 0, .ref mr, .int 1, .long (-9025700038978390879)]))]) [12] (by decide) rfl
  have hKc := hK.sub (tys' := []) [] rfl
  have hFc := va_free (wc := [(mo, .inr (10, [.int 0, .ref mr, .int 1, .long (-9025700038978390879)]))]) hD hS hA [12] rfl
  refine va_callv (va_runV (As := [.int 0]) (rest := []) ⟨hx, hb, hml, hown, hts⟩ (cz_X8_add l dC dI ed H263.size mo mr 0 (-9025700038978390879) 0) (cwV 1 hts gX8_digest_X8_add rfl rfl rfl (by decide +kernel) ⟨Nat.le_of_ble_eq_true rfl, Nat.le_of_ble_eq_true rfl⟩) ⟨zb_blind, va_recv hK hP (ci := 10) (q0 := 12) rfl rfl, fun U hU hW => ⟨rfl, zb_mk hU hW hPr hPc hKc hDc hN hH hS hFc zx_nil⟩⟩ rfl rfl hl.1 rfl (lv_room (Nat.le_of_ble_eq_true rfl)) dX8_digest_112 ⟨Nat.le_of_ble_eq_true rfl, Nat.le_of_ble_eq_true rfl⟩) hS (fun q _ h => hFc q h) hFc (fun u t H265 locs ht hvm hw hB hz1 hk1 hS => ?_)
  obtain ⟨s1_267, hf267_0, hP1, hD1, hK1⟩ := hB
  obtain rfl : s1_267 = (-3095540102686843009) := hf267_0.trans (by first | rfl | decide +kernel)
  rw [ht] at hP1
  obtain ⟨hP, hD⟩ := va_join (wr := [(la0, .inl (cA0, 10, .inl fa0)), (la1, .inl (cA1, 10, .inl fa1)), (ta0, .inl (cB0, 5, .inl fb0)), (ta1, .inl (cB1, 5, .inl fb1)), (ta2, .inl (cB2, 5, .inl fb2)), (ta3, .inl (cB3, 5, .inl fb3)), (ta4, .inl (cB4, 5, .inl fb4)), (ta5, .inl (cB5, 5, .inl fb5)), (ta6, .inl (cB6, 5, .inl fb6)), (ta7, .inl (cB7, 5, .inl fb7)), (ta8, .inl (cB8, 5, .inl fb8)), (ta9, .inl (cB9, 5, .inl fb9))]) (w1 := [(mo, .inr (10, [.int 0, .ref mr, .int 1, .long (-3095540102686843009)]))]) hP hD [12] [0, 1, 2, 3, 4, 5, 6, 7, 8, 9, 10, 11] rfl rfl (by decide) (by decide) hk1 hFc hP1 hD1
  have hP : va_P (dC, dI) vwCl [(la0, .inl (cA0, 10, .inl fa0)), (la1, .inl (cA1, 10, .inl fa1)), (ta0, .inl (cB0, 5, .inl fb0)), (ta1, .inl (cB1, 5, .inl fb1)), (ta2, .inl (cB2, 5, .inl fb2)), (ta3, .inl (cB3, 5, .inl fb3)), (ta4, .inl (cB4, 5, .inl fb4)), (ta5, .inl (cB5, 5, .inl fb5)), (ta6, .inl (cB6, 5, .inl fb6)), (ta7, .inl (cB7, 5, .inl fb7)), (ta8, .inl (cB8, 5, .inl fb8)), (ta9, .inl (cB9, 5, .inl fb9)), (mo, .inr (10, [.int 0, .ref mr, .int 1, .long (-3095540102686843009)]))] H265 := hP
  have hD : va_D A [(la0, .inl (cA0, 10, .inl fa0)), (la1, .inl (cA1, 10, .inl fa1)), (ta0, .inl (cB0, 5, .inl fb0)), (ta1, .inl (cB1, 5, .inl fb1)), (ta2, .inl (cB2, 5, .inl fb2)), (ta3, .inl (cB3, 5, .inl fb3)), (ta4, .inl (cB4, 5, .inl fb4)), (ta5, .inl (cB5, 5, .inl fb5)), (ta6, .inl (cB6, 5, .inl fb6)), (ta7, .inl (cB7, 5, .inl fb7)), (ta8, .inl (cB8, 5, .inl fb8)), (ta9, .inl (cB9, 5, .inl fb9)), (mo, .inr (10, [.int 0, .ref mr, .int 1, .long (-3095540102686843009)]))] := hD
  refine lv_iinc (v := 6) (lv' := [(2, .int 6), (1, .int 1), (0, .ref mo)]) hx hb dX8_digest_115 hl (k := 0) rfl (by decide) (by decide) rfl (fun ls hl => ?_)
  refine lv_goto (tgt := 99) hx hb dX8_digest_118 (by decide) ?_
  refine lv_iload_n hx hb dX8_digest_99 rfl (lv_at hl 0 rfl) ?_
  refine lv_bipush (v := 6) hx hb dX8_digest_100 (by decide) ?_
  refine lv_icmp_ge (tgt := 121) hx hb dX8_digest_102 (by decide) (fun _ => ?_) (fun h => absurd h (by decide))
  refine lv_iinc (v := 2) (lv' := [(1, .int 2), (2, .int 6), (0, .ref mo)]) hx hb dX8_digest_121 hl (k := 1) rfl (by decide) (by decide) rfl (fun ls hl => ?_)
  refine lv_goto (tgt := 83) hx hb dX8_digest_124 (by decide) ?_
  exact cs_QX8_digest_4 l dC dI ed mr ll lt lp ola ota cOl fol la0 la1 cOt fot ta0 ta1 ta2 ta3 ta4 ta5 ta6 ta7 ta8 ta9 mo x9 s9 cA0 fa0 cA1 fa1 cB0 fb0 cB1 fb1 cB2 fb2 cB3 fb3 cB4 fb4 cB5 fb5 cB6 fb6 cB7 fb7 cB8 fb8 cB9 fb9 hol0 hol1 hot0 hot1 hot2 hot3 hot4 hot5 hot6 hot7 hot8 hot9 ha0_0 ha0_1 ha0_2 ha0_3 ha0_4 ha0_5 ha0_6 ha0_7 ha0_8 ha0_9 ha1_0 ha1_1 ha1_2 ha1_3 ha1_4 ha1_5 ha1_6 ha1_7 ha1_8 ha1_9 hb0_0 hb0_1 hb0_2 hb0_3 hb0_4 hb1_0 hb1_1 hb1_2 hb1_3 hb1_4 hb2_0 hb2_1 hb2_2 hb2_3 hb2_4 hb3_0 hb3_1 hb3_2 hb3_3 hb3_4 hb4_0 hb4_1 hb4_2 hb4_3 hb4_4 hb5_0 hb5_1 hb5_2 hb5_3 hb5_4 hb6_0 hb6_1 hb6_2 hb6_3 hb6_4 hb7_0 hb7_1 hb7_2 hb7_3 hb7_4 hb8_0 hb8_1 hb8_2 hb8_3 hb8_4 hb9_0 hb9_1 hb9_2 hb9_3 hb9_4 hx hb hr hml hown hlocks hts hR0 hN hA hAr hH hAe hK hP hD hS hl
set_option maxHeartbeats 4000000 in
set_option maxRecDepth 100000 in
theorem cs_QX8_digest_2 (l : Launch) (dC : Nat → ClassId) (dI : Nat → Nat → Nat) (ed : Nat) (mr : Nat) (ll : Nat) (lt : Nat) (lp : Nat) (ola : Nat) (ota : Nat) (cOl : ClassId) (fol : Nat → Option Nat) (la0 : Nat) (la1 : Nat) (cOt : ClassId) (fot : Nat → Option Nat) (ta0 : Nat) (ta1 : Nat) (ta2 : Nat) (ta3 : Nat) (ta4 : Nat) (ta5 : Nat) (ta6 : Nat) (ta7 : Nat) (ta8 : Nat) (ta9 : Nat) (mo : Nat) (x9 : Int32) (s9 : Int64) (cA0 : ClassId) (fa0 : Nat → Int32) (cA1 : ClassId) (fa1 : Nat → Int32) (cB0 : ClassId) (fb0 : Nat → Int32) (cB1 : ClassId) (fb1 : Nat → Int32) (cB2 : ClassId) (fb2 : Nat → Int32) (cB3 : ClassId) (fb3 : Nat → Int32) (cB4 : ClassId) (fb4 : Nat → Int32) (cB5 : ClassId) (fb5 : Nat → Int32) (cB6 : ClassId) (fb6 : Nat → Int32) (cB7 : ClassId) (fb7 : Nat → Int32) (cB8 : ClassId) (fb8 : Nat → Int32) (cB9 : ClassId) (fb9 : Nat → Int32) (hol0 : fol 0 = some la0) (hol1 : fol 1 = some la1) (hot0 : fot 0 = some ta0) (hot1 : fot 1 = some ta1) (hot2 : fot 2 = some ta2) (hot3 : fot 3 = some ta3) (hot4 : fot 4 = some ta4) (hot5 : fot 5 = some ta5) (hot6 : fot 6 = some ta6) (hot7 : fot 7 = some ta7) (hot8 : fot 8 = some ta8) (hot9 : fot 9 = some ta9) (ha0_0 : fa0 0 = 0) (ha0_1 : fa0 1 = 0) (ha0_2 : fa0 2 = 60) (ha0_3 : fa0 3 = 0) (ha0_4 : fa0 4 = 0) (ha0_5 : fa0 5 = 0) (ha0_6 : fa0 6 = 0) (ha0_7 : fa0 7 = 0) (ha0_8 : fa0 8 = 0) (ha0_9 : fa0 9 = 0) (ha1_0 : fa1 0 = 0) (ha1_1 : fa1 1 = 0) (ha1_2 : fa1 2 = 60) (ha1_3 : fa1 3 = 0) (ha1_4 : fa1 4 = 0) (ha1_5 : fa1 5 = 0) (ha1_6 : fa1 6 = 0) (ha1_7 : fa1 7 = 0) (ha1_8 : fa1 8 = 0) (ha1_9 : fa1 9 = 0) (hb0_0 : fb0 0 = (-1)) (hb0_1 : fb0 1 = 0) (hb0_2 : fb0 2 = 0) (hb0_3 : fb0 3 = 0) (hb0_4 : fb0 4 = 0) (hb1_0 : fb1 0 = (-1)) (hb1_1 : fb1 1 = 0) (hb1_2 : fb1 2 = 0) (hb1_3 : fb1 3 = 0) (hb1_4 : fb1 4 = 0) (hb2_0 : fb2 0 = (-1)) (hb2_1 : fb2 1 = 0) (hb2_2 : fb2 2 = 0) (hb2_3 : fb2 3 = 0) (hb2_4 : fb2 4 = 0) (hb3_0 : fb3 0 = (-1)) (hb3_1 : fb3 1 = 0) (hb3_2 : fb3 2 = 0) (hb3_3 : fb3 3 = 0) (hb3_4 : fb3 4 = 0) (hb4_0 : fb4 0 = (-1)) (hb4_1 : fb4 1 = 0) (hb4_2 : fb4 2 = 0) (hb4_3 : fb4 3 = 0) (hb4_4 : fb4 4 = 0) (hb5_0 : fb5 0 = (-1)) (hb5_1 : fb5 1 = 0) (hb5_2 : fb5 2 = 0) (hb5_3 : fb5 3 = 0) (hb5_4 : fb5 4 = 0) (hb6_0 : fb6 0 = (-1)) (hb6_1 : fb6 1 = 0) (hb6_2 : fb6 2 = 0) (hb6_3 : fb6 3 = 0) (hb6_4 : fb6 4 = 0) (hb7_0 : fb7 0 = (-1)) (hb7_1 : fb7 1 = 0) (hb7_2 : fb7 2 = 0) (hb7_3 : fb7 3 = 0) (hb7_4 : fb7 4 = 0) (hb8_0 : fb8 0 = (-1)) (hb8_1 : fb8 1 = 0) (hb8_2 : fb8 2 = 0) (hb8_3 : fb8 3 = 0) (hb8_4 : fb8 4 = 0) (hb9_0 : fb9 0 = (-1)) (hb9_1 : fb9 1 = 0) (hb9_2 : fb9 2 = 0) (hb9_3 : fb9 3 = 0) (hb9_4 : fb9 4 = 0) {p : Program} {e : Env} {s : State} {m : MethodId} {below : List Frame} {meth : Method} {c : Code} {A : Nat → Prop} {H : Heap} {locs : List Loc} {ls : Array Slot} (hx : p.tables.exec = Jvm.exec) (hb : c.code = cX8_digest) (hr : meth.sig.returnType = (some .long)) (hml : c.maxLocals = 7) (hown : s.vm.findClass RX8 = some m.cls) (hlocks : meth.locks = false) (hts : ∀ w ∈ wsX8_digest, w.before ([.ref mo] : List Value).toArray s = true) (hR0 : va_P (dC, dI) vwCl [(mr, .inr (9, [.ref ll, .ref lt, .ref lp, .int 0, .int 0, .int 0, .int 0, .int 0, .int 0, .int 0, .int (-1), .int 0, .int 0, .int 0])), (ll, .inr (1, [.int 2, .ref ola, .int 2])), (lt, .inr (1, [.int 10, .ref ota, .int 10])), (lp, .inr (1, [.int 0, .ref ed, .int 0])), (ola, .inl (cOl, 10, .inr (.inr (.inr (.inr fol))))), (ota, .inl (cOt, 10, .inr (.inr (.inr (.inr fot)))))] s.heap) (hN : zN s) (hA : ∀ q : Nat, s.heap.size ≤ q → A q) (hAr : ∀ p ∈ ([(mr, .inr (9, [.ref ll, .ref lt, .ref lp, .int 0, .int 0, .int 0, .int 0, .int 0, .int 0, .int 0, .int (-1), .int 0, .int 0, .int 0])), (ll, .inr (1, [.int 2, .ref ola, .int 2])), (lt, .inr (1, [.int 10, .ref ota, .int 10])), (lp, .inr (1, [.int 0, .ref ed, .int 0])), (ola, .inl (cOl, 10, .inr (.inr (.inr (.inr fol))))), (ota, .inl (cOt, 10, .inr (.inr (.inr (.inr fot)))))] : va_W), ¬ A p.1) (hH : zH ed A s s.heap) (hAe : va_A [(mo, .inr (10, [.int x9, .ref mr, .int 1, .long s9])), (la0, .inl (cA0, 10, .inl fa0)), (la1, .inl (cA1, 10, .inl fa1)), (ta0, .inl (cB0, 5, .inl fb0)), (ta1, .inl (cB1, 5, .inl fb1)), (ta2, .inl (cB2, 5, .inl fb2)), (ta3, .inl (cB3, 5, .inl fb3)), (ta4, .inl (cB4, 5, .inl fb4)), (ta5, .inl (cB5, 5, .inl fb5)), (ta6, .inl (cB6, 5, .inl fb6)), (ta7, .inl (cB7, 5, .inl fb7)), (ta8, .inl (cB8, 5, .inl fb8)), (ta9, .inl (cB9, 5, .inl fb9))] s.heap.size = A) (hK : va_K (dC, dI) vwCl [(cOl, .object "java/lang/Object"), (cOt, .object "java/lang/Object"), (cA0, .int), (cA1, .int), (cB0, .int), (cB1, .int), (cB2, .int), (cB3, .int), (cB4, .int), (cB5, .int), (cB6, .int), (cB7, .int), (cB8, .int), (cB9, .int)] s) (hP : va_P (dC, dI) vwCl [(la0, .inl (cA0, 10, .inl fa0)), (la1, .inl (cA1, 10, .inl fa1)), (ta0, .inl (cB0, 5, .inl fb0)), (ta1, .inl (cB1, 5, .inl fb1)), (ta2, .inl (cB2, 5, .inl fb2)), (ta3, .inl (cB3, 5, .inl fb3)), (ta4, .inl (cB4, 5, .inl fb4)), (ta5, .inl (cB5, 5, .inl fb5)), (ta6, .inl (cB6, 5, .inl fb6)), (ta7, .inl (cB7, 5, .inl fb7)), (ta8, .inl (cB8, 5, .inl fb8)), (ta9, .inl (cB9, 5, .inl fb9)), (mo, .inr (10, [.int 0, .ref mr, .int 1, .long 6432349473290023738]))] H) (hD : va_D A [(la0, .inl (cA0, 10, .inl fa0)), (la1, .inl (cA1, 10, .inl fa1)), (ta0, .inl (cB0, 5, .inl fb0)), (ta1, .inl (cB1, 5, .inl fb1)), (ta2, .inl (cB2, 5, .inl fb2)), (ta3, .inl (cB3, 5, .inl fb3)), (ta4, .inl (cB4, 5, .inl fb4)), (ta5, .inl (cB5, 5, .inl fb5)), (ta6, .inl (cB6, 5, .inl fb6)), (ta7, .inl (cB7, 5, .inl fb7)), (ta8, .inl (cB8, 5, .inl fb8)), (ta9, .inl (cB9, 5, .inl fb9)), (mo, .inr (10, [.int 0, .ref mr, .int 1, .long 6432349473290023738]))]) (hS : va_S A s.heap H locs) (hl : lv_has ls 7 [(1, .int 1), (2, .int 10), (0, .ref mo)]) : W p l e (headSpec wsX8_digest ({ frames := 9, cells := 59, slots := 18922, locals := 211 } : Jvm.Room)).room s m (([.ref mo] : List Value).toArray) below meth c H locs 19 361 (MQ below (va_Ql (fun (r : Int64) (_ : Unit) => r = 1244744325466633148) (fun (_ : Unit) (t : State) => (18432 ≤ zc_S s.heap.size t.heap) ∧ (fa0 0 = 0 ∧ fa0 1 = 0 ∧ fa0 2 = 60 ∧ fa0 3 = 0 ∧ fa0 4 = 0 ∧ fa0 5 = 0 ∧ fa0 6 = 0 ∧ fa0 7 = 0 ∧ fa0 8 = 0 ∧ fa0 9 = 0 ∧ fa1 0 = 0 ∧ fa1 1 = 0 ∧ fa1 2 = 60 ∧ fa1 3 = 0 ∧ fa1 4 = 0 ∧ fa1 5 = 0 ∧ fa1 6 = 0 ∧ fa1 7 = 0 ∧ fa1 8 = 0 ∧ fa1 9 = 0 ∧ fb0 0 = (-1) ∧ fb0 1 = 0 ∧ fb0 2 = 0 ∧ fb0 3 = 0 ∧ fb0 4 = 0 ∧ fb1 0 = (-1) ∧ fb1 1 = 0 ∧ fb1 2 = 0 ∧ fb1 3 = 0 ∧ fb1 4 = 0 ∧ fb2 0 = (-1) ∧ fb2 1 = 0 ∧ fb2 2 = 0 ∧ fb2 3 = 0 ∧ fb2 4 = 0 ∧ fb3 0 = (-1) ∧ fb3 1 = 0 ∧ fb3 2 = 0 ∧ fb3 3 = 0 ∧ fb3 4 = 0 ∧ fb4 0 = (-1) ∧ fb4 1 = 0 ∧ fb4 2 = 0 ∧ fb4 3 = 0 ∧ fb4 4 = 0 ∧ fb5 0 = (-1) ∧ fb5 1 = 0 ∧ fb5 2 = 0 ∧ fb5 3 = 0 ∧ fb5 4 = 0 ∧ fb6 0 = (-1) ∧ fb6 1 = 0 ∧ fb6 2 = 0 ∧ fb6 3 = 0 ∧ fb6 4 = 0 ∧ fb7 0 = (-1) ∧ fb7 1 = 0 ∧ fb7 2 = 0 ∧ fb7 3 = 0 ∧ fb7 4 = 0 ∧ fb8 0 = (-1) ∧ fb8 1 = 0 ∧ fb8 2 = 0 ∧ fb8 3 = 0 ∧ fb8 4 = 0 ∧ fb9 0 = (-1) ∧ fb9 1 = 0 ∧ fb9 2 = 0 ∧ fb9 3 = 0 ∧ fb9 4 = 0) ∧ va_P (dC, dI) vwCl [(mo, .inr (10, [.int 0, .ref mr, .int 1, .long 1244744325466633148])), (la0, .inl (cA0, 10, .inl fa0)), (la1, .inl (cA1, 10, .inl fa1)), (ta0, .inl (cB0, 5, .inl fb0)), (ta1, .inl (cB1, 5, .inl fb1)), (ta2, .inl (cB2, 5, .inl fb2)), (ta3, .inl (cB3, 5, .inl fb3)), (ta4, .inl (cB4, 5, .inl fb4)), (ta5, .inl (cB5, 5, .inl fb5)), (ta6, .inl (cB6, 5, .inl fb6)), (ta7, .inl (cB7, 5, .inl fb7)), (ta8, .inl (cB8, 5, .inl fb8)), (ta9, .inl (cB9, 5, .inl fb9))] t.heap ∧ va_D A [(mo, .inr (10, [.int 0, .ref mr, .int 1, .long 1244744325466633148])), (la0, .inl (cA0, 10, .inl fa0)), (la1, .inl (cA1, 10, .inl fa1)), (ta0, .inl (cB0, 5, .inl fb0)), (ta1, .inl (cB1, 5, .inl fb1)), (ta2, .inl (cB2, 5, .inl fb2)), (ta3, .inl (cB3, 5, .inl fb3)), (ta4, .inl (cB4, 5, .inl fb4)), (ta5, .inl (cB5, 5, .inl fb5)), (ta6, .inl (cB6, 5, .inl fb6)), (ta7, .inl (cB7, 5, .inl fb7)), (ta8, .inl (cB8, 5, .inl fb8)), (ta9, .inl (cB9, 5, .inl fb9))] ∧ va_K (dC, dI) vwCl [(cA0, .int), (cA1, .int), (cB0, .int), (cB1, .int), (cB2, .int), (cB3, .int), (cB4, .int), (cB5, .int), (cB6, .int), (cB7, .int), (cB8, .int), (cB9, .int)] t) A) (([.ref mo] : List Value).toArray) s 59 18922 A) (F0 m 37 ls []) := by
  refine lv_iload_n hx hb dX8_digest_37 rfl (lv_at hl 0 rfl) ?_
  refine lv_aload_n hx hb dX8_digest_38 rfl (lv_at hl 2 rfl) ?_
  refine va_get (D := (dC, dI)) (ci := 10) (v := .ref mr) (C := RX8) (T := TX8) (N := 4) hx hb hts zi_X8_digest_X8 hown hK hP 12 rfl rfl 1 (by decide) (hts (.fieldLink RX8 10 "LockRoomsModel" "room" "LLockRoomsModel$Room;") (by decide +kernel)) (fun _ h9 => h9) rfl dX8_digest_39 ?_
  refine va_getN (D := (dC, dI)) (ci := 9) (v := .ref ll) (C := RX7) (T := TX7) (N := 14) hx hb hts zi_X8_digest_X7 hown hK (zo_R hR0 hS hAr) 0 rfl rfl 0 (by decide) (va_Nw.use rfl (hN.1 ("LockRoomsModel", 24, "LockRoomsModel$Room", "locks", "Ljava/util/ArrayList;", "LockRoomsModel") (List.mem_of_getElem? (i := 1) rfl))) (fun _ h9 => h9) rfl dX8_digest_42 ?_
  have hPr := ((zo_R hR0 hS hAr)).sub (ws' := [(ll, .inr (1, [.int 2, .ref ola, .int 2]))]) [1] rfl
  have hPc := hP.sub (ws' := []) [] rfl
  have hDc := hD.sub (ws' := []) [] (by decide) rfl
  have hKc := hK.sub (tys' := []) [] rfl
  have hFc := va_free (wc := []) hD hS hA [] rfl
  refine va_calli (va_runV (As := []) (rest := [.int 1]) ⟨hx, hb, hml, hown, hts⟩ (cz_Qsize l dC dI ed H.size ll 2 ola 2) (cwV 0 hts gX8_digest_Jx4a65c_size_8abf5 rfl rfl rfl (by decide +kernel) ⟨Nat.le_of_ble_eq_true rfl, Nat.le_of_ble_eq_true rfl⟩) ⟨zb_blind, va_recv hK (zo_R hR0 hS hAr) (ci := 1) (q0 := 1) rfl rfl, fun U hU hW => ⟨rfl, zb_mk hU hW hPr hPc hKc hDc hN hH hS hFc zx_e⟩⟩ rfl rfl hl.1 rfl (lv_room (Nat.le_of_ble_eq_true rfl)) dX8_digest_45 ⟨Nat.le_of_ble_eq_true rfl, Nat.le_of_ble_eq_true rfl⟩) hS (fun q _ h => hFc q h) hFc (fun r151 u t H150 locs ht hvm hw hB hz1 hk1 hS => ?_)
  obtain rfl : r151 = 2 := hw.trans (by decide +kernel)
  have hP := zo_K hP hk1
  refine lv_icmp_ge (tgt := 81) hx hb dX8_digest_48 (by decide) (fun h => absurd h (by decide)) (fun _ => ?_)
  refine lv_iconst (v := 0) hx hb dX8_digest_51 (by decide) ?_
  refine lv_istore_n (lv' := [(2, .int 0), (1, .int 1), (0, .ref mo)]) hx hb dX8_digest_52 rfl hl (by decide) rfl (fun ls hl => ?_)
  refine lv_iload_n hx hb dX8_digest_53 rfl (lv_at hl 0 rfl) ?_
  refine lv_bipush (v := 10) hx hb dX8_digest_54 (by decide) ?_
  refine lv_icmp_ge (tgt := 75) hx hb dX8_digest_56 (by decide) (fun h => absurd h (by decide)) (fun _ => ?_)
  refine lv_aload_n hx hb dX8_digest_59 rfl (lv_at hl 2 rfl) ?_
  refine lv_aload_n hx hb dX8_digest_60 rfl (lv_at hl 2 rfl) ?_
  refine lv_iload_n hx hb dX8_digest_61 rfl (lv_at hl 1 rfl) ?_
  refine lv_iload_n hx hb dX8_digest_62 rfl (lv_at hl 0 rfl) ?_
  have hPr := (show va_P (dC, dI) vwCl [(mo, .inr (10, [.int 0, .ref mr, .int 1, .long 6432349473290023738])), (mr, .inr (9, [.ref ll, .ref lt, .ref lp, .int 0, .int 0, .int 0, .int 0, .int 0, .int 0, .int 0, .int (-1), .int 0, .int 0, .int 0])), (ll, .inr (1, [.int 2, .ref ola, .int 2])), (ola, .inl (cOl, 10, .inr (.inr (.inr (.inr fol))))), (la1, .inl (cA1, 10, .inl fa1))] H150 from (zo_cons ((hP) 12 _ rfl) (zo_cons (((zo_R hR0 hS hAr)) 0 _ rfl) (zo_cons (((zo_R hR0 hS hAr)) 1 _ rfl) (zo_cons (((zo_R hR0 hS hAr)) 4 _ rfl) (zo_cons ((hP) 1 _ rfl) (zo_nil : va_P (dC, dI) vwCl [] H150)))))))
  have hPc := hP.sub (ws' := []) [] rfl
  have hDc := hD.sub (ws' := []) [] (by decide) rfl
  have hKc := hK.sub (tys' := [(cOl, .object "java/lang/Object"), (cA1, .int)]) [0, 3] rfl
  have hFc := va_free (wc := []) hD hS hA [] rfl
  refine va_calli (va_runV (As := [.int 1, .int 0]) (rest := [.ref mo]) ⟨hx, hb, hml, hown, hts⟩ (cz_QofLockNow_1_0 l dC dI ed H150.size mo mr 0 6432349473290023738 ll lt lp ola cOl fol la1 cA1 fa1 hol1 ha1_0) (cwV 2 hts gX8_digest_X8_ofLockNow rfl rfl rfl (by decide +kernel) ⟨Nat.le_of_ble_eq_true rfl, Nat.le_of_ble_eq_true rfl⟩) ⟨zb_blind, va_recv hK hP (ci := 10) (q0 := 12) rfl rfl, fun U hU hW => ⟨rfl, zb_mk hU hW hPr hPc hKc hDc hN hH hS hFc zx_e⟩⟩ rfl rfl hl.1 rfl (lv_room (Nat.le_of_ble_eq_true rfl)) dX8_digest_63 ⟨Nat.le_of_ble_eq_true rfl, Nat.le_of_ble_eq_true rfl⟩) hS (fun q _ h => hFc q h) hFc (fun r153 u t H152 locs ht hvm hw hB hz1 hk1 hS => ?_)
  obtain rfl : r153 = 0 := hw
  have hP := zo_K hP hk1
  have hPr := (zo_nil : va_P (dC, dI) vwCl [] H152)
  have hPc := hP.sub (ws' := [(mo, .inr (10, [.int 0, .ref mr, .int 1, .long 6432349473290023738]))]) [12] rfl
  have hDc := hD.sub (ws' := [(mo, .inr (10, [.int 0, .ref mr, .int 1, .long 6432349473290023738]))]) [12] (by decide) rfl
  have hKc := hK.sub (tys' := []) [] rfl
  have hFc := va_free (wc := [(mo, .inr (10, [.int 0, .ref mr, .int 1, .long 6432349473290023738]))]) hD hS hA [12] rfl
  refine va_callv (va_runV (As := [.int 0]) (rest := []) ⟨hx, hb, hml, hown, hts⟩ (cz_X8_add l dC dI ed H152.size mo mr 0 6432349473290023738 0) (cwV 1 hts gX8_digest_X8_add rfl rfl rfl (by decide +kernel) ⟨Nat.le_of_ble_eq_true rfl, Nat.le_of_ble_eq_true rfl⟩) ⟨zb_blind, va_recv hK hP (ci := 10) (q0 := 12) rfl rfl, fun U hU hW => ⟨rfl, zb_mk hU hW hPr hPc hKc hDc hN hH hS hFc zx_nil⟩⟩ rfl rfl hl.1 rfl (lv_room (Nat.le_of_ble_eq_true rfl)) dX8_digest_66 ⟨Nat.le_of_ble_eq_true rfl, Nat.le_of_ble_eq_true rfl⟩) hS (fun q _ h => hFc q h) hFc (fun u t H154 locs ht hvm hw hB hz1 hk1 hS => ?_)
  obtain ⟨s1_156, hf156_0, hP1, hD1, hK1⟩ := hB
  obtain rfl : s1_156 = (-3511351138814331898) := hf156_0.trans (by first | rfl | decide +kernel)
  rw [ht] at hP1
  obtain ⟨hP, hD⟩ := va_join (wr := [(la0, .inl (cA0, 10, .inl fa0)), (la1, .inl (cA1, 10, .inl fa1)), (ta0, .inl (cB0, 5, .inl fb0)), (ta1, .inl (cB1, 5, .inl fb1)), (ta2, .inl (cB2, 5, .inl fb2)), (ta3, .inl (cB3, 5, .inl fb3)), (ta4, .inl (cB4, 5, .inl fb4)), (ta5, .inl (cB5, 5, .inl fb5)), (ta6, .inl (cB6, 5, .inl fb6)), (ta7, .inl (cB7, 5, .inl fb7)), (ta8, .inl (cB8, 5, .inl fb8)), (ta9, .inl (cB9, 5, .inl fb9))]) (w1 := [(mo, .inr (10, [.int 0, .ref mr, .int 1, .long (-3511351138814331898)]))]) hP hD [12] [0, 1, 2, 3, 4, 5, 6, 7, 8, 9, 10, 11] rfl rfl (by decide) (by decide) hk1 hFc hP1 hD1
  have hP : va_P (dC, dI) vwCl [(la0, .inl (cA0, 10, .inl fa0)), (la1, .inl (cA1, 10, .inl fa1)), (ta0, .inl (cB0, 5, .inl fb0)), (ta1, .inl (cB1, 5, .inl fb1)), (ta2, .inl (cB2, 5, .inl fb2)), (ta3, .inl (cB3, 5, .inl fb3)), (ta4, .inl (cB4, 5, .inl fb4)), (ta5, .inl (cB5, 5, .inl fb5)), (ta6, .inl (cB6, 5, .inl fb6)), (ta7, .inl (cB7, 5, .inl fb7)), (ta8, .inl (cB8, 5, .inl fb8)), (ta9, .inl (cB9, 5, .inl fb9)), (mo, .inr (10, [.int 0, .ref mr, .int 1, .long (-3511351138814331898)]))] H154 := hP
  have hD : va_D A [(la0, .inl (cA0, 10, .inl fa0)), (la1, .inl (cA1, 10, .inl fa1)), (ta0, .inl (cB0, 5, .inl fb0)), (ta1, .inl (cB1, 5, .inl fb1)), (ta2, .inl (cB2, 5, .inl fb2)), (ta3, .inl (cB3, 5, .inl fb3)), (ta4, .inl (cB4, 5, .inl fb4)), (ta5, .inl (cB5, 5, .inl fb5)), (ta6, .inl (cB6, 5, .inl fb6)), (ta7, .inl (cB7, 5, .inl fb7)), (ta8, .inl (cB8, 5, .inl fb8)), (ta9, .inl (cB9, 5, .inl fb9)), (mo, .inr (10, [.int 0, .ref mr, .int 1, .long (-3511351138814331898)]))] := hD
  refine lv_iinc (v := 1) (lv' := [(2, .int 1), (1, .int 1), (0, .ref mo)]) hx hb dX8_digest_69 hl (k := 0) rfl (by decide) (by decide) rfl (fun ls hl => ?_)
  refine lv_goto (tgt := 53) hx hb dX8_digest_72 (by decide) ?_
  refine lv_iload_n hx hb dX8_digest_53 rfl (lv_at hl 0 rfl) ?_
  refine lv_bipush (v := 10) hx hb dX8_digest_54 (by decide) ?_
  refine lv_icmp_ge (tgt := 75) hx hb dX8_digest_56 (by decide) (fun h => absurd h (by decide)) (fun _ => ?_)
  refine lv_aload_n hx hb dX8_digest_59 rfl (lv_at hl 2 rfl) ?_
  refine lv_aload_n hx hb dX8_digest_60 rfl (lv_at hl 2 rfl) ?_
  refine lv_iload_n hx hb dX8_digest_61 rfl (lv_at hl 1 rfl) ?_
  refine lv_iload_n hx hb dX8_digest_62 rfl (lv_at hl 0 rfl) ?_
  have hPr := (show va_P (dC, dI) vwCl [(mo, .inr (10, [.int 0, .ref mr, .int 1, .long (-3511351138814331898)])), (mr, .inr (9, [.ref ll, .ref lt, .ref lp, .int 0, .int 0, .int 0, .int 0, .int 0, .int 0, .int 0, .int (-1), .int 0, .int 0, .int 0])), (ll, .inr (1, [.int 2, .ref ola, .int 2])), (ola, .inl (cOl, 10, .inr (.inr (.inr (.inr fol))))), (la1, .inl (cA1, 10, .inl fa1))] H154 from (zo_cons ((hP) 12 _ rfl) (zo_cons (((zo_R hR0 hS hAr)) 0 _ rfl) (zo_cons (((zo_R hR0 hS hAr)) 1 _ rfl) (zo_cons (((zo_R hR0 hS hAr)) 4 _ rfl) (zo_cons ((hP) 1 _ rfl) (zo_nil : va_P (dC, dI) vwCl [] H154)))))))
  have hPc := hP.sub (ws' := []) [] rfl
  have hDc := hD.sub (ws' := []) [] (by decide) rfl
  have hKc := hK.sub (tys' := [(cOl, .object "java/lang/Object"), (cA1, .int)]) [0, 3] rfl
  have hFc := va_free (wc := []) hD hS hA [] rfl
  refine va_calli (va_runV (As := [.int 1, .int 1]) (rest := [.ref mo]) ⟨hx, hb, hml, hown, hts⟩ (cz_QofLockNow_1_1 l dC dI ed H154.size mo mr 0 (-3511351138814331898) ll lt lp ola cOl fol la1 cA1 fa1 hol1 ha1_1) (cwV 2 hts gX8_digest_X8_ofLockNow rfl rfl rfl (by decide +kernel) ⟨Nat.le_of_ble_eq_true rfl, Nat.le_of_ble_eq_true rfl⟩) ⟨zb_blind, va_recv hK hP (ci := 10) (q0 := 12) rfl rfl, fun U hU hW => ⟨rfl, zb_mk hU hW hPr hPc hKc hDc hN hH hS hFc zx_e⟩⟩ rfl rfl hl.1 rfl (lv_room (Nat.le_of_ble_eq_true rfl)) dX8_digest_63 ⟨Nat.le_of_ble_eq_true rfl, Nat.le_of_ble_eq_true rfl⟩) hS (fun q _ h => hFc q h) hFc (fun r158 u t H157 locs ht hvm hw hB hz1 hk1 hS => ?_)
  obtain rfl : r158 = 0 := hw
  have hP := zo_K hP hk1
  have hPr := (zo_nil : va_P (dC, dI) vwCl [] H157)
  have hPc := hP.sub (ws' := [(mo, .inr (10, [.int 0, .ref mr, .int 1, .long (-3511351138814331898)]))]) [12] rfl
  have hDc := hD.sub (ws' := [(mo, .inr (10, [.int 0, .ref mr, .int 1, .long (-3511351138814331898)]))]) [12] (by decide) rfl
  have hKc := hK.sub (tys' := []) [] rfl
  have hFc := va_free (wc := [(mo, .inr (10, [.int 0, .ref mr, .int 1, .long (-3511351138814331898)]))]) hD hS hA [12] rfl
  refine va_callv (va_runV (As := [.int 0]) (rest := []) ⟨hx, hb, hml, hown, hts⟩ (cz_X8_add l dC dI ed H157.size mo mr 0 (-3511351138814331898) 0) (cwV 1 hts gX8_digest_X8_add rfl rfl rfl (by decide +kernel) ⟨Nat.le_of_ble_eq_true rfl, Nat.le_of_ble_eq_true rfl⟩) ⟨zb_blind, va_recv hK hP (ci := 10) (q0 := 12) rfl rfl, fun U hU hW => ⟨rfl, zb_mk hU hW hPr hPc hKc hDc hN hH hS hFc zx_nil⟩⟩ rfl rfl hl.1 rfl (lv_room (Nat.le_of_ble_eq_true rfl)) dX8_digest_66 ⟨Nat.le_of_ble_eq_true rfl, Nat.le_of_ble_eq_true rfl⟩) hS (fun q _ h => hFc q h) hFc (fun u t H159 locs ht hvm hw hB hz1 hk1 hS => ?_)
  obtain ⟨s1_161, hf161_0, hP1, hD1, hK1⟩ := hB
  obtain rfl : s1_161 = 1828579139013020858 := hf161_0.trans (by first | rfl | decide +kernel)
  rw [ht] at hP1
  obtain ⟨hP, hD⟩ := va_join (wr := [(la0, .inl (cA0, 10, .inl fa0)), (la1, .inl (cA1, 10, .inl fa1)), (ta0, .inl (cB0, 5, .inl fb0)), (ta1, .inl (cB1, 5, .inl fb1)), (ta2, .inl (cB2, 5, .inl fb2)), (ta3, .inl (cB3, 5, .inl fb3)), (ta4, .inl (cB4, 5, .inl fb4)), (ta5, .inl (cB5, 5, .inl fb5)), (ta6, .inl (cB6, 5, .inl fb6)), (ta7, .inl (cB7, 5, .inl fb7)), (ta8, .inl (cB8, 5, .inl fb8)), (ta9, .inl (cB9, 5, .inl fb9))]) (w1 := [(mo, .inr (10, [.int 0, .ref mr, .int 1, .long 1828579139013020858]))]) hP hD [12] [0, 1, 2, 3, 4, 5, 6, 7, 8, 9, 10, 11] rfl rfl (by decide) (by decide) hk1 hFc hP1 hD1
  have hP : va_P (dC, dI) vwCl [(la0, .inl (cA0, 10, .inl fa0)), (la1, .inl (cA1, 10, .inl fa1)), (ta0, .inl (cB0, 5, .inl fb0)), (ta1, .inl (cB1, 5, .inl fb1)), (ta2, .inl (cB2, 5, .inl fb2)), (ta3, .inl (cB3, 5, .inl fb3)), (ta4, .inl (cB4, 5, .inl fb4)), (ta5, .inl (cB5, 5, .inl fb5)), (ta6, .inl (cB6, 5, .inl fb6)), (ta7, .inl (cB7, 5, .inl fb7)), (ta8, .inl (cB8, 5, .inl fb8)), (ta9, .inl (cB9, 5, .inl fb9)), (mo, .inr (10, [.int 0, .ref mr, .int 1, .long 1828579139013020858]))] H159 := hP
  have hD : va_D A [(la0, .inl (cA0, 10, .inl fa0)), (la1, .inl (cA1, 10, .inl fa1)), (ta0, .inl (cB0, 5, .inl fb0)), (ta1, .inl (cB1, 5, .inl fb1)), (ta2, .inl (cB2, 5, .inl fb2)), (ta3, .inl (cB3, 5, .inl fb3)), (ta4, .inl (cB4, 5, .inl fb4)), (ta5, .inl (cB5, 5, .inl fb5)), (ta6, .inl (cB6, 5, .inl fb6)), (ta7, .inl (cB7, 5, .inl fb7)), (ta8, .inl (cB8, 5, .inl fb8)), (ta9, .inl (cB9, 5, .inl fb9)), (mo, .inr (10, [.int 0, .ref mr, .int 1, .long 1828579139013020858]))] := hD
  refine lv_iinc (v := 2) (lv' := [(2, .int 2), (1, .int 1), (0, .ref mo)]) hx hb dX8_digest_69 hl (k := 0) rfl (by decide) (by decide) rfl (fun ls hl => ?_)
  refine lv_goto (tgt := 53) hx hb dX8_digest_72 (by decide) ?_
  refine lv_iload_n hx hb dX8_digest_53 rfl (lv_at hl 0 rfl) ?_
  refine lv_bipush (v := 10) hx hb dX8_digest_54 (by decide) ?_
  refine lv_icmp_ge (tgt := 75) hx hb dX8_digest_56 (by decide) (fun h => absurd h (by decide)) (fun _ => ?_)
  refine lv_aload_n hx hb dX8_digest_59 rfl (lv_at hl 2 rfl) ?_
  refine lv_aload_n hx hb dX8_digest_60 rfl (lv_at hl 2 rfl) ?_
  refine lv_iload_n hx hb dX8_digest_61 rfl (lv_at hl 1 rfl) ?_
  refine lv_iload_n hx hb dX8_digest_62 rfl (lv_at hl 0 rfl) ?_
  have hPr := (show va_P (dC, dI) vwCl [(mo, .inr (10, [.int 0, .ref mr, .int 1, .long 1828579139013020858])), (mr, .inr (9, [.ref ll, .ref lt, .ref lp, .int 0, .int 0, .int 0, .int 0, .int 0, .int 0, .int 0, .int (-1), .int 0, .int 0, .int 0])), (ll, .inr (1, [.int 2, .ref ola, .int 2])), (ola, .inl (cOl, 10, .inr (.inr (.inr (.inr fol))))), (la1, .inl (cA1, 10, .inl fa1))] H159 from (zo_cons ((hP) 12 _ rfl) (zo_cons (((zo_R hR0 hS hAr)) 0 _ rfl) (zo_cons (((zo_R hR0 hS hAr)) 1 _ rfl) (zo_cons (((zo_R hR0 hS hAr)) 4 _ rfl) (zo_cons ((hP) 1 _ rfl) (zo_nil : va_P (dC, dI) vwCl [] H159)))))))
  have hPc := hP.sub (ws' := []) [] rfl
  have hDc := hD.sub (ws' := []) [] (by decide) rfl
  have hKc := hK.sub (tys' := [(cOl, .object "java/lang/Object"), (cA1, .int)]) [0, 3] rfl
  have hFc := va_free (wc := []) hD hS hA [] rfl
  refine va_calli (va_runV (As := [.int 1, .int 2]) (rest := [.ref mo]) ⟨hx, hb, hml, hown, hts⟩ (cz_QofLockNow_1_2 l dC dI ed H159.size mo mr 0 1828579139013020858 ll lt lp ola cOl fol la1 cA1 fa1 hol1 ha1_2) (cwV 2 hts gX8_digest_X8_ofLockNow rfl rfl rfl (by decide +kernel) ⟨Nat.le_of_ble_eq_true rfl, Nat.le_of_ble_eq_true rfl⟩) ⟨zb_blind, va_recv hK hP (ci := 10) (q0 := 12) rfl rfl, fun U hU hW => ⟨rfl, zb_mk hU hW hPr hPc hKc hDc hN hH hS hFc zx_e⟩⟩ rfl rfl hl.1 rfl (lv_room (Nat.le_of_ble_eq_true rfl)) dX8_digest_63 ⟨Nat.le_of_ble_eq_true rfl, Nat.le_of_ble_eq_true rfl⟩) hS (fun q _ h => hFc q h) hFc (fun r163 u t H162 locs ht hvm hw hB hz1 hk1 hS => ?_)
  obtain rfl : r163 = 60 := hw
  have hP := zo_K hP hk1
  have hPr := (zo_nil : va_P (dC, dI) vwCl [] H162)
  have hPc := hP.sub (ws' := [(mo, .inr (10, [.int 0, .ref mr, .int 1, .long 1828579139013020858]))]) [12] rfl
  have hDc := hD.sub (ws' := [(mo, .inr (10, [.int 0, .ref mr, .int 1, .long 1828579139013020858]))]) [12] (by decide) rfl
  have hKc := hK.sub (tys' := []) [] rfl
  have hFc := va_free (wc := [(mo, .inr (10, [.int 0, .ref mr, .int 1, .long 1828579139013020858]))]) hD hS hA [12] rfl
  refine va_callv (va_runV (As := [.int 60]) (rest := []) ⟨hx, hb, hml, hown, hts⟩ (cz_X8_add l dC dI ed H162.size mo mr 0 1828579139013020858 60) (cwV 1 hts gX8_digest_X8_add rfl rfl rfl (by decide +kernel) ⟨Nat.le_of_ble_eq_true rfl, Nat.le_of_ble_eq_true rfl⟩) ⟨zb_blind, va_recv hK hP (ci := 10) (q0 := 12) rfl rfl, fun U hU hW => ⟨rfl, zb_mk hU hW hPr hPc hKc hDc hN hH hS hFc zx_nil⟩⟩ rfl rfl hl.1 rfl (lv_room (Nat.le_of_ble_eq_true rfl)) dX8_digest_66 ⟨Nat.le_of_ble_eq_true rfl, Nat.le_of_ble_eq_true rfl⟩) hS (fun q _ h => hFc q h) hFc (fun u t H164 locs ht hvm hw hB hz1 hk1 hS => ?_)
  obtain ⟨s1_166, hf166_0, hP1, hD1, hK1⟩ := hB
  obtain rfl : s1_166 = 1345721088274991810 := hf166_0.trans (by first | rfl | decide +kernel)
  rw [ht] at hP1
  obtain ⟨hP, hD⟩ := va_join (wr := [(la0, .inl (cA0, 10, .inl fa0)), (la1, .inl (cA1, 10, .inl fa1)), (ta0, .inl (cB0, 5, .inl fb0)), (ta1, .inl (cB1, 5, .inl fb1)), (ta2, .inl (cB2, 5, .inl fb2)), (ta3, .inl (cB3, 5, .inl fb3)), (ta4, .inl (cB4, 5, .inl fb4)), (ta5, .inl (cB5, 5, .inl fb5)), (ta6, .inl (cB6, 5, .inl fb6)), (ta7, .inl (cB7, 5, .inl fb7)), (ta8, .inl (cB8, 5, .inl fb8)), (ta9, .inl (cB9, 5, .inl fb9))]) (w1 := [(mo, .inr (10, [.int 0, .ref mr, .int 1, .long 1345721088274991810]))]) hP hD [12] [0, 1, 2, 3, 4, 5, 6, 7, 8, 9, 10, 11] rfl rfl (by decide) (by decide) hk1 hFc hP1 hD1
  have hP : va_P (dC, dI) vwCl [(la0, .inl (cA0, 10, .inl fa0)), (la1, .inl (cA1, 10, .inl fa1)), (ta0, .inl (cB0, 5, .inl fb0)), (ta1, .inl (cB1, 5, .inl fb1)), (ta2, .inl (cB2, 5, .inl fb2)), (ta3, .inl (cB3, 5, .inl fb3)), (ta4, .inl (cB4, 5, .inl fb4)), (ta5, .inl (cB5, 5, .inl fb5)), (ta6, .inl (cB6, 5, .inl fb6)), (ta7, .inl (cB7, 5, .inl fb7)), (ta8, .inl (cB8, 5, .inl fb8)), (ta9, .inl (cB9, 5, .inl fb9)), (mo, .inr (10, [.int 0, .ref mr, .int 1, .long 1345721088274991810]))] H164 := hP
  have hD : va_D A [(la0, .inl (cA0, 10, .inl fa0)), (la1, .inl (cA1, 10, .inl fa1)), (ta0, .inl (cB0, 5, .inl fb0)), (ta1, .inl (cB1, 5, .inl fb1)), (ta2, .inl (cB2, 5, .inl fb2)), (ta3, .inl (cB3, 5, .inl fb3)), (ta4, .inl (cB4, 5, .inl fb4)), (ta5, .inl (cB5, 5, .inl fb5)), (ta6, .inl (cB6, 5, .inl fb6)), (ta7, .inl (cB7, 5, .inl fb7)), (ta8, .inl (cB8, 5, .inl fb8)), (ta9, .inl (cB9, 5, .inl fb9)), (mo, .inr (10, [.int 0, .ref mr, .int 1, .long 1345721088274991810]))] := hD
  refine lv_iinc (v := 3) (lv' := [(2, .int 3), (1, .int 1), (0, .ref mo)]) hx hb dX8_digest_69 hl (k := 0) rfl (by decide) (by decide) rfl (fun ls hl => ?_)
  refine lv_goto (tgt := 53) hx hb dX8_digest_72 (by decide) ?_
  refine lv_iload_n hx hb dX8_digest_53 rfl (lv_at hl 0 rfl) ?_
  refine lv_bipush (v := 10) hx hb dX8_digest_54 (by decide) ?_
  refine lv_icmp_ge (tgt := 75) hx hb dX8_digest_56 (by decide) (fun h => absurd h (by decide)) (fun _ => ?_)
  refine lv_aload_n hx hb dX8_digest_59 rfl (lv_at hl 2 rfl) ?_
  refine lv_aload_n hx hb dX8_digest_60 rfl (lv_at hl 2 rfl) ?_
  refine lv_iload_n hx hb dX8_digest_61 rfl (lv_at hl 1 rfl) ?_
  refine lv_iload_n hx hb dX8_digest_62 rfl (lv_at hl 0 rfl) ?_
  have hPr := (show va_P (dC, dI) vwCl [(mo, .inr (10, [.int 0, .ref mr, .int 1, .long 1345721088274991810])), (mr, .inr (9, [.ref ll, .ref lt, .ref lp, .int 0, .int 0, .int 0, .int 0, .int 0, .int 0, .int 0, .int (-1), .int 0, .int 0, .int 0])), (ll, .inr (1, [.int 2, .ref ola, .int 2])), (ola, .inl (cOl, 10, .inr (.inr (.inr (.inr fol))))), (la1, .inl (cA1, 10, .inl fa1))] H164 from (zo_cons ((hP) 12 _ rfl) (zo_cons (((zo_R hR0 hS hAr)) 0 _ rfl) (zo_cons (((zo_R hR0 hS hAr)) 1 _ rfl) (zo_cons (((zo_R hR0 hS hAr)) 4 _ rfl) (zo_cons ((hP) 1 _ rfl) (zo_nil : va_P (dC, dI) vwCl [] H164)))))))
  have hPc := hP.sub (ws' := []) [] rfl
  have hDc := hD.sub (ws' := []) [] (by decide) rfl
  have hKc := hK.sub (tys' := [(cOl, .object "java/lang/Object"), (cA1, .int)]) [0, 3] rfl
  have hFc := va_free (wc := []) hD hS hA [] rfl
  refine va_calli (va_runV (As := [.int 1, .int 3]) (rest := [.ref mo]) ⟨hx, hb, hml, hown, hts⟩ (cz_QofLockNow_1_3 l dC dI ed H164.size mo mr 0 1345721088274991810 ll lt lp ola cOl fol la1 cA1 fa1 hol1 ha1_3) (cwV 2 hts gX8_digest_X8_ofLockNow rfl rfl rfl (by decide +kernel) ⟨Nat.le_of_ble_eq_true rfl, Nat.le_of_ble_eq_true rfl⟩) ⟨zb_blind, va_recv hK hP (ci := 10) (q0 := 12) rfl rfl, fun U hU hW => ⟨rfl, zb_mk hU hW hPr hPc hKc hDc hN hH hS hFc zx_e⟩⟩ rfl rfl hl.1 rfl (lv_room (Nat.le_of_ble_eq_true rfl)) dX8_digest_63 ⟨Nat.le_of_ble_eq_true rfl, Nat.le_of_ble_eq_true rfl⟩) hS (fun q _ h => hFc q h) hFc (fun r168 u t H167 locs ht hvm hw hB hz1 hk1 hS => ?_)
  obtain rfl : r168 = 0 := hw
  have hP := zo_K hP hk1
  have hPr := (zo_nil : va_P (dC, dI) vwCl [] H167)
  have hPc := hP.sub (ws' := [(mo, .inr (10, [.int 0, .ref mr, .int 1, .long 1345721088274991810]))]) [12] rfl
  have hDc := hD.sub (ws' := [(mo, .inr (10, [.int 0, .ref mr, .int 1, .long 1345721088274991810]))]) [12] (by decide) rfl
  have hKc := hK.sub (tys' := []) [] rfl
  have hFc := va_free (wc := [(mo, .inr (10, [.int 0, .ref mr, .int 1, .long 1345721088274991810]))]) hD hS hA [12] rfl
  refine va_callv (va_runV (As := [.int 0]) (rest := []) ⟨hx, hb, hml, hown, hts⟩ (cz_X8_add l dC dI ed H167.size mo mr 0 1345721088274991810 0) (cwV 1 hts gX8_digest_X8_add rfl rfl rfl (by decide +kernel) ⟨Nat.le_of_ble_eq_true rfl, Nat.le_of_ble_eq_true rfl⟩) ⟨zb_blind, va_recv hK hP (ci := 10) (q0 := 12) rfl rfl, fun U hU hW => ⟨rfl, zb_mk hU hW hPr hPc hKc hDc hN hH hS hFc zx_nil⟩⟩ rfl rfl hl.1 rfl (lv_room (Nat.le_of_ble_eq_true rfl)) dX8_digest_66 ⟨Nat.le_of_ble_eq_true rfl, Nat.le_of_ble_eq_true rfl⟩) hS (fun q _ h => hFc q h) hFc (fun u t H169 locs ht hvm hw hB hz1 hk1 hS => ?_)
  obtain ⟨s1_171, hf171_0, hP1, hD1, hK1⟩ := hB
  obtain rfl : s1_171 = 4823865589105642878 := hf171_0.trans (by first | rfl | decide +kernel)
  rw [ht] at hP1
  obtain ⟨hP, hD⟩ := va_join (wr := [(la0, .inl (cA0, 10, .inl fa0)), (la1, .inl (cA1, 10, .inl fa1)), (ta0, .inl (cB0, 5, .inl fb0)), (ta1, .inl (cB1, 5, .inl fb1)), (ta2, .inl (cB2, 5, .inl fb2)), (ta3, .inl (cB3, 5, .inl fb3)), (ta4, .inl (cB4, 5, .inl fb4)), (ta5, .inl (cB5, 5, .inl fb5)), (ta6, .inl (cB6, 5, .inl fb6)), (ta7, .inl (cB7, 5, .inl fb7)), (ta8, .inl (cB8, 5, .inl fb8)), (ta9, .inl (cB9, 5, .inl fb9))]) (w1 := [(mo, .inr (10, [.int 0, .ref mr, .int 1, .long 4823865589105642878]))]) hP hD [12] [0, 1, 2, 3, 4, 5, 6, 7, 8, 9, 10, 11] rfl rfl (by decide) (by decide) hk1 hFc hP1 hD1
  have hP : va_P (dC, dI) vwCl [(la0, .inl (cA0, 10, .inl fa0)), (la1, .inl (cA1, 10, .inl fa1)), (ta0, .inl (cB0, 5, .inl fb0)), (ta1, .inl (cB1, 5, .inl fb1)), (ta2, .inl (cB2, 5, .inl fb2)), (ta3, .inl (cB3, 5, .inl fb3)), (ta4, .inl (cB4, 5, .inl fb4)), (ta5, .inl (cB5, 5, .inl fb5)), (ta6, .inl (cB6, 5, .inl fb6)), (ta7, .inl (cB7, 5, .inl fb7)), (ta8, .inl (cB8, 5, .inl fb8)), (ta9, .inl (cB9, 5, .inl fb9)), (mo, .inr (10, [.int 0, .ref mr, .int 1, .long 4823865589105642878]))] H169 := hP
  have hD : va_D A [(la0, .inl (cA0, 10, .inl fa0)), (la1, .inl (cA1, 10, .inl fa1)), (ta0, .inl (cB0, 5, .inl fb0)), (ta1, .inl (cB1, 5, .inl fb1)), (ta2, .inl (cB2, 5, .inl fb2)), (ta3, .inl (cB3, 5, .inl fb3)), (ta4, .inl (cB4, 5, .inl fb4)), (ta5, .inl (cB5, 5, .inl fb5)), (ta6, .inl (cB6, 5, .inl fb6)), (ta7, .inl (cB7, 5, .inl fb7)), (ta8, .inl (cB8, 5, .inl fb8)), (ta9, .inl (cB9, 5, .inl fb9)), (mo, .inr (10, [.int 0, .ref mr, .int 1, .long 4823865589105642878]))] := hD
  refine lv_iinc (v := 4) (lv' := [(2, .int 4), (1, .int 1), (0, .ref mo)]) hx hb dX8_digest_69 hl (k := 0) rfl (by decide) (by decide) rfl (fun ls hl => ?_)
  refine lv_goto (tgt := 53) hx hb dX8_digest_72 (by decide) ?_
  refine lv_iload_n hx hb dX8_digest_53 rfl (lv_at hl 0 rfl) ?_
  refine lv_bipush (v := 10) hx hb dX8_digest_54 (by decide) ?_
  refine lv_icmp_ge (tgt := 75) hx hb dX8_digest_56 (by decide) (fun h => absurd h (by decide)) (fun _ => ?_)
  refine lv_aload_n hx hb dX8_digest_59 rfl (lv_at hl 2 rfl) ?_
  refine lv_aload_n hx hb dX8_digest_60 rfl (lv_at hl 2 rfl) ?_
  refine lv_iload_n hx hb dX8_digest_61 rfl (lv_at hl 1 rfl) ?_
  refine lv_iload_n hx hb dX8_digest_62 rfl (lv_at hl 0 rfl) ?_
  have hPr := (show va_P (dC, dI) vwCl [(mo, .inr (10, [.int 0, .ref mr, .int 1, .long 4823865589105642878])), (mr, .inr (9, [.ref ll, .ref lt, .ref lp, .int 0, .int 0, .int 0, .int 0, .int 0, .int 0, .int 0, .int (-1), .int 0, .int 0, .int 0])), (ll, .inr (1, [.int 2, .ref ola, .int 2])), (ola, .inl (cOl, 10, .inr (.inr (.inr (.inr fol))))), (la1, .inl (cA1, 10, .inl fa1))] H169 from (zo_cons ((hP) 12 _ rfl) (zo_cons (((zo_R hR0 hS hAr)) 0 _ rfl) (zo_cons (((zo_R hR0 hS hAr)) 1 _ rfl) (zo_cons (((zo_R hR0 hS hAr)) 4 _ rfl) (zo_cons ((hP) 1 _ rfl) (zo_nil : va_P (dC, dI) vwCl [] H169)))))))
  have hPc := hP.sub (ws' := []) [] rfl
  have hDc := hD.sub (ws' := []) [] (by decide) rfl
  have hKc := hK.sub (tys' := [(cOl, .object "java/lang/Object"), (cA1, .int)]) [0, 3] rfl
  have hFc := va_free (wc := []) hD hS hA [] rfl
  refine va_calli (va_runV (As := [.int 1, .int 4]) (rest := [.ref mo]) ⟨hx, hb, hml, hown, hts⟩ (cz_QofLockNow_1_4 l dC dI ed H169.size mo mr 0 4823865589105642878 ll lt lp ola cOl fol la1 cA1 fa1 hol1 ha1_4) (cwV 2 hts gX8_digest_X8_ofLockNow rfl rfl rfl (by decide +kernel) ⟨Nat.le_of_ble_eq_true rfl, Nat.le_of_ble_eq_true rfl⟩) ⟨zb_blind, va_recv hK hP (ci := 10) (q0 := 12) rfl rfl, fun U hU hW => ⟨rfl, zb_mk hU hW hPr hPc hKc hDc hN hH hS hFc zx_e⟩⟩ rfl rfl hl.1 rfl (lv_room (Nat.le_of_ble_eq_true rfl)) dX8_digest_63 ⟨Nat.le_of_ble_eq_true rfl, Nat.le_of_ble_eq_true rfl⟩) hS (fun q _ h => hFc q h) hFc (fun r173 u t H172 locs ht hvm hw hB hz1 hk1 hS => ?_)
  obtain rfl : r173 = 0 := hw
  have hP := zo_K hP hk1
  have hPr := (zo_nil : va_P (dC, dI) vwCl [] H172)
  have hPc := hP.sub (ws' := [(mo, .inr (10, [.int 0, .ref mr, .int 1, .long 4823865589105642878]))]) [12] rfl
  have hDc := hD.sub (ws' := [(mo, .inr (10, [.int 0, .ref mr, .int 1, .long 4823865589105642878]))]) [12] (by decide) rfl
  have hKc := hK.sub (tys' := []) [] rfl
  have hFc := va_free (wc := [(mo, .inr (10, [.int 0, .ref mr, .int 1, .long 4823865589105642878]))]) hD hS hA [12] rfl
  refine va_callv (va_runV (As := [.int 0]) (rest := []) ⟨hx, hb, hml, hown, hts⟩ (cz_X8_add l dC dI ed H172.size mo mr 0 4823865589105642878 0) (cwV 1 hts gX8_digest_X8_add rfl rfl rfl (by decide +kernel) ⟨Nat.le_of_ble_eq_true rfl, Nat.le_of_ble_eq_true rfl⟩) ⟨zb_blind, va_recv hK hP (ci := 10) (q0 := 12) rfl rfl, fun U hU hW => ⟨rfl, zb_mk hU hW hPr hPc hKc hDc hN hH hS hFc zx_nil⟩⟩ rfl rfl hl.1 rfl (lv_room (Nat.le_of_ble_eq_true rfl)) dX8_digest_66 ⟨Nat.le_of_ble_eq_true rfl, Nat.le_of_ble_eq_true rfl⟩) hS (fun q _ h => hFc q h) hFc (fun u t H174 locs ht hvm hw hB hz1 hk1 hS => ?_)
  obtain ⟨s1_176, hf176_0, hP1, hD1, hK1⟩ := hB
  obtain rfl : s1_176 = 1965880672598516290 := hf176_0.trans (by first | rfl | decide +kernel)
  rw [ht] at hP1
  obtain ⟨hP, hD⟩ := va_join (wr := [(la0, .inl (cA0, 10, .inl fa0)), (la1, .inl (cA1, 10, .inl fa1)), (ta0, .inl (cB0, 5, .inl fb0)), (ta1, .inl (cB1, 5, .inl fb1)), (ta2, .inl (cB2, 5, .inl fb2)), (ta3, .inl (cB3, 5, .inl fb3)), (ta4, .inl (cB4, 5, .inl fb4)), (ta5, .inl (cB5, 5, .inl fb5)), (ta6, .inl (cB6, 5, .inl fb6)), (ta7, .inl (cB7, 5, .inl fb7)), (ta8, .inl (cB8, 5, .inl fb8)), (ta9, .inl (cB9, 5, .inl fb9))]) (w1 := [(mo, .inr (10, [.int 0, .ref mr, .int 1, .long 1965880672598516290]))]) hP hD [12] [0, 1, 2, 3, 4, 5, 6, 7, 8, 9, 10, 11] rfl rfl (by decide) (by decide) hk1 hFc hP1 hD1
  have hP : va_P (dC, dI) vwCl [(la0, .inl (cA0, 10, .inl fa0)), (la1, .inl (cA1, 10, .inl fa1)), (ta0, .inl (cB0, 5, .inl fb0)), (ta1, .inl (cB1, 5, .inl fb1)), (ta2, .inl (cB2, 5, .inl fb2)), (ta3, .inl (cB3, 5, .inl fb3)), (ta4, .inl (cB4, 5, .inl fb4)), (ta5, .inl (cB5, 5, .inl fb5)), (ta6, .inl (cB6, 5, .inl fb6)), (ta7, .inl (cB7, 5, .inl fb7)), (ta8, .inl (cB8, 5, .inl fb8)), (ta9, .inl (cB9, 5, .inl fb9)), (mo, .inr (10, [.int 0, .ref mr, .int 1, .long 1965880672598516290]))] H174 := hP
  have hD : va_D A [(la0, .inl (cA0, 10, .inl fa0)), (la1, .inl (cA1, 10, .inl fa1)), (ta0, .inl (cB0, 5, .inl fb0)), (ta1, .inl (cB1, 5, .inl fb1)), (ta2, .inl (cB2, 5, .inl fb2)), (ta3, .inl (cB3, 5, .inl fb3)), (ta4, .inl (cB4, 5, .inl fb4)), (ta5, .inl (cB5, 5, .inl fb5)), (ta6, .inl (cB6, 5, .inl fb6)), (ta7, .inl (cB7, 5, .inl fb7)), (ta8, .inl (cB8, 5, .inl fb8)), (ta9, .inl (cB9, 5, .inl fb9)), (mo, .inr (10, [.int 0, .ref mr, .int 1, .long 1965880672598516290]))] := hD
  refine lv_iinc (v := 5) (lv' := [(2, .int 5), (1, .int 1), (0, .ref mo)]) hx hb dX8_digest_69 hl (k := 0) rfl (by decide) (by decide) rfl (fun ls hl => ?_)
  refine lv_goto (tgt := 53) hx hb dX8_digest_72 (by decide) ?_
  refine lv_iload_n hx hb dX8_digest_53 rfl (lv_at hl 0 rfl) ?_
  refine lv_bipush (v := 10) hx hb dX8_digest_54 (by decide) ?_
  refine lv_icmp_ge (tgt := 75) hx hb dX8_digest_56 (by decide) (fun h => absurd h (by decide)) (fun _ => ?_)
  refine lv_aload_n hx hb dX8_digest_59 rfl (lv_at hl 2 rfl) ?_
  refine lv_aload_n hx hb dX8_digest_60 rfl (lv_at hl 2 rfl) ?_
  refine lv_iload_n hx hb dX8_digest_61 rfl (lv_at hl 1 rfl) ?_
  refine lv_iload_n hx hb dX8_digest_62 rfl (lv_at hl 0 rfl) ?_
  have hPr := (show va_P (dC, dI) vwCl [(mo, .inr (10, [.int 0, .ref mr, .int 1, .long 1965880672598516290])), (mr, .inr (9, [.ref ll, .ref lt, .ref lp, .int 0, .int 0, .int 0, .int 0, .int 0, .int 0, .int 0, .int (-1), .int 0, .int 0, .int 0])), (ll, .inr (1, [.int 2, .ref ola, .int 2])), (ola, .inl (cOl, 10, .inr (.inr (.inr (.inr fol))))), (la1, .inl (cA1, 10, .inl fa1))] H174 from (zo_cons ((hP) 12 _ rfl) (zo_cons (((zo_R hR0 hS hAr)) 0 _ rfl) (zo_cons (((zo_R hR0 hS hAr)) 1 _ rfl) (zo_cons (((zo_R hR0 hS hAr)) 4 _ rfl) (zo_cons ((hP) 1 _ rfl) (zo_nil : va_P (dC, dI) vwCl [] H174)))))))
  have hPc := hP.sub (ws' := []) [] rfl
  have hDc := hD.sub (ws' := []) [] (by decide) rfl
  have hKc := hK.sub (tys' := [(cOl, .object "java/lang/Object"), (cA1, .int)]) [0, 3] rfl
  have hFc := va_free (wc := []) hD hS hA [] rfl
  refine va_calli (va_runV (As := [.int 1, .int 5]) (rest := [.ref mo]) ⟨hx, hb, hml, hown, hts⟩ (cz_QofLockNow_1_5 l dC dI ed H174.size mo mr 0 1965880672598516290 ll lt lp ola cOl fol la1 cA1 fa1 hol1 ha1_5) (cwV 2 hts gX8_digest_X8_ofLockNow rfl rfl rfl (by decide +kernel) ⟨Nat.le_of_ble_eq_true rfl, Nat.le_of_ble_eq_true rfl⟩) ⟨zb_blind, va_recv hK hP (ci := 10) (q0 := 12) rfl rfl, fun U hU hW => ⟨rfl, zb_mk hU hW hPr hPc hKc hDc hN hH hS hFc zx_e⟩⟩ rfl rfl hl.1 rfl (lv_room (Nat.le_of_ble_eq_true rfl)) dX8_digest_63 ⟨Nat.le_of_ble_eq_true rfl, Nat.le_of_ble_eq_true rfl⟩) hS (fun q _ h => hFc q h) hFc (fun r178 u t H177 locs ht hvm hw hB hz1 hk1 hS => ?_)
  obtain rfl : r178 = 0 := hw
  have hP := zo_K hP hk1
  have hPr := (zo_nil : va_P (dC, dI) vwCl [] H177)
  have hPc := hP.sub (ws' := [(mo, .inr (10, [.int 0, .ref mr, .int 1, .long 1965880672598516290]))]) [12] rfl
  have hDc := hD.sub (ws' := [(mo, .inr (10, [.int 0, .ref mr, .int 1, .long 1965880672598516290]))]) [12] (by decide) rfl
  have hKc := hK.sub (tys' := []) [] rfl
  have hFc := va_free (wc := [(mo, .inr (10, [.int 0, .ref mr, .int 1, .long 1965880672598516290]))]) hD hS hA [12] rfl
  refine va_callv (va_runV (As := [.int 0]) (rest := []) ⟨hx, hb, hml, hown, hts⟩ (cz_X8_add l dC dI ed H177.size mo mr 0 1965880672598516290 0) (cwV 1 hts gX8_digest_X8_add rfl rfl rfl (by decide +kernel) ⟨Nat.le_of_ble_eq_true rfl, Nat.le_of_ble_eq_true rfl⟩) ⟨zb_blind, va_recv hK hP (ci := 10) (q0 := 12) rfl rfl, fun U hU hW => ⟨rfl, zb_mk hU hW hPr hPc hKc hDc hN hH hS hFc zx_nil⟩⟩ rfl rfl hl.1 rfl (lv_room (Nat.le_of_ble_eq_true rfl)) dX8_digest_66 ⟨Nat.le_of_ble_eq_true rfl, Nat.le_of_ble_eq_true rfl⟩) hS (fun q _ h => hFc q h) hFc (fun u t H179 locs ht hvm hw hB hz1 hk1 hS => ?_)
  obtain ⟨s1_181, hf181_0, hP1, hD1, hK1⟩ := hB
  obtain rfl : s1_181 = 5602068629425350142 := hf181_0.trans (by first | rfl | decide +kernel)
  rw [ht] at hP1
  obtain ⟨hP, hD⟩ := va_join (wr := [(la0, .inl (cA0, 10, .inl fa0)), (la1, .inl (cA1, 10, .inl fa1)), (ta0, .inl (cB0, 5, .inl fb0)), (ta1, .inl (cB1, 5, .inl fb1)), (ta2, .inl (cB2, 5, .inl fb2)), (ta3, .inl (cB3, 5, .inl fb3)), (ta4, .inl (cB4, 5, .inl fb4)), (ta5, .inl (cB5, 5, .inl fb5)), (ta6, .inl (cB6, 5, .inl fb6)), (ta7, .inl (cB7, 5, .inl fb7)), (ta8, .inl (cB8, 5, .inl fb8)), (ta9, .inl (cB9, 5, .inl fb9))]) (w1 := [(mo, .inr (10, [.int 0, .ref mr, .int 1, .long 5602068629425350142]))]) hP hD [12] [0, 1, 2, 3, 4, 5, 6, 7, 8, 9, 10, 11] rfl rfl (by decide) (by decide) hk1 hFc hP1 hD1
  have hP : va_P (dC, dI) vwCl [(la0, .inl (cA0, 10, .inl fa0)), (la1, .inl (cA1, 10, .inl fa1)), (ta0, .inl (cB0, 5, .inl fb0)), (ta1, .inl (cB1, 5, .inl fb1)), (ta2, .inl (cB2, 5, .inl fb2)), (ta3, .inl (cB3, 5, .inl fb3)), (ta4, .inl (cB4, 5, .inl fb4)), (ta5, .inl (cB5, 5, .inl fb5)), (ta6, .inl (cB6, 5, .inl fb6)), (ta7, .inl (cB7, 5, .inl fb7)), (ta8, .inl (cB8, 5, .inl fb8)), (ta9, .inl (cB9, 5, .inl fb9)), (mo, .inr (10, [.int 0, .ref mr, .int 1, .long 5602068629425350142]))] H179 := hP
  have hD : va_D A [(la0, .inl (cA0, 10, .inl fa0)), (la1, .inl (cA1, 10, .inl fa1)), (ta0, .inl (cB0, 5, .inl fb0)), (ta1, .inl (cB1, 5, .inl fb1)), (ta2, .inl (cB2, 5, .inl fb2)), (ta3, .inl (cB3, 5, .inl fb3)), (ta4, .inl (cB4, 5, .inl fb4)), (ta5, .inl (cB5, 5, .inl fb5)), (ta6, .inl (cB6, 5, .inl fb6)), (ta7, .inl (cB7, 5, .inl fb7)), (ta8, .inl (cB8, 5, .inl fb8)), (ta9, .inl (cB9, 5, .inl fb9)), (mo, .inr (10, [.int 0, .ref mr, .int 1, .long 5602068629425350142]))] := hD
  refine lv_iinc (v := 6) (lv' := [(2, .int 6), (1, .int 1), (0, .ref mo)]) hx hb dX8_digest_69 hl (k := 0) rfl (by decide) (by decide) rfl (fun ls hl => ?_)
  refine lv_goto (tgt := 53) hx hb dX8_digest_72 (by decide) ?_
  refine lv_iload_n hx hb dX8_digest_53 rfl (lv_at hl 0 rfl) ?_
  refine lv_bipush (v := 10) hx hb dX8_digest_54 (by decide) ?_
  refine lv_icmp_ge (tgt := 75) hx hb dX8_digest_56 (by decide) (fun h => absurd h (by decide)) (fun _ => ?_)
  refine lv_aload_n hx hb dX8_digest_59 rfl (lv_at hl 2 rfl) ?_
  refine lv_aload_n hx hb dX8_digest_60 rfl (lv_at hl 2 rfl) ?_
  refine lv_iload_n hx hb dX8_digest_61 rfl (lv_at hl 1 rfl) ?_
  refine lv_iload_n hx hb dX8_digest_62 rfl (lv_at hl 0 rfl) ?_
  have hPr := (show va_P (dC, dI) vwCl [(mo, .inr (10, [.int 0, .ref mr, .int 1, .long 5602068629425350142])), (mr, .inr (9, [.ref ll, .ref lt, .ref lp, .int 0, .int 0, .int 0, .int 0, .int 0, .int 0, .int 0, .int (-1), .int 0, .int 0, .int 0])), (ll, .inr (1, [.int 2, .ref ola, .int 2])), (ola, .inl (cOl, 10, .inr (.inr (.inr (.inr fol))))), (la1, .inl (cA1, 10, .inl fa1))] H179 from (zo_cons ((hP) 12 _ rfl) (zo_cons (((zo_R hR0 hS hAr)) 0 _ rfl) (zo_cons (((zo_R hR0 hS hAr)) 1 _ rfl) (zo_cons (((zo_R hR0 hS hAr)) 4 _ rfl) (zo_cons ((hP) 1 _ rfl) (zo_nil : va_P (dC, dI) vwCl [] H179)))))))
  have hPc := hP.sub (ws' := []) [] rfl
  have hDc := hD.sub (ws' := []) [] (by decide) rfl
  have hKc := hK.sub (tys' := [(cOl, .object "java/lang/Object"), (cA1, .int)]) [0, 3] rfl
  have hFc := va_free (wc := []) hD hS hA [] rfl
  refine va_calli (va_runV (As := [.int 1, .int 6]) (rest := [.ref mo]) ⟨hx, hb, hml, hown, hts⟩ (cz_QofLockNow_1_6 l dC dI ed H179.size mo mr 0 5602068629425350142 ll lt lp ola cOl fol la1 cA1 fa1 hol1 ha1_6) (cwV 2 hts gX8_digest_X8_ofLockNow rfl rfl rfl (by decide +kernel) ⟨Nat.le_of_ble_eq_true rfl, Nat.le_of_ble_eq_true rfl⟩) ⟨zb_blind, va_recv hK hP (ci := 10) (q0 := 12) rfl rfl, fun U hU hW => ⟨rfl, zb_mk hU hW hPr hPc hKc hDc hN hH hS hFc zx_e⟩⟩ rfl rfl hl.1 rfl (lv_room (Nat.le_of_ble_eq_true rfl)) dX8_digest_63 ⟨Nat.le_of_ble_eq_true rfl, Nat.le_of_ble_eq_true rfl⟩) hS (fun q _ h => hFc q h) hFc (fun r183 u t H182 locs ht hvm hw hB hz1 hk1 hS => ?_)
  obtain rfl : r183 = 0 := hw
  have hP := zo_K hP hk1
  have hPr := (zo_nil : va_P (dC, dI) vwCl [] H182)
  have hPc := hP.sub (ws' := [(mo, .inr (10, [.int 0, .ref mr, .int 1, .long 5602068629425350142]))]) [12] rfl
  have hDc := hD.sub (ws' := [(mo, .inr (10, [.int 0, .ref mr, .int 1, .long 5602068629425350142]))]) [12] (by decide) rfl
  have hKc := hK.sub (tys' := []) [] rfl
  have hFc := va_free (wc := [(mo, .inr (10, [.int 0, .ref mr, .int 1, .long 5602068629425350142]))]) hD hS hA [12] rfl
  refine va_callv (va_runV (As := [.int 0]) (rest := []) ⟨hx, hb, hml, hown, hts⟩ (cz_X8_add l dC dI ed H182.size mo mr 0 5602068629425350142 0) (cwV 1 hts gX8_digest_X8_add rfl rfl rfl (by decide +kernel) ⟨Nat.le_of_ble_eq_true rfl, Nat.le_of_ble_eq_true rfl⟩) ⟨zb_blind, va_recv hK hP (ci := 10) (q0 := 12) rfl rfl, fun U hU hW => ⟨rfl, zb_mk hU hW hPr hPc hKc hDc hN hH hS hFc zx_nil⟩⟩ rfl rfl hl.1 rfl (lv_room (Nat.le_of_ble_eq_true rfl)) dX8_digest_66 ⟨Nat.le_of_ble_eq_true rfl, Nat.le_of_ble_eq_true rfl⟩) hS (fun q _ h => hFc q h) hFc (fun u t H184 locs ht hvm hw hB hz1 hk1 hS => ?_)
  obtain ⟨s1_186, hf186_0, hP1, hD1, hK1⟩ := hB
  obtain rfl : s1_186 = 7643430848799889858 := hf186_0.trans (by first | rfl | decide +kernel)
  rw [ht] at hP1
  obtain ⟨hP, hD⟩ := va_join (wr := [(la0, .inl (cA0, 10, .inl fa0)), (la1, .inl (cA1, 10, .inl fa1)), (ta0, .inl (cB0, 5, .inl fb0)), (ta1, .inl (cB1, 5, .inl fb1)), (ta2, .inl (cB2, 5, .inl fb2)), (ta3, .inl (cB3, 5, .inl fb3)), (ta4, .inl (cB4, 5, .inl fb4)), (ta5, .inl (cB5, 5, .inl fb5)), (ta6, .inl (cB6, 5, .inl fb6)), (ta7, .inl (cB7, 5, .inl fb7)), (ta8, .inl (cB8, 5, .inl fb8)), (ta9, .inl (cB9, 5, .inl fb9))]) (w1 := [(mo, .inr (10, [.int 0, .ref mr, .int 1, .long 7643430848799889858]))]) hP hD [12] [0, 1, 2, 3, 4, 5, 6, 7, 8, 9, 10, 11] rfl rfl (by decide) (by decide) hk1 hFc hP1 hD1
  have hP : va_P (dC, dI) vwCl [(la0, .inl (cA0, 10, .inl fa0)), (la1, .inl (cA1, 10, .inl fa1)), (ta0, .inl (cB0, 5, .inl fb0)), (ta1, .inl (cB1, 5, .inl fb1)), (ta2, .inl (cB2, 5, .inl fb2)), (ta3, .inl (cB3, 5, .inl fb3)), (ta4, .inl (cB4, 5, .inl fb4)), (ta5, .inl (cB5, 5, .inl fb5)), (ta6, .inl (cB6, 5, .inl fb6)), (ta7, .inl (cB7, 5, .inl fb7)), (ta8, .inl (cB8, 5, .inl fb8)), (ta9, .inl (cB9, 5, .inl fb9)), (mo, .inr (10, [.int 0, .ref mr, .int 1, .long 7643430848799889858]))] H184 := hP
  have hD : va_D A [(la0, .inl (cA0, 10, .inl fa0)), (la1, .inl (cA1, 10, .inl fa1)), (ta0, .inl (cB0, 5, .inl fb0)), (ta1, .inl (cB1, 5, .inl fb1)), (ta2, .inl (cB2, 5, .inl fb2)), (ta3, .inl (cB3, 5, .inl fb3)), (ta4, .inl (cB4, 5, .inl fb4)), (ta5, .inl (cB5, 5, .inl fb5)), (ta6, .inl (cB6, 5, .inl fb6)), (ta7, .inl (cB7, 5, .inl fb7)), (ta8, .inl (cB8, 5, .inl fb8)), (ta9, .inl (cB9, 5, .inl fb9)), (mo, .inr (10, [.int 0, .ref mr, .int 1, .long 7643430848799889858]))] := hD
  refine lv_iinc (v := 7) (lv' := [(2, .int 7), (1, .int 1), (0, .ref mo)]) hx hb dX8_digest_69 hl (k := 0) rfl (by decide) (by decide) rfl (fun ls hl => ?_)
  refine lv_goto (tgt := 53) hx hb dX8_digest_72 (by decide) ?_
  refine lv_iload_n hx hb dX8_digest_53 rfl (lv_at hl 0 rfl) ?_
  refine lv_bipush (v := 10) hx hb dX8_digest_54 (by decide) ?_
  refine lv_icmp_ge (tgt := 75) hx hb dX8_digest_56 (by decide) (fun h => absurd h (by decide)) (fun _ => ?_)
  refine lv_aload_n hx hb dX8_digest_59 rfl (lv_at hl 2 rfl) ?_
  refine lv_aload_n hx hb dX8_digest_60 rfl (lv_at hl 2 rfl) ?_
  refine lv_iload_n hx hb dX8_digest_61 rfl (lv_at hl 1 rfl) ?_
  refine lv_iload_n hx hb dX8_digest_62 rfl (lv_at hl 0 rfl) ?_
  have hPr := (show va_P (dC, dI) vwCl [(mo, .inr (10, [.int 0, .ref mr, .int 1, .long 7643430848799889858])), (mr, .inr (9, [.ref ll, .ref lt, .ref lp, .int 0, .int 0, .int 0, .int 0, .int 0, .int 0, .int 0, .int (-1), .int 0, .int 0, .int 0])), (ll, .inr (1, [.int 2, .ref ola, .int 2])), (ola, .inl (cOl, 10, .inr (.inr (.inr (.inr fol))))), (la1, .inl (cA1, 10, .inl fa1))] H184 from (zo_cons ((hP) 12 _ rfl) (zo_cons (((zo_R hR0 hS hAr)) 0 _ rfl) (zo_cons (((zo_R hR0 hS hAr)) 1 _ rfl) (zo_cons (((zo_R hR0 hS hAr)) 4 _ rfl) (zo_cons ((hP) 1 _ rfl) (zo_nil : va_P (dC, dI) vwCl [] H184)))))))
  have hPc := hP.sub (ws' := []) [] rfl
  have hDc := hD.sub (ws' := []) [] (by decide) rfl
  have hKc := hK.sub (tys' := [(cOl, .object "java/lang/Object"), (cA1, .int)]) [0, 3] rfl
  have hFc := va_free (wc := []) hD hS hA [] rfl
  refine va_calli (va_runV (As := [.int 1, .int 7]) (rest := [.ref mo]) ⟨hx, hb, hml, hown, hts⟩ (cz_QofLockNow_1_7 l dC dI ed H184.size mo mr 0 7643430848799889858 ll lt lp ola cOl fol la1 cA1 fa1 hol1 ha1_7) (cwV 2 hts gX8_digest_X8_ofLockNow rfl rfl rfl (by decide +kernel) ⟨Nat.le_of_ble_eq_true rfl, Nat.le_of_ble_eq_true rfl⟩) ⟨zb_blind, va_recv hK hP (ci := 10) (q0 := 12) rfl rfl, fun U hU hW => ⟨rfl, zb_mk hU hW hPr hPc hKc hDc hN hH hS hFc zx_e⟩⟩ rfl rfl hl.1 rfl (lv_room (Nat.le_of_ble_eq_true rfl)) dX8_digest_63 ⟨Nat.le_of_ble_eq_true rfl, Nat.le_of_ble_eq_true rfl⟩) hS (fun q _ h => hFc q h) hFc (fun r188 u t H187 locs ht hvm hw hB hz1 hk1 hS => ?_)
  obtain rfl : r188 = 0 := hw
  have hP := zo_K hP hk1
  have hPr := (zo_nil : va_P (dC, dI) vwCl [] H187)
  have hPc := hP.sub (ws' := [(mo, .inr (10, [.int 0, .ref mr, .int 1, .long 7643430848799889858]))]) [12] rfl
  have hDc := hD.sub (ws' := [(mo, .inr (10, [.int 0, .ref mr, .int 1, .long 7643430848799889858]))]) [12] (by decide) rfl
  have hKc := hK.sub (tys' := []) [] rfl
  have hFc := va_free (wc := [(mo, .inr (10, [.int 0, .ref mr, .int 1, .long 7643430848799889858]))]) hD hS hA [12] rfl
  refine va_callv (va_runV (As := [.int 0]) (rest := []) ⟨hx, hb, hml, hown, hts⟩ (cz_X8_add l dC dI ed H187.size mo mr 0 7643430848799889858 0) (cwV 1 hts gX8_digest_X8_add rfl rfl rfl (by decide +kernel) ⟨Nat.le_of_ble_eq_true rfl, Nat.le_of_ble_eq_true rfl⟩) ⟨zb_blind, va_recv hK hP (ci := 10) (q0 := 12) rfl rfl, fun U hU hW => ⟨rfl, zb_mk hU hW hPr hPc hKc hDc hN hH hS hFc zx_nil⟩⟩ rfl rfl hl.1 rfl (lv_room (Nat.le_of_ble_eq_true rfl)) dX8_digest_66 ⟨Nat.le_of_ble_eq_true rfl, Nat.le_of_ble_eq_true rfl⟩) hS (fun q _ h => hFc q h) hFc (fun u t H189 locs ht hvm hw hB hz1 hk1 hS => ?_)
  obtain ⟨s1_191, hf191_0, hP1, hD1, hK1⟩ := hB
  obtain rfl : s1_191 = (-2861316645427585410) := hf191_0.trans (by first | rfl | decide +kernel)
  rw [ht] at hP1
  obtain ⟨hP, hD⟩ := va_join (wr := [(la0, .inl (cA0, 10, .inl fa0)), (la1, .inl (cA1, 10, .inl fa1)), (ta0, .inl (cB0, 5, .inl fb0)), (ta1, .inl (cB1, 5, .inl fb1)), (ta2, .inl (cB2, 5, .inl fb2)), (ta3, .inl (cB3, 5, .inl fb3)), (ta4, .inl (cB4, 5, .inl fb4)), (ta5, .inl (cB5, 5, .inl fb5)), (ta6, .inl (cB6, 5, .inl fb6)), (ta7, .inl (cB7, 5, .inl fb7)), (ta8, .inl (cB8, 5, .inl fb8)), (ta9, .inl (cB9, 5, .inl fb9))]) (w1 := [(mo, .inr (10, [.int 0, .ref mr, .int 1, .long (-2861316645427585410)]))]) hP hD [12] [0, 1, 2, 3, 4, 5, 6, 7, 8, 9, 10, 11] rfl rfl (by decide) (by decide) hk1 hFc hP1 hD1
  have hP : va_P (dC, dI) vwCl [(la0, .inl (cA0, 10, .inl fa0)), (la1, .inl (cA1, 10, .inl fa1)), (ta0, .inl (cB0, 5, .inl fb0)), (ta1, .inl (cB1, 5, .inl fb1)), (ta2, .inl (cB2, 5, .inl fb2)), (ta3, .inl (cB3, 5, .inl fb3)), (ta4, .inl (cB4, 5, .inl fb4)), (ta5, .inl (cB5, 5, .inl fb5)), (ta6, .inl (cB6, 5, .inl fb6)), (ta7, .inl (cB7, 5, .inl fb7)), (ta8, .inl (cB8, 5, .inl fb8)), (ta9, .inl (cB9, 5, .inl fb9)), (mo, .inr (10, [.int 0, .ref mr, .int 1, .long (-2861316645427585410)]))] H189 := hP
  have hD : va_D A [(la0, .inl (cA0, 10, .inl fa0)), (la1, .inl (cA1, 10, .inl fa1)), (ta0, .inl (cB0, 5, .inl fb0)), (ta1, .inl (cB1, 5, .inl fb1)), (ta2, .inl (cB2, 5, .inl fb2)), (ta3, .inl (cB3, 5, .inl fb3)), (ta4, .inl (cB4, 5, .inl fb4)), (ta5, .inl (cB5, 5, .inl fb5)), (ta6, .inl (cB6, 5, .inl fb6)), (ta7, .inl (cB7, 5, .inl fb7)), (ta8, .inl (cB8, 5, .inl fb8)), (ta9, .inl (cB9, 5, .inl fb9)), (mo, .inr (10, [.int 0, .ref mr, .int 1, .long (-2861316645427585410)]))] := hD
  refine lv_iinc (v := 8) (lv' := [(2, .int 8), (1, .int 1), (0, .ref mo)]) hx hb dX8_digest_69 hl (k := 0) rfl (by decide) (by decide) rfl (fun ls hl => ?_)
  refine lv_goto (tgt := 53) hx hb dX8_digest_72 (by decide) ?_
  refine lv_iload_n hx hb dX8_digest_53 rfl (lv_at hl 0 rfl) ?_
  refine lv_bipush (v := 10) hx hb dX8_digest_54 (by decide) ?_
  refine lv_icmp_ge (tgt := 75) hx hb dX8_digest_56 (by decide) (fun h => absurd h (by decide)) (fun _ => ?_)
  refine lv_aload_n hx hb dX8_digest_59 rfl (lv_at hl 2 rfl) ?_
  refine lv_aload_n hx hb dX8_digest_60 rfl (lv_at hl 2 rfl) ?_
  refine lv_iload_n hx hb dX8_digest_61 rfl (lv_at hl 1 rfl) ?_
  refine lv_iload_n hx hb dX8_digest_62 rfl (lv_at hl 0 rfl) ?_
  have hPr := (show va_P (dC, dI) vwCl [(mo, .inr (10, [.int 0, .ref mr, .int 1, .long (-2861316645427585410)])), (mr, .inr (9, [.ref ll, .ref lt, .ref lp, .int 0, .int 0, .int 0, .int 0, .int 0, .int 0, .int 0, .int (-1), .int 0, .int 0, .int 0])), (ll, .inr (1, [.int 2, .ref ola, .int 2])), (ola, .inl (cOl, 10, .inr (.inr (.inr (.inr fol))))), (la1, .inl (cA1, 10, .inl fa1))] H189 from (zo_cons ((hP) 12 _ rfl) (zo_cons (((zo_R hR0 hS hAr)) 0 _ rfl) (zo_cons (((zo_R hR0 hS hAr)) 1 _ rfl) (zo_cons (((zo_R hR0 hS hAr)) 4 _ rfl) (zo_cons ((hP) 1 _ rfl) (zo_nil : va_P (dC, dI) vwCl [] H189)))))))
  have hPc := hP.sub (ws' := []) [] rfl
  have hDc := hD.sub (ws' := []) [] (by decide) rfl
  have hKc := hK.sub (tys' := [(cOl, .object "java/lang/Object"), (cA1, .int)]) [0, 3] rfl
  have hFc := va_free (wc := []) hD hS hA [] rfl
  refine va_calli (va_runV (As := [.int 1, .int 8]) (rest := [.ref mo]) ⟨hx, hb, hml, hown, hts⟩ (cz_QofLockNow_1_8 l dC dI ed H189.size mo mr 0 (-2861316645427585410) ll lt lp ola cOl fol la1 cA1 fa1 hol1 ha1_8) (cwV 2 hts gX8_digest_X8_ofLockNow rfl rfl rfl (by decide +kernel) ⟨Nat.le_of_ble_eq_true rfl, Nat.le_of_ble_eq_true rfl⟩) ⟨zb_blind, va_recv hK hP (ci := 10) (q0 := 12) rfl rfl, fun U hU hW => ⟨rfl, zb_mk hU hW hPr hPc hKc hDc hN hH hS hFc zx_e⟩⟩ rfl rfl hl.1 rfl (lv_room (Nat.le_of_ble_eq_true rfl)) dX8_digest_63 ⟨Nat.le_of_ble_eq_true rfl, Nat.le_of_ble_eq_true rfl⟩) hS (fun q _ h => hFc q h) hFc (fun r193 u t H192 locs ht hvm hw hB hz1 hk1 hS => ?_)
  obtain rfl : r193 = 0 := hw
  have hP := zo_K hP hk1
  have hPr := (zo_nil : va_P (dC, dI) vwCl [] H192)
  have hPc := hP.sub (ws' := [(mo, .inr (10, [.int 0, .ref mr, .int 1, .long (-2861316645427585410)]))]) [12] rfl
  have hDc := hD.sub (ws' := [(mo, .inr (10, [.int 0, .ref mr, .int 1, .long (-2861316645427585410)]))]) [12] (by decide) rfl
  have hKc := hK.sub (tys' := []) [] rfl
  have hFc := va_free (wc := [(mo, .inr (10, [.int 0, .ref mr, .int 1, .long (-2861316645427585410)]))]) hD hS hA [12] rfl
  refine va_callv (va_runV (As := [.int 0]) (rest := []) ⟨hx, hb, hml, hown, hts⟩ (cz_X8_add l dC dI ed H192.size mo mr 0 (-2861316645427585410) 0) (cwV 1 hts gX8_digest_X8_add rfl rfl rfl (by decide +kernel) ⟨Nat.le_of_ble_eq_true rfl, Nat.le_of_ble_eq_true rfl⟩) ⟨zb_blind, va_recv hK hP (ci := 10) (q0 := 12) rfl rfl, fun U hU hW => ⟨rfl, zb_mk hU hW hPr hPc hKc hDc hN hH hS hFc zx_nil⟩⟩ rfl rfl hl.1 rfl (lv_room (Nat.le_of_ble_eq_true rfl)) dX8_digest_66 ⟨Nat.le_of_ble_eq_true rfl, Nat.le_of_ble_eq_true rfl⟩) hS (fun q _ h => hFc q h) hFc (fun u t H194 locs ht hvm hw hB hz1 hk1 hS => ?_)
  obtain ⟨s1_196, hf196_0, hP1, hD1, hK1⟩ := hB
  obtain rfl : s1_196 = 3532904360292610370 := hf196_0.trans (by first | rfl | decide +kernel)
  rw [ht] at hP1
  obtain ⟨hP, hD⟩ := va_join (wr := [(la0, .inl (cA0, 10, .inl fa0)), (la1, .inl (cA1, 10, .inl fa1)), (ta0, .inl (cB0, 5, .inl fb0)), (ta1, .inl (cB1, 5, .inl fb1)), (ta2, .inl (cB2, 5, .inl fb2)), (ta3, .inl (cB3, 5, .inl fb3)), (ta4, .inl (cB4, 5, .inl fb4)), (ta5, .inl (cB5, 5, .inl fb5)), (ta6, .inl (cB6, 5, .inl fb6)), (ta7, .inl (cB7, 5, .inl fb7)), (ta8, .inl (cB8, 5, .inl fb8)), (ta9, .inl (cB9, 5, .inl fb9))]) (w1 := [(mo, .inr (10, [.int 0, .ref mr, .int 1, .long 3532904360292610370]))]) hP hD [12] [0, 1, 2, 3, 4, 5, 6, 7, 8, 9, 10, 11] rfl rfl (by decide) (by decide) hk1 hFc hP1 hD1
  have hP : va_P (dC, dI) vwCl [(la0, .inl (cA0, 10, .inl fa0)), (la1, .inl (cA1, 10, .inl fa1)), (ta0, .inl (cB0, 5, .inl fb0)), (ta1, .inl (cB1, 5, .inl fb1)), (ta2, .inl (cB2, 5, .inl fb2)), (ta3, .inl (cB3, 5, .inl fb3)), (ta4, .inl (cB4, 5, .inl fb4)), (ta5, .inl (cB5, 5, .inl fb5)), (ta6, .inl (cB6, 5, .inl fb6)), (ta7, .inl (cB7, 5, .inl fb7)), (ta8, .inl (cB8, 5, .inl fb8)), (ta9, .inl (cB9, 5, .inl fb9)), (mo, .inr (10, [.int 0, .ref mr, .int 1, .long 3532904360292610370]))] H194 := hP
  have hD : va_D A [(la0, .inl (cA0, 10, .inl fa0)), (la1, .inl (cA1, 10, .inl fa1)), (ta0, .inl (cB0, 5, .inl fb0)), (ta1, .inl (cB1, 5, .inl fb1)), (ta2, .inl (cB2, 5, .inl fb2)), (ta3, .inl (cB3, 5, .inl fb3)), (ta4, .inl (cB4, 5, .inl fb4)), (ta5, .inl (cB5, 5, .inl fb5)), (ta6, .inl (cB6, 5, .inl fb6)), (ta7, .inl (cB7, 5, .inl fb7)), (ta8, .inl (cB8, 5, .inl fb8)), (ta9, .inl (cB9, 5, .inl fb9)), (mo, .inr (10, [.int 0, .ref mr, .int 1, .long 3532904360292610370]))] := hD
  refine lv_iinc (v := 9) (lv' := [(2, .int 9), (1, .int 1), (0, .ref mo)]) hx hb dX8_digest_69 hl (k := 0) rfl (by decide) (by decide) rfl (fun ls hl => ?_)
  refine lv_goto (tgt := 53) hx hb dX8_digest_72 (by decide) ?_
  refine lv_iload_n hx hb dX8_digest_53 rfl (lv_at hl 0 rfl) ?_
  refine lv_bipush (v := 10) hx hb dX8_digest_54 (by decide) ?_
  refine lv_icmp_ge (tgt := 75) hx hb dX8_digest_56 (by decide) (fun h => absurd h (by decide)) (fun _ => ?_)
  refine lv_aload_n hx hb dX8_digest_59 rfl (lv_at hl 2 rfl) ?_
  refine lv_aload_n hx hb dX8_digest_60 rfl (lv_at hl 2 rfl) ?_
  refine lv_iload_n hx hb dX8_digest_61 rfl (lv_at hl 1 rfl) ?_
  refine lv_iload_n hx hb dX8_digest_62 rfl (lv_at hl 0 rfl) ?_
  have hPr := (show va_P (dC, dI) vwCl [(mo, .inr (10, [.int 0, .ref mr, .int 1, .long 3532904360292610370])), (mr, .inr (9, [.ref ll, .ref lt, .ref lp, .int 0, .int 0, .int 0, .int 0, .int 0, .int 0, .int 0, .int (-1), .int 0, .int 0, .int 0])), (ll, .inr (1, [.int 2, .ref ola, .int 2])), (ola, .inl (cOl, 10, .inr (.inr (.inr (.inr fol))))), (la1, .inl (cA1, 10, .inl fa1)), (lt, .inr (1, [.int 10, .ref ota, .int 10])), (ota, .inl (cOt, 10, .inr (.inr (.inr (.inr fot))))), (ta0, .inl (cB0, 5, .inl fb0)), (ta1, .inl (cB1, 5, .inl fb1)), (ta2, .inl (cB2, 5, .inl fb2)), (ta3, .inl (cB3, 5, .inl fb3)), (ta4, .inl (cB4, 5, .inl fb4)), (ta5, .inl (cB5, 5, .inl fb5)), (ta6, .inl (cB6, 5, .inl fb6)), (ta7, .inl (cB7, 5, .inl fb7)), (ta8, .inl (cB8, 5, .inl fb8)), (ta9, .inl (cB9, 5, .inl fb9))] H194 from (zo_cons ((hP) 12 _ rfl) (zo_cons (((zo_R hR0 hS hAr)) 0 _ rfl) (zo_cons (((zo_R hR0 hS hAr)) 1 _ rfl) (zo_cons (((zo_R hR0 hS hAr)) 4 _ rfl) (zo_cons ((hP) 1 _ rfl) (zo_cons (((zo_R hR0 hS hAr)) 2 _ rfl) (zo_cons (((zo_R hR0 hS hAr)) 5 _ rfl) (zo_cons ((hP) 2 _ rfl) (zo_cons ((hP) 3 _ rfl) (zo_cons ((hP) 4 _ rfl) (zo_cons ((hP) 5 _ rfl) (zo_cons ((hP) 6 _ rfl) (zo_cons ((hP) 7 _ rfl) (zo_cons ((hP) 8 _ rfl) (zo_cons ((hP) 9 _ rfl) (zo_cons ((hP) 10 _ rfl) (zo_cons ((hP) 11 _ rfl) (zo_nil : va_P (dC, dI) vwCl [] H194)))))))))))))))))))
  have hPc := hP.sub (ws' := []) [] rfl
  have hDc := hD.sub (ws' := []) [] (by decide) rfl
  have hKc := hK.sub (tys' := [(cOl, .object "java/lang/Object"), (cA1, .int), (cOt, .object "java/lang/Object"), (cB0, .int), (cB1, .int), (cB2, .int), (cB3, .int), (cB4, .int), (cB5, .int), (cB6, .int), (cB7, .int), (cB8, .int), (cB9, .int)]) [0, 3, 1, 4, 5, 6, 7, 8, 9, 10, 11, 12, 13] rfl
  have hFc := va_free (wc := []) hD hS hA [] rfl
  refine va_calli (va_runV (As := [.int 1, .int 9]) (rest := [.ref mo]) ⟨hx, hb, hml, hown, hts⟩ (cz_QofLockNow_1_9 l dC dI ed H194.size mo mr 0 3532904360292610370 ll lt lp ola cOl fol la1 cA1 fa1 ota cOt fot ta0 ta1 ta2 ta3 ta4 ta5 ta6 ta7 ta8 ta9 cB0 fb0 cB1 fb1 cB2 fb2 cB3 fb3 cB4 fb4 cB5 fb5 cB6 fb6 cB7 fb7 cB8 fb8 cB9 fb9 hol1 ha1_0 ha1_4 ha1_8 hot0 hot1 hot2 hot3 hot4 hot5 hot6 hot7 hot8 hot9 hb0_3 hb1_3 hb2_3 hb3_3 hb4_3 hb5_3 hb6_3 hb7_3 hb8_3 hb9_3) (cwV 2 hts gX8_digest_X8_ofLockNow rfl rfl rfl (by decide +kernel) ⟨Nat.le_of_ble_eq_true rfl, Nat.le_of_ble_eq_true rfl⟩) ⟨zb_blind, va_recv hK hP (ci := 10) (q0 := 12) rfl rfl, fun U hU hW => ⟨rfl, zb_mk hU hW hPr hPc hKc hDc hN hH hS hFc zx_e⟩⟩ rfl rfl hl.1 rfl (lv_room (Nat.le_of_ble_eq_true rfl)) dX8_digest_63 ⟨Nat.le_of_ble_eq_true rfl, Nat.le_of_ble_eq_true rfl⟩) hS (fun q _ h => hFc q h) hFc (fun r198 u t H197 locs ht hvm hw hB hz1 hk1 hS => ?_)
  obtain rfl : r198 = 1 := hw
  have hP := zo_K hP hk1
  have hPr := (zo_nil : va_P (dC, dI) vwCl [] H197)
  have hPc := hP.sub (ws' := [(mo, .inr (10, [.int 0, .ref mr, .int 1, .long 3532904360292610370]))]) [12] rfl
  have hDc := hD.sub (ws' := [(mo, .inr (10, [.int 0, .ref mr, .int 1, .long 3532904360292610370]))]) [12] (by decide) rfl
  have hKc := hK.sub (tys' := []) [] rfl
  have hFc := va_free (wc := [(mo, .inr (10, [.int 0, .ref mr, .int 1, .long 3532904360292610370]))]) hD hS hA [12] rfl
  refine va_callv (va_runV (As := [.int 1]) (rest := []) ⟨hx, hb, hml, hown, hts⟩ (cz_X8_add l dC dI ed H197.size mo mr 0 3532904360292610370 1) (cwV 1 hts gX8_digest_X8_add rfl rfl rfl (by decide +kernel) ⟨Nat.le_of_ble_eq_true rfl, Nat.le_of_ble_eq_true rfl⟩) ⟨zb_blind, va_recv hK hP (ci := 10) (q0 := 12) rfl rfl, fun U hU hW => ⟨rfl, zb_mk hU hW hPr hPc hKc hDc hN hH hS hFc zx_nil⟩⟩ rfl rfl hl.1 rfl (lv_room (Nat.le_of_ble_eq_true rfl)) dX8_digest_66 ⟨Nat.le_of_ble_eq_true rfl, Nat.le_of_ble_eq_true rfl⟩) hS (fun q _ h => hFc q h) hFc (fun u t H199 locs ht hvm hw hB hz1 hk1 hS => ?_)
  obtain ⟨s1_201, hf201_0, hP1, hD1, hK1⟩ := hB
  obtain rfl : s1_201 = (-1160429273186388225) := hf201_0.trans (by first | rfl | decide +kernel)
  rw [ht] at hP1
  obtain ⟨hP, hD⟩ := va_join (wr := [(la0, .inl (cA0, 10, .inl fa0)), (la1, .inl (cA1, 10, .inl fa1)), (ta0, .inl (cB0, 5, .inl fb0)), (ta1, .inl (cB1, 5, .inl fb1)), (ta2, .inl (cB2, 5, .inl fb2)), (ta3, .inl (cB3, 5, .inl fb3)), (ta4, .inl (cB4, 5, .inl fb4)), (ta5, .inl (cB5, 5, .inl fb5)), (ta6, .inl (cB6, 5, .inl fb6)), (ta7, .inl (cB7, 5, .inl fb7)), (ta8, .inl (cB8, 5, .inl fb8)), (ta9, .inl (cB9, 5, .inl fb9))]) (w1 := [(mo, .inr (10, [.int 0, .ref mr, .int 1, .long (-1160429273186388225)]))]) hP hD [12] [0, 1, 2, 3, 4, 5, 6, 7, 8, 9, 10, 11] rfl rfl (by decide) (by decide) hk1 hFc hP1 hD1
  have hP : va_P (dC, dI) vwCl [(la0, .inl (cA0, 10, .inl fa0)), (la1, .inl (cA1, 10, .inl fa1)), (ta0, .inl (cB0, 5, .inl fb0)), (ta1, .inl (cB1, 5, .inl fb1)), (ta2, .inl (cB2, 5, .inl fb2)), (ta3, .inl (cB3, 5, .inl fb3)), (ta4, .inl (cB4, 5, .inl fb4)), (ta5, .inl (cB5, 5, .inl fb5)), (ta6, .inl (cB6, 5, .inl fb6)), (ta7, .inl (cB7, 5, .inl fb7)), (ta8, .inl (cB8, 5, .inl fb8)), (ta9, .inl (cB9, 5, .inl fb9)), (mo, .inr (10, [.int 0, .ref mr, .int 1, .long (-1160429273186388225)]))] H199 := hP
  have hD : va_D A [(la0, .inl (cA0, 10, .inl fa0)), (la1, .inl (cA1, 10, .inl fa1)), (ta0, .inl (cB0, 5, .inl fb0)), (ta1, .inl (cB1, 5, .inl fb1)), (ta2, .inl (cB2, 5, .inl fb2)), (ta3, .inl (cB3, 5, .inl fb3)), (ta4, .inl (cB4, 5, .inl fb4)), (ta5, .inl (cB5, 5, .inl fb5)), (ta6, .inl (cB6, 5, .inl fb6)), (ta7, .inl (cB7, 5, .inl fb7)), (ta8, .inl (cB8, 5, .inl fb8)), (ta9, .inl (cB9, 5, .inl fb9)), (mo, .inr (10, [.int 0, .ref mr, .int 1, .long (-1160429273186388225)]))] := hD
  refine lv_iinc (v := 10) (lv' := [(2, .int 10), (1, .int 1), (0, .ref mo)]) hx hb dX8_digest_69 hl (k := 0) rfl (by decide) (by decide) rfl (fun ls hl => ?_)
  refine lv_goto (tgt := 53) hx hb dX8_digest_72 (by decide) ?_
  refine lv_iload_n hx hb dX8_digest_53 rfl (lv_at hl 0 rfl) ?_
  refine lv_bipush (v := 10) hx hb dX8_digest_54 (by decide) ?_
  refine lv_icmp_ge (tgt := 75) hx hb dX8_digest_56 (by decide) (fun _ => ?_) (fun h => absurd h (by decide))
  refine lv_iinc (v := 2) (lv' := [(1, .int 2), (2, .int 10), (0, .ref mo)]) hx hb dX8_digest_75 hl (k := 1) rfl (by decide) (by decide) rfl (fun ls hl => ?_)
  refine lv_goto (tgt := 37) hx hb dX8_digest_78 (by decide) ?_
  refine lv_iload_n hx hb dX8_digest_37 rfl (lv_at hl 0 rfl) ?_
  refine lv_aload_n hx hb dX8_digest_38 rfl (lv_at hl 2 rfl) ?_
  refine va_get (D := (dC, dI)) (ci := 10) (v := .ref mr) (C := RX8) (T := TX8) (N := 4) hx hb hts zi_X8_digest_X8 hown hK hP 12 rfl rfl 1 (by decide) (hts (.fieldLink RX8 10 "LockRoomsModel" "room" "LLockRoomsModel$Room;") (by decide +kernel)) (fun _ h9 => h9) rfl dX8_digest_39 ?_
  refine va_getN (D := (dC, dI)) (ci := 9) (v := .ref ll) (C := RX7) (T := TX7) (N := 14) hx hb hts zi_X8_digest_X7 hown hK (zo_R hR0 hS hAr) 0 rfl rfl 0 (by decide) (va_Nw.use rfl (hN.1 ("LockRoomsModel", 24, "LockRoomsModel$Room", "locks", "Ljava/util/ArrayList;", "LockRoomsModel") (List.mem_of_getElem? (i := 1) rfl))) (fun _ h9 => h9) rfl dX8_digest_42 ?_
  have hPr := ((zo_R hR0 hS hAr)).sub (ws' := [(ll, .inr (1, [.int 2, .ref ola, .int 2]))]) [1] rfl
  have hPc := hP.sub (ws' := []) [] rfl
  have hDc := hD.sub (ws' := []) [] (by decide) rfl
  have hKc := hK.sub (tys' := []) [] rfl
  have hFc := va_free (wc := []) hD hS hA [] rfl
  refine va_calli (va_runV (As := []) (rest := [.int 2]) ⟨hx, hb, hml, hown, hts⟩ (cz_Qsize l dC dI ed H199.size ll 2 ola 2) (cwV 0 hts gX8_digest_Jx4a65c_size_8abf5 rfl rfl rfl (by decide +kernel) ⟨Nat.le_of_ble_eq_true rfl, Nat.le_of_ble_eq_true rfl⟩) ⟨zb_blind, va_recv hK (zo_R hR0 hS hAr) (ci := 1) (q0 := 1) rfl rfl, fun U hU hW => ⟨rfl, zb_mk hU hW hPr hPc hKc hDc hN hH hS hFc zx_e⟩⟩ rfl rfl hl.1 rfl (lv_room (Nat.le_of_ble_eq_true rfl)) dX8_digest_45 ⟨Nat.le_of_ble_eq_true rfl, Nat.le_of_ble_eq_true rfl⟩) hS (fun q _ h => hFc q h) hFc (fun r203 u t H202 locs ht hvm hw hB hz1 hk1 hS => ?_)
  obtain rfl : r203 = 2 := hw.trans (by decide +kernel)
  have hP := zo_K hP hk1
  refine lv_icmp_ge (tgt := 81) hx hb dX8_digest_48 (by decide) (fun _ => ?_) (fun h => absurd h (by decide))
  refine lv_iconst (v := 0) hx hb dX8_digest_81 (by decide) ?_
  refine lv_istore_n (lv' := [(1, .int 0), (2, .int 10), (0, .ref mo)]) hx hb dX8_digest_82 rfl hl (by decide) rfl (fun ls hl => ?_)
  exact cs_QX8_digest_3 l dC dI ed mr ll lt lp ola ota cOl fol la0 la1 cOt fot ta0 ta1 ta2 ta3 ta4 ta5 ta6 ta7 ta8 ta9 mo x9 s9 cA0 fa0 cA1 fa1 cB0 fb0 cB1 fb1 cB2 fb2 cB3 fb3 cB4 fb4 cB5 fb5 cB6 fb6 cB7 fb7 cB8 fb8 cB9 fb9 hol0 hol1 hot0 hot1 hot2 hot3 hot4 hot5 hot6 hot7 hot8 hot9 ha0_0 ha0_1 ha0_2 ha0_3 ha0_4 ha0_5 ha0_6 ha0_7 ha0_8 ha0_9 ha1_0 ha1_1 ha1_2 ha1_3 ha1_4 ha1_5 ha1_6 ha1_7 ha1_8 ha1_9 hb0_0 hb0_1 hb0_2 hb0_3 hb0_4 hb1_0 hb1_1 hb1_2 hb1_3 hb1_4 hb2_0 hb2_1 hb2_2 hb2_3 hb2_4 hb3_0 hb3_1 hb3_2 hb3_3 hb3_4 hb4_0 hb4_1 hb4_2 hb4_3 hb4_4 hb5_0 hb5_1 hb5_2 hb5_3 hb5_4 hb6_0 hb6_1 hb6_2 hb6_3 hb6_4 hb7_0 hb7_1 hb7_2 hb7_3 hb7_4 hb8_0 hb8_1 hb8_2 hb8_3 hb8_4 hb9_0 hb9_1 hb9_2 hb9_3 hb9_4 hx hb hr hml hown hlocks hts hR0 hN hA hAr hH hAe hK hP hD hS hl

set_option maxHeartbeats 4000000 in
set_option maxRecDepth 100000 in
theorem cs_QmixThings_3 (l : Launch) (dC : Nat → ClassId) (dI : Nat → Nat → Nat) (ed : Nat) (x : Nat) (rm : Nat) (tr : Nat) (st : Nat) (lk : Nat) (th : Nat) (pl : Nat) (gm : Nat) (cL : ClassId) (fl : Nat → Option Nat) (l0 : Nat) (l1 : Nat) (cT : ClassId) (ft : Nat → Option Nat) (t0 : Nat) (t1 : Nat) (t2 : Nat) (t3 : Nat) (t4 : Nat) (t5 : Nat) (t6 : Nat) (t7 : Nat) (t8 : Nat) (t9 : Nat) (hkl0 : fl 0 = some l0) (hkl1 : fl 1 = some l1) (hkt0 : ft 0 = some t0) (hkt1 : ft 1 = some t1) (hkt2 : ft 2 = some t2) (hkt3 : ft 3 = some t3) (hkt4 : ft 4 = some t4) (hkt5 : ft 5 = some t5) (hkt6 : ft 6 = some t6) (hkt7 : ft 7 = some t7) (hkt8 : ft 8 = some t8) (hkt9 : ft 9 = some t9) {p : Program} {e : Env} {s : State} {m : MethodId} {below : List Frame} {meth : Method} {c : Code} {A : Nat → Prop} {H : Heap} {locs : List Loc} {ls : Array Slot} (hx : p.tables.exec = Jvm.exec) (hb : c.code = cX6_mixThings) (hr : meth.sig.returnType = (some .long)) (hml : c.maxLocals = 7) (hown : s.vm.findClass RX6 = some m.cls) (hlocks : meth.locks = false) (hts : ∀ w ∈ wsX6_mixThings, w.before ([.ref x, .long (-1160429273186388225)] : List Value).toArray s = true) (hR0 : va_P (dC, dI) vwCl [(x, .inr (8, [.ref rm, .ref tr, .ref st])), (rm, .inr (5, [.ref lk, .ref th, .ref pl, .ref gm, .int 2, .int 10, .int 0, .int 0, .int 1, .int 0, .int 0, .int 0])), (lk, .inl (cL, 10, .inr (.inr (.inr (.inr fl))))), (th, .inl (cT, 12, .inr (.inr (.inr (.inr ft))))), (l0, .inr (3, [.int 0, .int 0, .int 60, .int 0, .int 0, .int 0, .int 0, .int 0, .int 0, .int 0])), (l1, .inr (3, [.int 0, .int 0, .int 60, .int 0, .int 0, .int 0, .int 0, .int 0, .int 0, .int 0])), (t0, .inr (7, [.int (-1), .int 0, .int 0, .int 0, .int 0])), (t1, .inr (7, [.int (-1), .int 0, .int 0, .int 0, .int 0])), (t2, .inr (7, [.int (-1), .int 0, .int 0, .int 0, .int 0])), (t3, .inr (7, [.int (-1), .int 0, .int 0, .int 0, .int 0])), (t4, .inr (7, [.int (-1), .int 0, .int 0, .int 0, .int 0])), (t5, .inr (7, [.int (-1), .int 0, .int 0, .int 0, .int 0])), (t6, .inr (7, [.int (-1), .int 0, .int 0, .int 0, .int 0])), (t7, .inr (7, [.int (-1), .int 0, .int 0, .int 0, .int 0])), (t8, .inr (7, [.int (-1), .int 0, .int 0, .int 0, .int 0])), (t9, .inr (7, [.int (-1), .int 0, .int 0, .int 0, .int 0]))] s.heap) (hN : zN s) (hA : ∀ q : Nat, s.heap.size ≤ q → A q) (hAr : ∀ p ∈ ([(x, .inr (8, [.ref rm, .ref tr, .ref st])), (rm, .inr (5, [.ref lk, .ref th, .ref pl, .ref gm, .int 2, .int 10, .int 0, .int 0, .int 1, .int 0, .int 0, .int 0])), (lk, .inl (cL, 10, .inr (.inr (.inr (.inr fl))))), (th, .inl (cT, 12, .inr (.inr (.inr (.inr ft))))), (l0, .inr (3, [.int 0, .int 0, .int 60, .int 0, .int 0, .int 0, .int 0, .int 0, .int 0, .int 0])), (l1, .inr (3, [.int 0, .int 0, .int 60, .int 0, .int 0, .int 0, .int 0, .int 0, .int 0, .int 0])), (t0, .inr (7, [.int (-1), .int 0, .int 0, .int 0, .int 0])), (t1, .inr (7, [.int (-1), .int 0, .int 0, .int 0, .int 0])), (t2, .inr (7, [.int (-1), .int 0, .int 0, .int 0, .int 0])), (t3, .inr (7, [.int (-1), .int 0, .int 0, .int 0, .int 0])), (t4, .inr (7, [.int (-1), .int 0, .int 0, .int 0, .int 0])), (t5, .inr (7, [.int (-1), .int 0, .int 0, .int 0, .int 0])), (t6, .inr (7, [.int (-1), .int 0, .int 0, .int 0, .int 0])), (t7, .inr (7, [.int (-1), .int 0, .int 0, .int 0, .int 0])), (t8, .inr (7, [.int (-1), .int 0, .int 0, .int 0, .int 0])), (t9, .inr (7, [.int (-1), .int 0, .int 0, .int 0, .int 0]))] : va_W), ¬ A p.1) (hH : zH ed A s s.heap) (hAe : va_A [] s.heap.size = A) (hK : va_K (dC, dI) vwCl [(cL, .object "LockRooms$Lock"), (cT, .object "LockRooms$Thing")] s) (hP : va_P (dC, dI) vwCl [] H) (hD : va_D A []) (hS : va_S A s.heap H locs) (hl : lv_has ls 7 [(5, .int 6), (6, .int 6), (3, .long 3293077638034223231), (0, .ref x), (1, .long (-1160429273186388225))]) : W p l e (headSpec wsX6_mixThings ({ frames := 3, cells := 0, slots := 0, locals := 67 } : Jvm.Room)).room s m (([.ref x, .long (-1160429273186388225)] : List Value).toArray) below meth c H locs 0 0 (MQ below (va_Ql (fun (r : Int64) (_ : Unit) => r = (-1088415371068898945)) (fun (_ : Unit) (_ : State) => True) A) (([.ref x, .long (-1160429273186388225)] : List Value).toArray) s 0 0 A) (F0 m 5 ls []) := by
  refine lv_iload hx hb dX6_mixThings_5 (lv_at hl 0 rfl) ?_
  refine lv_aload_n hx hb dX6_mixThings_7 rfl (lv_at hl 3 rfl) ?_
  refine va_get (D := (dC, dI)) (ci := 8) (v := .ref rm) (C := RX6) (T := TX6) (N := 3) hx hb hts zi_X6_mixThings_X6 hown hK (zo_R hR0 hS hAr) 0 rfl rfl 0 (by decide) (hts (.fieldLink RX6 12 "LockRooms" "room" "LLockRooms$Room;") (by decide +kernel)) (fun _ h9 => h9) rfl dX6_mixThings_8 ?_
  refine va_get (D := (dC, dI)) (ci := 5) (v := .int 10) (C := RX3) (T := TX3) (N := 12) hx hb hts zi_X6_mixThings_X3 hown hK (zo_R hR0 hS hAr) 1 rfl rfl 5 (by decide) (hts (.fieldLink RX6 71 "LockRooms$Room" "thingCount" "I") (by decide +kernel)) (fun _ h9 => h9) rfl dX6_mixThings_11 ?_
  refine lv_icmp_ge (tgt := 55) hx hb dX6_mixThings_14 (by decide) (fun h => absurd h (by decide)) (fun _ => ?_)
  refine lv_iconst (v := 0) hx hb dX6_mixThings_17 (by decide) ?_
  refine lv_istore (lv' := [(6, .int 0), (5, .int 6), (3, .long 3293077638034223231), (0, .ref x), (1, .long (-1160429273186388225))]) hx hb dX6_mixThings_18 hl (by decide) rfl (fun ls hl => ?_)
  refine lv_iload hx hb dX6_mixThings_20 (lv_at hl 0 rfl) ?_
  refine lv_bipush (v := 6) hx hb dX6_mixThings_22 (by decide) ?_
  refine lv_icmp_ge (tgt := 49) hx hb dX6_mixThings_24 (by decide) (fun h => absurd h (by decide)) (fun _ => ?_)
  refine lv_lload_n hx hb dX6_mixThings_27 rfl (lv_at hl 2 rfl) ?_
  refine lv_aload_n hx hb dX6_mixThings_28 rfl (lv_at hl 3 rfl) ?_
  refine va_get (D := (dC, dI)) (ci := 8) (v := .ref rm) (C := RX6) (T := TX6) (N := 3) hx hb hts zi_X6_mixThings_X6 hown hK (zo_R hR0 hS hAr) 0 rfl rfl 0 (by decide) (hts (.fieldLink RX6 12 "LockRooms" "room" "LLockRooms$Room;") (by decide +kernel)) (fun _ h9 => h9) rfl dX6_mixThings_29 ?_
  refine lv_iload hx hb dX6_mixThings_32 (lv_at hl 1 rfl) ?_
  refine lv_iload hx hb dX6_mixThings_34 (lv_at hl 0 rfl) ?_
  have hPr := ((zo_R hR0 hS hAr)).sub (ws' := [(rm, .inr (5, [.ref lk, .ref th, .ref pl, .ref gm, .int 2, .int 10, .int 0, .int 0, .int 1, .int 0, .int 0, .int 0])), (th, .inl (cT, 12, .inr (.inr (.inr (.inr ft))))), (t6, .inr (7, [.int (-1), .int 0, .int 0, .int 0, .int 0]))]) [1, 3, 12] rfl
  have hPc := hP.sub (ws' := []) [] rfl
  have hDc := hD.sub (ws' := []) [] (by decide) rfl
  have hKc := hK.sub (tys' := [(cT, .object "LockRooms$Thing")]) [1] rfl
  have hFc := va_free (wc := []) hD hS hA [] rfl
  refine va_calli (va_runV (As := [.int 6, .int 0]) (rest := [.long 3293077638034223231]) ⟨hx, hb, hml, hown, hts⟩ (cz_QtellThing_6_0 l dC dI ed H.size rm lk th pl gm cT ft t6 hkt6) (cwV 2 hts gX6_mixThings_X3_tellThing rfl rfl rfl (by decide +kernel) ⟨Nat.le_of_ble_eq_true rfl, Nat.le_of_ble_eq_true rfl⟩) ⟨zb_blind, va_recv hK (zo_R hR0 hS hAr) (ci := 5) (q0 := 1) rfl rfl, fun U hU hW => ⟨rfl, zb_mk hU hW hPr hPc hKc hDc hN hH hS hFc zx_e⟩⟩ rfl rfl hl.1 rfl (lv_room (Nat.le_of_ble_eq_true rfl)) dX6_mixThings_36 ⟨Nat.le_of_ble_eq_true rfl, Nat.le_of_ble_eq_true rfl⟩) hS (fun q _ h => hFc q h) hFc (fun r146 u t H145 locs ht hvm hw hB hz1 hk1 hS => ?_)
  obtain rfl : r146 = (-1) := hw
  have hP := zo_K hP hk1
  have hPr := (zo_nil : va_P (dC, dI) vwCl [] H145)
  have hPc := hP.sub (ws' := []) [] rfl
  have hDc := hD.sub (ws' := []) [] (by decide) rfl
  have hKc := hK.sub (tys' := []) [] rfl
  have hFc := va_free (wc := []) hD hS hA [] rfl
  refine va_calll (va_runS (As := [.long 3293077638034223231, .int (-1)]) (rest := []) ⟨hx, hb, hml, hown, hts⟩ (cz_X6_mix l dC dI ed H145.size 3293077638034223231 (-1)) (va_cwS 2 hts gX6_mixThings_X6_mix rfl rfl rfl (by decide +kernel) ⟨Nat.le_of_ble_eq_true rfl, Nat.le_of_ble_eq_true rfl⟩) ⟨zb_blind, fun U hU hW => ⟨rfl, zb_mk hU hW hPr hPc hKc hDc hN hH hS hFc zx_e⟩⟩ rfl rfl hl.1 rfl (lv_room (Nat.le_of_ble_eq_true rfl)) dX6_mixThings_39 ⟨Nat.le_of_ble_eq_true rfl, Nat.le_of_ble_eq_true rfl⟩) hS (fun q _ h => hFc q h) hFc (fun r148 u t H147 locs ht hvm hw hB hz1 hk1 hS => ?_)
  obtain rfl : r148 = (-8595057663196389536) := hw.trans (by decide +kernel)
  have hP := zo_K hP hk1
  refine lv_lstore_n (lv' := [(3, .long (-8595057663196389536)), (6, .int 0), (5, .int 6), (0, .ref x), (1, .long (-1160429273186388225))]) hx hb dX6_mixThings_42 rfl hl (by decide) rfl (fun ls hl => ?_)
  refine lv_iinc (v := 1) (lv' := [(6, .int 1), (3, .long (-8595057663196389536)), (5, .int 6), (0, .ref x), (1, .long (-1160429273186388225))]) hx hb dX6_mixThings_43 hl (k := 1) rfl (by decide) (by decide) rfl (fun ls hl => ?_)
  refine lv_goto (tgt := 20) hx hb dX6_mixThings_46 (by decide) ?_
  refine lv_iload hx hb dX6_mixThings_20 (lv_at hl 0 rfl) ?_
  refine lv_bipush (v := 6) hx hb dX6_mixThings_22 (by decide) ?_
  refine lv_icmp_ge (tgt := 49) hx hb dX6_mixThings_24 (by decide) (fun h => absurd h (by decide)) (fun _ => ?_)
  refine lv_lload_n hx hb dX6_mixThings_27 rfl (lv_at hl 1 rfl) ?_
  refine lv_aload_n hx hb dX6_mixThings_28 rfl (lv_at hl 3 rfl) ?_
  refine va_get (D := (dC, dI)) (ci := 8) (v := .ref rm) (C := RX6) (T := TX6) (N := 3) hx hb hts zi_X6_mixThings_X6 hown hK (zo_R hR0 hS hAr) 0 rfl rfl 0 (by decide) (hts (.fieldLink RX6 12 "LockRooms" "room" "LLockRooms$Room;") (by decide +kernel)) (fun _ h9 => h9) rfl dX6_mixThings_29 ?_
  refine lv_iload hx hb dX6_mixThings_32 (lv_at hl 2 rfl) ?_
  refine lv_iload hx hb dX6_mixThings_34 (lv_at hl 0 rfl) ?_
  have hPr := ((zo_R hR0 hS hAr)).sub (ws' := [(rm, .inr (5, [.ref lk, .ref th, .ref pl, .ref gm, .int 2, .int 10, .int 0, .int 0, .int 1, .int 0, .int 0, .int 0])), (th, .inl (cT, 12, .inr (.inr (.inr (.inr ft))))), (t6, .inr (7, [.int (-1), .int 0, .int 0, .int 0, .int 0]))]) [1, 3, 12] rfl
  have hPc := hP.sub (ws' := []) [] rfl
  have hDc := hD.sub (ws' := []) [] (by decide) rfl
  have hKc := hK.sub (tys' := [(cT, .object "LockRooms$Thing")]) [1] rfl
  have hFc := va_free (wc := []) hD hS hA [] rfl
  refine va_calli (va_runV (As := [.int 6, .int 1]) (rest := [.long (-8595057663196389536)]) ⟨hx, hb, hml, hown, hts⟩ (cz_QtellThing_6_1 l dC dI ed H147.size rm lk th pl gm cT ft t6 hkt6) (cwV 2 hts gX6_mixThings_X3_tellThing rfl rfl rfl (by decide +kernel) ⟨Nat.le_of_ble_eq_true rfl, Nat.le_of_ble_eq_true rfl⟩) ⟨zb_blind, va_recv hK (zo_R hR0 hS hAr) (ci := 5) (q0 := 1) rfl rfl, fun U hU hW => ⟨rfl, zb_mk hU hW hPr hPc hKc hDc hN hH hS hFc zx_e⟩⟩ rfl rfl hl.1 rfl (lv_room (Nat.le_of_ble_eq_true rfl)) dX6_mixThings_36 ⟨Nat.le_of_ble_eq_true rfl, Nat.le_of_ble_eq_true rfl⟩) hS (fun q _ h => hFc q h) hFc (fun r150 u t H149 locs ht hvm hw hB hz1 hk1 hS => ?_)
  obtain rfl : r150 = 0 := hw
  have hP := zo_K hP hk1
  have hPr := (zo_nil : va_P (dC, dI) vwCl [] H149)
  have hPc := hP.sub (ws' := []) [] rfl
  have hDc := hD.sub (ws' := []) [] (by decide) rfl
  have hKc := hK.sub (tys' := []) [] rfl
  have hFc := va_free (wc := []) hD hS hA [] rfl
  refine va_calll (va_runS (As := [.long (-8595057663196389536), .int 0]) (rest := []) ⟨hx, hb, hml, hown, hts⟩ (cz_X6_mix l dC dI ed H149.size (-8595057663196389536) 0) (va_cwS 2 hts gX6_mixThings_X6_mix rfl rfl rfl (by decide +kernel) ⟨Nat.le_of_ble_eq_true rfl, Nat.le_of_ble_eq_true rfl⟩) ⟨zb_blind, fun U hU hW => ⟨rfl, zb_mk hU hW hPr hPc hKc hDc hN hH hS hFc zx_e⟩⟩ rfl rfl hl.1 rfl (lv_room (Nat.le_of_ble_eq_true rfl)) dX6_mixThings_39 ⟨Nat.le_of_ble_eq_true rfl, Nat.le_of_ble_eq_true rfl⟩) hS (fun q _ h => hFc q h) hFc (fun r152 u t H151 locs ht hvm hw hB hz1 hk1 hS => ?_)
  obtain rfl : r152 = (-8192370527154352992) := hw.trans (by decide +kernel)
  have hP := zo_K hP hk1
  refine lv_lstore_n (lv' := [(3, .long (-8192370527154352992)), (6, .int 1), (5, .int 6), (0, .ref x), (1, .long (-1160429273186388225))]) hx hb dX6_mixThings_42 rfl hl (by decide) rfl (fun ls hl => ?_)
  refine lv_iinc (v := 2) (lv' := [(6, .int 2), (3, .long (-8192370527154352992)), (5, .int 6), (0, .ref x), (1, .long (-1160429273186388225))]) hx hb dX6_mixThings_43 hl (k := 1) rfl (by decide) (by decide) rfl (fun ls hl => ?_)
  refine lv_goto (tgt := 20) hx hb dX6_mixThings_46 (by decide) ?_
  refine lv_iload hx hb dX6_mixThings_20 (lv_at hl 0 rfl) ?_
  refine lv_bipush (v := 6) hx hb dX6_mixThings_22 (by decide) ?_
  refine lv_icmp_ge (tgt := 49) hx hb dX6_mixThings_24 (by decide) (fun h => absurd h (by decide)) (fun _ => ?_)
  refine lv_lload_n hx hb dX6_mixThings_27 rfl (lv_at hl 1 rfl) ?_
  refine lv_aload_n hx hb dX6_mixThings_28 rfl (lv_at hl 3 rfl) ?_
  refine va_get (D := (dC, dI)) (ci := 8) (v := .ref rm) (C := RX6) (T := TX6) (N := 3) hx hb hts zi_X6_mixThings_X6 hown hK (zo_R hR0 hS hAr) 0 rfl rfl 0 (by decide) (hts (.fieldLink RX6 12 "LockRooms" "room" "LLockRooms$Room;") (by decide +kernel)) (fun _ h9 => h9) rfl dX6_mixThings_29 ?_
  refine lv_iload hx hb dX6_mixThings_32 (lv_at hl 2 rfl) ?_
  refine lv_iload hx hb dX6_mixThings_34 (lv_at hl 0 rfl) ?_
  have hPr := ((zo_R hR0 hS hAr)).sub (ws' := [(rm, .inr (5, [.ref lk, .ref th, .ref pl, .ref gm, .int 2, .int 10, .int 0, .int 0, .int 1, .int 0, .int 0, .int 0])), (th, .inl (cT, 12, .inr (.inr (.inr (.inr ft))))), (t6, .inr (7, [.int (-1), .int 0, .int 0, .int 0, .int 0]))]) [1, 3, 12] rfl
  have hPc := hP.sub (ws' := []) [] rfl
  have hDc := hD.sub (ws' := []) [] (by decide) rfl
  have hKc := hK.sub (tys' := [(cT, .object "LockRooms$Thing")]) [1] rfl
  have hFc := va_free (wc := []) hD hS hA [] rfl
  refine va_calli (va_runV (As := [.int 6, .int 2]) (rest := [.long (-8192370527154352992)]) ⟨hx, hb, hml, hown, hts⟩ (cz_QtellThing_6_2 l dC dI ed H151.size rm lk th pl gm cT ft t6 hkt6) (cwV 2 hts gX6_mixThings_X3_tellThing rfl rfl rfl (by decide +kernel) ⟨Nat.le_of_ble_eq_true rfl, Nat.le_of_ble_eq_true rfl⟩) ⟨zb_blind, va_recv hK (zo_R hR0 hS hAr) (ci := 5) (q0 := 1) rfl rfl, fun U hU hW => ⟨rfl, zb_mk hU hW hPr hPc hKc hDc hN hH hS hFc zx_e⟩⟩ rfl rfl hl.1 rfl (lv_room (Nat.le_of_ble_eq_true rfl)) dX6_mixThings_36 ⟨Nat.le_of_ble_eq_true rfl, Nat.le_of_ble_eq_true rfl⟩) hS (fun q _ h => hFc q h) hFc (fun r154 u t H153 locs ht hvm hw hB hz1 hk1 hS => ?_)
  obtain rfl : r154 = 0 := hw
  have hP := zo_K hP hk1
  have hPr := (zo_nil : va_P (dC, dI) vwCl [] H153)
  have hPc := hP.sub (ws' := []) [] rfl
  have hDc := hD.sub (ws' := []) [] (by decide) rfl
  have hKc := hK.sub (tys' := []) [] rfl
  have hFc := va_free (wc := []) hD hS hA [] rfl
  refine va_calll (va_runS (As := [.long (-8192370527154352992), .int 0]) (rest := []) ⟨hx, hb, hml, hown, hts⟩ (cz_X6_mix l dC dI ed H153.size (-8192370527154352992) 0) (va_cwS 2 hts gX6_mixThings_X6_mix rfl rfl rfl (by decide +kernel) ⟨Nat.le_of_ble_eq_true rfl, Nat.le_of_ble_eq_true rfl⟩) ⟨zb_blind, fun U hU hW => ⟨rfl, zb_mk hU hW hPr hPc hKc hDc hN hH hS hFc zx_e⟩⟩ rfl rfl hl.1 rfl (lv_room (Nat.le_of_ble_eq_true rfl)) dX6_mixThings_39 ⟨Nat.le_of_ble_eq_true rfl, Nat.le_of_ble_eq_true rfl⟩) hS (fun q _ h => hFc q h) hFc (fun r156 u t H155 locs ht hvm hw hB hz1 hk1 hS => ?_)
  obtain rfl : r156 = 4290930690148779872 := hw.trans (by decide +kernel)
  have hP := zo_K hP hk1
  refine lv_lstore_n (lv' := [(3, .long 4290930690148779872), (6, .int 2), (5, .int 6), (0, .ref x), (1, .long (-1160429273186388225))]) hx hb dX6_mixThings_42 rfl hl (by decide) rfl (fun ls hl => ?_)
  refine lv_iinc (v := 3) (lv' := [(6, .int 3), (3, .long 4290930690148779872), (5, .int 6), (0, .ref x), (1, .long (-1160429273186388225))]) hx hb dX6_mixThings_43 hl (k := 1) rfl (by decide) (by decide) rfl (fun ls hl => ?_)
  refine lv_goto (tgt := 20) hx hb dX6_mixThings_46 (by decide) ?_
  refine lv_iload hx hb dX6_mixThings_20 (lv_at hl 0 rfl) ?_
  refine lv_bipush (v := 6) hx hb dX6_mixThings_22 (by decide) ?_
  refine lv_icmp_ge (tgt := 49) hx hb dX6_mixThings_24 (by decide) (fun h => absurd h (by decide)) (fun _ => ?_)
  refine lv_lload_n hx hb dX6_mixThings_27 rfl (lv_at hl 1 rfl) ?_
  refine lv_aload_n hx hb dX6_mixThings_28 rfl (lv_at hl 3 rfl) ?_
  refine va_get (D := (dC, dI)) (ci := 8) (v := .ref rm) (C := RX6) (T := TX6) (N := 3) hx hb hts zi_X6_mixThings_X6 hown hK (zo_R hR0 hS hAr) 0 rfl rfl 0 (by decide) (hts (.fieldLink RX6 12 "LockRooms" "room" "LLockRooms$Room;") (by decide +kernel)) (fun _ h9 => h9) rfl dX6_mixThings_29 ?_
  refine lv_iload hx hb dX6_mixThings_32 (lv_at hl 2 rfl) ?_
  refine lv_iload hx hb dX6_mixThings_34 (lv_at hl 0 rfl) ?_
  have hPr := ((zo_R hR0 hS hAr)).sub (ws' := [(rm, .inr (5, [.ref lk, .ref th, .ref pl, .ref gm, .int 2, .int 10, .int 0, .int 0, .int 1, .int 0, .int 0, .int 0])), (th, .inl (cT, 12, .inr (.inr (.inr (.inr ft))))), (t6, .inr (7, [.int (-1), .int 0, .int 0, .int 0, .int 0]))]) [1, 3, 12] rfl
  have hPc := hP.sub (ws' := []) [] rfl
  have hDc := hD.sub (ws' := []) [] (by decide) rfl
  have hKc := hK.sub (tys' := [(cT, .object "LockRooms$Thing")]) [1] rfl
  have hFc := va_free (wc := []) hD hS hA [] rfl
  refine va_calli (va_runV (As := [.int 6, .int 3]) (rest := [.long 4290930690148779872]) ⟨hx, hb, hml, hown, hts⟩ (cz_QtellThing_6_3 l dC dI ed H155.size rm lk th pl gm cT ft t6 hkt6) (cwV 2 hts gX6_mixThings_X3_tellThing rfl rfl rfl (by decide +kernel) ⟨Nat.le_of_ble_eq_true rfl, Nat.le_of_ble_eq_true rfl⟩) ⟨zb_blind, va_recv hK (zo_R hR0 hS hAr) (ci := 5) (q0 := 1) rfl rfl, fun U hU hW => ⟨rfl, zb_mk hU hW hPr hPc hKc hDc hN hH hS hFc zx_e⟩⟩ rfl rfl hl.1 rfl (lv_room (Nat.le_of_ble_eq_true rfl)) dX6_mixThings_36 ⟨Nat.le_of_ble_eq_true rfl, Nat.le_of_ble_eq_true rfl⟩) hS (fun q _ h => hFc q h) hFc (fun r158 u t H157 locs ht hvm hw hB hz1 hk1 hS => ?_)
  obtain rfl : r158 = 0 := hw
  have hP := zo_K hP hk1
  have hPr := (zo_nil : va_P (dC, dI) vwCl [] H157)
  have hPc := hP.sub (ws' := []) [] rfl
  have hDc := hD.sub (ws' := []) [] (by decide) rfl
  have hKc := hK.sub (tys' := []) [] rfl
  have hFc := va_free (wc := []) hD hS hA [] rfl
  refine va_calll (va_runS (As := [.long 4290930690148779872, .int 0]) (rest := []) ⟨hx, hb, hml, hown, hts⟩ (cz_X6_mix l dC dI ed H157.size 4290930690148779872 0) (va_cwS 2 hts gX6_mixThings_X6_mix rfl rfl rfl (by decide +kernel) ⟨Nat.le_of_ble_eq_true rfl, Nat.le_of_ble_eq_true rfl⟩) ⟨zb_blind, fun U hU hW => ⟨rfl, zb_mk hU hW hPr hPc hKc hDc hN hH hS hFc zx_e⟩⟩ rfl rfl hl.1 rfl (lv_room (Nat.le_of_ble_eq_true rfl)) dX6_mixThings_39 ⟨Nat.le_of_ble_eq_true rfl, Nat.le_of_ble_eq_true rfl⟩) hS (fun q _ h => hFc q h) hFc (fun r160 u t H159 locs ht hvm hw hB hz1 hk1 hS => ?_)
  obtain rfl : r160 = 3891642878645314720 := hw.trans (by decide +kernel)
  have hP := zo_K hP hk1
  refine lv_lstore_n (lv' := [(3, .long 3891642878645314720), (6, .int 3), (5, .int 6), (0, .ref x), (1, .long (-1160429273186388225))]) hx hb dX6_mixThings_42 rfl hl (by decide) rfl (fun ls hl => ?_)
  refine lv_iinc (v := 4) (lv' := [(6, .int 4), (3, .long 3891642878645314720), (5, .int 6), (0, .ref x), (1, .long (-1160429273186388225))]) hx hb dX6_mixThings_43 hl (k := 1) rfl (by decide) (by decide) rfl (fun ls hl => ?_)
  refine lv_goto (tgt := 20) hx hb dX6_mixThings_46 (by decide) ?_
  refine lv_iload hx hb dX6_mixThings_20 (lv_at hl 0 rfl) ?_
  refine lv_bipush (v := 6) hx hb dX6_mixThings_22 (by decide) ?_
  refine lv_icmp_ge (tgt := 49) hx hb dX6_mixThings_24 (by decide) (fun h => absurd h (by decide)) (fun _ => ?_)
  refine lv_lload_n hx hb dX6_mixThings_27 rfl (lv_at hl 1 rfl) ?_
  refine lv_aload_n hx hb dX6_mixThings_28 rfl (lv_at hl 3 rfl) ?_
  refine va_get (D := (dC, dI)) (ci := 8) (v := .ref rm) (C := RX6) (T := TX6) (N := 3) hx hb hts zi_X6_mixThings_X6 hown hK (zo_R hR0 hS hAr) 0 rfl rfl 0 (by decide) (hts (.fieldLink RX6 12 "LockRooms" "room" "LLockRooms$Room;") (by decide +kernel)) (fun _ h9 => h9) rfl dX6_mixThings_29 ?_
  refine lv_iload hx hb dX6_mixThings_32 (lv_at hl 2 rfl) ?_
  refine lv_iload hx hb dX6_mixThings_34 (lv_at hl 0 rfl) ?_
  have hPr := ((zo_R hR0 hS hAr)).sub (ws' := [(rm, .inr (5, [.ref lk, .ref th, .ref pl, .ref gm, .int 2, .int 10, .int 0, .int 0, .int 1, .int 0, .int 0, .int 0])), (th, .inl (cT, 12, .inr (.inr (.inr (.inr ft))))), (t6, .inr (7, [.int (-1), .int 0, .int 0, .int 0, .int 0])), (lk, .inl (cL, 10, .inr (.inr (.inr (.inr fl))))), (l0, .inr (3, [.int 0, .int 0, .int 60, .int 0, .int 0, .int 0, .int 0, .int 0, .int 0, .int 0])), (l1, .inr (3, [.int 0, .int 0, .int 60, .int 0, .int 0, .int 0, .int 0, .int 0, .int 0, .int 0]))]) [1, 3, 12, 2, 4, 5] rfl
  have hPc := hP.sub (ws' := []) [] rfl
  have hDc := hD.sub (ws' := []) [] (by decide) rfl
  have hKc := hK.sub (tys' := [(cT, .object "LockRooms$Thing"), (cL, .object "LockRooms$Lock")]) [1, 0] rfl
  have hFc := va_free (wc := []) hD hS hA [] rfl
  refine va_calli (va_runV (As := [.int 6, .int 4]) (rest := [.long 3891642878645314720]) ⟨hx, hb, hml, hown, hts⟩ (cz_QtellThing_6_4 l dC dI ed H159.size rm lk th pl gm cT ft t6 cL fl l0 l1 hkt6 hkl0 hkl1) (cwV 2 hts gX6_mixThings_X3_tellThing rfl rfl rfl (by decide +kernel) ⟨Nat.le_of_ble_eq_true rfl, Nat.le_of_ble_eq_true rfl⟩) ⟨zb_blind, va_recv hK (zo_R hR0 hS hAr) (ci := 5) (q0 := 1) rfl rfl, fun U hU hW => ⟨rfl, zb_mk hU hW hPr hPc hKc hDc hN hH hS hFc zx_e⟩⟩ rfl rfl hl.1 rfl (lv_room (Nat.le_of_ble_eq_true rfl)) dX6_mixThings_36 ⟨Nat.le_of_ble_eq_true rfl, Nat.le_of_ble_eq_true rfl⟩) hS (fun q _ h => hFc q h) hFc (fun r162 u t H161 locs ht hvm hw hB hz1 hk1 hS => ?_)
  obtain rfl : r162 = 1 := hw
  have hP := zo_K hP hk1
  have hPr := (zo_nil : va_P (dC, dI) vwCl [] H161)
  have hPc := hP.sub (ws' := []) [] rfl
  have hDc := hD.sub (ws' := []) [] (by decide) rfl
  have hKc := hK.sub (tys' := []) [] rfl
  have hFc := va_free (wc := []) hD hS hA [] rfl
  refine va_calll (va_runS (As := [.long 3891642878645314720, .int 1]) (rest := []) ⟨hx, hb, hml, hown, hts⟩ (cz_X6_mix l dC dI ed H161.size 3891642878645314720 1) (va_cwS 2 hts gX6_mixThings_X6_mix rfl rfl rfl (by decide +kernel) ⟨Nat.le_of_ble_eq_true rfl, Nat.le_of_ble_eq_true rfl⟩) ⟨zb_blind, fun U hU hW => ⟨rfl, zb_mk hU hW hPr hPc hKc hDc hN hH hS hFc zx_e⟩⟩ rfl rfl hl.1 rfl (lv_room (Nat.le_of_ble_eq_true rfl)) dX6_mixThings_39 ⟨Nat.le_of_ble_eq_true rfl, Nat.le_of_ble_eq_true rfl⟩) hS (fun q _ h => hFc q h) hFc (fun r164 u t H163 locs ht hvm hw hB hz1 hk1 hS => ?_)
  obtain rfl : r164 = (-8486279277962104991) := hw.trans (by decide +kernel)
  have hP := zo_K hP hk1
  refine lv_lstore_n (lv' := [(3, .long (-8486279277962104991)), (6, .int 4), (5, .int 6), (0, .ref x), (1, .long (-1160429273186388225))]) hx hb dX6_mixThings_42 rfl hl (by decide) rfl (fun ls hl => ?_)
  refine lv_iinc (v := 5) (lv' := [(6, .int 5), (3, .long (-8486279277962104991)), (5, .int 6), (0, .ref x), (1, .long (-1160429273186388225))]) hx hb dX6_mixThings_43 hl (k := 1) rfl (by decide) (by decide) rfl (fun ls hl => ?_)
  refine lv_goto (tgt := 20) hx hb dX6_mixThings_46 (by decide) ?_
  refine lv_iload hx hb dX6_mixThings_20 (lv_at hl 0 rfl) ?_
  refine lv_bipush (v := 6) hx hb dX6_mixThings_22 (by decide) ?_
  refine lv_icmp_ge (tgt := 49) hx hb dX6_mixThings_24 (by decide) (fun h => absurd h (by decide)) (fun _ => ?_)
  refine lv_lload_n hx hb dX6_mixThings_27 rfl (lv_at hl 1 rfl) ?_
  refine lv_aload_n hx hb dX6_mixThings_28 rfl (lv_at hl 3 rfl) ?_
  refine va_get (D := (dC, dI)) (ci := 8) (v := .ref rm) (C := RX6) (T := TX6) (N := 3) hx hb hts zi_X6_mixThings_X6 hown hK (zo_R hR0 hS hAr) 0 rfl rfl 0 (by decide) (hts (.fieldLink RX6 12 "LockRooms" "room" "LLockRooms$Room;") (by decide +kernel)) (fun _ h9 => h9) rfl dX6_mixThings_29 ?_
  refine lv_iload hx hb dX6_mixThings_32 (lv_at hl 2 rfl) ?_
  refine lv_iload hx hb dX6_mixThings_34 (lv_at hl 0 rfl) ?_
  have hPr := ((zo_R hR0 hS hAr)).sub (ws' := [(rm, .inr (5, [.ref lk, .ref th, .ref pl, .ref gm, .int 2, .int 10, .int 0, .int 0, .int 1, .int 0, .int 0, .int 0])), (th, .inl (cT, 12, .inr (.inr (.inr (.inr ft))))), (t6, .inr (7, [.int (-1), .int 0, .int 0, .int 0, .int 0])), (lk, .inl (cL, 10, .inr (.inr (.inr (.inr fl))))), (l0, .inr (3, [.int 0, .int 0, .int 60, .int 0, .int 0, .int 0, .int 0, .int 0, .int 0, .int 0])), (l1, .inr (3, [.int 0, .int 0, .int 60, .int 0, .int 0, .int 0, .int 0, .int 0, .int 0, .int 0]))]) [1, 3, 12, 2, 4, 5] rfl
  have hPc := hP.sub (ws' := []) [] rfl
  have hDc := hD.sub (ws' := []) [] (by decide) rfl
  have hKc := hK.sub (tys' := [(cT, .object "LockRooms$Thing"), (cL, .object "LockRooms$Lock")]) [1, 0] rfl
  have hFc := va_free (wc := []) hD hS hA [] rfl
  refine va_calli (va_runV (As := [.int 6, .int 5]) (rest := [.long (-8486279277962104991)]) ⟨hx, hb, hml, hown, hts⟩ (cz_QtellThing_6_5 l dC dI ed H163.size rm lk th pl gm cT ft t6 cL fl l0 l1 hkt6 hkl0 hkl1) (cwV 2 hts gX6_mixThings_X3_tellThing rfl rfl rfl (by decide +kernel) ⟨Nat.le_of_ble_eq_true rfl, Nat.le_of_ble_eq_true rfl⟩) ⟨zb_blind, va_recv hK (zo_R hR0 hS hAr) (ci := 5) (q0 := 1) rfl rfl, fun U hU hW => ⟨rfl, zb_mk hU hW hPr hPc hKc hDc hN hH hS hFc zx_e⟩⟩ rfl rfl hl.1 rfl (lv_room (Nat.le_of_ble_eq_true rfl)) dX6_mixThings_36 ⟨Nat.le_of_ble_eq_true rfl, Nat.le_of_ble_eq_true rfl⟩) hS (fun q _ h => hFc q h) hFc (fun r166 u t H165 locs ht hvm hw hB hz1 hk1 hS => ?_)
  obtain rfl : r166 = 0 := hw
  have hP := zo_K hP hk1
  have hPr := (zo_nil : va_P (dC, dI) vwCl [] H165)
  have hPc := hP.sub (ws' := []) [] rfl
  have hDc := hD.sub (ws' := []) [] (by decide) rfl
  have hKc := hK.sub (tys' := []) [] rfl
  have hFc := va_free (wc := []) hD hS hA [] rfl
  refine va_calll (va_runS (As := [.long (-8486279277962104991), .int 0]) (rest := []) ⟨hx, hb, hml, hown, hts⟩ (cz_X6_mix l dC dI ed H165.size (-8486279277962104991) 0) (va_cwS 2 hts gX6_mixThings_X6_mix rfl rfl rfl (by decide +kernel) ⟨Nat.le_of_ble_eq_true rfl, Nat.le_of_ble_eq_true rfl⟩) ⟨zb_blind, fun U hU hW => ⟨rfl, zb_mk hU hW hPr hPc hKc hDc hN hH hS hFc zx_e⟩⟩ rfl rfl hl.1 rfl (lv_room (Nat.le_of_ble_eq_true rfl)) dX6_mixThings_39 ⟨Nat.le_of_ble_eq_true rfl, Nat.le_of_ble_eq_true rfl⟩) hS (fun q _ h => hFc q h) hFc (fun r168 u t H167 locs ht hvm hw hB hz1 hk1 hS => ?_)
  obtain rfl : r168 = (-4820240584891532097) := hw.trans (by decide +kernel)
  have hP := zo_K hP hk1
  refine lv_lstore_n (lv' := [(3, .long (-4820240584891532097)), (6, .int 5), (5, .int 6), (0, .ref x), (1, .long (-1160429273186388225))]) hx hb dX6_mixThings_42 rfl hl (by decide) rfl (fun ls hl => ?_)
  refine lv_iinc (v := 6) (lv' := [(6, .int 6), (3, .long (-4820240584891532097)), (5, .int 6), (0, .ref x), (1, .long (-1160429273186388225))]) hx hb dX6_mixThings_43 hl (k := 1) rfl (by decide) (by decide) rfl (fun ls hl => ?_)
  refine lv_goto (tgt := 20) hx hb dX6_mixThings_46 (by decide) ?_
  refine lv_iload hx hb dX6_mixThings_20 (lv_at hl 0 rfl) ?_
  refine lv_bipush (v := 6) hx hb dX6_mixThings_22 (by decide) ?_
  refine lv_icmp_ge (tgt := 49) hx hb dX6_mixThings_24 (by decide) (fun _ => ?_) (fun h => absurd h (by decide))
  refine lv_iinc (v := 7) (lv' := [(5, .int 7), (6, .int 6), (3, .long (-4820240584891532097)), (0, .ref x), (1, .long (-1160429273186388225))]) hx hb dX6_mixThings_49 hl (k := 2) rfl (by decide) (by decide) rfl (fun ls hl => ?_)
  refine lv_goto (tgt := 5) hx hb dX6_mixThings_52 (by decide) ?_
  refine lv_iload hx hb dX6_mixThings_5 (lv_at hl 0 rfl) ?_
  refine lv_aload_n hx hb dX6_mixThings_7 rfl (lv_at hl 3 rfl) ?_
  refine va_get (D := (dC, dI)) (ci := 8) (v := .ref rm) (C := RX6) (T := TX6) (N := 3) hx hb hts zi_X6_mixThings_X6 hown hK (zo_R hR0 hS hAr) 0 rfl rfl 0 (by decide) (hts (.fieldLink RX6 12 "LockRooms" "room" "LLockRooms$Room;") (by decide +kernel)) (fun _ h9 => h9) rfl dX6_mixThings_8 ?_
  refine va_get (D := (dC, dI)) (ci := 5) (v := .int 10) (C := RX3) (T := TX3) (N := 12) hx hb hts zi_X6_mixThings_X3 hown hK (zo_R hR0 hS hAr) 1 rfl rfl 5 (by decide) (hts (.fieldLink RX6 71 "LockRooms$Room" "thingCount" "I") (by decide +kernel)) (fun _ h9 => h9) rfl dX6_mixThings_11 ?_
  refine lv_icmp_ge (tgt := 55) hx hb dX6_mixThings_14 (by decide) (fun h => absurd h (by decide)) (fun _ => ?_)
  refine lv_iconst (v := 0) hx hb dX6_mixThings_17 (by decide) ?_
  refine lv_istore (lv' := [(6, .int 0), (5, .int 7), (3, .long (-4820240584891532097)), (0, .ref x), (1, .long (-1160429273186388225))]) hx hb dX6_mixThings_18 hl (by decide) rfl (fun ls hl => ?_)
  refine lv_iload hx hb dX6_mixThings_20 (lv_at hl 0 rfl) ?_
  refine lv_bipush (v := 6) hx hb dX6_mixThings_22 (by decide) ?_
  refine lv_icmp_ge (tgt := 49) hx hb dX6_mixThings_24 (by decide) (fun h => absurd h (by decide)) (fun _ => ?_)
  refine lv_lload_n hx hb dX6_mixThings_27 rfl (lv_at hl 2 rfl) ?_
  refine lv_aload_n hx hb dX6_mixThings_28 rfl (lv_at hl 3 rfl) ?_
  refine va_get (D := (dC, dI)) (ci := 8) (v := .ref rm) (C := RX6) (T := TX6) (N := 3) hx hb hts zi_X6_mixThings_X6 hown hK (zo_R hR0 hS hAr) 0 rfl rfl 0 (by decide) (hts (.fieldLink RX6 12 "LockRooms" "room" "LLockRooms$Room;") (by decide +kernel)) (fun _ h9 => h9) rfl dX6_mixThings_29 ?_
  refine lv_iload hx hb dX6_mixThings_32 (lv_at hl 1 rfl) ?_
  refine lv_iload hx hb dX6_mixThings_34 (lv_at hl 0 rfl) ?_
  have hPr := ((zo_R hR0 hS hAr)).sub (ws' := [(rm, .inr (5, [.ref lk, .ref th, .ref pl, .ref gm, .int 2, .int 10, .int 0, .int 0, .int 1, .int 0, .int 0, .int 0])), (th, .inl (cT, 12, .inr (.inr (.inr (.inr ft))))), (t7, .inr (7, [.int (-1), .int 0, .int 0, .int 0, .int 0]))]) [1, 3, 13] rfl
  have hPc := hP.sub (ws' := []) [] rfl
  have hDc := hD.sub (ws' := []) [] (by decide) rfl
  have hKc := hK.sub (tys' := [(cT, .object "LockRooms$Thing")]) [1] rfl
  have hFc := va_free (wc := []) hD hS hA [] rfl
  refine va_calli (va_runV (As := [.int 7, .int 0]) (rest := [.long (-4820240584891532097)]) ⟨hx, hb, hml, hown, hts⟩ (cz_QtellThing_7_0 l dC dI ed H167.size rm lk th pl gm cT ft t7 hkt7) (cwV 2 hts gX6_mixThings_X3_tellThing rfl rfl rfl (by decide +kernel) ⟨Nat.le_of_ble_eq_true rfl, Nat.le_of_ble_eq_true rfl⟩) ⟨zb_blind, va_recv hK (zo_R hR0 hS hAr) (ci := 5) (q0 := 1) rfl rfl, fun U hU hW => ⟨rfl, zb_mk hU hW hPr hPc hKc hDc hN hH hS hFc zx_e⟩⟩ rfl rfl hl.1 rfl (lv_room (Nat.le_of_ble_eq_true rfl)) dX6_mixThings_36 ⟨Nat.le_of_ble_eq_true rfl, Nat.le_of_ble_eq_true rfl⟩) hS (fun q _ h => hFc q h) hFc (fun r170 u t H169 locs ht hvm hw hB hz1 hk1 hS => ?_)
  obtain rfl : r170 = (-1) := hw
  have hP := zo_K hP hk1
  have hPr := (zo_nil : va_P (dC, dI) vwCl [] H169)
  have hPc := hP.sub (ws' := []) [] rfl
  have hDc := hD.sub (ws' := []) [] (by decide) rfl
  have hKc := hK.sub (tys' := []) [] rfl
  have hFc := va_free (wc := []) hD hS hA [] rfl
  refine va_calll (va_runS (As := [.long (-4820240584891532097), .int (-1)]) (rest := []) ⟨hx, hb, hml, hown, hts⟩ (cz_X6_mix l dC dI ed H169.size (-4820240584891532097) (-1)) (va_cwS 2 hts gX6_mixThings_X6_mix rfl rfl rfl (by decide +kernel) ⟨Nat.le_of_ble_eq_true rfl, Nat.le_of_ble_eq_true rfl⟩) ⟨zb_blind, fun U hU hW => ⟨rfl, zb_mk hU hW hPr hPc hKc hDc hN hH hS hFc zx_e⟩⟩ rfl rfl hl.1 rfl (lv_room (Nat.le_of_ble_eq_true rfl)) dX6_mixThings_39 ⟨Nat.le_of_ble_eq_true rfl, Nat.le_of_ble_eq_true rfl⟩) hS (fun q _ h => hFc q h) hFc (fun r172 u t H171 locs ht hvm hw hB hz1 hk1 hS => ?_)
  obtain rfl : r172 = (-1853505541961082080) := hw.trans (by decide +kernel)
  have hP := zo_K hP hk1
  refine lv_lstore_n (lv' := [(3, .long (-1853505541961082080)), (6, .int 0), (5, .int 7), (0, .ref x), (1, .long (-1160429273186388225))]) hx hb dX6_mixThings_42 rfl hl (by decide) rfl (fun ls hl => ?_)
  refine lv_iinc (v := 1) (lv' := [(6, .int 1), (3, .long (-1853505541961082080)), (5, .int 7), (0, .ref x), (1, .long (-1160429273186388225))]) hx hb dX6_mixThings_43 hl (k := 1) rfl (by decide) (by decide) rfl (fun ls hl => ?_)
  refine lv_goto (tgt := 20) hx hb dX6_mixThings_46 (by decide) ?_
  refine lv_iload hx hb dX6_mixThings_20 (lv_at hl 0 rfl) ?_
  refine lv_bipush (v := 6) hx hb dX6_mixThings_22 (by decide) ?_
  refine lv_icmp_ge (tgt := 49) hx hb dX6_mixThings_24 (by decide) (fun h => absurd h (by decide)) (fun _ => ?_)
  refine lv_lload_n hx hb dX6_mixThings_27 rfl (lv_at hl 1 rfl) ?_
  refine lv_aload_n hx hb dX6_mixThings_28 rfl (lv_at hl 3 rfl) ?_
  refine va_get (D := (dC, dI)) (ci := 8) (v := .ref rm) (C := RX6) (T := TX6) (N := 3) hx hb hts zi_X6_mixThings_X6 hown hK (zo_R hR0 hS hAr) 0 rfl rfl 0 (by decide) (hts (.fieldLink RX6 12 "LockRooms" "room" "LLockRooms$Room;") (by decide +kernel)) (fun _ h9 => h9) rfl dX6_mixThings_29 ?_
  refine lv_iload hx hb dX6_mixThings_32 (lv_at hl 2 rfl) ?_
  refine lv_iload hx hb dX6_mixThings_34 (lv_at hl 0 rfl) ?_
  have hPr := ((zo_R hR0 hS hAr)).sub (ws' := [(rm, .inr (5, [.ref lk, .ref th, .ref pl, .ref gm, .int 2, .int 10, .int 0, .int 0, .int 1, .int 0, .int 0, .int 0])), (th, .inl (cT, 12, .inr (.inr (.inr (.inr ft))))), (t7, .inr (7, [.int (-1), .int 0, .int 0, .int 0, .int 0]))]) [1, 3, 13] rfl
  have hPc := hP.sub (ws' := []) [] rfl
  have hDc := hD.sub (ws' := []) [] (by decide) rfl
  have hKc := hK.sub (tys' := [(cT, .object "LockRooms$Thing")]) [1] rfl
  have hFc := va_free (wc := []) hD hS hA [] rfl
  refine va_calli (va_runV (As := [.int 7, .int 1]) (rest := [.long (-1853505541961082080)]) ⟨hx, hb, hml, hown, hts⟩ (cz_QtellThing_7_1 l dC dI ed H171.size rm lk th pl gm cT ft t7 hkt7) (cwV 2 hts gX6_mixThings_X3_tellThing rfl rfl rfl (by decide +kernel) ⟨Nat.le_of_ble_eq_true rfl, Nat.le_of_ble_eq_true rfl⟩) ⟨zb_blind, va_recv hK (zo_R hR0 hS hAr) (ci := 5) (q0 := 1) rfl rfl, fun U hU hW => ⟨rfl, zb_mk hU hW hPr hPc hKc hDc hN hH hS hFc zx_e⟩⟩ rfl rfl hl.1 rfl (lv_room (Nat.le_of_ble_eq_true rfl)) dX6_mixThings_36 ⟨Nat.le_of_ble_eq_true rfl, Nat.le_of_ble_eq_true rfl⟩) hS (fun q _ h => hFc q h) hFc (fun r174 u t H173 locs ht hvm hw hB hz1 hk1 hS => ?_)
  obtain rfl : r174 = 0 := hw
  have hP := zo_K hP hk1
  have hPr := (zo_nil : va_P (dC, dI) vwCl [] H173)
  have hPc := hP.sub (ws' := []) [] rfl
  have hDc := hD.sub (ws' := []) [] (by decide) rfl
  have hKc := hK.sub (tys' := []) [] rfl
  have hFc := va_free (wc := []) hD hS hA [] rfl
  refine va_calll (va_runS (As := [.long (-1853505541961082080), .int 0]) (rest := []) ⟨hx, hb, hml, hown, hts⟩ (cz_X6_mix l dC dI ed H173.size (-1853505541961082080) 0) (va_cwS 2 hts gX6_mixThings_X6_mix rfl rfl rfl (by decide +kernel) ⟨Nat.le_of_ble_eq_true rfl, Nat.le_of_ble_eq_true rfl⟩) ⟨zb_blind, fun U hU hW => ⟨rfl, zb_mk hU hW hPr hPc hKc hDc hN hH hS hFc zx_e⟩⟩ rfl rfl hl.1 rfl (lv_room (Nat.le_of_ble_eq_true rfl)) dX6_mixThings_39 ⟨Nat.le_of_ble_eq_true rfl, Nat.le_of_ble_eq_true rfl⟩) hS (fun q _ h => hFc q h) hFc (fun r176 u t H175 locs ht hvm hw hB hz1 hk1 hS => ?_)
  obtain rfl : r176 = (-2118439579664889632) := hw.trans (by decide +kernel)
  have hP := zo_K hP hk1
  refine lv_lstore_n (lv' := [(3, .long (-2118439579664889632)), (6, .int 1), (5, .int 7), (0, .ref x), (1, .long (-1160429273186388225))]) hx hb dX6_mixThings_42 rfl hl (by decide) rfl (fun ls hl => ?_)
  refine lv_iinc (v := 2) (lv' := [(6, .int 2), (3, .long (-2118439579664889632)), (5, .int 7), (0, .ref x), (1, .long (-1160429273186388225))]) hx hb dX6_mixThings_43 hl (k := 1) rfl (by decide) (by decide) rfl (fun ls hl => ?_)
  refine lv_goto (tgt := 20) hx hb dX6_mixThings_46 (by decide) ?_
  refine lv_iload hx hb dX6_mixThings_20 (lv_at hl 0 rfl) ?_
  refine lv_bipush (v := 6) hx hb dX6_mixThings_22 (by decide) ?_
  refine lv_icmp_ge (tgt := 49) hx hb dX6_mixThings_24 (by decide) (fun h => absurd h (by decide)) (fun _ => ?_)
  refine lv_lload_n hx hb dX6_mixThings_27 rfl (lv_at hl 1 rfl) ?_
  refine lv_aload_n hx hb dX6_mixThings_28 rfl (lv_at hl 3 rfl) ?_
  refine va_get (D := (dC, dI)) (ci := 8) (v := .ref rm) (C := RX6) (T := TX6) (N := 3) hx hb hts zi_X6_mixThings_X6 hown hK (zo_R hR0 hS hAr) 0 rfl rfl 0 (by decide) (hts (.fieldLink RX6 12 "LockRooms" "room" "LLockRooms$Room;") (by decide +kernel)) (fun _ h9 => h9) rfl dX6_mixThings_29 ?_
  refine lv_iload hx hb dX6_mixThings_32 (lv_at hl 2 rfl) ?_
  refine lv_iload hx hb dX6_mixThings_34 (lv_at hl 0 rfl) ?_
  have hPr := ((zo_R hR0 hS hAr)).sub (ws' := [(rm, .inr (5, [.ref lk, .ref th, .ref pl, .ref gm, .int 2, .int 10, .int 0, .int 0, .int 1, .int 0, .int 0, .int 0])), (th, .inl (cT, 12, .inr (.inr (.inr (.inr ft))))), (t7, .inr (7, [.int (-1), .int 0, .int 0, .int 0, .int 0]))]) [1, 3, 13] rfl
  have hPc := hP.sub (ws' := []) [] rfl
  have hDc := hD.sub (ws' := []) [] (by decide) rfl
  have hKc := hK.sub (tys' := [(cT, .object "LockRooms$Thing")]) [1] rfl
  have hFc := va_free (wc := []) hD hS hA [] rfl
  refine va_calli (va_runV (As := [.int 7, .int 2]) (rest := [.long (-2118439579664889632)]) ⟨hx, hb, hml, hown, hts⟩ (cz_QtellThing_7_2 l dC dI ed H175.size rm lk th pl gm cT ft t7 hkt7) (cwV 2 hts gX6_mixThings_X3_tellThing rfl rfl rfl (by decide +kernel) ⟨Nat.le_of_ble_eq_true rfl, Nat.le_of_ble_eq_true rfl⟩) ⟨zb_blind, va_recv hK (zo_R hR0 hS hAr) (ci := 5) (q0 := 1) rfl rfl, fun U hU hW => ⟨rfl, zb_mk hU hW hPr hPc hKc hDc hN hH hS hFc zx_e⟩⟩ rfl rfl hl.1 rfl (lv_room (Nat.le_of_ble_eq_true rfl)) dX6_mixThings_36 ⟨Nat.le_of_ble_eq_true rfl, Nat.le_of_ble_eq_true rfl⟩) hS (fun q _ h => hFc q h) hFc (fun r178 u t H177 locs ht hvm hw hB hz1 hk1 hS => ?_)
  obtain rfl : r178 = 0 := hw
  have hP := zo_K hP hk1
  have hPr := (zo_nil : va_P (dC, dI) vwCl [] H177)
  have hPc := hP.sub (ws' := []) [] rfl
  have hDc := hD.sub (ws' := []) [] (by decide) rfl
  have hKc := hK.sub (tys' := []) [] rfl
  have hFc := va_free (wc := []) hD hS hA [] rfl
  refine va_calll (va_runS (As := [.long (-2118439579664889632), .int 0]) (rest := []) ⟨hx, hb, hml, hown, hts⟩ (cz_X6_mix l dC dI ed H177.size (-2118439579664889632) 0) (va_cwS 2 hts gX6_mixThings_X6_mix rfl rfl rfl (by decide +kernel) ⟨Nat.le_of_ble_eq_true rfl, Nat.le_of_ble_eq_true rfl⟩) ⟨zb_blind, fun U hU hW => ⟨rfl, zb_mk hU hW hPr hPc hKc hDc hN hH hS hFc zx_e⟩⟩ rfl rfl hl.1 rfl (lv_room (Nat.le_of_ble_eq_true rfl)) dX6_mixThings_39 ⟨Nat.le_of_ble_eq_true rfl, Nat.le_of_ble_eq_true rfl⟩) hS (fun q _ h => hFc q h) hFc (fun r180 u t H179 locs ht hvm hw hB hz1 hk1 hS => ?_)
  obtain rfl : r180 = 8115349325226627872 := hw.trans (by decide +kernel)
  have hP := zo_K hP hk1
  refine lv_lstore_n (lv' := [(3, .long 8115349325226627872), (6, .int 2), (5, .int 7), (0, .ref x), (1, .long (-1160429273186388225))]) hx hb dX6_mixThings_42 rfl hl (by decide) rfl (fun ls hl => ?_)
  refine lv_iinc (v := 3) (lv' := [(6, .int 3), (3, .long 8115349325226627872), (5, .int 7), (0, .ref x), (1, .long (-1160429273186388225))]) hx hb dX6_mixThings_43 hl (k := 1) rfl (by decide) (by decide) rfl (fun ls hl => ?_)
  refine lv_goto (tgt := 20) hx hb dX6_mixThings_46 (by decide) ?_
  refine lv_iload hx hb dX6_mixThings_20 (lv_at hl 0 rfl) ?_
  refine lv_bipush (v := 6) hx hb dX6_mixThings_22 (by decide) ?_
  refine lv_icmp_ge (tgt := 49) hx hb dX6_mixThings_24 (by decide) (fun h => absurd h (by decide)) (fun _ => ?_)
  refine lv_lload_n hx hb dX6_mixThings_27 rfl (lv_at hl 1 rfl) ?_
  refine lv_aload_n hx hb dX6_mixThings_28 rfl (lv_at hl 3 rfl) ?_
  refine va_get (D := (dC, dI)) (ci := 8) (v := .ref rm) (C := RX6) (T := TX6) (N := 3) hx hb hts zi_X6_mixThings_X6 hown hK (zo_R hR0 hS hAr) 0 rfl rfl 0 (by decide) (hts (.fieldLink RX6 12 "LockRooms" "room" "LLockRooms$Room;") (by decide +kernel)) (fun _ h9 => h9) rfl dX6_mixThings_29 ?_
  refine lv_iload hx hb dX6_mixThings_32 (lv_at hl 2 rfl) ?_
  refine lv_iload hx hb dX6_mixThings_34 (lv_at hl 0 rfl) ?_
  have hPr := ((zo_R hR0 hS hAr)).sub (ws' := [(rm, .inr (5, [.ref lk, .ref th, .ref pl, .ref gm, .int 2, .int 10, .int 0, .int 0, .int 1, .int 0, .int 0, .int 0])), (th, .inl (cT, 12, .inr (.inr (.inr (.inr ft))))), (t7, .inr (7, [.int (-1), .int 0, .int 0, .int 0, .int 0]))]) [1, 3, 13] rfl
  have hPc := hP.sub (ws' := []) [] rfl
  have hDc := hD.sub (ws' := []) [] (by decide) rfl
  have hKc := hK.sub (tys' := [(cT, .object "LockRooms$Thing")]) [1] rfl
  have hFc := va_free (wc := []) hD hS hA [] rfl
  refine va_calli (va_runV (As := [.int 7, .int 3]) (rest := [.long 8115349325226627872]) ⟨hx, hb, hml, hown, hts⟩ (cz_QtellThing_7_3 l dC dI ed H179.size rm lk th pl gm cT ft t7 hkt7) (cwV 2 hts gX6_mixThings_X3_tellThing rfl rfl rfl (by decide +kernel) ⟨Nat.le_of_ble_eq_true rfl, Nat.le_of_ble_eq_true rfl⟩) ⟨zb_blind, va_recv hK (zo_R hR0 hS hAr) (ci := 5) (q0 := 1) rfl rfl, fun U hU hW => ⟨rfl, zb_mk hU hW hPr hPc hKc hDc hN hH hS hFc zx_e⟩⟩ rfl rfl hl.1 rfl (lv_room (Nat.le_of_ble_eq_true rfl)) dX6_mixThings_36 ⟨Nat.le_of_ble_eq_true rfl, Nat.le_of_ble_eq_true rfl⟩) hS (fun q _ h => hFc q h) hFc (fun r182 u t H181 locs ht hvm hw hB hz1 hk1 hS => ?_)
  obtain rfl : r182 = 0 := hw
  have hP := zo_K hP hk1
  have hPr := (zo_nil : va_P (dC, dI) vwCl [] H181)
  have hPc := hP.sub (ws' := []) [] rfl
  have hDc := hD.sub (ws' := []) [] (by decide) rfl
  have hKc := hK.sub (tys' := []) [] rfl
  have hFc := va_free (wc := []) hD hS hA [] rfl
  refine va_calll (va_runS (As := [.long 8115349325226627872, .int 0]) (rest := []) ⟨hx, hb, hml, hown, hts⟩ (cz_X6_mix l dC dI ed H181.size 8115349325226627872 0) (va_cwS 2 hts gX6_mixThings_X6_mix rfl rfl rfl (by decide +kernel) ⟨Nat.le_of_ble_eq_true rfl, Nat.le_of_ble_eq_true rfl⟩) ⟨zb_blind, fun U hU hW => ⟨rfl, zb_mk hU hW hPr hPc hKc hDc hN hH hS hFc zx_e⟩⟩ rfl rfl hl.1 rfl (lv_room (Nat.le_of_ble_eq_true rfl)) dX6_mixThings_39 ⟨Nat.le_of_ble_eq_true rfl, Nat.le_of_ble_eq_true rfl⟩) hS (fun q _ h => hFc q h) hFc (fun r184 u t H183 locs ht hvm hw hB hz1 hk1 hS => ?_)
  obtain rfl : r184 = (-6678587949908258592) := hw.trans (by decide +kernel)
  have hP := zo_K hP hk1
  refine lv_lstore_n (lv' := [(3, .long (-6678587949908258592)), (6, .int 3), (5, .int 7), (0, .ref x), (1, .long (-1160429273186388225))]) hx hb dX6_mixThings_42 rfl hl (by decide) rfl (fun ls hl => ?_)
  refine lv_iinc (v := 4) (lv' := [(6, .int 4), (3, .long (-6678587949908258592)), (5, .int 7), (0, .ref x), (1, .long (-1160429273186388225))]) hx hb dX6_mixThings_43 hl (k := 1) rfl (by decide) (by decide) rfl (fun ls hl => ?_)
  refine lv_goto (tgt := 20) hx hb dX6_mixThings_46 (by decide) ?_
  refine lv_iload hx hb dX6_mixThings_20 (lv_at hl 0 rfl) ?_
  refine lv_bipush (v := 6) hx hb dX6_mixThings_22 (by decide) ?_
  refine lv_icmp_ge (tgt := 49) hx hb dX6_mixThings_24 (by decide) (fun h => absurd h (by decide)) (fun _ => ?_)
  refine lv_lload_n hx hb dX6_mixThings_27 rfl (lv_at hl 1 rfl) ?_
  refine lv_aload_n hx hb dX6_mixThings_28 rfl (lv_at hl 3 rfl) ?_
  refine va_get (D := (dC, dI)) (ci := 8) (v := .ref rm) (C := RX6) (T := TX6) (N := 3) hx hb hts zi_X6_mixThings_X6 hown hK (zo_R hR0 hS hAr) 0 rfl rfl 0 (by decide) (hts (.fieldLink RX6 12 "LockRooms" "room" "LLockRooms$Room;") (by decide +kernel)) (fun _ h9 => h9) rfl dX6_mixThings_29 ?_
  refine lv_iload hx hb dX6_mixThings_32 (lv_at hl 2 rfl) ?_
  refine lv_iload hx hb dX6_mixThings_34 (lv_at hl 0 rfl) ?_
  have hPr := ((zo_R hR0 hS hAr)).sub (ws' := [(rm, .inr (5, [.ref lk, .ref th, .ref pl, .ref gm, .int 2, .int 10, .int 0, .int 0, .int 1, .int 0, .int 0, .int 0])), (th, .inl (cT, 12, .inr (.inr (.inr (.inr ft))))), (t7, .inr (7, [.int (-1), .int 0, .int 0, .int 0, .int 0])), (lk, .inl (cL, 10, .inr (.inr (.inr (.inr fl))))), (l0, .inr (3, [.int 0, .int 0, .int 60, .int 0, .int 0, .int 0, .int 0, .int 0, .int 0, .int 0])), (l1, .inr (3, [.int 0, .int 0, .int 60, .int 0, .int 0, .int 0, .int 0, .int 0, .int 0, .int 0]))]) [1, 3, 13, 2, 4, 5] rfl
  have hPc := hP.sub (ws' := []) [] rfl
  have hDc := hD.sub (ws' := []) [] (by decide) rfl
  have hKc := hK.sub (tys' := [(cT, .object "LockRooms$Thing"), (cL, .object "LockRooms$Lock")]) [1, 0] rfl
  have hFc := va_free (wc := []) hD hS hA [] rfl
  refine va_calli (va_runV (As := [.int 7, .int 4]) (rest := [.long (-6678587949908258592)]) ⟨hx, hb, hml, hown, hts⟩ (cz_QtellThing_7_4 l dC dI ed H183.size rm lk th pl gm cT ft t7 cL fl l0 l1 hkt7 hkl0 hkl1) (cwV 2 hts gX6_mixThings_X3_tellThing rfl rfl rfl (by decide +kernel) ⟨Nat.le_of_ble_eq_true rfl, Nat.le_of_ble_eq_true rfl⟩) ⟨zb_blind, va_recv hK (zo_R hR0 hS hAr) (ci := 5) (q0 := 1) rfl rfl, fun U hU hW => ⟨rfl, zb_mk hU hW hPr hPc hKc hDc hN hH hS hFc zx_e⟩⟩ rfl rfl hl.1 rfl (lv_room (Nat.le_of_ble_eq_true rfl)) dX6_mixThings_36 ⟨Nat.le_of_ble_eq_true rfl, Nat.le_of_ble_eq_true rfl⟩) hS (fun q _ h => hFc q h) hFc (fun r186 u t H185 locs ht hvm hw hB hz1 hk1 hS => ?_)
  obtain rfl : r186 = 1 := hw
  have hP := zo_K hP hk1
  have hPr := (zo_nil : va_P (dC, dI) vwCl [] H185)
  have hPc := hP.sub (ws' := []) [] rfl
  have hDc := hD.sub (ws' := []) [] (by decide) rfl
  have hKc := hK.sub (tys' := []) [] rfl
  have hFc := va_free (wc := []) hD hS hA [] rfl
  refine va_calll (va_runS (As := [.long (-6678587949908258592), .int 1]) (rest := []) ⟨hx, hb, hml, hown, hts⟩ (cz_X6_mix l dC dI ed H185.size (-6678587949908258592) 1) (va_cwS 2 hts gX6_mixThings_X6_mix rfl rfl rfl (by decide +kernel) ⟨Nat.le_of_ble_eq_true rfl, Nat.le_of_ble_eq_true rfl⟩) ⟨zb_blind, fun U hU hW => ⟨rfl, zb_mk hU hW hPr hPc hKc hDc hN hH hS hFc zx_e⟩⟩ rfl rfl hl.1 rfl (lv_room (Nat.le_of_ble_eq_true rfl)) dX6_mixThings_39 ⟨Nat.le_of_ble_eq_true rfl, Nat.le_of_ble_eq_true rfl⟩) hS (fun q _ h => hFc q h) hFc (fun r188 u t H187 locs ht hvm hw hB hz1 hk1 hS => ?_)
  obtain rfl : r188 = (-4122041636350948575) := hw.trans (by decide +kernel)
  have hP := zo_K hP hk1
  refine lv_lstore_n (lv' := [(3, .long (-4122041636350948575)), (6, .int 4), (5, .int 7), (0, .ref x), (1, .long (-1160429273186388225))]) hx hb dX6_mixThings_42 rfl hl (by decide) rfl (fun ls hl => ?_)
  refine lv_iinc (v := 5) (lv' := [(6, .int 5), (3, .long (-4122041636350948575)), (5, .int 7), (0, .ref x), (1, .long (-1160429273186388225))]) hx hb dX6_mixThings_43 hl (k := 1) rfl (by decide) (by decide) rfl (fun ls hl => ?_)
  refine lv_goto (tgt := 20) hx hb dX6_mixThings_46 (by decide) ?_
  refine lv_iload hx hb dX6_mixThings_20 (lv_at hl 0 rfl) ?_
  refine lv_bipush (v := 6) hx hb dX6_mixThings_22 (by decide) ?_
  refine lv_icmp_ge (tgt := 49) hx hb dX6_mixThings_24 (by decide) (fun h => absurd h (by decide)) (fun _ => ?_)
  refine lv_lload_n hx hb dX6_mixThings_27 rfl (lv_at hl 1 rfl) ?_
  refine lv_aload_n hx hb dX6_mixThings_28 rfl (lv_at hl 3 rfl) ?_
  refine va_get (D := (dC, dI)) (ci := 8) (v := .ref rm) (C := RX6) (T := TX6) (N := 3) hx hb hts zi_X6_mixThings_X6 hown hK (zo_R hR0 hS hAr) 0 rfl rfl 0 (by decide) (hts (.fieldLink RX6 12 "LockRooms" "room" "LLockRooms$Room;") (by decide +kernel)) (fun _ h9 => h9) rfl dX6_mixThings_29 ?_
  refine lv_iload hx hb dX6_mixThings_32 (lv_at hl 2 rfl) ?_
  refine lv_iload hx hb dX6_mixThings_34 (lv_at hl 0 rfl) ?_
  have hPr := ((zo_R hR0 hS hAr)).sub (ws' := [(rm, .inr (5, [.ref lk, .ref th, .ref pl, .ref gm, .int 2, .int 10, .int 0, .int 0, .int 1, .int 0, .int 0, .int 0])), (th, .inl (cT, 12, .inr (.inr (.inr (.inr ft))))), (t7, .inr (7, [.int (-1), .int 0, .int 0, .int 0, .int 0])), (lk, .inl (cL, 10, .inr (.inr (.inr (.inr fl))))), (l0, .inr (3, [.int 0, .int 0, .int 60, .int 0, .int 0, .int 0, .int 0, .int 0, .int 0, .int 0])), (l1, .inr (3, [.int 0, .int 0, .int 60, .int 0, .int 0, .int 0, .int 0, .int 0, .int 0, .int 0]))]) [1, 3, 13, 2, 4, 5] rfl
  have hPc := hP.sub (ws' := []) [] rfl
  have hDc := hD.sub (ws' := []) [] (by decide) rfl
  have hKc := hK.sub (tys' := [(cT, .object "LockRooms$Thing"), (cL, .object "LockRooms$Lock")]) [1, 0] rfl
  have hFc := va_free (wc := []) hD hS hA [] rfl
  refine va_calli (va_runV (As := [.int 7, .int 5]) (rest := [.long (-4122041636350948575)]) ⟨hx, hb, hml, hown, hts⟩ (cz_QtellThing_7_5 l dC dI ed H187.size rm lk th pl gm cT ft t7 cL fl l0 l1 hkt7 hkl0 hkl1) (cwV 2 hts gX6_mixThings_X3_tellThing rfl rfl rfl (by decide +kernel) ⟨Nat.le_of_ble_eq_true rfl, Nat.le_of_ble_eq_true rfl⟩) ⟨zb_blind, va_recv hK (zo_R hR0 hS hAr) (ci := 5) (q0 := 1) rfl rfl, fun U hU hW => ⟨rfl, zb_mk hU hW hPr hPc hKc hDc hN hH hS hFc zx_e⟩⟩ rfl rfl hl.1 rfl (lv_room (Nat.le_of_ble_eq_true rfl)) dX6_mixThings_36 ⟨Nat.le_of_ble_eq_true rfl, Nat.le_of_ble_eq_true rfl⟩) hS (fun q _ h => hFc q h) hFc (fun r190 u t H189 locs ht hvm hw hB hz1 hk1 hS => ?_)
  obtain rfl : r190 = 0 := hw
  have hP := zo_K hP hk1
  have hPr := (zo_nil : va_P (dC, dI) vwCl [] H189)
  have hPc := hP.sub (ws' := []) [] rfl
  have hDc := hD.sub (ws' := []) [] (by decide) rfl
  have hKc := hK.sub (tys' := []) [] rfl
  have hFc := va_free (wc := []) hD hS hA [] rfl
  refine va_calll (va_runS (As := [.long (-4122041636350948575), .int 0]) (rest := []) ⟨hx, hb, hml, hown, hts⟩ (cz_X6_mix l dC dI ed H189.size (-4122041636350948575) 0) (va_cwS 2 hts gX6_mixThings_X6_mix rfl rfl rfl (by decide +kernel) ⟨Nat.le_of_ble_eq_true rfl, Nat.le_of_ble_eq_true rfl⟩) ⟨zb_blind, fun U hU hW => ⟨rfl, zb_mk hU hW hPr hPc hKc hDc hN hH hS hFc zx_e⟩⟩ rfl rfl hl.1 rfl (lv_room (Nat.le_of_ble_eq_true rfl)) dX6_mixThings_39 ⟨Nat.le_of_ble_eq_true rfl, Nat.le_of_ble_eq_true rfl⟩) hS (fun q _ h => hFc q h) hFc (fun r192 u t H191 locs ht hvm hw hB hz1 hk1 hS => ?_)
  obtain rfl : r192 = 1343917789087455487 := hw.trans (by decide +kernel)
  have hP := zo_K hP hk1
  refine lv_lstore_n (lv' := [(3, .long 1343917789087455487), (6, .int 5), (5, .int 7), (0, .ref x), (1, .long (-1160429273186388225))]) hx hb dX6_mixThings_42 rfl hl (by decide) rfl (fun ls hl => ?_)
  refine lv_iinc (v := 6) (lv' := [(6, .int 6), (3, .long 1343917789087455487), (5, .int 7), (0, .ref x), (1, .long (-1160429273186388225))]) hx hb dX6_mixThings_43 hl (k := 1) rfl (by decide) (by decide) rfl (fun ls hl => ?_)
  refine lv_goto (tgt := 20) hx hb dX6_mixThings_46 (by decide) ?_
  refine lv_iload hx hb dX6_mixThings_20 (lv_at hl 0 rfl) ?_
  refine lv_bipush (v := 6) hx hb dX6_mixThings_22 (by decide) ?_
  refine lv_icmp_ge (tgt := 49) hx hb dX6_mixThings_24 (by decide) (fun _ => ?_) (fun h => absurd h (by decide))
  refine lv_iinc (v := 8) (lv' := [(5, .int 8), (6, .int 6), (3, .long 1343917789087455487), (0, .ref x), (1, .long (-1160429273186388225))]) hx hb dX6_mixThings_49 hl (k := 2) rfl (by decide) (by decide) rfl (fun ls hl => ?_)
  refine lv_goto (tgt := 5) hx hb dX6_mixThings_52 (by decide) ?_
  exact cs_QmixThings_4 l dC dI ed x rm tr st lk th pl gm cL fl l0 l1 cT ft t0 t1 t2 t3 t4 t5 t6 t7 t8 t9 hkl0 hkl1 hkt0 hkt1 hkt2 hkt3 hkt4 hkt5 hkt6 hkt7 hkt8 hkt9 hx hb hr hml hown hlocks hts hR0 hN hA hAr hH hAe hK hP hD hS hl
set_option maxHeartbeats 4000000 in
set_option maxRecDepth 100000 in
theorem cs_QmixThings_2 (l : Launch) (dC : Nat → ClassId) (dI : Nat → Nat → Nat) (ed : Nat) (x : Nat) (rm : Nat) (tr : Nat) (st : Nat) (lk : Nat) (th : Nat) (pl : Nat) (gm : Nat) (cL : ClassId) (fl : Nat → Option Nat) (l0 : Nat) (l1 : Nat) (cT : ClassId) (ft : Nat → Option Nat) (t0 : Nat) (t1 : Nat) (t2 : Nat) (t3 : Nat) (t4 : Nat) (t5 : Nat) (t6 : Nat) (t7 : Nat) (t8 : Nat) (t9 : Nat) (hkl0 : fl 0 = some l0) (hkl1 : fl 1 = some l1) (hkt0 : ft 0 = some t0) (hkt1 : ft 1 = some t1) (hkt2 : ft 2 = some t2) (hkt3 : ft 3 = some t3) (hkt4 : ft 4 = some t4) (hkt5 : ft 5 = some t5) (hkt6 : ft 6 = some t6) (hkt7 : ft 7 = some t7) (hkt8 : ft 8 = some t8) (hkt9 : ft 9 = some t9) {p : Program} {e : Env} {s : State} {m : MethodId} {below : List Frame} {meth : Method} {c : Code} {A : Nat → Prop} {H : Heap} {locs : List Loc} {ls : Array Slot} (hx : p.tables.exec = Jvm.exec) (hb : c.code = cX6_mixThings) (hr : meth.sig.returnType = (some .long)) (hml : c.maxLocals = 7) (hown : s.vm.findClass RX6 = some m.cls) (hlocks : meth.locks = false) (hts : ∀ w ∈ wsX6_mixThings, w.before ([.ref x, .long (-1160429273186388225)] : List Value).toArray s = true) (hR0 : va_P (dC, dI) vwCl [(x, .inr (8, [.ref rm, .ref tr, .ref st])), (rm, .inr (5, [.ref lk, .ref th, .ref pl, .ref gm, .int 2, .int 10, .int 0, .int 0, .int 1, .int 0, .int 0, .int 0])), (lk, .inl (cL, 10, .inr (.inr (.inr (.inr fl))))), (th, .inl (cT, 12, .inr (.inr (.inr (.inr ft))))), (l0, .inr (3, [.int 0, .int 0, .int 60, .int 0, .int 0, .int 0, .int 0, .int 0, .int 0, .int 0])), (l1, .inr (3, [.int 0, .int 0, .int 60, .int 0, .int 0, .int 0, .int 0, .int 0, .int 0, .int 0])), (t0, .inr (7, [.int (-1), .int 0, .int 0, .int 0, .int 0])), (t1, .inr (7, [.int (-1), .int 0, .int 0, .int 0, .int 0])), (t2, .inr (7, [.int (-1), .int 0, .int 0, .int 0, .int 0])), (t3, .inr (7, [.int (-1), .int 0, .int 0, .int 0, .int 0])), (t4, .inr (7, [.int (-1), .int 0, .int 0, .int 0, .int 0])), (t5, .inr (7, [.int (-1), .int 0, .int 0, .int 0, .int 0])), (t6, .inr (7, [.int (-1), .int 0, .int 0, .int 0, .int 0])), (t7, .inr (7, [.int (-1), .int 0, .int 0, .int 0, .int 0])), (t8, .inr (7, [.int (-1), .int 0, .int 0, .int 0, .int 0])), (t9, .inr (7, [.int (-1), .int 0, .int 0, .int 0, .int 0]))] s.heap) (hN : zN s) (hA : ∀ q : Nat, s.heap.size ≤ q → A q) (hAr : ∀ p ∈ ([(x, .inr (8, [.ref rm, .ref tr, .ref st])), (rm, .inr (5, [.ref lk, .ref th, .ref pl, .ref gm, .int 2, .int 10, .int 0, .int 0, .int 1, .int 0, .int 0, .int 0])), (lk, .inl (cL, 10, .inr (.inr (.inr (.inr fl))))), (th, .inl (cT, 12, .inr (.inr (.inr (.inr ft))))), (l0, .inr (3, [.int 0, .int 0, .int 60, .int 0, .int 0, .int 0, .int 0, .int 0, .int 0, .int 0])), (l1, .inr (3, [.int 0, .int 0, .int 60, .int 0, .int 0, .int 0, .int 0, .int 0, .int 0, .int 0])), (t0, .inr (7, [.int (-1), .int 0, .int 0, .int 0, .int 0])), (t1, .inr (7, [.int (-1), .int 0, .int 0, .int 0, .int 0])), (t2, .inr (7, [.int (-1), .int 0, .int 0, .int 0, .int 0])), (t3, .inr (7, [.int (-1), .int 0, .int 0, .int 0, .int 0])), (t4, .inr (7, [.int (-1), .int 0, .int 0, .int 0, .int 0])), (t5, .inr (7, [.int (-1), .int 0, .int 0, .int 0, .int 0])), (t6, .inr (7, [.int (-1), .int 0, .int 0, .int 0, .int 0])), (t7, .inr (7, [.int (-1), .int 0, .int 0, .int 0, .int 0])), (t8, .inr (7, [.int (-1), .int 0, .int 0, .int 0, .int 0])), (t9, .inr (7, [.int (-1), .int 0, .int 0, .int 0, .int 0]))] : va_W), ¬ A p.1) (hH : zH ed A s s.heap) (hAe : va_A [] s.heap.size = A) (hK : va_K (dC, dI) vwCl [(cL, .object "LockRooms$Lock"), (cT, .object "LockRooms$Thing")] s) (hP : va_P (dC, dI) vwCl [] H) (hD : va_D A []) (hS : va_S A s.heap H locs) (hl : lv_has ls 7 [(5, .int 4), (6, .int 6), (3, .long (-5202561509149620225)), (0, .ref x), (1, .long (-1160429273186388225))]) : W p l e (headSpec wsX6_mixThings ({ frames := 3, cells := 0, slots := 0, locals := 67 } : Jvm.Room)).room s m (([.ref x, .long (-1160429273186388225)] : List Value).toArray) below meth c H locs 0 0 (MQ below (va_Ql (fun (r : Int64) (_ : Unit) => r = (-1088415371068898945)) (fun (_ : Unit) (_ : State) => True) A) (([.ref x, .long (-1160429273186388225)] : List Value).toArray) s 0 0 A) (F0 m 5 ls []) := by
  refine lv_iload hx hb dX6_mixThings_5 (lv_at hl 0 rfl) ?_
  refine lv_aload_n hx hb dX6_mixThings_7 rfl (lv_at hl 3 rfl) ?_
  refine va_get (D := (dC, dI)) (ci := 8) (v := .ref rm) (C := RX6) (T := TX6) (N := 3) hx hb hts zi_X6_mixThings_X6 hown hK (zo_R hR0 hS hAr) 0 rfl rfl 0 (by decide) (hts (.fieldLink RX6 12 "LockRooms" "room" "LLockRooms$Room;") (by decide +kernel)) (fun _ h9 => h9) rfl dX6_mixThings_8 ?_
  refine va_get (D := (dC, dI)) (ci := 5) (v := .int 10) (C := RX3) (T := TX3) (N := 12) hx hb hts zi_X6_mixThings_X3 hown hK (zo_R hR0 hS hAr) 1 rfl rfl 5 (by decide) (hts (.fieldLink RX6 71 "LockRooms$Room" "thingCount" "I") (by decide +kernel)) (fun _ h9 => h9) rfl dX6_mixThings_11 ?_
  refine lv_icmp_ge (tgt := 55) hx hb dX6_mixThings_14 (by decide) (fun h => absurd h (by decide)) (fun _ => ?_)
  refine lv_iconst (v := 0) hx hb dX6_mixThings_17 (by decide) ?_
  refine lv_istore (lv' := [(6, .int 0), (5, .int 4), (3, .long (-5202561509149620225)), (0, .ref x), (1, .long (-1160429273186388225))]) hx hb dX6_mixThings_18 hl (by decide) rfl (fun ls hl => ?_)
  refine lv_iload hx hb dX6_mixThings_20 (lv_at hl 0 rfl) ?_
  refine lv_bipush (v := 6) hx hb dX6_mixThings_22 (by decide) ?_
  refine lv_icmp_ge (tgt := 49) hx hb dX6_mixThings_24 (by decide) (fun h => absurd h (by decide)) (fun _ => ?_)
  refine lv_lload_n hx hb dX6_mixThings_27 rfl (lv_at hl 2 rfl) ?_
  refine lv_aload_n hx hb dX6_mixThings_28 rfl (lv_at hl 3 rfl) ?_
  refine va_get (D := (dC, dI)) (ci := 8) (v := .ref rm) (C := RX6) (T := TX6) (N := 3) hx hb hts zi_X6_mixThings_X6 hown hK (zo_R hR0 hS hAr) 0 rfl rfl 0 (by decide) (hts (.fieldLink RX6 12 "LockRooms" "room" "LLockRooms$Room;") (by decide +kernel)) (fun _ h9 => h9) rfl dX6_mixThings_29 ?_
  refine lv_iload hx hb dX6_mixThings_32 (lv_at hl 1 rfl) ?_
  refine lv_iload hx hb dX6_mixThings_34 (lv_at hl 0 rfl) ?_
  have hPr := ((zo_R hR0 hS hAr)).sub (ws' := [(rm, .inr (5, [.ref lk, .ref th, .ref pl, .ref gm, .int 2, .int 10, .int 0, .int 0, .int 1, .int 0, .int 0, .int 0])), (th, .inl (cT, 12, .inr (.inr (.inr (.inr ft))))), (t4, .inr (7, [.int (-1), .int 0, .int 0, .int 0, .int 0]))]) [1, 3, 10] rfl
  have hPc := hP.sub (ws' := []) [] rfl
  have hDc := hD.sub (ws' := []) [] (by decide) rfl
  have hKc := hK.sub (tys' := [(cT, .object "LockRooms$Thing")]) [1] rfl
  have hFc := va_free (wc := []) hD hS hA [] rfl
  refine va_calli (va_runV (As := [.int 4, .int 0]) (rest := [.long (-5202561509149620225)]) ⟨hx, hb, hml, hown, hts⟩ (cz_QtellThing_4_0 l dC dI ed H.size rm lk th pl gm cT ft t4 hkt4) (cwV 2 hts gX6_mixThings_X3_tellThing rfl rfl rfl (by decide +kernel) ⟨Nat.le_of_ble_eq_true rfl, Nat.le_of_ble_eq_true rfl⟩) ⟨zb_blind, va_recv hK (zo_R hR0 hS hAr) (ci := 5) (q0 := 1) rfl rfl, fun U hU hW => ⟨rfl, zb_mk hU hW hPr hPc hKc hDc hN hH hS hFc zx_e⟩⟩ rfl rfl hl.1 rfl (lv_room (Nat.le_of_ble_eq_true rfl)) dX6_mixThings_36 ⟨Nat.le_of_ble_eq_true rfl, Nat.le_of_ble_eq_true rfl⟩) hS (fun q _ h => hFc q h) hFc (fun r98 u t H97 locs ht hvm hw hB hz1 hk1 hS => ?_)
  obtain rfl : r98 = (-1) := hw
  have hP := zo_K hP hk1
  have hPr := (zo_nil : va_P (dC, dI) vwCl [] H97)
  have hPc := hP.sub (ws' := []) [] rfl
  have hDc := hD.sub (ws' := []) [] (by decide) rfl
  have hKc := hK.sub (tys' := []) [] rfl
  have hFc := va_free (wc := []) hD hS hA [] rfl
  refine va_calll (va_runS (As := [.long (-5202561509149620225), .int (-1)]) (rest := []) ⟨hx, hb, hml, hown, hts⟩ (cz_X6_mix l dC dI ed H97.size (-5202561509149620225) (-1)) (va_cwS 2 hts gX6_mixThings_X6_mix rfl rfl rfl (by decide +kernel) ⟨Nat.le_of_ble_eq_true rfl, Nat.le_of_ble_eq_true rfl⟩) ⟨zb_blind, fun U hU hW => ⟨rfl, zb_mk hU hW hPr hPc hKc hDc hN hH hS hFc zx_e⟩⟩ rfl rfl hl.1 rfl (lv_room (Nat.le_of_ble_eq_true rfl)) dX6_mixThings_39 ⟨Nat.le_of_ble_eq_true rfl, Nat.le_of_ble_eq_true rfl⟩) hS (fun q _ h => hFc q h) hFc (fun r100 u t H99 locs ht hvm hw hB hz1 hk1 hS => ?_)
  obtain rfl : r100 = 4741289879747737568 := hw.trans (by decide +kernel)
  have hP := zo_K hP hk1
  refine lv_lstore_n (lv' := [(3, .long 4741289879747737568), (6, .int 0), (5, .int 4), (0, .ref x), (1, .long (-1160429273186388225))]) hx hb dX6_mixThings_42 rfl hl (by decide) rfl (fun ls hl => ?_)
  refine lv_iinc (v := 1) (lv' := [(6, .int 1), (3, .long 4741289879747737568), (5, .int 4), (0, .ref x), (1, .long (-1160429273186388225))]) hx hb dX6_mixThings_43 hl (k := 1) rfl (by decide) (by decide) rfl (fun ls hl => ?_)
  refine lv_goto (tgt := 20) hx hb dX6_mixThings_46 (by decide) ?_
  refine lv_iload hx hb dX6_mixThings_20 (lv_at hl 0 rfl) ?_
  refine lv_bipush (v := 6) hx hb dX6_mixThings_22 (by decide) ?_
  refine lv_icmp_ge (tgt := 49) hx hb dX6_mixThings_24 (by decide) (fun h => absurd h (by decide)) (fun _ => ?_)
  refine lv_lload_n hx hb dX6_mixThings_27 rfl (lv_at hl 1 rfl) ?_
  refine lv_aload_n hx hb dX6_mixThings_28 rfl (lv_at hl 3 rfl) ?_
  refine va_get (D := (dC, dI)) (ci := 8) (v := .ref rm) (C := RX6) (T := TX6) (N := 3) hx hb hts zi_X6_mixThings_X6 hown hK (zo_R hR0 hS hAr) 0 rfl rfl 0 (by decide) (hts (.fieldLink RX6 12 "LockRooms" "room" "LLockRooms$Room;") (by decide +kernel)) (fun _ h9 => h9) rfl dX6_mixThings_29 ?_
  refine lv_iload hx hb dX6_mixThings_32 (lv_at hl 2 rfl) ?_
  refine lv_iload hx hb dX6_mixThings_34 (lv_at hl 0 rfl) ?_
  have hPr := ((zo_R hR0 hS hAr)).sub (ws' := [(rm, .inr (5, [.ref lk, .ref th, .ref pl, .ref gm, .int 2, .int 10, .int 0, .int 0, .int 1, .int 0, .int 0, .int 0])), (th, .inl (cT, 12, .inr (.inr (.inr (.inr ft))))), (t4, .inr (7, [.int (-1), .int 0, .int 0, .int 0, .int 0]))]) [1, 3, 10] rfl
  have hPc := hP.sub (ws' := []) [] rfl
  have hDc := hD.sub (ws' := []) [] (by decide) rfl
  have hKc := hK.sub (tys' := [(cT, .object "LockRooms$Thing")]) [1] rfl
  have hFc := va_free (wc := []) hD hS hA [] rfl
  refine va_calli (va_runV (As := [.int 4, .int 1]) (rest := [.long 4741289879747737568]) ⟨hx, hb, hml, hown, hts⟩ (cz_QtellThing_4_1 l dC dI ed H99.size rm lk th pl gm cT ft t4 hkt4) (cwV 2 hts gX6_mixThings_X3_tellThing rfl rfl rfl (by decide +kernel) ⟨Nat.le_of_ble_eq_true rfl, Nat.le_of_ble_eq_true rfl⟩) ⟨zb_blind, va_recv hK (zo_R hR0 hS hAr) (ci := 5) (q0 := 1) rfl rfl, fun U hU hW => ⟨rfl, zb_mk hU hW hPr hPc hKc hDc hN hH hS hFc zx_e⟩⟩ rfl rfl hl.1 rfl (lv_room (Nat.le_of_ble_eq_true rfl)) dX6_mixThings_36 ⟨Nat.le_of_ble_eq_true rfl, Nat.le_of_ble_eq_true rfl⟩) hS (fun q _ h => hFc q h) hFc (fun r102 u t H101 locs ht hvm hw hB hz1 hk1 hS => ?_)
  obtain rfl : r102 = 0 := hw
  have hP := zo_K hP hk1
  have hPr := (zo_nil : va_P (dC, dI) vwCl [] H101)
  have hPc := hP.sub (ws' := []) [] rfl
  have hDc := hD.sub (ws' := []) [] (by decide) rfl
  have hKc := hK.sub (tys' := []) [] rfl
  have hFc := va_free (wc := []) hD hS hA [] rfl
  refine va_calll (va_runS (As := [.long 4741289879747737568, .int 0]) (rest := []) ⟨hx, hb, hml, hown, hts⟩ (cz_X6_mix l dC dI ed H101.size 4741289879747737568 0) (va_cwS 2 hts gX6_mixThings_X6_mix rfl rfl rfl (by decide +kernel) ⟨Nat.le_of_ble_eq_true rfl, Nat.le_of_ble_eq_true rfl⟩) ⟨zb_blind, fun U hU hW => ⟨rfl, zb_mk hU hW hPr hPc hKc hDc hN hH hS hFc zx_e⟩⟩ rfl rfl hl.1 rfl (lv_room (Nat.le_of_ble_eq_true rfl)) dX6_mixThings_39 ⟨Nat.le_of_ble_eq_true rfl, Nat.le_of_ble_eq_true rfl⟩) hS (fun q _ h => hFc q h) hFc (fun r104 u t H103 locs ht hvm hw hB hz1 hk1 hS => ?_)
  obtain rfl : r104 = (-593966317496548320) := hw.trans (by decide +kernel)
  have hP := zo_K hP hk1
  refine lv_lstore_n (lv' := [(3, .long (-593966317496548320)), (6, .int 1), (5, .int 4), (0, .ref x), (1, .long (-1160429273186388225))]) hx hb dX6_mixThings_42 rfl hl (by decide) rfl (fun ls hl => ?_)
  refine lv_iinc (v := 2) (lv' := [(6, .int 2), (3, .long (-593966317496548320)), (5, .int 4), (0, .ref x), (1, .long (-1160429273186388225))]) hx hb dX6_mixThings_43 hl (k := 1) rfl (by decide) (by decide) rfl (fun ls hl => ?_)
  refine lv_goto (tgt := 20) hx hb dX6_mixThings_46 (by decide) ?_
  refine lv_iload hx hb dX6_mixThings_20 (lv_at hl 0 rfl) ?_
  refine lv_bipush (v := 6) hx hb dX6_mixThings_22 (by decide) ?_
  refine lv_icmp_ge (tgt := 49) hx hb dX6_mixThings_24 (by decide) (fun h => absurd h (by decide)) (fun _ => ?_)
  refine lv_lload_n hx hb dX6_mixThings_27 rfl (lv_at hl 1 rfl) ?_
  refine lv_aload_n hx hb dX6_mixThings_28 rfl (lv_at hl 3 rfl) ?_
  refine va_get (D := (dC, dI)) (ci := 8) (v := .ref rm) (C := RX6) (T := TX6) (N := 3) hx hb hts zi_X6_mixThings_X6 hown hK (zo_R hR0 hS hAr) 0 rfl rfl 0 (by decide) (hts (.fieldLink RX6 12 "LockRooms" "room" "LLockRooms$Room;") (by decide +kernel)) (fun _ h9 => h9) rfl dX6_mixThings_29 ?_
  refine lv_iload hx hb dX6_mixThings_32 (lv_at hl 2 rfl) ?_
  refine lv_iload hx hb dX6_mixThings_34 (lv_at hl 0 rfl) ?_
  have hPr := ((zo_R hR0 hS hAr)).sub (ws' := [(rm, .inr (5, [.ref lk, .ref th, .ref pl, .ref gm, .int 2, .int 10, .int 0, .int 0, .int 1, .int 0, .int 0, .int 0])), (th, .inl (cT, 12, .inr (.inr (.inr (.inr ft))))), (t4, .inr (7, [.int (-1), .int 0, .int 0, .int 0, .int 0]))]) [1, 3, 10] rfl
  have hPc := hP.sub (ws' := []) [] rfl
  have hDc := hD.sub (ws' := []) [] (by decide) rfl
  have hKc := hK.sub (tys' := [(cT, .object "LockRooms$Thing")]) [1] rfl
  have hFc := va_free (wc := []) hD hS hA [] rfl
  refine va_calli (va_runV (As := [.int 4, .int 2]) (rest := [.long (-593966317496548320)]) ⟨hx, hb, hml, hown, hts⟩ (cz_QtellThing_4_2 l dC dI ed H103.size rm lk th pl gm cT ft t4 hkt4) (cwV 2 hts gX6_mixThings_X3_tellThing rfl rfl rfl (by decide +kernel) ⟨Nat.le_of_ble_eq_true rfl, Nat.le_of_ble_eq_true rfl⟩) ⟨zb_blind, va_recv hK (zo_R hR0 hS hAr) (ci := 5) (q0 := 1) rfl rfl, fun U hU hW => ⟨rfl, zb_mk hU hW hPr hPc hKc hDc hN hH hS hFc zx_e⟩⟩ rfl rfl hl.1 rfl (lv_room (Nat.le_of_ble_eq_true rfl)) dX6_mixThings_36 ⟨Nat.le_of_ble_eq_true rfl, Nat.le_of_ble_eq_true rfl⟩) hS (fun q _ h => hFc q h) hFc (fun r106 u t H105 locs ht hvm hw hB hz1 hk1 hS => ?_)
  obtain rfl : r106 = 0 := hw
  have hP := zo_K hP hk1
  have hPr := (zo_nil : va_P (dC, dI) vwCl [] H105)
  have hPc := hP.sub (ws' := []) [] rfl
  have hDc := hD.sub (ws' := []) [] (by decide) rfl
  have hKc := hK.sub (tys' := []) [] rfl
  have hFc := va_free (wc := []) hD hS hA [] rfl
  refine va_calll (va_runS (As := [.long (-593966317496548320), .int 0]) (rest := []) ⟨hx, hb, hml, hown, hts⟩ (cz_X6_mix l dC dI ed H105.size (-593966317496548320) 0) (va_cwS 2 hts gX6_mixThings_X6_mix rfl rfl rfl (by decide +kernel) ⟨Nat.le_of_ble_eq_true rfl, Nat.le_of_ble_eq_true rfl⟩) ⟨zb_blind, fun U hU hW => ⟨rfl, zb_mk hU hW hPr hPc hKc hDc hN hH hS hFc zx_e⟩⟩ rfl rfl hl.1 rfl (lv_room (Nat.le_of_ble_eq_true rfl)) dX6_mixThings_39 ⟨Nat.le_of_ble_eq_true rfl, Nat.le_of_ble_eq_true rfl⟩) hS (fun q _ h => hFc q h) hFc (fun r108 u t H107 locs ht hvm hw hB hz1 hk1 hS => ?_)
  obtain rfl : r108 = 33788231316553696 := hw.trans (by decide +kernel)
  have hP := zo_K hP hk1
  refine lv_lstore_n (lv' := [(3, .long 33788231316553696), (6, .int 2), (5, .int 4), (0, .ref x), (1, .long (-1160429273186388225))]) hx hb dX6_mixThings_42 rfl hl (by decide) rfl (fun ls hl => ?_)
  refine lv_iinc (v := 3) (lv' := [(6, .int 3), (3, .long 33788231316553696), (5, .int 4), (0, .ref x), (1, .long (-1160429273186388225))]) hx hb dX6_mixThings_43 hl (k := 1) rfl (by decide) (by decide) rfl (fun ls hl => ?_)
  refine lv_goto (tgt := 20) hx hb dX6_mixThings_46 (by decide) ?_
  refine lv_iload hx hb dX6_mixThings_20 (lv_at hl 0 rfl) ?_
  refine lv_bipush (v := 6) hx hb dX6_mixThings_22 (by decide) ?_
  refine lv_icmp_ge (tgt := 49) hx hb dX6_mixThings_24 (by decide) (fun h => absurd h (by decide)) (fun _ => ?_)
  refine lv_lload_n hx hb dX6_mixThings_27 rfl (lv_at hl 1 rfl) ?_
  refine lv_aload_n hx hb dX6_mixThings_28 rfl (lv_at hl 3 rfl) ?_
  refine va_get (D := (dC, dI)) (ci := 8) (v := .ref rm) (C := RX6) (T := TX6) (N := 3) hx hb hts zi_X6_mixThings_X6 hown hK (zo_R hR0 hS hAr) 0 rfl rfl 0 (by decide) (hts (.fieldLink RX6 12 "LockRooms" "room" "LLockRooms$Room;") (by decide +kernel)) (fun _ h9 => h9) rfl dX6_mixThings_29 ?_
  refine lv_iload hx hb dX6_mixThings_32 (lv_at hl 2 rfl) ?_
  refine lv_iload hx hb dX6_mixThings_34 (lv_at hl 0 rfl) ?_
  have hPr := ((zo_R hR0 hS hAr)).sub (ws' := [(rm, .inr (5, [.ref lk, .ref th, .ref pl, .ref gm, .int 2, .int 10, .int 0, .int 0, .int 1, .int 0, .int 0, .int 0])), (th, .inl (cT, 12, .inr (.inr (.inr (.inr ft))))), (t4, .inr (7, [.int (-1), .int 0, .int 0, .int 0, .int 0]))]) [1, 3, 10] rfl
  have hPc := hP.sub (ws' := []) [] rfl
  have hDc := hD.sub (ws' := []) [] (by decide) rfl
  have hKc := hK.sub (tys' := [(cT, .object "LockRooms$Thing")]) [1] rfl
  have hFc := va_free (wc := []) hD hS hA [] rfl
  refine va_calli (va_runV (As := [.int 4, .int 3]) (rest := [.long 33788231316553696]) ⟨hx, hb, hml, hown, hts⟩ (cz_QtellThing_4_3 l dC dI ed H107.size rm lk th pl gm cT ft t4 hkt4) (cwV 2 hts gX6_mixThings_X3_tellThing rfl rfl rfl (by decide +kernel) ⟨Nat.le_of_ble_eq_true rfl, Nat.le_of_ble_eq_true rfl⟩) ⟨zb_blind, va_recv hK (zo_R hR0 hS hAr) (ci := 5) (q0 := 1) rfl rfl, fun U hU hW => ⟨rfl, zb_mk hU hW hPr hPc hKc hDc hN hH hS hFc zx_e⟩⟩ rfl rfl hl.1 rfl (lv_room (Nat.le_of_ble_eq_true rfl)) dX6_mixThings_36 ⟨Nat.le_of_ble_eq_true rfl, Nat.le_of_ble_eq_true rfl⟩) hS (fun q _ h => hFc q h) hFc (fun r110 u t H109 locs ht hvm hw hB hz1 hk1 hS => ?_)
  obtain rfl : r110 = 0 := hw
  have hP := zo_K hP hk1
  have hPr := (zo_nil : va_P (dC, dI) vwCl [] H109)
  have hPc := hP.sub (ws' := []) [] rfl
  have hDc := hD.sub (ws' := []) [] (by decide) rfl
  have hKc := hK.sub (tys' := []) [] rfl
  have hFc := va_free (wc := []) hD hS hA [] rfl
  refine va_calll (va_runS (As := [.long 33788231316553696, .int 0]) (rest := []) ⟨hx, hb, hml, hown, hts⟩ (cz_X6_mix l dC dI ed H109.size 33788231316553696 0) (va_cwS 2 hts gX6_mixThings_X6_mix rfl rfl rfl (by decide +kernel) ⟨Nat.le_of_ble_eq_true rfl, Nat.le_of_ble_eq_true rfl⟩) ⟨zb_blind, fun U hU hW => ⟨rfl, zb_mk hU hW hPr hPc hKc hDc hN hH hS hFc zx_e⟩⟩ rfl rfl hl.1 rfl (lv_room (Nat.le_of_ble_eq_true rfl)) dX6_mixThings_39 ⟨Nat.le_of_ble_eq_true rfl, Nat.le_of_ble_eq_true rfl⟩) hS (fun q _ h => hFc q h) hFc (fun r112 u t H111 locs ht hvm hw hB hz1 hk1 hS => ?_)
  obtain rfl : r112 = 1047435170813164576 := hw.trans (by decide +kernel)
  have hP := zo_K hP hk1
  refine lv_lstore_n (lv' := [(3, .long 1047435170813164576), (6, .int 3), (5, .int 4), (0, .ref x), (1, .long (-1160429273186388225))]) hx hb dX6_mixThings_42 rfl hl (by decide) rfl (fun ls hl => ?_)
  refine lv_iinc (v := 4) (lv' := [(6, .int 4), (3, .long 1047435170813164576), (5, .int 4), (0, .ref x), (1, .long (-1160429273186388225))]) hx hb dX6_mixThings_43 hl (k := 1) rfl (by decide) (by decide) rfl (fun ls hl => ?_)
  refine lv_goto (tgt := 20) hx hb dX6_mixThings_46 (by decide) ?_
  refine lv_iload hx hb dX6_mixThings_20 (lv_at hl 0 rfl) ?_
  refine lv_bipush (v := 6) hx hb dX6_mixThings_22 (by decide) ?_
  refine lv_icmp_ge (tgt := 49) hx hb dX6_mixThings_24 (by decide) (fun h => absurd h (by decide)) (fun _ => ?_)
  refine lv_lload_n hx hb dX6_mixThings_27 rfl (lv_at hl 1 rfl) ?_
  refine lv_aload_n hx hb dX6_mixThings_28 rfl (lv_at hl 3 rfl) ?_
  refine va_get (D := (dC, dI)) (ci := 8) (v := .ref rm) (C := RX6) (T := TX6) (N := 3) hx hb hts zi_X6_mixThings_X6 hown hK (zo_R hR0 hS hAr) 0 rfl rfl 0 (by decide) (hts (.fieldLink RX6 12 "LockRooms" "room" "LLockRooms$Room;") (by decide +kernel)) (fun _ h9 => h9) rfl dX6_mixThings_29 ?_
  refine lv_iload hx hb dX6_mixThings_32 (lv_at hl 2 rfl) ?_
  refine lv_iload hx hb dX6_mixThings_34 (lv_at hl 0 rfl) ?_
  have hPr := ((zo_R hR0 hS hAr)).sub (ws' := [(rm, .inr (5, [.ref lk, .ref th, .ref pl, .ref gm, .int 2, .int 10, .int 0, .int 0, .int 1, .int 0, .int 0, .int 0])), (th, .inl (cT, 12, .inr (.inr (.inr (.inr ft))))), (t4, .inr (7, [.int (-1), .int 0, .int 0, .int 0, .int 0])), (lk, .inl (cL, 10, .inr (.inr (.inr (.inr fl))))), (l0, .inr (3, [.int 0, .int 0, .int 60, .int 0, .int 0, .int 0, .int 0, .int 0, .int 0, .int 0])), (l1, .inr (3, [.int 0, .int 0, .int 60, .int 0, .int 0, .int 0, .int 0, .int 0, .int 0, .int 0]))]) [1, 3, 10, 2, 4, 5] rfl
  have hPc := hP.sub (ws' := []) [] rfl
  have hDc := hD.sub (ws' := []) [] (by decide) rfl
  have hKc := hK.sub (tys' := [(cT, .object "LockRooms$Thing"), (cL, .object "LockRooms$Lock")]) [1, 0] rfl
  have hFc := va_free (wc := []) hD hS hA [] rfl
  refine va_calli (va_runV (As := [.int 4, .int 4]) (rest := [.long 1047435170813164576]) ⟨hx, hb, hml, hown, hts⟩ (cz_QtellThing_4_4 l dC dI ed H111.size rm lk th pl gm cT ft t4 cL fl l0 l1 hkt4 hkl0 hkl1) (cwV 2 hts gX6_mixThings_X3_tellThing rfl rfl rfl (by decide +kernel) ⟨Nat.le_of_ble_eq_true rfl, Nat.le_of_ble_eq_true rfl⟩) ⟨zb_blind, va_recv hK (zo_R hR0 hS hAr) (ci := 5) (q0 := 1) rfl rfl, fun U hU hW => ⟨rfl, zb_mk hU hW hPr hPc hKc hDc hN hH hS hFc zx_e⟩⟩ rfl rfl hl.1 rfl (lv_room (Nat.le_of_ble_eq_true rfl)) dX6_mixThings_36 ⟨Nat.le_of_ble_eq_true rfl, Nat.le_of_ble_eq_true rfl⟩) hS (fun q _ h => hFc q h) hFc (fun r114 u t H113 locs ht hvm hw hB hz1 hk1 hS => ?_)
  obtain rfl : r114 = 1 := hw
  have hP := zo_K hP hk1
  have hPr := (zo_nil : va_P (dC, dI) vwCl [] H113)
  have hPc := hP.sub (ws' := []) [] rfl
  have hDc := hD.sub (ws' := []) [] (by decide) rfl
  have hKc := hK.sub (tys' := []) [] rfl
  have hFc := va_free (wc := []) hD hS hA [] rfl
  refine va_calll (va_runS (As := [.long 1047435170813164576, .int 1]) (rest := []) ⟨hx, hb, hml, hown, hts⟩ (cz_X6_mix l dC dI ed H113.size 1047435170813164576 1) (va_cwS 2 hts gX6_mixThings_X6_mix rfl rfl rfl (by decide +kernel) ⟨Nat.le_of_ble_eq_true rfl, Nat.le_of_ble_eq_true rfl⟩) ⟨zb_blind, fun U hU hW => ⟨rfl, zb_mk hU hW hPr hPc hKc hDc hN hH hS hFc zx_e⟩⟩ rfl rfl hl.1 rfl (lv_room (Nat.le_of_ble_eq_true rfl)) dX6_mixThings_39 ⟨Nat.le_of_ble_eq_true rfl, Nat.le_of_ble_eq_true rfl⟩) hS (fun q _ h => hFc q h) hFc (fun r116 u t H115 locs ht hvm hw hB hz1 hk1 hS => ?_)
  obtain rfl : r116 = (-4422997852211001375) := hw.trans (by decide +kernel)
  have hP := zo_K hP hk1
  refine lv_lstore_n (lv' := [(3, .long (-4422997852211001375)), (6, .int 4), (5, .int 4), (0, .ref x), (1, .long (-1160429273186388225))]) hx hb dX6_mixThings_42 rfl hl (by decide) rfl (fun ls hl => ?_)
  refine lv_iinc (v := 5) (lv' := [(6, .int 5), (3, .long (-4422997852211001375)), (5, .int 4), (0, .ref x), (1, .long (-1160429273186388225))]) hx hb dX6_mixThings_43 hl (k := 1) rfl (by decide) (by decide) rfl (fun ls hl => ?_)
  refine lv_goto (tgt := 20) hx hb dX6_mixThings_46 (by decide) ?_
  refine lv_iload hx hb dX6_mixThings_20 (lv_at hl 0 rfl) ?_
  refine lv_bipush (v := 6) hx hb dX6_mixThings_22 (by decide) ?_
  refine lv_icmp_ge (tgt := 49) hx hb dX6_mixThings_24 (by decide) (fun h => absurd h (by decide)) (fun _ => ?_)
  refine lv_lload_n hx hb dX6_mixThings_27 rfl (lv_at hl 1 rfl) ?_
  refine lv_aload_n hx hb dX6_mixThings_28 rfl (lv_at hl 3 rfl) ?_
  refine va_get (D := (dC, dI)) (ci := 8) (v := .ref rm) (C := RX6) (T := TX6) (N := 3) hx hb hts zi_X6_mixThings_X6 hown hK (zo_R hR0 hS hAr) 0 rfl rfl 0 (by decide) (hts (.fieldLink RX6 12 "LockRooms" "room" "LLockRooms$Room;") (by decide +kernel)) (fun _ h9 => h9) rfl dX6_mixThings_29 ?_
  refine lv_iload hx hb dX6_mixThings_32 (lv_at hl 2 rfl) ?_
  refine lv_iload hx hb dX6_mixThings_34 (lv_at hl 0 rfl) ?_
  have hPr := ((zo_R hR0 hS hAr)).sub (ws' := [(rm, .inr (5, [.ref lk, .ref th, .ref pl, .ref gm, .int 2, .int 10, .int 0, .int 0, .int 1, .int 0, .int 0, .int 0])), (th, .inl (cT, 12, .inr (.inr (.inr (.inr ft))))), (t4, .inr (7, [.int (-1), .int 0, .int 0, .int 0, .int 0])), (lk, .inl (cL, 10, .inr (.inr (.inr (.inr fl))))), (l0, .inr (3, [.int 0, .int 0, .int 60, .int 0, .int 0, .int 0, .int 0, .int 0, .int 0, .int 0])), (l1, .inr (3, [.int 0, .int 0, .int 60, .int 0, .int 0, .int 0, .int 0, .int 0, .int 0, .int 0]))]) [1, 3, 10, 2, 4, 5] rfl
  have hPc := hP.sub (ws' := []) [] rfl
  have hDc := hD.sub (ws' := []) [] (by decide) rfl
  have hKc := hK.sub (tys' := [(cT, .object "LockRooms$Thing"), (cL, .object "LockRooms$Lock")]) [1, 0] rfl
  have hFc := va_free (wc := []) hD hS hA [] rfl
  refine va_calli (va_runV (As := [.int 4, .int 5]) (rest := [.long (-4422997852211001375)]) ⟨hx, hb, hml, hown, hts⟩ (cz_QtellThing_4_5 l dC dI ed H115.size rm lk th pl gm cT ft t4 cL fl l0 l1 hkt4 hkl0 hkl1) (cwV 2 hts gX6_mixThings_X3_tellThing rfl rfl rfl (by decide +kernel) ⟨Nat.le_of_ble_eq_true rfl, Nat.le_of_ble_eq_true rfl⟩) ⟨zb_blind, va_recv hK (zo_R hR0 hS hAr) (ci := 5) (q0 := 1) rfl rfl, fun U hU hW => ⟨rfl, zb_mk hU hW hPr hPc hKc hDc hN hH hS hFc zx_e⟩⟩ rfl rfl hl.1 rfl (lv_room (Nat.le_of_ble_eq_true rfl)) dX6_mixThings_36 ⟨Nat.le_of_ble_eq_true rfl, Nat.le_of_ble_eq_true rfl⟩) hS (fun q _ h => hFc q h) hFc (fun r118 u t H117 locs ht hvm hw hB hz1 hk1 hS => ?_)
  obtain rfl : r118 = 0 := hw
  have hP := zo_K hP hk1
  have hPr := (zo_nil : va_P (dC, dI) vwCl [] H117)
  have hPc := hP.sub (ws' := []) [] rfl
  have hDc := hD.sub (ws' := []) [] (by decide) rfl
  have hKc := hK.sub (tys' := []) [] rfl
  have hFc := va_free (wc := []) hD hS hA [] rfl
  refine va_calll (va_runS (As := [.long (-4422997852211001375), .int 0]) (rest := []) ⟨hx, hb, hml, hown, hts⟩ (cz_X6_mix l dC dI ed H117.size (-4422997852211001375) 0) (va_cwS 2 hts gX6_mixThings_X6_mix rfl rfl rfl (by decide +kernel) ⟨Nat.le_of_ble_eq_true rfl, Nat.le_of_ble_eq_true rfl⟩) ⟨zb_blind, fun U hU hW => ⟨rfl, zb_mk hU hW hPr hPc hKc hDc hN hH hS hFc zx_e⟩⟩ rfl rfl hl.1 rfl (lv_room (Nat.le_of_ble_eq_true rfl)) dX6_mixThings_39 ⟨Nat.le_of_ble_eq_true rfl, Nat.le_of_ble_eq_true rfl⟩) hS (fun q _ h => hFc q h) hFc (fun r120 u t H119 locs ht hvm hw hB hz1 hk1 hS => ?_)
  obtain rfl : r120 = (-7985724902574181313) := hw.trans (by decide +kernel)
  have hP := zo_K hP hk1
  refine lv_lstore_n (lv' := [(3, .long (-7985724902574181313)), (6, .int 5), (5, .int 4), (0, .ref x), (1, .long (-1160429273186388225))]) hx hb dX6_mixThings_42 rfl hl (by decide) rfl (fun ls hl => ?_)
  refine lv_iinc (v := 6) (lv' := [(6, .int 6), (3, .long (-7985724902574181313)), (5, .int 4), (0, .ref x), (1, .long (-1160429273186388225))]) hx hb dX6_mixThings_43 hl (k := 1) rfl (by decide) (by decide) rfl (fun ls hl => ?_)
  refine lv_goto (tgt := 20) hx hb dX6_mixThings_46 (by decide) ?_
  refine lv_iload hx hb dX6_mixThings_20 (lv_at hl 0 rfl) ?_
  refine lv_bipush (v := 6) hx hb dX6_mixThings_22 (by decide) ?_
  refine lv_icmp_ge (tgt := 49) hx hb dX6_mixThings_24 (by decide) (fun _ => ?_) (fun h => absurd h (by decide))
  refine lv_iinc (v := 5) (lv' := [(5, .int 5), (6, .int 6), (3, .long (-7985724902574181313)), (0, .ref x), (1, .long (-1160429273186388225))]) hx hb dX6_mixThings_49 hl (k := 2) rfl (by decide) (by decide) rfl (fun ls hl => ?_)
  refine lv_goto (tgt := 5) hx hb dX6_mixThings_52 (by decide) ?_
  refine lv_iload hx hb dX6_mixThings_5 (lv_at hl 0 rfl) ?_
  refine lv_aload_n hx hb dX6_mixThings_7 rfl (lv_at hl 3 rfl) ?_
  refine va_get (D := (dC, dI)) (ci := 8) (v := .ref rm) (C := RX6) (T := TX6) (N := 3) hx hb hts zi_X6_mixThings_X6 hown hK (zo_R hR0 hS hAr) 0 rfl rfl 0 (by decide) (hts (.fieldLink RX6 12 "LockRooms" "room" "LLockRooms$Room;") (by decide +kernel)) (fun _ h9 => h9) rfl dX6_mixThings_8 ?_
  refine va_get (D := (dC, dI)) (ci := 5) (v := .int 10) (C := RX3) (T := TX3) (N := 12) hx hb hts zi_X6_mixThings_X3 hown hK (zo_R hR0 hS hAr) 1 rfl rfl 5 (by decide) (hts (.fieldLink RX6 71 "LockRooms$Room" "thingCount" "I") (by decide +kernel)) (fun _ h9 => h9) rfl dX6_mixThings_11 ?_
  refine lv_icmp_ge (tgt := 55) hx hb dX6_mixThings_14 (by decide) (fun h => absurd h (by decide)) (fun _ => ?_)
  refine lv_iconst (v := 0) hx hb dX6_mixThings_17 (by decide) ?_
  refine lv_istore (lv' := [(6, .int 0), (5, .int 5), (3, .long (-7985724902574181313)), (0, .ref x), (1, .long (-1160429273186388225))]) hx hb dX6_mixThings_18 hl (by decide) rfl (fun ls hl => ?_)
  refine lv_iload hx hb dX6_mixThings_20 (lv_at hl 0 rfl) ?_
  refine lv_bipush (v := 6) hx hb dX6_mixThings_22 (by decide) ?_
  refine lv_icmp_ge (tgt := 49) hx hb dX6_mixThings_24 (by decide) (fun h => absurd h (by decide)) (fun _ => ?_)
  refine lv_lload_n hx hb dX6_mixThings_27 rfl (lv_at hl 2 rfl) ?_
  refine lv_aload_n hx hb dX6_mixThings_28 rfl (lv_at hl 3 rfl) ?_
  refine va_get (D := (dC, dI)) (ci := 8) (v := .ref rm) (C := RX6) (T := TX6) (N := 3) hx hb hts zi_X6_mixThings_X6 hown hK (zo_R hR0 hS hAr) 0 rfl rfl 0 (by decide) (hts (.fieldLink RX6 12 "LockRooms" "room" "LLockRooms$Room;") (by decide +kernel)) (fun _ h9 => h9) rfl dX6_mixThings_29 ?_
  refine lv_iload hx hb dX6_mixThings_32 (lv_at hl 1 rfl) ?_
  refine lv_iload hx hb dX6_mixThings_34 (lv_at hl 0 rfl) ?_
  have hPr := ((zo_R hR0 hS hAr)).sub (ws' := [(rm, .inr (5, [.ref lk, .ref th, .ref pl, .ref gm, .int 2, .int 10, .int 0, .int 0, .int 1, .int 0, .int 0, .int 0])), (th, .inl (cT, 12, .inr (.inr (.inr (.inr ft))))), (t5, .inr (7, [.int (-1), .int 0, .int 0, .int 0, .int 0]))]) [1, 3, 11] rfl
  have hPc := hP.sub (ws' := []) [] rfl
  have hDc := hD.sub (ws' := []) [] (by decide) rfl
  have hKc := hK.sub (tys' := [(cT, .object "LockRooms$Thing")]) [1] rfl
  have hFc := va_free (wc := []) hD hS hA [] rfl
  refine va_calli (va_runV (As := [.int 5, .int 0]) (rest := [.long (-7985724902574181313)]) ⟨hx, hb, hml, hown, hts⟩ (cz_QtellThing_5_0 l dC dI ed H119.size rm lk th pl gm cT ft t5 hkt5) (cwV 2 hts gX6_mixThings_X3_tellThing rfl rfl rfl (by decide +kernel) ⟨Nat.le_of_ble_eq_true rfl, Nat.le_of_ble_eq_true rfl⟩) ⟨zb_blind, va_recv hK (zo_R hR0 hS hAr) (ci := 5) (q0 := 1) rfl rfl, fun U hU hW => ⟨rfl, zb_mk hU hW hPr hPc hKc hDc hN hH hS hFc zx_e⟩⟩ rfl rfl hl.1 rfl (lv_room (Nat.le_of_ble_eq_true rfl)) dX6_mixThings_36 ⟨Nat.le_of_ble_eq_true rfl, Nat.le_of_ble_eq_true rfl⟩) hS (fun q _ h => hFc q h) hFc (fun r122 u t H121 locs ht hvm hw hB hz1 hk1 hS => ?_)
  obtain rfl : r122 = (-1) := hw
  have hP := zo_K hP hk1
  have hPr := (zo_nil : va_P (dC, dI) vwCl [] H121)
  have hPc := hP.sub (ws' := []) [] rfl
  have hDc := hD.sub (ws' := []) [] (by decide) rfl
  have hKc := hK.sub (tys' := []) [] rfl
  have hFc := va_free (wc := []) hD hS hA [] rfl
  refine va_calll (va_runS (As := [.long (-7985724902574181313), .int (-1)]) (rest := []) ⟨hx, hb, hml, hown, hts⟩ (cz_X6_mix l dC dI ed H121.size (-7985724902574181313) (-1)) (va_cwS 2 hts gX6_mixThings_X6_mix rfl rfl rfl (by decide +kernel) ⟨Nat.le_of_ble_eq_true rfl, Nat.le_of_ble_eq_true rfl⟩) ⟨zb_blind, fun U hU hW => ⟨rfl, zb_mk hU hW hPr hPc hKc hDc hN hH hS hFc zx_e⟩⟩ rfl rfl hl.1 rfl (lv_room (Nat.le_of_ble_eq_true rfl)) dX6_mixThings_39 ⟨Nat.le_of_ble_eq_true rfl, Nat.le_of_ble_eq_true rfl⟩) hS (fun q _ h => hFc q h) hFc (fun r124 u t H123 locs ht hvm hw hB hz1 hk1 hS => ?_)
  obtain rfl : r124 = (-7749799021575449696) := hw.trans (by decide +kernel)
  have hP := zo_K hP hk1
  refine lv_lstore_n (lv' := [(3, .long (-7749799021575449696)), (6, .int 0), (5, .int 5), (0, .ref x), (1, .long (-1160429273186388225))]) hx hb dX6_mixThings_42 rfl hl (by decide) rfl (fun ls hl => ?_)
  refine lv_iinc (v := 1) (lv' := [(6, .int 1), (3, .long (-7749799021575449696)), (5, .int 5), (0, .ref x), (1, .long (-1160429273186388225))]) hx hb dX6_mixThings_43 hl (k := 1) rfl (by decide) (by decide) rfl (fun ls hl => ?_)
  refine lv_goto (tgt := 20) hx hb dX6_mixThings_46 (by decide) ?_
  refine lv_iload hx hb dX6_mixThings_20 (lv_at hl 0 rfl) ?_
  refine lv_bipush (v := 6) hx hb dX6_mixThings_22 (by decide) ?_
  refine lv_icmp_ge (tgt := 49) hx hb dX6_mixThings_24 (by decide) (fun h => absurd h (by decide)) (fun _ => ?_)
  refine lv_lload_n hx hb dX6_mixThings_27 rfl (lv_at hl 1 rfl) ?_
  refine lv_aload_n hx hb dX6_mixThings_28 rfl (lv_at hl 3 rfl) ?_
  refine va_get (D := (dC, dI)) (ci := 8) (v := .ref rm) (C := RX6) (T := TX6) (N := 3) hx hb hts zi_X6_mixThings_X6 hown hK (zo_R hR0 hS hAr) 0 rfl rfl 0 (by decide) (hts (.fieldLink RX6 12 "LockRooms" "room" "LLockRooms$Room;") (by decide +kernel)) (fun _ h9 => h9) rfl dX6_mixThings_29 ?_
  refine lv_iload hx hb dX6_mixThings_32 (lv_at hl 2 rfl) ?_
  refine lv_iload hx hb dX6_mixThings_34 (lv_at hl 0 rfl) ?_
  have hPr := ((zo_R hR0 hS hAr)).sub (ws' := [(rm, .inr (5, [.ref lk, .ref th, .ref pl, .ref gm, .int 2, .int 10, .int 0, .int 0, .int 1, .int 0, .int 0, .int 0])), (th, .inl (cT, 12, .inr (.inr (.inr (.inr ft))))), (t5, .inr (7, [.int (-1), .int 0, .int 0, .int 0, .int 0]))]) [1, 3, 11] rfl
  have hPc := hP.sub (ws' := []) [] rfl
  have hDc := hD.sub (ws' := []) [] (by decide) rfl
  have hKc := hK.sub (tys' := [(cT, .object "LockRooms$Thing")]) [1] rfl
  have hFc := va_free (wc := []) hD hS hA [] rfl
  refine va_calli (va_runV (As := [.int 5, .int 1]) (rest := [.long (-7749799021575449696)]) ⟨hx, hb, hml, hown, hts⟩ (cz_QtellThing_5_1 l dC dI ed H123.size rm lk th pl gm cT ft t5 hkt5) (cwV 2 hts gX6_mixThings_X3_tellThing rfl rfl rfl (by decide +kernel) ⟨Nat.le_of_ble_eq_true rfl, Nat.le_of_ble_eq_true rfl⟩) ⟨zb_blind, va_recv hK (zo_R hR0 hS hAr) (ci := 5) (q0 := 1) rfl rfl, fun U hU hW => ⟨rfl, zb_mk hU hW hPr hPc hKc hDc hN hH hS hFc zx_e⟩⟩ rfl rfl hl.1 rfl (lv_room (Nat.le_of_ble_eq_true rfl)) dX6_mixThings_36 ⟨Nat.le_of_ble_eq_true rfl, Nat.le_of_ble_eq_true rfl⟩) hS (fun q _ h => hFc q h) hFc (fun r126 u t H125 locs ht hvm hw hB hz1 hk1 hS => ?_)
  obtain rfl : r126 = 0 := hw
  have hP := zo_K hP hk1
  have hPr := (zo_nil : va_P (dC, dI) vwCl [] H125)
  have hPc := hP.sub (ws' := []) [] rfl
  have hDc := hD.sub (ws' := []) [] (by decide) rfl
  have hKc := hK.sub (tys' := []) [] rfl
  have hFc := va_free (wc := []) hD hS hA [] rfl
  refine va_calll (va_runS (As := [.long (-7749799021575449696), .int 0]) (rest := []) ⟨hx, hb, hml, hown, hts⟩ (cz_X6_mix l dC dI ed H125.size (-7749799021575449696) 0) (va_cwS 2 hts gX6_mixThings_X6_mix rfl rfl rfl (by decide +kernel) ⟨Nat.le_of_ble_eq_true rfl, Nat.le_of_ble_eq_true rfl⟩) ⟨zb_blind, fun U hU hW => ⟨rfl, zb_mk hU hW hPr hPc hKc hDc hN hH hS hFc zx_e⟩⟩ rfl rfl hl.1 rfl (lv_room (Nat.le_of_ble_eq_true rfl)) dX6_mixThings_39 ⟨Nat.le_of_ble_eq_true rfl, Nat.le_of_ble_eq_true rfl⟩) hS (fun q _ h => hFc q h) hFc (fun r128 u t H127 locs ht hvm hw hB hz1 hk1 hS => ?_)
  obtain rfl : r128 = (-436096710614769568) := hw.trans (by decide +kernel)
  have hP := zo_K hP hk1
  refine lv_lstore_n (lv' := [(3, .long (-436096710614769568)), (6, .int 1), (5, .int 5), (0, .ref x), (1, .long (-1160429273186388225))]) hx hb dX6_mixThings_42 rfl hl (by decide) rfl (fun ls hl => ?_)
  refine lv_iinc (v := 2) (lv' := [(6, .int 2), (3, .long (-436096710614769568)), (5, .int 5), (0, .ref x), (1, .long (-1160429273186388225))]) hx hb dX6_mixThings_43 hl (k := 1) rfl (by decide) (by decide) rfl (fun ls hl => ?_)
  refine lv_goto (tgt := 20) hx hb dX6_mixThings_46 (by decide) ?_
  refine lv_iload hx hb dX6_mixThings_20 (lv_at hl 0 rfl) ?_
  refine lv_bipush (v := 6) hx hb dX6_mixThings_22 (by decide) ?_
  refine lv_icmp_ge (tgt := 49) hx hb dX6_mixThings_24 (by decide) (fun h => absurd h (by decide)) (fun _ => ?_)
  refine lv_lload_n hx hb dX6_mixThings_27 rfl (lv_at hl 1 rfl) ?_
  refine lv_aload_n hx hb dX6_mixThings_28 rfl (lv_at hl 3 rfl) ?_
  refine va_get (D := (dC, dI)) (ci := 8) (v := .ref rm) (C := RX6) (T := TX6) (N := 3) hx hb hts zi_X6_mixThings_X6 hown hK (zo_R hR0 hS hAr) 0 rfl rfl 0 (by decide) (hts (.fieldLink RX6 12 "LockRooms" "room" "LLockRooms$Room;") (by decide +kernel)) (fun _ h9 => h9) rfl dX6_mixThings_29 ?_
  refine lv_iload hx hb dX6_mixThings_32 (lv_at hl 2 rfl) ?_
  refine lv_iload hx hb dX6_mixThings_34 (lv_at hl 0 rfl) ?_
  have hPr := ((zo_R hR0 hS hAr)).sub (ws' := [(rm, .inr (5, [.ref lk, .ref th, .ref pl, .ref gm, .int 2, .int 10, .int 0, .int 0, .int 1, .int 0, .int 0, .int 0])), (th, .inl (cT, 12, .inr (.inr (.inr (.inr ft))))), (t5, .inr (7, [.int (-1), .int 0, .int 0, .int 0, .int 0]))]) [1, 3, 11] rfl
  have hPc := hP.sub (ws' := []) [] rfl
  have hDc := hD.sub (ws' := []) [] (by decide) rfl
  have hKc := hK.sub (tys' := [(cT, .object "LockRooms$Thing")]) [1] rfl
  have hFc := va_free (wc := []) hD hS hA [] rfl
  refine va_calli (va_runV (As := [.int 5, .int 2]) (rest := [.long (-436096710614769568)]) ⟨hx, hb, hml, hown, hts⟩ (cz_QtellThing_5_2 l dC dI ed H127.size rm lk th pl gm cT ft t5 hkt5) (cwV 2 hts gX6_mixThings_X3_tellThing rfl rfl rfl (by decide +kernel) ⟨Nat.le_of_ble_eq_true rfl, Nat.le_of_ble_eq_true rfl⟩) ⟨zb_blind, va_recv hK (zo_R hR0 hS hAr) (ci := 5) (q0 := 1) rfl rfl, fun U hU hW => ⟨rfl, zb_mk hU hW hPr hPc hKc hDc hN hH hS hFc zx_e⟩⟩ rfl rfl hl.1 rfl (lv_room (Nat.le_of_ble_eq_true rfl)) dX6_mixThings_36 ⟨Nat.le_of_ble_eq_true rfl, Nat.le_of_ble_eq_true rfl⟩) hS (fun q _ h => hFc q h) hFc (fun r130 u t H129 locs ht hvm hw hB hz1 hk1 hS => ?_)
  obtain rfl : r130 = 0 := hw
  have hP := zo_K hP hk1
  have hPr := (zo_nil : va_P (dC, dI) vwCl [] H129)
  have hPc := hP.sub (ws' := []) [] rfl
  have hDc := hD.sub (ws' := []) [] (by decide) rfl
  have hKc := hK.sub (tys' := []) [] rfl
  have hFc := va_free (wc := []) hD hS hA [] rfl
  refine va_calll (va_runS (As := [.long (-436096710614769568), .int 0]) (rest := []) ⟨hx, hb, hml, hown, hts⟩ (cz_X6_mix l dC dI ed H129.size (-436096710614769568) 0) (va_cwS 2 hts gX6_mixThings_X6_mix rfl rfl rfl (by decide +kernel) ⟨Nat.le_of_ble_eq_true rfl, Nat.le_of_ble_eq_true rfl⟩) ⟨zb_blind, fun U hU hW => ⟨rfl, zb_mk hU hW hPr hPc hKc hDc hN hH hS hFc zx_e⟩⟩ rfl rfl hl.1 rfl (lv_room (Nat.le_of_ble_eq_true rfl)) dX6_mixThings_39 ⟨Nat.le_of_ble_eq_true rfl, Nat.le_of_ble_eq_true rfl⟩) hS (fun q _ h => hFc q h) hFc (fun r132 u t H131 locs ht hvm hw hB hz1 hk1 hS => ?_)
  obtain rfl : r132 = 4927746044651695008 := hw.trans (by decide +kernel)
  have hP := zo_K hP hk1
  refine lv_lstore_n (lv' := [(3, .long 4927746044651695008), (6, .int 2), (5, .int 5), (0, .ref x), (1, .long (-1160429273186388225))]) hx hb dX6_mixThings_42 rfl hl (by decide) rfl (fun ls hl => ?_)
  refine lv_iinc (v := 3) (lv' := [(6, .int 3), (3, .long 4927746044651695008), (5, .int 5), (0, .ref x), (1, .long (-1160429273186388225))]) hx hb dX6_mixThings_43 hl (k := 1) rfl (by decide) (by decide) rfl (fun ls hl => ?_)
  refine lv_goto (tgt := 20) hx hb dX6_mixThings_46 (by decide) ?_
  refine lv_iload hx hb dX6_mixThings_20 (lv_at hl 0 rfl) ?_
  refine lv_bipush (v := 6) hx hb dX6_mixThings_22 (by decide) ?_
  refine lv_icmp_ge (tgt := 49) hx hb dX6_mixThings_24 (by decide) (fun h => absurd h (by decide)) (fun _ => ?_)
  refine lv_lload_n hx hb dX6_mixThings_27 rfl (lv_at hl 1 rfl) ?_
  refine lv_aload_n hx hb dX6_mixThings_28 rfl (lv_at hl 3 rfl) ?_
  refine va_get (D := (dC, dI)) (ci := 8) (v := .ref rm) (C := RX6) (T := TX6) (N := 3) hx hb hts zi_X6_mixThings_X6 hown hK (zo_R hR0 hS hAr) 0 rfl rfl 0 (by decide) (hts (.fieldLink RX6 12 "LockRooms" "room" "LLockRooms$Room;") (by decide +kernel)) (fun _ h9 => h9) rfl dX6_mixThings_29 ?_
  refine lv_iload hx hb dX6_mixThings_32 (lv_at hl 2 rfl) ?_
  refine lv_iload hx hb dX6_mixThings_34 (lv_at hl 0 rfl) ?_
  have hPr := ((zo_R hR0 hS hAr)).sub (ws' := [(rm, .inr (5, [.ref lk, .ref th, .ref pl, .ref gm, .int 2, .int 10, .int 0, .int 0, .int 1, .int 0, .int 0, .int 0])), (th, .inl (cT, 12, .inr (.inr (.inr (.inr ft))))), (t5, .inr (7, [.int (-1), .int 0, .int 0, .int 0, .int 0]))]) [1, 3, 11] rfl
  have hPc := hP.sub (ws' := []) [] rfl
  have hDc := hD.sub (ws' := []) [] (by decide) rfl
  have hKc := hK.sub (tys' := [(cT, .object "LockRooms$Thing")]) [1] rfl
  have hFc := va_free (wc := []) hD hS hA [] rfl
  refine va_calli (va_runV (As := [.int 5, .int 3]) (rest := [.long 4927746044651695008]) ⟨hx, hb, hml, hown, hts⟩ (cz_QtellThing_5_3 l dC dI ed H131.size rm lk th pl gm cT ft t5 hkt5) (cwV 2 hts gX6_mixThings_X3_tellThing rfl rfl rfl (by decide +kernel) ⟨Nat.le_of_ble_eq_true rfl, Nat.le_of_ble_eq_true rfl⟩) ⟨zb_blind, va_recv hK (zo_R hR0 hS hAr) (ci := 5) (q0 := 1) rfl rfl, fun U hU hW => ⟨rfl, zb_mk hU hW hPr hPc hKc hDc hN hH hS hFc zx_e⟩⟩ rfl rfl hl.1 rfl (lv_room (Nat.le_of_ble_eq_true rfl)) dX6_mixThings_36 ⟨Nat.le_of_ble_eq_true rfl, Nat.le_of_ble_eq_true rfl⟩) hS (fun q _ h => hFc q h) hFc (fun r134 u t H133 locs ht hvm hw hB hz1 hk1 hS => ?_)
  obtain rfl : r134 = 0 := hw
  have hP := zo_K hP hk1
  have hPr := (zo_nil : va_P (dC, dI) vwCl [] H133)
  have hPc := hP.sub (ws' := []) [] rfl
  have hDc := hD.sub (ws' := []) [] (by decide) rfl
  have hKc := hK.sub (tys' := []) [] rfl
  have hFc := va_free (wc := []) hD hS hA [] rfl
  refine va_calll (va_runS (As := [.long 4927746044651695008, .int 0]) (rest := []) ⟨hx, hb, hml, hown, hts⟩ (cz_X6_mix l dC dI ed H133.size 4927746044651695008 0) (va_cwS 2 hts gX6_mixThings_X6_mix rfl rfl rfl (by decide +kernel) ⟨Nat.le_of_ble_eq_true rfl, Nat.le_of_ble_eq_true rfl⟩) ⟨zb_blind, fun U hU hW => ⟨rfl, zb_mk hU hW hPr hPc hKc hDc hN hH hS hFc zx_e⟩⟩ rfl rfl hl.1 rfl (lv_room (Nat.le_of_ble_eq_true rfl)) dX6_mixThings_39 ⟨Nat.le_of_ble_eq_true rfl, Nat.le_of_ble_eq_true rfl⟩) hS (fun q _ h => hFc q h) hFc (fun r136 u t H135 locs ht hvm hw hB hz1 hk1 hS => ?_)
  obtain rfl : r136 = 5186174794526132320 := hw.trans (by decide +kernel)
  have hP := zo_K hP hk1
  refine lv_lstore_n (lv' := [(3, .long 5186174794526132320), (6, .int 3), (5, .int 5), (0, .ref x), (1, .long (-1160429273186388225))]) hx hb dX6_mixThings_42 rfl hl (by decide) rfl (fun ls hl => ?_)
  refine lv_iinc (v := 4) (lv' := [(6, .int 4), (3, .long 5186174794526132320), (5, .int 5), (0, .ref x), (1, .long (-1160429273186388225))]) hx hb dX6_mixThings_43 hl (k := 1) rfl (by decide) (by decide) rfl (fun ls hl => ?_)
  refine lv_goto (tgt := 20) hx hb dX6_mixThings_46 (by decide) ?_
  refine lv_iload hx hb dX6_mixThings_20 (lv_at hl 0 rfl) ?_
  refine lv_bipush (v := 6) hx hb dX6_mixThings_22 (by decide) ?_
  refine lv_icmp_ge (tgt := 49) hx hb dX6_mixThings_24 (by decide) (fun h => absurd h (by decide)) (fun _ => ?_)
  refine lv_lload_n hx hb dX6_mixThings_27 rfl (lv_at hl 1 rfl) ?_
  refine lv_aload_n hx hb dX6_mixThings_28 rfl (lv_at hl 3 rfl) ?_
  refine va_get (D := (dC, dI)) (ci := 8) (v := .ref rm) (C := RX6) (T := TX6) (N := 3) hx hb hts zi_X6_mixThings_X6 hown hK (zo_R hR0 hS hAr) 0 rfl rfl 0 (by decide) (hts (.fieldLink RX6 12 "LockRooms" "room" "LLockRooms$Room;") (by decide +kernel)) (fun _ h9 => h9) rfl dX6_mixThings_29 ?_
  refine lv_iload hx hb dX6_mixThings_32 (lv_at hl 2 rfl) ?_
  refine lv_iload hx hb dX6_mixThings_34 (lv_at hl 0 rfl) ?_
  have hPr := ((zo_R hR0 hS hAr)).sub (ws' := [(rm, .inr (5, [.ref lk, .ref th, .ref pl, .ref gm, .int 2, .int 10, .int 0, .int 0, .int 1, .int 0, .int 0, .int 0])), (th, .inl (cT, 12, .inr (.inr (.inr (.inr ft))))), (t5, .inr (7, [.int (-1), .int 0, .int 0, .int 0, .int 0])), (lk, .inl (cL, 10, .inr (.inr (.inr (.inr fl))))), (l0, .inr (3, [.int 0, .int 0, .int 60, .int 0, .int 0, .int 0, .int 0, .int 0, .int 0, .int 0])), (l1, .inr (3, [.int 0, .int 0, .int 60, .int 0, .int 0, .int 0, .int 0, .int 0, .int 0, .int 0]))]) [1, 3, 11, 2, 4, 5] rfl
  have hPc := hP.sub (ws' := []) [] rfl
  have hDc := hD.sub (ws' := []) [] (by decide) rfl
  have hKc := hK.sub (tys' := [(cT, .object "LockRooms$Thing"), (cL, .object "LockRooms$Lock")]) [1, 0] rfl
  have hFc := va_free (wc := []) hD hS hA [] rfl
  refine va_calli (va_runV (As := [.int 5, .int 4]) (rest := [.long 5186174794526132320]) ⟨hx, hb, hml, hown, hts⟩ (cz_QtellThing_5_4 l dC dI ed H135.size rm lk th pl gm cT ft t5 cL fl l0 l1 hkt5 hkl0 hkl1) (cwV 2 hts gX6_mixThings_X3_tellThing rfl rfl rfl (by decide +kernel) ⟨Nat.le_of_ble_eq_true rfl, Nat.le_of_ble_eq_true rfl⟩) ⟨zb_blind, va_recv hK (zo_R hR0 hS hAr) (ci := 5) (q0 := 1) rfl rfl, fun U hU hW => ⟨rfl, zb_mk hU hW hPr hPc hKc hDc hN hH hS hFc zx_e⟩⟩ rfl rfl hl.1 rfl (lv_room (Nat.le_of_ble_eq_true rfl)) dX6_mixThings_36 ⟨Nat.le_of_ble_eq_true rfl, Nat.le_of_ble_eq_true rfl⟩) hS (fun q _ h => hFc q h) hFc (fun r138 u t H137 locs ht hvm hw hB hz1 hk1 hS => ?_)
  obtain rfl : r138 = 1 := hw
  have hP := zo_K hP hk1
  have hPr := (zo_nil : va_P (dC, dI) vwCl [] H137)
  have hPc := hP.sub (ws' := []) [] rfl
  have hDc := hD.sub (ws' := []) [] (by decide) rfl
  have hKc := hK.sub (tys' := []) [] rfl
  have hFc := va_free (wc := []) hD hS hA [] rfl
  refine va_calll (va_runS (As := [.long 5186174794526132320, .int 1]) (rest := []) ⟨hx, hb, hml, hown, hts⟩ (cz_X6_mix l dC dI ed H137.size 5186174794526132320 1) (va_cwS 2 hts gX6_mixThings_X6_mix rfl rfl rfl (by decide +kernel) ⟨Nat.le_of_ble_eq_true rfl, Nat.le_of_ble_eq_true rfl⟩) ⟨zb_blind, fun U hU hW => ⟨rfl, zb_mk hU hW hPr hPc hKc hDc hN hH hS hFc zx_e⟩⟩ rfl rfl hl.1 rfl (lv_room (Nat.le_of_ble_eq_true rfl)) dX6_mixThings_39 ⟨Nat.le_of_ble_eq_true rfl, Nat.le_of_ble_eq_true rfl⟩) hS (fun q _ h => hFc q h) hFc (fun r140 u t H139 locs ht hvm hw hB hz1 hk1 hS => ?_)
  obtain rfl : r140 = (-5249278033075862623) := hw.trans (by decide +kernel)
  have hP := zo_K hP hk1
  refine lv_lstore_n (lv' := [(3, .long (-5249278033075862623)), (6, .int 4), (5, .int 5), (0, .ref x), (1, .long (-1160429273186388225))]) hx hb dX6_mixThings_42 rfl hl (by decide) rfl (fun ls hl => ?_)
  refine lv_iinc (v := 5) (lv' := [(6, .int 5), (3, .long (-5249278033075862623)), (5, .int 5), (0, .ref x), (1, .long (-1160429273186388225))]) hx hb dX6_mixThings_43 hl (k := 1) rfl (by decide) (by decide) rfl (fun ls hl => ?_)
  refine lv_goto (tgt := 20) hx hb dX6_mixThings_46 (by decide) ?_
  refine lv_iload hx hb dX6_mixThings_20 (lv_at hl 0 rfl) ?_
  refine lv_bipush (v := 6) hx hb dX6_mixThings_22 (by decide) ?_
  refine lv_icmp_ge (tgt := 49) hx hb dX6_mixThings_24 (by decide) (fun h => absurd h (by decide)) (fun _ => ?_)
  refine lv_lload_n hx hb dX6_mixThings_27 rfl (lv_at hl 1 rfl) ?_
  refine lv_aload_n hx hb dX6_mixThings_28 rfl (lv_at hl 3 rfl) ?_
  refine va_get (D := (dC, dI)) (ci := 8) (v := .ref rm) (C := RX6) (T := TX6) (N := 3) hx hb hts zi_X6_mixThings_X6 hown hK (zo_R hR0 hS hAr) 0 rfl rfl 0 (by decide) (hts (.fieldLink RX6 12 "LockRooms" "room" "LLockRooms$Room;") (by decide +kernel)) (fun _ h9 => h9) rfl dX6_mixThings_29 ?_
  refine lv_iload hx hb dX6_mixThings_32 (lv_at hl 2 rfl) ?_
  refine lv_iload hx hb dX6_mixThings_34 (lv_at hl 0 rfl) ?_
  have hPr := ((zo_R hR0 hS hAr)).sub (ws' := [(rm, .inr (5, [.ref lk, .ref th, .ref pl, .ref gm, .int 2, .int 10, .int 0, .int 0, .int 1, .int 0, .int 0, .int 0])), (th, .inl (cT, 12, .inr (.inr (.inr (.inr ft))))), (t5, .inr (7, [.int (-1), .int 0, .int 0, .int 0, .int 0])), (lk, .inl (cL, 10, .inr (.inr (.inr (.inr fl))))), (l0, .inr (3, [.int 0, .int 0, .int 60, .int 0, .int 0, .int 0, .int 0, .int 0, .int 0, .int 0])), (l1, .inr (3, [.int 0, .int 0, .int 60, .int 0, .int 0, .int 0, .int 0, .int 0, .int 0, .int 0]))]) [1, 3, 11, 2, 4, 5] rfl
  have hPc := hP.sub (ws' := []) [] rfl
  have hDc := hD.sub (ws' := []) [] (by decide) rfl
  have hKc := hK.sub (tys' := [(cT, .object "LockRooms$Thing"), (cL, .object "LockRooms$Lock")]) [1, 0] rfl
  have hFc := va_free (wc := []) hD hS hA [] rfl
  refine va_calli (va_runV (As := [.int 5, .int 5]) (rest := [.long (-5249278033075862623)]) ⟨hx, hb, hml, hown, hts⟩ (cz_QtellThing_5_5 l dC dI ed H139.size rm lk th pl gm cT ft t5 cL fl l0 l1 hkt5 hkl0 hkl1) (cwV 2 hts gX6_mixThings_X3_tellThing rfl rfl rfl (by decide +kernel) ⟨Nat.le_of_ble_eq_true rfl, Nat.le_of_ble_eq_true rfl⟩) ⟨zb_blind, va_recv hK (zo_R hR0 hS hAr) (ci := 5) (q0 := 1) rfl rfl, fun U hU hW => ⟨rfl, zb_mk hU hW hPr hPc hKc hDc hN hH hS hFc zx_e⟩⟩ rfl rfl hl.1 rfl (lv_room (Nat.le_of_ble_eq_true rfl)) dX6_mixThings_36 ⟨Nat.le_of_ble_eq_true rfl, Nat.le_of_ble_eq_true rfl⟩) hS (fun q _ h => hFc q h) hFc (fun r142 u t H141 locs ht hvm hw hB hz1 hk1 hS => ?_)
  obtain rfl : r142 = 0 := hw
  have hP := zo_K hP hk1
  have hPr := (zo_nil : va_P (dC, dI) vwCl [] H141)
  have hPc := hP.sub (ws' := []) [] rfl
  have hDc := hD.sub (ws' := []) [] (by decide) rfl
  have hKc := hK.sub (tys' := []) [] rfl
  have hFc := va_free (wc := []) hD hS hA [] rfl
  refine va_calll (va_runS (As := [.long (-5249278033075862623), .int 0]) (rest := []) ⟨hx, hb, hml, hown, hts⟩ (cz_X6_mix l dC dI ed H141.size (-5249278033075862623) 0) (va_cwS 2 hts gX6_mixThings_X6_mix rfl rfl rfl (by decide +kernel) ⟨Nat.le_of_ble_eq_true rfl, Nat.le_of_ble_eq_true rfl⟩) ⟨zb_blind, fun U hU hW => ⟨rfl, zb_mk hU hW hPr hPc hKc hDc hN hH hS hFc zx_e⟩⟩ rfl rfl hl.1 rfl (lv_room (Nat.le_of_ble_eq_true rfl)) dX6_mixThings_39 ⟨Nat.le_of_ble_eq_true rfl, Nat.le_of_ble_eq_true rfl⟩) hS (fun q _ h => hFc q h) hFc (fun r144 u t H143 locs ht hvm hw hB hz1 hk1 hS => ?_)
  obtain rfl : r144 = 3293077638034223231 := hw.trans (by decide +kernel)
  have hP := zo_K hP hk1
  refine lv_lstore_n (lv' := [(3, .long 3293077638034223231), (6, .int 5), (5, .int 5), (0, .ref x), (1, .long (-1160429273186388225))]) hx hb dX6_mixThings_42 rfl hl (by decide) rfl (fun ls hl => ?_)
  refine lv_iinc (v := 6) (lv' := [(6, .int 6), (3, .long 3293077638034223231), (5, .int 5), (0, .ref x), (1, .long (-1160429273186388225))]) hx hb dX6_mixThings_43 hl (k := 1) rfl (by decide) (by decide) rfl (fun ls hl => ?_)
  refine lv_goto (tgt := 20) hx hb dX6_mixThings_46 (by decide) ?_
  refine lv_iload hx hb dX6_mixThings_20 (lv_at hl 0 rfl) ?_
  refine lv_bipush (v := 6) hx hb dX6_mixThings_22 (by decide) ?_
  refine lv_icmp_ge (tgt := 49) hx hb dX6_mixThings_24 (by decide) (fun _ => ?_) (fun h => absurd h (by decide))
  refine lv_iinc (v := 6) (lv' := [(5, .int 6), (6, .int 6), (3, .long 3293077638034223231), (0, .ref x), (1, .long (-1160429273186388225))]) hx hb dX6_mixThings_49 hl (k := 2) rfl (by decide) (by decide) rfl (fun ls hl => ?_)
  refine lv_goto (tgt := 5) hx hb dX6_mixThings_52 (by decide) ?_
  exact cs_QmixThings_3 l dC dI ed x rm tr st lk th pl gm cL fl l0 l1 cT ft t0 t1 t2 t3 t4 t5 t6 t7 t8 t9 hkl0 hkl1 hkt0 hkt1 hkt2 hkt3 hkt4 hkt5 hkt6 hkt7 hkt8 hkt9 hx hb hr hml hown hlocks hts hR0 hN hA hAr hH hAe hK hP hD hS hl
set_option maxHeartbeats 4000000 in
set_option maxRecDepth 100000 in
theorem cs_QmixThings_1 (l : Launch) (dC : Nat → ClassId) (dI : Nat → Nat → Nat) (ed : Nat) (x : Nat) (rm : Nat) (tr : Nat) (st : Nat) (lk : Nat) (th : Nat) (pl : Nat) (gm : Nat) (cL : ClassId) (fl : Nat → Option Nat) (l0 : Nat) (l1 : Nat) (cT : ClassId) (ft : Nat → Option Nat) (t0 : Nat) (t1 : Nat) (t2 : Nat) (t3 : Nat) (t4 : Nat) (t5 : Nat) (t6 : Nat) (t7 : Nat) (t8 : Nat) (t9 : Nat) (hkl0 : fl 0 = some l0) (hkl1 : fl 1 = some l1) (hkt0 : ft 0 = some t0) (hkt1 : ft 1 = some t1) (hkt2 : ft 2 = some t2) (hkt3 : ft 3 = some t3) (hkt4 : ft 4 = some t4) (hkt5 : ft 5 = some t5) (hkt6 : ft 6 = some t6) (hkt7 : ft 7 = some t7) (hkt8 : ft 8 = some t8) (hkt9 : ft 9 = some t9) {p : Program} {e : Env} {s : State} {m : MethodId} {below : List Frame} {meth : Method} {c : Code} {A : Nat → Prop} {H : Heap} {locs : List Loc} {ls : Array Slot} (hx : p.tables.exec = Jvm.exec) (hb : c.code = cX6_mixThings) (hr : meth.sig.returnType = (some .long)) (hml : c.maxLocals = 7) (hown : s.vm.findClass RX6 = some m.cls) (hlocks : meth.locks = false) (hts : ∀ w ∈ wsX6_mixThings, w.before ([.ref x, .long (-1160429273186388225)] : List Value).toArray s = true) (hR0 : va_P (dC, dI) vwCl [(x, .inr (8, [.ref rm, .ref tr, .ref st])), (rm, .inr (5, [.ref lk, .ref th, .ref pl, .ref gm, .int 2, .int 10, .int 0, .int 0, .int 1, .int 0, .int 0, .int 0])), (lk, .inl (cL, 10, .inr (.inr (.inr (.inr fl))))), (th, .inl (cT, 12, .inr (.inr (.inr (.inr ft))))), (l0, .inr (3, [.int 0, .int 0, .int 60, .int 0, .int 0, .int 0, .int 0, .int 0, .int 0, .int 0])), (l1, .inr (3, [.int 0, .int 0, .int 60, .int 0, .int 0, .int 0, .int 0, .int 0, .int 0, .int 0])), (t0, .inr (7, [.int (-1), .int 0, .int 0, .int 0, .int 0])), (t1, .inr (7, [.int (-1), .int 0, .int 0, .int 0, .int 0])), (t2, .inr (7, [.int (-1), .int 0, .int 0, .int 0, .int 0])), (t3, .inr (7, [.int (-1), .int 0, .int 0, .int 0, .int 0])), (t4, .inr (7, [.int (-1), .int 0, .int 0, .int 0, .int 0])), (t5, .inr (7, [.int (-1), .int 0, .int 0, .int 0, .int 0])), (t6, .inr (7, [.int (-1), .int 0, .int 0, .int 0, .int 0])), (t7, .inr (7, [.int (-1), .int 0, .int 0, .int 0, .int 0])), (t8, .inr (7, [.int (-1), .int 0, .int 0, .int 0, .int 0])), (t9, .inr (7, [.int (-1), .int 0, .int 0, .int 0, .int 0]))] s.heap) (hN : zN s) (hA : ∀ q : Nat, s.heap.size ≤ q → A q) (hAr : ∀ p ∈ ([(x, .inr (8, [.ref rm, .ref tr, .ref st])), (rm, .inr (5, [.ref lk, .ref th, .ref pl, .ref gm, .int 2, .int 10, .int 0, .int 0, .int 1, .int 0, .int 0, .int 0])), (lk, .inl (cL, 10, .inr (.inr (.inr (.inr fl))))), (th, .inl (cT, 12, .inr (.inr (.inr (.inr ft))))), (l0, .inr (3, [.int 0, .int 0, .int 60, .int 0, .int 0, .int 0, .int 0, .int 0, .int 0, .int 0])), (l1, .inr (3, [.int 0, .int 0, .int 60, .int 0, .int 0, .int 0, .int 0, .int 0, .int 0, .int 0])), (t0, .inr (7, [.int (-1), .int 0, .int 0, .int 0, .int 0])), (t1, .inr (7, [.int (-1), .int 0, .int 0, .int 0, .int 0])), (t2, .inr (7, [.int (-1), .int 0, .int 0, .int 0, .int 0])), (t3, .inr (7, [.int (-1), .int 0, .int 0, .int 0, .int 0])), (t4, .inr (7, [.int (-1), .int 0, .int 0, .int 0, .int 0])), (t5, .inr (7, [.int (-1), .int 0, .int 0, .int 0, .int 0])), (t6, .inr (7, [.int (-1), .int 0, .int 0, .int 0, .int 0])), (t7, .inr (7, [.int (-1), .int 0, .int 0, .int 0, .int 0])), (t8, .inr (7, [.int (-1), .int 0, .int 0, .int 0, .int 0])), (t9, .inr (7, [.int (-1), .int 0, .int 0, .int 0, .int 0]))] : va_W), ¬ A p.1) (hH : zH ed A s s.heap) (hAe : va_A [] s.heap.size = A) (hK : va_K (dC, dI) vwCl [(cL, .object "LockRooms$Lock"), (cT, .object "LockRooms$Thing")] s) (hP : va_P (dC, dI) vwCl [] H) (hD : va_D A []) (hS : va_S A s.heap H locs) (hl : lv_has ls 7 [(5, .int 2), (6, .int 6), (3, .long (-3095540102686843009)), (0, .ref x), (1, .long (-1160429273186388225))]) : W p l e (headSpec wsX6_mixThings ({ frames := 3, cells := 0, slots := 0, locals := 67 } : Jvm.Room)).room s m (([.ref x, .long (-1160429273186388225)] : List Value).toArray) below meth c H locs 0 0 (MQ below (va_Ql (fun (r : Int64) (_ : Unit) => r = (-1088415371068898945)) (fun (_ : Unit) (_ : State) => True) A) (([.ref x, .long (-1160429273186388225)] : List Value).toArray) s 0 0 A) (F0 m 5 ls []) := by
  refine lv_iload hx hb dX6_mixThings_5 (lv_at hl 0 rfl) ?_
  refine lv_aload_n hx hb dX6_mixThings_7 rfl (lv_at hl 3 rfl) ?_
  refine va_get (D := (dC, dI)) (ci := 8) (v := .ref rm) (C := RX6) (T := TX6) (N := 3) hx hb hts zi_X6_mixThings_X6 hown hK (zo_R hR0 hS hAr) 0 rfl rfl 0 (by decide) (hts (.fieldLink RX6 12 "LockRooms" "room" "LLockRooms$Room;") (by decide +kernel)) (fun _ h9 => h9) rfl dX6_mixThings_8 ?_
  refine va_get (D := (dC, dI)) (ci := 5) (v := .int 10) (C := RX3) (T := TX3) (N := 12) hx hb hts zi_X6_mixThings_X3 hown hK (zo_R hR0 hS hAr) 1 rfl rfl 5 (by decide) (hts (.fieldLink RX6 71 "LockRooms$Room" "thingCount" "I") (by decide +kernel)) (fun _ h9 => h9) rfl dX6_mixThings_11 ?_
  refine lv_icmp_ge (tgt := 55) hx hb dX6_mixThings_14 (by decide) (fun h => absurd h (by decide)) (fun _ => ?_)
  refine lv_iconst (v := 0) hx hb dX6_mixThings_17 (by decide) ?_
  refine lv_istore (lv' := [(6, .int 0), (5, .int 2), (3, .long (-3095540102686843009)), (0, .ref x), (1, .long (-1160429273186388225))]) hx hb dX6_mixThings_18 hl (by decide) rfl (fun ls hl => ?_)
  refine lv_iload hx hb dX6_mixThings_20 (lv_at hl 0 rfl) ?_
  refine lv_bipush (v := 6) hx hb dX6_mixThings_22 (by decide) ?_
  refine lv_icmp_ge (tgt := 49) hx hb dX6_mixThings_24 (by decide) (fun h => absurd h (by decide)) (fun _ => ?_)
  refine lv_lload_n hx hb dX6_mixThings_27 rfl (lv_at hl 2 rfl) ?_
  refine lv_aload_n hx hb dX6_mixThings_28 rfl (lv_at hl 3 rfl) ?_
  refine va_get (D := (dC, dI)) (ci := 8) (v := .ref rm) (C := RX6) (T := TX6) (N := 3) hx hb hts zi_X6_mixThings_X6 hown hK (zo_R hR0 hS hAr) 0 rfl rfl 0 (by decide) (hts (.fieldLink RX6 12 "LockRooms" "room" "LLockRooms$Room;") (by decide +kernel)) (fun _ h9 => h9) rfl dX6_mixThings_29 ?_
  refine lv_iload hx hb dX6_mixThings_32 (lv_at hl 1 rfl) ?_
  refine lv_iload hx hb dX6_mixThings_34 (lv_at hl 0 rfl) ?_
  have hPr := ((zo_R hR0 hS hAr)).sub (ws' := [(rm, .inr (5, [.ref lk, .ref th, .ref pl, .ref gm, .int 2, .int 10, .int 0, .int 0, .int 1, .int 0, .int 0, .int 0])), (th, .inl (cT, 12, .inr (.inr (.inr (.inr ft))))), (t2, .inr (7, [.int (-1), .int 0, .int 0, .int 0, .int 0]))]) [1, 3, 8] rfl
  have hPc := hP.sub (ws' := []) [] rfl
  have hDc := hD.sub (ws' := []) [] (by decide) rfl
  have hKc := hK.sub (tys' := [(cT, .object "LockRooms$Thing")]) [1] rfl
  have hFc := va_free (wc := []) hD hS hA [] rfl
  refine va_calli (va_runV (As := [.int 2, .int 0]) (rest := [.long (-3095540102686843009)]) ⟨hx, hb, hml, hown, hts⟩ (cz_QtellThing_2_0 l dC dI ed H.size rm lk th pl gm cT ft t2 hkt2) (cwV 2 hts gX6_mixThings_X3_tellThing rfl rfl rfl (by decide +kernel) ⟨Nat.le_of_ble_eq_true rfl, Nat.le_of_ble_eq_true rfl⟩) ⟨zb_blind, va_recv hK (zo_R hR0 hS hAr) (ci := 5) (q0 := 1) rfl rfl, fun U hU hW => ⟨rfl, zb_mk hU hW hPr hPc hKc hDc hN hH hS hFc zx_e⟩⟩ rfl rfl hl.1 rfl (lv_room (Nat.le_of_ble_eq_true rfl)) dX6_mixThings_36 ⟨Nat.le_of_ble_eq_true rfl, Nat.le_of_ble_eq_true rfl⟩) hS (fun q _ h => hFc q h) hFc (fun r50 u t H49 locs ht hvm hw hB hz1 hk1 hS => ?_)
  obtain rfl : r50 = (-1) := hw
  have hP := zo_K hP hk1
  have hPr := (zo_nil : va_P (dC, dI) vwCl [] H49)
  have hPc := hP.sub (ws' := []) [] rfl
  have hDc := hD.sub (ws' := []) [] (by decide) rfl
  have hKc := hK.sub (tys' := []) [] rfl
  have hFc := va_free (wc := []) hD hS hA [] rfl
  refine va_calll (va_runS (As := [.long (-3095540102686843009), .int (-1)]) (rest := []) ⟨hx, hb, hml, hown, hts⟩ (cz_X6_mix l dC dI ed H49.size (-3095540102686843009) (-1)) (va_cwS 2 hts gX6_mixThings_X6_mix rfl rfl rfl (by decide +kernel) ⟨Nat.le_of_ble_eq_true rfl, Nat.le_of_ble_eq_true rfl⟩) ⟨zb_blind, fun U hU hW => ⟨rfl, zb_mk hU hW hPr hPc hKc hDc hN hH hS hFc zx_e⟩⟩ rfl rfl hl.1 rfl (lv_room (Nat.le_of_ble_eq_true rfl)) dX6_mixThings_39 ⟨Nat.le_of_ble_eq_true rfl, Nat.le_of_ble_eq_true rfl⟩) hS (fun q _ h => hFc q h) hFc (fun r52 u t H51 locs ht hvm hw hB hz1 hk1 hS => ?_)
  obtain rfl : r52 = (-3728022814744375200) := hw.trans (by decide +kernel)
  have hP := zo_K hP hk1
  refine lv_lstore_n (lv' := [(3, .long (-3728022814744375200)), (6, .int 0), (5, .int 2), (0, .ref x), (1, .long (-1160429273186388225))]) hx hb dX6_mixThings_42 rfl hl (by decide) rfl (fun ls hl => ?_)
  refine lv_iinc (v := 1) (lv' := [(6, .int 1), (3, .long (-3728022814744375200)), (5, .int 2), (0, .ref x), (1, .long (-1160429273186388225))]) hx hb dX6_mixThings_43 hl (k := 1) rfl (by decide) (by decide) rfl (fun ls hl => ?_)
  refine lv_goto (tgt := 20) hx hb dX6_mixThings_46 (by decide) ?_
  refine lv_iload hx hb dX6_mixThings_20 (lv_at hl 0 rfl) ?_
  refine lv_bipush (v := 6) hx hb dX6_mixThings_22 (by decide) ?_
  refine lv_icmp_ge (tgt := 49) hx hb dX6_mixThings_24 (by decide) (fun h => absurd h (by decide)) (fun _ => ?_)
  refine lv_lload_n hx hb dX6_mixThings_27 rfl (lv_at hl 1 rfl) ?_
  refine lv_aload_n hx hb dX6_mixThings_28 rfl (lv_at hl 3 rfl) ?_
  refine va_get (D := (dC, dI)) (ci := 8) (v := .ref rm) (C := RX6) (T := TX6) (N := 3) hx hb hts zi_X6_mixThings_X6 hown hK (zo_R hR0 hS hAr) 0 rfl rfl 0 (by decide) (hts (.fieldLink RX6 12 "LockRooms" "room" "LLockRooms$Room;") (by decide +kernel)) (fun _ h9 => h9) rfl dX6_mixThings_29 ?_
  refine lv_iload hx hb dX6_mixThings_32 (lv_at hl 2 rfl) ?_
  refine lv_iload hx hb dX6_mixThings_34 (lv_at hl 0 rfl) ?_
  have hPr := ((zo_R hR0 hS hAr)).sub (ws' := [(rm, .inr (5, [.ref lk, .ref th, .ref pl, .ref gm, .int 2, .int 10, .int 0, .int 0, .int 1, .int 0, .int 0, .int 0])), (th, .inl (cT, 12, .inr (.inr (.inr (.inr ft))))), (t2, .inr (7, [.int (-1), .int 0, .int 0, .int 0, .int 0]))]) [1, 3, 8] rfl
  have hPc := hP.sub (ws' := []) [] rfl
  have hDc := hD.sub (ws' := []) [] (by decide) rfl
  have hKc := hK.sub (tys' := [(cT, .object "LockRooms$Thing")]) [1] rfl
  have hFc := va_free (wc := []) hD hS hA [] rfl
  refine va_calli (va_runV (As := [.int 2, .int 1]) (rest := [.long (-3728022814744375200)]) ⟨hx, hb, hml, hown, hts⟩ (cz_QtellThing_2_1 l dC dI ed H51.size rm lk th pl gm cT ft t2 hkt2) (cwV 2 hts gX6_mixThings_X3_tellThing rfl rfl rfl (by decide +kernel) ⟨Nat.le_of_ble_eq_true rfl, Nat.le_of_ble_eq_true rfl⟩) ⟨zb_blind, va_recv hK (zo_R hR0 hS hAr) (ci := 5) (q0 := 1) rfl rfl, fun U hU hW => ⟨rfl, zb_mk hU hW hPr hPc hKc hDc hN hH hS hFc zx_e⟩⟩ rfl rfl hl.1 rfl (lv_room (Nat.le_of_ble_eq_true rfl)) dX6_mixThings_36 ⟨Nat.le_of_ble_eq_true rfl, Nat.le_of_ble_eq_true rfl⟩) hS (fun q _ h => hFc q h) hFc (fun r54 u t H53 locs ht hvm hw hB hz1 hk1 hS => ?_)
  obtain rfl : r54 = 0 := hw
  have hP := zo_K hP hk1
  have hPr := (zo_nil : va_P (dC, dI) vwCl [] H53)
  have hPc := hP.sub (ws' := []) [] rfl
  have hDc := hD.sub (ws' := []) [] (by decide) rfl
  have hKc := hK.sub (tys' := []) [] rfl
  have hFc := va_free (wc := []) hD hS hA [] rfl
  refine va_calll (va_runS (As := [.long (-3728022814744375200), .int 0]) (rest := []) ⟨hx, hb, hml, hown, hts⟩ (cz_X6_mix l dC dI ed H53.size (-3728022814744375200) 0) (va_cwS 2 hts gX6_mixThings_X6_mix rfl rfl rfl (by decide +kernel) ⟨Nat.le_of_ble_eq_true rfl, Nat.le_of_ble_eq_true rfl⟩) ⟨zb_blind, fun U hU hW => ⟨rfl, zb_mk hU hW hPr hPc hKc hDc hN hH hS hFc zx_e⟩⟩ rfl rfl hl.1 rfl (lv_room (Nat.le_of_ble_eq_true rfl)) dX6_mixThings_39 ⟨Nat.le_of_ble_eq_true rfl, Nat.le_of_ble_eq_true rfl⟩) hS (fun q _ h => hFc q h) hFc (fun r56 u t H55 locs ht hvm hw hB hz1 hk1 hS => ?_)
  obtain rfl : r56 = (-4888242814818321504) := hw.trans (by decide +kernel)
  have hP := zo_K hP hk1
  refine lv_lstore_n (lv' := [(3, .long (-4888242814818321504)), (6, .int 1), (5, .int 2), (0, .ref x), (1, .long (-1160429273186388225))]) hx hb dX6_mixThings_42 rfl hl (by decide) rfl (fun ls hl => ?_)
  refine lv_iinc (v := 2) (lv' := [(6, .int 2), (3, .long (-4888242814818321504)), (5, .int 2), (0, .ref x), (1, .long (-1160429273186388225))]) hx hb dX6_mixThings_43 hl (k := 1) rfl (by decide) (by decide) rfl (fun ls hl => ?_)
  refine lv_goto (tgt := 20) hx hb dX6_mixThings_46 (by decide) ?_
  refine lv_iload hx hb dX6_mixThings_20 (lv_at hl 0 rfl) ?_
  refine lv_bipush (v := 6) hx hb dX6_mixThings_22 (by decide) ?_
  refine lv_icmp_ge (tgt := 49) hx hb dX6_mixThings_24 (by decide) (fun h => absurd h (by decide)) (fun _ => ?_)
  refine lv_lload_n hx hb dX6_mixThings_27 rfl (lv_at hl 1 rfl) ?_
  refine lv_aload_n hx hb dX6_mixThings_28 rfl (lv_at hl 3 rfl) ?_
  refine va_get (D := (dC, dI)) (ci := 8) (v := .ref rm) (C := RX6) (T := TX6) (N := 3) hx hb hts zi_X6_mixThings_X6 hown hK (zo_R hR0 hS hAr) 0 rfl rfl 0 (by decide) (hts (.fieldLink RX6 12 "LockRooms" "room" "LLockRooms$Room;") (by decide +kernel)) (fun _ h9 => h9) rfl dX6_mixThings_29 ?_
  refine lv_iload hx hb dX6_mixThings_32 (lv_at hl 2 rfl) ?_
  refine lv_iload hx hb dX6_mixThings_34 (lv_at hl 0 rfl) ?_
  have hPr := ((zo_R hR0 hS hAr)).sub (ws' := [(rm, .inr (5, [.ref lk, .ref th, .ref pl, .ref gm, .int 2, .int 10, .int 0, .int 0, .int 1, .int 0, .int 0, .int 0])), (th, .inl (cT, 12, .inr (.inr (.inr (.inr ft))))), (t2, .inr (7, [.int (-1), .int 0, .int 0, .int 0, .int 0]))]) [1, 3, 8] rfl
  have hPc := hP.sub (ws' := []) [] rfl
  have hDc := hD.sub (ws' := []) [] (by decide) rfl
  have hKc := hK.sub (tys' := [(cT, .object "LockRooms$Thing")]) [1] rfl
  have hFc := va_free (wc := []) hD hS hA [] rfl
  refine va_calli (va_runV (As := [.int 2, .int 2]) (rest := [.long (-4888242814818321504)]) ⟨hx, hb, hml, hown, hts⟩ (cz_QtellThing_2_2 l dC dI ed H55.size rm lk th pl gm cT ft t2 hkt2) (cwV 2 hts gX6_mixThings_X3_tellThing rfl rfl rfl (by decide +kernel) ⟨Nat.le_of_ble_eq_true rfl, Nat.le_of_ble_eq_true rfl⟩) ⟨zb_blind, va_recv hK (zo_R hR0 hS hAr) (ci := 5) (q0 := 1) rfl rfl, fun U hU hW => ⟨rfl, zb_mk hU hW hPr hPc hKc hDc hN hH hS hFc zx_e⟩⟩ rfl rfl hl.1 rfl (lv_room (Nat.le_of_ble_eq_true rfl)) dX6_mixThings_36 ⟨Nat.le_of_ble_eq_true rfl, Nat.le_of_ble_eq_true rfl⟩) hS (fun q _ h => hFc q h) hFc (fun r58 u t H57 locs ht hvm hw hB hz1 hk1 hS => ?_)
  obtain rfl : r58 = 0 := hw
  have hP := zo_K hP hk1
  have hPr := (zo_nil : va_P (dC, dI) vwCl [] H57)
  have hPc := hP.sub (ws' := []) [] rfl
  have hDc := hD.sub (ws' := []) [] (by decide) rfl
  have hKc := hK.sub (tys' := []) [] rfl
  have hFc := va_free (wc := []) hD hS hA [] rfl
  refine va_calll (va_runS (As := [.long (-4888242814818321504), .int 0]) (rest := []) ⟨hx, hb, hml, hown, hts⟩ (cz_X6_mix l dC dI ed H57.size (-4888242814818321504) 0) (va_cwS 2 hts gX6_mixThings_X6_mix rfl rfl rfl (by decide +kernel) ⟨Nat.le_of_ble_eq_true rfl, Nat.le_of_ble_eq_true rfl⟩) ⟨zb_blind, fun U hU hW => ⟨rfl, zb_mk hU hW hPr hPc hKc hDc hN hH hS hFc zx_e⟩⟩ rfl rfl hl.1 rfl (lv_room (Nat.le_of_ble_eq_true rfl)) dX6_mixThings_39 ⟨Nat.le_of_ble_eq_true rfl, Nat.le_of_ble_eq_true rfl⟩) hS (fun q _ h => hFc q h) hFc (fun r60 u t H59 locs ht hvm hw hB hz1 hk1 hS => ?_)
  obtain rfl : r60 = (-3961574669691553696) := hw.trans (by decide +kernel)
  have hP := zo_K hP hk1
  refine lv_lstore_n (lv' := [(3, .long (-3961574669691553696)), (6, .int 2), (5, .int 2), (0, .ref x), (1, .long (-1160429273186388225))]) hx hb dX6_mixThings_42 rfl hl (by decide) rfl (fun ls hl => ?_)
  refine lv_iinc (v := 3) (lv' := [(6, .int 3), (3, .long (-3961574669691553696)), (5, .int 2), (0, .ref x), (1, .long (-1160429273186388225))]) hx hb dX6_mixThings_43 hl (k := 1) rfl (by decide) (by decide) rfl (fun ls hl => ?_)
  refine lv_goto (tgt := 20) hx hb dX6_mixThings_46 (by decide) ?_
  refine lv_iload hx hb dX6_mixThings_20 (lv_at hl 0 rfl) ?_
  refine lv_bipush (v := 6) hx hb dX6_mixThings_22 (by decide) ?_
  refine lv_icmp_ge (tgt := 49) hx hb dX6_mixThings_24 (by decide) (fun h => absurd h (by decide)) (fun _ => ?_)
  refine lv_lload_n hx hb dX6_mixThings_27 rfl (lv_at hl 1 rfl) ?_
  refine lv_aload_n hx hb dX6_mixThings_28 rfl (lv_at hl 3 rfl) ?_
  refine va_get (D := (dC, dI)) (ci := 8) (v := .ref rm) (C := RX6) (T := TX6) (N := 3) hx hb hts zi_X6_mixThings_X6 hown hK (zo_R hR0 hS hAr) 0 rfl rfl 0 (by decide) (hts (.fieldLink RX6 12 "LockRooms" "room" "LLockRooms$Room;") (by decide +kernel)) (fun _ h9 => h9) rfl dX6_mixThings_29 ?_
  refine lv_iload hx hb dX6_mixThings_32 (lv_at hl 2 rfl) ?_
  refine lv_iload hx hb dX6_mixThings_34 (lv_at hl 0 rfl) ?_
  have hPr := ((zo_R hR0 hS hAr)).sub (ws' := [(rm, .inr (5, [.ref lk, .ref th, .ref pl, .ref gm, .int 2, .int 10, .int 0, .int 0, .int 1, .int 0, .int 0, .int 0])), (th, .inl (cT, 12, .inr (.inr (.inr (.inr ft))))), (t2, .inr (7, [.int (-1), .int 0, .int 0, .int 0, .int 0]))]) [1, 3, 8] rfl
  have hPc := hP.sub (ws' := []) [] rfl
  have hDc := hD.sub (ws' := []) [] (by decide) rfl
  have hKc := hK.sub (tys' := [(cT, .object "LockRooms$Thing")]) [1] rfl
  have hFc := va_free (wc := []) hD hS hA [] rfl
  refine va_calli (va_runV (As := [.int 2, .int 3]) (rest := [.long (-3961574669691553696)]) ⟨hx, hb, hml, hown, hts⟩ (cz_QtellThing_2_3 l dC dI ed H59.size rm lk th pl gm cT ft t2 hkt2) (cwV 2 hts gX6_mixThings_X3_tellThing rfl rfl rfl (by decide +kernel) ⟨Nat.le_of_ble_eq_true rfl, Nat.le_of_ble_eq_true rfl⟩) ⟨zb_blind, va_recv hK (zo_R hR0 hS hAr) (ci := 5) (q0 := 1) rfl rfl, fun U hU hW => ⟨rfl, zb_mk hU hW hPr hPc hKc hDc hN hH hS hFc zx_e⟩⟩ rfl rfl hl.1 rfl (lv_room (Nat.le_of_ble_eq_true rfl)) dX6_mixThings_36 ⟨Nat.le_of_ble_eq_true rfl, Nat.le_of_ble_eq_true rfl⟩) hS (fun q _ h => hFc q h) hFc (fun r62 u t H61 locs ht hvm hw hB hz1 hk1 hS => ?_)
  obtain rfl : r62 = 0 := hw
  have hP := zo_K hP hk1
  have hPr := (zo_nil : va_P (dC, dI) vwCl [] H61)
  have hPc := hP.sub (ws' := []) [] rfl
  have hDc := hD.sub (ws' := []) [] (by decide) rfl
  have hKc := hK.sub (tys' := []) [] rfl
  have hFc := va_free (wc := []) hD hS hA [] rfl
  refine va_calll (va_runS (As := [.long (-3961574669691553696), .int 0]) (rest := []) ⟨hx, hb, hml, hown, hts⟩ (cz_X6_mix l dC dI ed H61.size (-3961574669691553696) 0) (va_cwS 2 hts gX6_mixThings_X6_mix rfl rfl rfl (by decide +kernel) ⟨Nat.le_of_ble_eq_true rfl, Nat.le_of_ble_eq_true rfl⟩) ⟨zb_blind, fun U hU hW => ⟨rfl, zb_mk hU hW hPr hPc hKc hDc hN hH hS hFc zx_e⟩⟩ rfl rfl hl.1 rfl (lv_room (Nat.le_of_ble_eq_true rfl)) dX6_mixThings_39 ⟨Nat.le_of_ble_eq_true rfl, Nat.le_of_ble_eq_true rfl⟩) hS (fun q _ h => hFc q h) hFc (fun r64 u t H63 locs ht hvm hw hB hz1 hk1 hS => ?_)
  obtain rfl : r64 = 6318393755528696736 := hw.trans (by decide +kernel)
  have hP := zo_K hP hk1
  refine lv_lstore_n (lv' := [(3, .long 6318393755528696736), (6, .int 3), (5, .int 2), (0, .ref x), (1, .long (-1160429273186388225))]) hx hb dX6_mixThings_42 rfl hl (by decide) rfl (fun ls hl => ?_)
  refine lv_iinc (v := 4) (lv' := [(6, .int 4), (3, .long 6318393755528696736), (5, .int 2), (0, .ref x), (1, .long (-1160429273186388225))]) hx hb dX6_mixThings_43 hl (k := 1) rfl (by decide) (by decide) rfl (fun ls hl => ?_)
  refine lv_goto (tgt := 20) hx hb dX6_mixThings_46 (by decide) ?_
  refine lv_iload hx hb dX6_mixThings_20 (lv_at hl 0 rfl) ?_
  refine lv_bipush (v := 6) hx hb dX6_mixThings_22 (by decide) ?_
  refine lv_icmp_ge (tgt := 49) hx hb dX6_mixThings_24 (by decide) (fun h => absurd h (by decide)) (fun _ => ?_)
  refine lv_lload_n hx hb dX6_mixThings_27 rfl (lv_at hl 1 rfl) ?_
  refine lv_aload_n hx hb dX6_mixThings_28 rfl (lv_at hl 3 rfl) ?_
  refine va_get (D := (dC, dI)) (ci := 8) (v := .ref rm) (C := RX6) (T := TX6) (N := 3) hx hb hts zi_X6_mixThings_X6 hown hK (zo_R hR0 hS hAr) 0 rfl rfl 0 (by decide) (hts (.fieldLink RX6 12 "LockRooms" "room" "LLockRooms$Room;") (by decide +kernel)) (fun _ h9 => h9) rfl dX6_mixThings_29 ?_
  refine lv_iload hx hb dX6_mixThings_32 (lv_at hl 2 rfl) ?_
  refine lv_iload hx hb dX6_mixThings_34 (lv_at hl 0 rfl) ?_
  have hPr := ((zo_R hR0 hS hAr)).sub (ws' := [(rm, .inr (5, [.ref lk, .ref th, .ref pl, .ref gm, .int 2, .int 10, .int 0, .int 0, .int 1, .int 0, .int 0, .int 0])), (th, .inl (cT, 12, .inr (.inr (.inr (.inr ft))))), (t2, .inr (7, [.int (-1), .int 0, .int 0, .int 0, .int 0])), (lk, .inl (cL, 10, .inr (.inr (.inr (.inr fl))))), (l0, .inr (3, [.int 0, .int 0, .int 60, .int 0, .int 0, .int 0, .int 0, .int 0, .int 0, .int 0])), (l1, .inr (3, [.int 0, .int 0, .int 60, .int 0, .int 0, .int 0, .int 0, .int 0, .int 0, .int 0]))]) [1, 3, 8, 2, 4, 5] rfl
  have hPc := hP.sub (ws' := []) [] rfl
  have hDc := hD.sub (ws' := []) [] (by decide) rfl
  have hKc := hK.sub (tys' := [(cT, .object "LockRooms$Thing"), (cL, .object "LockRooms$Lock")]) [1, 0] rfl
  have hFc := va_free (wc := []) hD hS hA [] rfl
  refine va_calli (va_runV (As := [.int 2, .int 4]) (rest := [.long 6318393755528696736]) ⟨hx, hb, hml, hown, hts⟩ (cz_QtellThing_2_4 l dC dI ed H63.size rm lk th pl gm cT ft t2 cL fl l0 l1 hkt2 hkl0 hkl1) (cwV 2 hts gX6_mixThings_X3_tellThing rfl rfl rfl (by decide +kernel) ⟨Nat.le_of_ble_eq_true rfl, Nat.le_of_ble_eq_true rfl⟩) ⟨zb_blind, va_recv hK (zo_R hR0 hS hAr) (ci := 5) (q0 := 1) rfl rfl, fun U hU hW => ⟨rfl, zb_mk hU hW hPr hPc hKc hDc hN hH hS hFc zx_e⟩⟩ rfl rfl hl.1 rfl (lv_room (Nat.le_of_ble_eq_true rfl)) dX6_mixThings_36 ⟨Nat.le_of_ble_eq_true rfl, Nat.le_of_ble_eq_true rfl⟩) hS (fun q _ h => hFc q h) hFc (fun r66 u t H65 locs ht hvm hw hB hz1 hk1 hS => ?_)
  obtain rfl : r66 = 1 := hw
  have hP := zo_K hP hk1
  have hPr := (zo_nil : va_P (dC, dI) vwCl [] H65)
  have hPc := hP.sub (ws' := []) [] rfl
  have hDc := hD.sub (ws' := []) [] (by decide) rfl
  have hKc := hK.sub (tys' := []) [] rfl
  have hFc := va_free (wc := []) hD hS hA [] rfl
  refine va_calll (va_runS (As := [.long 6318393755528696736, .int 1]) (rest := []) ⟨hx, hb, hml, hown, hts⟩ (cz_X6_mix l dC dI ed H65.size 6318393755528696736 1) (va_cwS 2 hts gX6_mixThings_X6_mix rfl rfl rfl (by decide +kernel) ⟨Nat.le_of_ble_eq_true rfl, Nat.le_of_ble_eq_true rfl⟩) ⟨zb_blind, fun U hU hW => ⟨rfl, zb_mk hU hW hPr hPc hKc hDc hN hH hS hFc zx_e⟩⟩ rfl rfl hl.1 rfl (lv_room (Nat.le_of_ble_eq_true rfl)) dX6_mixThings_39 ⟨Nat.le_of_ble_eq_true rfl, Nat.le_of_ble_eq_true rfl⟩) hS (fun q _ h => hFc q h) hFc (fun r68 u t H67 locs ht hvm hw hB hz1 hk1 hS => ?_)
  obtain rfl : r68 = (-7043978389415468959) := hw.trans (by decide +kernel)
  have hP := zo_K hP hk1
  refine lv_lstore_n (lv' := [(3, .long (-7043978389415468959)), (6, .int 4), (5, .int 2), (0, .ref x), (1, .long (-1160429273186388225))]) hx hb dX6_mixThings_42 rfl hl (by decide) rfl (fun ls hl => ?_)
  refine lv_iinc (v := 5) (lv' := [(6, .int 5), (3, .long (-7043978389415468959)), (5, .int 2), (0, .ref x), (1, .long (-1160429273186388225))]) hx hb dX6_mixThings_43 hl (k := 1) rfl (by decide) (by decide) rfl (fun ls hl => ?_)
  refine lv_goto (tgt := 20) hx hb dX6_mixThings_46 (by decide) ?_
  refine lv_iload hx hb dX6_mixThings_20 (lv_at hl 0 rfl) ?_
  refine lv_bipush (v := 6) hx hb dX6_mixThings_22 (by decide) ?_
  refine lv_icmp_ge (tgt := 49) hx hb dX6_mixThings_24 (by decide) (fun h => absurd h (by decide)) (fun _ => ?_)
  refine lv_lload_n hx hb dX6_mixThings_27 rfl (lv_at hl 1 rfl) ?_
  refine lv_aload_n hx hb dX6_mixThings_28 rfl (lv_at hl 3 rfl) ?_
  refine va_get (D := (dC, dI)) (ci := 8) (v := .ref rm) (C := RX6) (T := TX6) (N := 3) hx hb hts zi_X6_mixThings_X6 hown hK (zo_R hR0 hS hAr) 0 rfl rfl 0 (by decide) (hts (.fieldLink RX6 12 "LockRooms" "room" "LLockRooms$Room;") (by decide +kernel)) (fun _ h9 => h9) rfl dX6_mixThings_29 ?_
  refine lv_iload hx hb dX6_mixThings_32 (lv_at hl 2 rfl) ?_
  refine lv_iload hx hb dX6_mixThings_34 (lv_at hl 0 rfl) ?_
  have hPr := ((zo_R hR0 hS hAr)).sub (ws' := [(rm, .inr (5, [.ref lk, .ref th, .ref pl, .ref gm, .int 2, .int 10, .int 0, .int 0, .int 1, .int 0, .int 0, .int 0])), (th, .inl (cT, 12, .inr (.inr (.inr (.inr ft))))), (t2, .inr (7, [.int (-1), .int 0, .int 0, .int 0, .int 0])), (lk, .inl (cL, 10, .inr (.inr (.inr (.inr fl))))), (l0, .inr (3, [.int 0, .int 0, .int 60, .int 0, .int 0, .int 0, .int 0, .int 0, .int 0, .int 0])), (l1, .inr (3, [.int 0, .int 0, .int 60, .int 0, .int 0, .int 0, .int 0, .int 0, .int 0, .int 0]))]) [1, 3, 8, 2, 4, 5] rfl
  have hPc := hP.sub (ws' := []) [] rfl
  have hDc := hD.sub (ws' := []) [] (by decide) rfl
  have hKc := hK.sub (tys' := [(cT, .object "LockRooms$Thing"), (cL, .object "LockRooms$Lock")]) [1, 0] rfl
  have hFc := va_free (wc := []) hD hS hA [] rfl
  refine va_calli (va_runV (As := [.int 2, .int 5]) (rest := [.long (-7043978389415468959)]) ⟨hx, hb, hml, hown, hts⟩ (cz_QtellThing_2_5 l dC dI ed H67.size rm lk th pl gm cT ft t2 cL fl l0 l1 hkt2 hkl0 hkl1) (cwV 2 hts gX6_mixThings_X3_tellThing rfl rfl rfl (by decide +kernel) ⟨Nat.le_of_ble_eq_true rfl, Nat.le_of_ble_eq_true rfl⟩) ⟨zb_blind, va_recv hK (zo_R hR0 hS hAr) (ci := 5) (q0 := 1) rfl rfl, fun U hU hW => ⟨rfl, zb_mk hU hW hPr hPc hKc hDc hN hH hS hFc zx_e⟩⟩ rfl rfl hl.1 rfl (lv_room (Nat.le_of_ble_eq_true rfl)) dX6_mixThings_36 ⟨Nat.le_of_ble_eq_true rfl, Nat.le_of_ble_eq_true rfl⟩) hS (fun q _ h => hFc q h) hFc (fun r70 u t H69 locs ht hvm hw hB hz1 hk1 hS => ?_)
  obtain rfl : r70 = 0 := hw
  have hP := zo_K hP hk1
  have hPr := (zo_nil : va_P (dC, dI) vwCl [] H69)
  have hPc := hP.sub (ws' := []) [] rfl
  have hDc := hD.sub (ws' := []) [] (by decide) rfl
  have hKc := hK.sub (tys' := []) [] rfl
  have hFc := va_free (wc := []) hD hS hA [] rfl
  refine va_calll (va_runS (As := [.long (-7043978389415468959), .int 0]) (rest := []) ⟨hx, hb, hml, hown, hts⟩ (cz_X6_mix l dC dI ed H69.size (-7043978389415468959) 0) (va_cwS 2 hts gX6_mixThings_X6_mix rfl rfl rfl (by decide +kernel) ⟨Nat.le_of_ble_eq_true rfl, Nat.le_of_ble_eq_true rfl⟩) ⟨zb_blind, fun U hU hW => ⟨rfl, zb_mk hU hW hPr hPc hKc hDc hN hH hS hFc zx_e⟩⟩ rfl rfl hl.1 rfl (lv_room (Nat.le_of_ble_eq_true rfl)) dX6_mixThings_39 ⟨Nat.le_of_ble_eq_true rfl, Nat.le_of_ble_eq_true rfl⟩) hS (fun q _ h => hFc q h) hFc (fun r72 u t H71 locs ht hvm hw hB hz1 hk1 hS => ?_)
  obtain rfl : r72 = 2997598812635081663 := hw.trans (by decide +kernel)
  have hP := zo_K hP hk1
  refine lv_lstore_n (lv' := [(3, .long 2997598812635081663), (6, .int 5), (5, .int 2), (0, .ref x), (1, .long (-1160429273186388225))]) hx hb dX6_mixThings_42 rfl hl (by decide) rfl (fun ls hl => ?_)
  refine lv_iinc (v := 6) (lv' := [(6, .int 6), (3, .long 2997598812635081663), (5, .int 2), (0, .ref x), (1, .long (-1160429273186388225))]) hx hb dX6_mixThings_43 hl (k := 1) rfl (by decide) (by decide) rfl (fun ls hl => ?_)
  refine lv_goto (tgt := 20) hx hb dX6_mixThings_46 (by decide) ?_
  refine lv_iload hx hb dX6_mixThings_20 (lv_at hl 0 rfl) ?_
  refine lv_bipush (v := 6) hx hb dX6_mixThings_22 (by decide) ?_
  refine lv_icmp_ge (tgt := 49) hx hb dX6_mixThings_24 (by decide) (fun _ => ?_) (fun h => absurd h (by decide))
  refine lv_iinc (v := 3) (lv' := [(5, .int 3), (6, .int 6), (3, .long 2997598812635081663), (0, .ref x), (1, .long (-1160429273186388225))]) hx hb dX6_mixThings_49 hl (k := 2) rfl (by decide) (by decide) rfl (fun ls hl => ?_)
  refine lv_goto (tgt := 5) hx hb dX6_mixThings_52 (by decide) ?_
  refine lv_iload hx hb dX6_mixThings_5 (lv_at hl 0 rfl) ?_
  refine lv_aload_n hx hb dX6_mixThings_7 rfl (lv_at hl 3 rfl) ?_
  refine va_get (D := (dC, dI)) (ci := 8) (v := .ref rm) (C := RX6) (T := TX6) (N := 3) hx hb hts zi_X6_mixThings_X6 hown hK (zo_R hR0 hS hAr) 0 rfl rfl 0 (by decide) (hts (.fieldLink RX6 12 "LockRooms" "room" "LLockRooms$Room;") (by decide +kernel)) (fun _ h9 => h9) rfl dX6_mixThings_8 ?_
  refine va_get (D := (dC, dI)) (ci := 5) (v := .int 10) (C := RX3) (T := TX3) (N := 12) hx hb hts zi_X6_mixThings_X3 hown hK (zo_R hR0 hS hAr) 1 rfl rfl 5 (by decide) (hts (.fieldLink RX6 71 "LockRooms$Room" "thingCount" "I") (by decide +kernel)) (fun _ h9 => h9) rfl dX6_mixThings_11 ?_
  refine lv_icmp_ge (tgt := 55) hx hb dX6_mixThings_14 (by decide) (fun h => absurd h (by decide)) (fun _ => ?_)
  refine lv_iconst (v := 0) hx hb dX6_mixThings_17 (by decide) ?_
  refine lv_istore (lv' := [(6, .int 0), (5, .int 3), (3, .long 2997598812635081663), (0, .ref x), (1, .long (-1160429273186388225))]) hx hb dX6_mixThings_18 hl (by decide) rfl (fun ls hl => ?_)
  refine lv_iload hx hb dX6_mixThings_20 (lv_at hl 0 rfl) ?_
  refine lv_bipush (v := 6) hx hb dX6_mixThings_22 (by decide) ?_
  refine lv_icmp_ge (tgt := 49) hx hb dX6_mixThings_24 (by decide) (fun h => absurd h (by decide)) (fun _ => ?_)
  refine lv_lload_n hx hb dX6_mixThings_27 rfl (lv_at hl 2 rfl) ?_
  refine lv_aload_n hx hb dX6_mixThings_28 rfl (lv_at hl 3 rfl) ?_
  refine va_get (D := (dC, dI)) (ci := 8) (v := .ref rm) (C := RX6) (T := TX6) (N := 3) hx hb hts zi_X6_mixThings_X6 hown hK (zo_R hR0 hS hAr) 0 rfl rfl 0 (by decide) (hts (.fieldLink RX6 12 "LockRooms" "room" "LLockRooms$Room;") (by decide +kernel)) (fun _ h9 => h9) rfl dX6_mixThings_29 ?_
  refine lv_iload hx hb dX6_mixThings_32 (lv_at hl 1 rfl) ?_
  refine lv_iload hx hb dX6_mixThings_34 (lv_at hl 0 rfl) ?_
  have hPr := ((zo_R hR0 hS hAr)).sub (ws' := [(rm, .inr (5, [.ref lk, .ref th, .ref pl, .ref gm, .int 2, .int 10, .int 0, .int 0, .int 1, .int 0, .int 0, .int 0])), (th, .inl (cT, 12, .inr (.inr (.inr (.inr ft))))), (t3, .inr (7, [.int (-1), .int 0, .int 0, .int 0, .int 0]))]) [1, 3, 9] rfl
  have hPc := hP.sub (ws' := []) [] rfl
  have hDc := hD.sub (ws' := []) [] (by decide) rfl
  have hKc := hK.sub (tys' := [(cT, .object "LockRooms$Thing")]) [1] rfl
  have hFc := va_free (wc := []) hD hS hA [] rfl
  refine va_calli (va_runV (As := [.int 3, .int 0]) (rest := [.long 2997598812635081663]) ⟨hx, hb, hml, hown, hts⟩ (cz_QtellThing_3_0 l dC dI ed H71.size rm lk th pl gm cT ft t3 hkt3) (cwV 2 hts gX6_mixThings_X3_tellThing rfl rfl rfl (by decide +kernel) ⟨Nat.le_of_ble_eq_true rfl, Nat.le_of_ble_eq_true rfl⟩) ⟨zb_blind, va_recv hK (zo_R hR0 hS hAr) (ci := 5) (q0 := 1) rfl rfl, fun U hU hW => ⟨rfl, zb_mk hU hW hPr hPc hKc hDc hN hH hS hFc zx_e⟩⟩ rfl rfl hl.1 rfl (lv_room (Nat.le_of_ble_eq_true rfl)) dX6_mixThings_36 ⟨Nat.le_of_ble_eq_true rfl, Nat.le_of_ble_eq_true rfl⟩) hS (fun q _ h => hFc q h) hFc (fun r74 u t H73 locs ht hvm hw hB hz1 hk1 hS => ?_)
  obtain rfl : r74 = (-1) := hw
  have hP := zo_K hP hk1
  have hPr := (zo_nil : va_P (dC, dI) vwCl [] H73)
  have hPc := hP.sub (ws' := []) [] rfl
  have hDc := hD.sub (ws' := []) [] (by decide) rfl
  have hKc := hK.sub (tys' := []) [] rfl
  have hFc := va_free (wc := []) hD hS hA [] rfl
  refine va_calll (va_runS (As := [.long 2997598812635081663, .int (-1)]) (rest := []) ⟨hx, hb, hml, hown, hts⟩ (cz_X6_mix l dC dI ed H73.size 2997598812635081663 (-1)) (va_cwS 2 hts gX6_mixThings_X6_mix rfl rfl rfl (by decide +kernel) ⟨Nat.le_of_ble_eq_true rfl, Nat.le_of_ble_eq_true rfl⟩) ⟨zb_blind, fun U hU hW => ⟨rfl, zb_mk hU hW hPr hPc hKc hDc hN hH hS hFc zx_e⟩⟩ rfl rfl hl.1 rfl (lv_room (Nat.le_of_ble_eq_true rfl)) dX6_mixThings_39 ⟨Nat.le_of_ble_eq_true rfl, Nat.le_of_ble_eq_true rfl⟩) hS (fun q _ h => hFc q h) hFc (fun r76 u t H75 locs ht hvm hw hB hz1 hk1 hS => ?_)
  obtain rfl : r76 = 691842823139773472 := hw.trans (by decide +kernel)
  have hP := zo_K hP hk1
  refine lv_lstore_n (lv' := [(3, .long 691842823139773472), (6, .int 0), (5, .int 3), (0, .ref x), (1, .long (-1160429273186388225))]) hx hb dX6_mixThings_42 rfl hl (by decide) rfl (fun ls hl => ?_)
  refine lv_iinc (v := 1) (lv' := [(6, .int 1), (3, .long 691842823139773472), (5, .int 3), (0, .ref x), (1, .long (-1160429273186388225))]) hx hb dX6_mixThings_43 hl (k := 1) rfl (by decide) (by decide) rfl (fun ls hl => ?_)
  refine lv_goto (tgt := 20) hx hb dX6_mixThings_46 (by decide) ?_
  refine lv_iload hx hb dX6_mixThings_20 (lv_at hl 0 rfl) ?_
  refine lv_bipush (v := 6) hx hb dX6_mixThings_22 (by decide) ?_
  refine lv_icmp_ge (tgt := 49) hx hb dX6_mixThings_24 (by decide) (fun h => absurd h (by decide)) (fun _ => ?_)
  refine lv_lload_n hx hb dX6_mixThings_27 rfl (lv_at hl 1 rfl) ?_
  refine lv_aload_n hx hb dX6_mixThings_28 rfl (lv_at hl 3 rfl) ?_
  refine va_get (D := (dC, dI)) (ci := 8) (v := .ref rm) (C := RX6) (T := TX6) (N := 3) hx hb hts zi_X6_mixThings_X6 hown hK (zo_R hR0 hS hAr) 0 rfl rfl 0 (by decide) (hts (.fieldLink RX6 12 "LockRooms" "room" "LLockRooms$Room;") (by decide +kernel)) (fun _ h9 => h9) rfl dX6_mixThings_29 ?_
  refine lv_iload hx hb dX6_mixThings_32 (lv_at hl 2 rfl) ?_
  refine lv_iload hx hb dX6_mixThings_34 (lv_at hl 0 rfl) ?_
  have hPr := ((zo_R hR0 hS hAr)).sub (ws' := [(rm, .inr (5, [.ref lk, .ref th, .ref pl, .ref gm, .int 2, .int 10, .int 0, .int 0, .int 1, .int 0, .int 0, .int 0])), (th, .inl (cT, 12, .inr (.inr (.inr (.inr ft))))), (t3, .inr (7, [.int (-1), .int 0, .int 0, .int 0, .int 0]))]) [1, 3, 9] rfl
  have hPc := hP.sub (ws' := []) [] rfl
  have hDc := hD.sub (ws' := []) [] (by decide) rfl
  have hKc := hK.sub (tys' := [(cT, .object "LockRooms$Thing")]) [1] rfl
  have hFc := va_free (wc := []) hD hS hA [] rfl
  refine va_calli (va_runV (As := [.int 3, .int 1]) (rest := [.long 691842823139773472]) ⟨hx, hb, hml, hown, hts⟩ (cz_QtellThing_3_1 l dC dI ed H75.size rm lk th pl gm cT ft t3 hkt3) (cwV 2 hts gX6_mixThings_X3_tellThing rfl rfl rfl (by decide +kernel) ⟨Nat.le_of_ble_eq_true rfl, Nat.le_of_ble_eq_true rfl⟩) ⟨zb_blind, va_recv hK (zo_R hR0 hS hAr) (ci := 5) (q0 := 1) rfl rfl, fun U hU hW => ⟨rfl, zb_mk hU hW hPr hPc hKc hDc hN hH hS hFc zx_e⟩⟩ rfl rfl hl.1 rfl (lv_room (Nat.le_of_ble_eq_true rfl)) dX6_mixThings_36 ⟨Nat.le_of_ble_eq_true rfl, Nat.le_of_ble_eq_true rfl⟩) hS (fun q _ h => hFc q h) hFc (fun r78 u t H77 locs ht hvm hw hB hz1 hk1 hS => ?_)
  obtain rfl : r78 = 0 := hw
  have hP := zo_K hP hk1
  have hPr := (zo_nil : va_P (dC, dI) vwCl [] H77)
  have hPc := hP.sub (ws' := []) [] rfl
  have hDc := hD.sub (ws' := []) [] (by decide) rfl
  have hKc := hK.sub (tys' := []) [] rfl
  have hFc := va_free (wc := []) hD hS hA [] rfl
  refine va_calll (va_runS (As := [.long 691842823139773472, .int 0]) (rest := []) ⟨hx, hb, hml, hown, hts⟩ (cz_X6_mix l dC dI ed H77.size 691842823139773472 0) (va_cwS 2 hts gX6_mixThings_X6_mix rfl rfl rfl (by decide +kernel) ⟨Nat.le_of_ble_eq_true rfl, Nat.le_of_ble_eq_true rfl⟩) ⟨zb_blind, fun U hU hW => ⟨rfl, zb_mk hU hW hPr hPc hKc hDc hN hH hS hFc zx_e⟩⟩ rfl rfl hl.1 rfl (lv_room (Nat.le_of_ble_eq_true rfl)) dX6_mixThings_39 ⟨Nat.le_of_ble_eq_true rfl, Nat.le_of_ble_eq_true rfl⟩) hS (fun q _ h => hFc q h) hFc (fun r80 u t H79 locs ht hvm hw hB hz1 hk1 hS => ?_)
  obtain rfl : r80 = 3000383443623426016 := hw.trans (by decide +kernel)
  have hP := zo_K hP hk1
  refine lv_lstore_n (lv' := [(3, .long 3000383443623426016), (6, .int 1), (5, .int 3), (0, .ref x), (1, .long (-1160429273186388225))]) hx hb dX6_mixThings_42 rfl hl (by decide) rfl (fun ls hl => ?_)
  refine lv_iinc (v := 2) (lv' := [(6, .int 2), (3, .long 3000383443623426016), (5, .int 3), (0, .ref x), (1, .long (-1160429273186388225))]) hx hb dX6_mixThings_43 hl (k := 1) rfl (by decide) (by decide) rfl (fun ls hl => ?_)
  refine lv_goto (tgt := 20) hx hb dX6_mixThings_46 (by decide) ?_
  refine lv_iload hx hb dX6_mixThings_20 (lv_at hl 0 rfl) ?_
  refine lv_bipush (v := 6) hx hb dX6_mixThings_22 (by decide) ?_
  refine lv_icmp_ge (tgt := 49) hx hb dX6_mixThings_24 (by decide) (fun h => absurd h (by decide)) (fun _ => ?_)
  refine lv_lload_n hx hb dX6_mixThings_27 rfl (lv_at hl 1 rfl) ?_
  refine lv_aload_n hx hb dX6_mixThings_28 rfl (lv_at hl 3 rfl) ?_
  refine va_get (D := (dC, dI)) (ci := 8) (v := .ref rm) (C := RX6) (T := TX6) (N := 3) hx hb hts zi_X6_mixThings_X6 hown hK (zo_R hR0 hS hAr) 0 rfl rfl 0 (by decide) (hts (.fieldLink RX6 12 "LockRooms" "room" "LLockRooms$Room;") (by decide +kernel)) (fun _ h9 => h9) rfl dX6_mixThings_29 ?_
  refine lv_iload hx hb dX6_mixThings_32 (lv_at hl 2 rfl) ?_
  refine lv_iload hx hb dX6_mixThings_34 (lv_at hl 0 rfl) ?_
  have hPr := ((zo_R hR0 hS hAr)).sub (ws' := [(rm, .inr (5, [.ref lk, .ref th, .ref pl, .ref gm, .int 2, .int 10, .int 0, .int 0, .int 1, .int 0, .int 0, .int 0])), (th, .inl (cT, 12, .inr (.inr (.inr (.inr ft))))), (t3, .inr (7, [.int (-1), .int 0, .int 0, .int 0, .int 0]))]) [1, 3, 9] rfl
  have hPc := hP.sub (ws' := []) [] rfl
  have hDc := hD.sub (ws' := []) [] (by decide) rfl
  have hKc := hK.sub (tys' := [(cT, .object "LockRooms$Thing")]) [1] rfl
  have hFc := va_free (wc := []) hD hS hA [] rfl
  refine va_calli (va_runV (As := [.int 3, .int 2]) (rest := [.long 3000383443623426016]) ⟨hx, hb, hml, hown, hts⟩ (cz_QtellThing_3_2 l dC dI ed H79.size rm lk th pl gm cT ft t3 hkt3) (cwV 2 hts gX6_mixThings_X3_tellThing rfl rfl rfl (by decide +kernel) ⟨Nat.le_of_ble_eq_true rfl, Nat.le_of_ble_eq_true rfl⟩) ⟨zb_blind, va_recv hK (zo_R hR0 hS hAr) (ci := 5) (q0 := 1) rfl rfl, fun U hU hW => ⟨rfl, zb_mk hU hW hPr hPc hKc hDc hN hH hS hFc zx_e⟩⟩ rfl rfl hl.1 rfl (lv_room (Nat.le_of_ble_eq_true rfl)) dX6_mixThings_36 ⟨Nat.le_of_ble_eq_true rfl, Nat.le_of_ble_eq_true rfl⟩) hS (fun q _ h => hFc q h) hFc (fun r82 u t H81 locs ht hvm hw hB hz1 hk1 hS => ?_)
  obtain rfl : r82 = 0 := hw
  have hP := zo_K hP hk1
  have hPr := (zo_nil : va_P (dC, dI) vwCl [] H81)
  have hPc := hP.sub (ws' := []) [] rfl
  have hDc := hD.sub (ws' := []) [] (by decide) rfl
  have hKc := hK.sub (tys' := []) [] rfl
  have hFc := va_free (wc := []) hD hS hA [] rfl
  refine va_calll (va_runS (As := [.long 3000383443623426016, .int 0]) (rest := []) ⟨hx, hb, hml, hown, hts⟩ (cz_X6_mix l dC dI ed H81.size 3000383443623426016 0) (va_cwS 2 hts gX6_mixThings_X6_mix rfl rfl rfl (by decide +kernel) ⟨Nat.le_of_ble_eq_true rfl, Nat.le_of_ble_eq_true rfl⟩) ⟨zb_blind, fun U hU hW => ⟨rfl, zb_mk hU hW hPr hPc hKc hDc hN hH hS hFc zx_e⟩⟩ rfl rfl hl.1 rfl (lv_room (Nat.le_of_ble_eq_true rfl)) dX6_mixThings_39 ⟨Nat.le_of_ble_eq_true rfl, Nat.le_of_ble_eq_true rfl⟩) hS (fun q _ h => hFc q h) hFc (fun r84 u t H83 locs ht hvm hw hB hz1 hk1 hS => ?_)
  obtain rfl : r84 = 778166383778448416 := hw.trans (by decide +kernel)
  have hP := zo_K hP hk1
  refine lv_lstore_n (lv' := [(3, .long 778166383778448416), (6, .int 2), (5, .int 3), (0, .ref x), (1, .long (-1160429273186388225))]) hx hb dX6_mixThings_42 rfl hl (by decide) rfl (fun ls hl => ?_)
  refine lv_iinc (v := 3) (lv' := [(6, .int 3), (3, .long 778166383778448416), (5, .int 3), (0, .ref x), (1, .long (-1160429273186388225))]) hx hb dX6_mixThings_43 hl (k := 1) rfl (by decide) (by decide) rfl (fun ls hl => ?_)
  refine lv_goto (tgt := 20) hx hb dX6_mixThings_46 (by decide) ?_
  refine lv_iload hx hb dX6_mixThings_20 (lv_at hl 0 rfl) ?_
  refine lv_bipush (v := 6) hx hb dX6_mixThings_22 (by decide) ?_
  refine lv_icmp_ge (tgt := 49) hx hb dX6_mixThings_24 (by decide) (fun h => absurd h (by decide)) (fun _ => ?_)
  refine lv_lload_n hx hb dX6_mixThings_27 rfl (lv_at hl 1 rfl) ?_
  refine lv_aload_n hx hb dX6_mixThings_28 rfl (lv_at hl 3 rfl) ?_
  refine va_get (D := (dC, dI)) (ci := 8) (v := .ref rm) (C := RX6) (T := TX6) (N := 3) hx hb hts zi_X6_mixThings_X6 hown hK (zo_R hR0 hS hAr) 0 rfl rfl 0 (by decide) (hts (.fieldLink RX6 12 "LockRooms" "room" "LLockRooms$Room;") (by decide +kernel)) (fun _ h9 => h9) rfl dX6_mixThings_29 ?_
  refine lv_iload hx hb dX6_mixThings_32 (lv_at hl 2 rfl) ?_
  refine lv_iload hx hb dX6_mixThings_34 (lv_at hl 0 rfl) ?_
  have hPr := ((zo_R hR0 hS hAr)).sub (ws' := [(rm, .inr (5, [.ref lk, .ref th, .ref pl, .ref gm, .int 2, .int 10, .int 0, .int 0, .int 1, .int 0, .int 0, .int 0])), (th, .inl (cT, 12, .inr (.inr (.inr (.inr ft))))), (t3, .inr (7, [.int (-1), .int 0, .int 0, .int 0, .int 0]))]) [1, 3, 9] rfl
  have hPc := hP.sub (ws' := []) [] rfl
  have hDc := hD.sub (ws' := []) [] (by decide) rfl
  have hKc := hK.sub (tys' := [(cT, .object "LockRooms$Thing")]) [1] rfl
  have hFc := va_free (wc := []) hD hS hA [] rfl
  refine va_calli (va_runV (As := [.int 3, .int 3]) (rest := [.long 778166383778448416]) ⟨hx, hb, hml, hown, hts⟩ (cz_QtellThing_3_3 l dC dI ed H83.size rm lk th pl gm cT ft t3 hkt3) (cwV 2 hts gX6_mixThings_X3_tellThing rfl rfl rfl (by decide +kernel) ⟨Nat.le_of_ble_eq_true rfl, Nat.le_of_ble_eq_true rfl⟩) ⟨zb_blind, va_recv hK (zo_R hR0 hS hAr) (ci := 5) (q0 := 1) rfl rfl, fun U hU hW => ⟨rfl, zb_mk hU hW hPr hPc hKc hDc hN hH hS hFc zx_e⟩⟩ rfl rfl hl.1 rfl (lv_room (Nat.le_of_ble_eq_true rfl)) dX6_mixThings_36 ⟨Nat.le_of_ble_eq_true rfl, Nat.le_of_ble_eq_true rfl⟩) hS (fun q _ h => hFc q h) hFc (fun r86 u t H85 locs ht hvm hw hB hz1 hk1 hS => ?_)
  obtain rfl : r86 = 0 := hw
  have hP := zo_K hP hk1
  have hPr := (zo_nil : va_P (dC, dI) vwCl [] H85)
  have hPc := hP.sub (ws' := []) [] rfl
  have hDc := hD.sub (ws' := []) [] (by decide) rfl
  have hKc := hK.sub (tys' := []) [] rfl
  have hFc := va_free (wc := []) hD hS hA [] rfl
  refine va_calll (va_runS (As := [.long 778166383778448416, .int 0]) (rest := []) ⟨hx, hb, hml, hown, hts⟩ (cz_X6_mix l dC dI ed H85.size 778166383778448416 0) (va_cwS 2 hts gX6_mixThings_X6_mix rfl rfl rfl (by decide +kernel) ⟨Nat.le_of_ble_eq_true rfl, Nat.le_of_ble_eq_true rfl⟩) ⟨zb_blind, fun U hU hW => ⟨rfl, zb_mk hU hW hPr hPc hKc hDc hN hH hS hFc zx_e⟩⟩ rfl rfl hl.1 rfl (lv_room (Nat.le_of_ble_eq_true rfl)) dX6_mixThings_39 ⟨Nat.le_of_ble_eq_true rfl, Nat.le_of_ble_eq_true rfl⟩) hS (fun q _ h => hFc q h) hFc (fun r88 u t H87 locs ht hvm hw hB hz1 hk1 hS => ?_)
  obtain rfl : r88 = 5676413823422349280 := hw.trans (by decide +kernel)
  have hP := zo_K hP hk1
  refine lv_lstore_n (lv' := [(3, .long 5676413823422349280), (6, .int 3), (5, .int 3), (0, .ref x), (1, .long (-1160429273186388225))]) hx hb dX6_mixThings_42 rfl hl (by decide) rfl (fun ls hl => ?_)
  refine lv_iinc (v := 4) (lv' := [(6, .int 4), (3, .long 5676413823422349280), (5, .int 3), (0, .ref x), (1, .long (-1160429273186388225))]) hx hb dX6_mixThings_43 hl (k := 1) rfl (by decide) (by decide) rfl (fun ls hl => ?_)
  refine lv_goto (tgt := 20) hx hb dX6_mixThings_46 (by decide) ?_
  refine lv_iload hx hb dX6_mixThings_20 (lv_at hl 0 rfl) ?_
  refine lv_bipush (v := 6) hx hb dX6_mixThings_22 (by decide) ?_
  refine lv_icmp_ge (tgt := 49) hx hb dX6_mixThings_24 (by decide) (fun h => absurd h (by decide)) (fun _ => ?_)
  refine lv_lload_n hx hb dX6_mixThings_27 rfl (lv_at hl 1 rfl) ?_
  refine lv_aload_n hx hb dX6_mixThings_28 rfl (lv_at hl 3 rfl) ?_
  refine va_get (D := (dC, dI)) (ci := 8) (v := .ref rm) (C := RX6) (T := TX6) (N := 3) hx hb hts zi_X6_mixThings_X6 hown hK (zo_R hR0 hS hAr) 0 rfl rfl 0 (by decide) (hts (.fieldLink RX6 12 "LockRooms" "room" "LLockRooms$Room;") (by decide +kernel)) (fun _ h9 => h9) rfl dX6_mixThings_29 ?_
  refine lv_iload hx hb dX6_mixThings_32 (lv_at hl 2 rfl) ?_
  refine lv_iload hx hb dX6_mixThings_34 (lv_at hl 0 rfl) ?_
  have hPr := ((zo_R hR0 hS hAr)).sub (ws' := [(rm, .inr (5, [.ref lk, .ref th, .ref pl, .ref gm, .int 2, .int 10, .int 0, .int 0, .int 1, .int 0, .int 0, .int 0])), (th, .inl (cT, 12, .inr (.inr (.inr (.inr ft))))), (t3, .inr (7, [.int (-1), .int 0, .int 0, .int 0, .int 0])), (lk, .inl (cL, 10, .inr (.inr (.inr (.inr fl))))), (l0, .inr (3, [.int 0, .int 0, .int 60, .int 0, .int 0, .int 0, .int 0, .int 0, .int 0, .int 0])), (l1, .inr (3, [.int 0, .int 0, .int 60, .int 0, .int 0, .int 0, .int 0, .int 0, .int 0, .int 0]))]) [1, 3, 9, 2, 4, 5] rfl
  have hPc := hP.sub (ws' := []) [] rfl
  have hDc := hD.sub (ws' := []) [] (by decide) rfl
  have hKc := hK.sub (tys' := [(cT, .object "LockRooms$Thing"), (cL, .object "LockRooms$Lock")]) [1, 0] rfl
  have hFc := va_free (wc := []) hD hS hA [] rfl
  refine va_calli (va_runV (As := [.int 3, .int 4]) (rest := [.long 5676413823422349280]) ⟨hx, hb, hml, hown, hts⟩ (cz_QtellThing_3_4 l dC dI ed H87.size rm lk th pl gm cT ft t3 cL fl l0 l1 hkt3 hkl0 hkl1) (cwV 2 hts gX6_mixThings_X3_tellThing rfl rfl rfl (by decide +kernel) ⟨Nat.le_of_ble_eq_true rfl, Nat.le_of_ble_eq_true rfl⟩) ⟨zb_blind, va_recv hK (zo_R hR0 hS hAr) (ci := 5) (q0 := 1) rfl rfl, fun U hU hW => ⟨rfl, zb_mk hU hW hPr hPc hKc hDc hN hH hS hFc zx_e⟩⟩ rfl rfl hl.1 rfl (lv_room (Nat.le_of_ble_eq_true rfl)) dX6_mixThings_36 ⟨Nat.le_of_ble_eq_true rfl, Nat.le_of_ble_eq_true rfl⟩) hS (fun q _ h => hFc q h) hFc (fun r90 u t H89 locs ht hvm hw hB hz1 hk1 hS => ?_)
  obtain rfl : r90 = 1 := hw
  have hP := zo_K hP hk1
  have hPr := (zo_nil : va_P (dC, dI) vwCl [] H89)
  have hPc := hP.sub (ws' := []) [] rfl
  have hDc := hD.sub (ws' := []) [] (by decide) rfl
  have hKc := hK.sub (tys' := []) [] rfl
  have hFc := va_free (wc := []) hD hS hA [] rfl
  refine va_calll (va_runS (As := [.long 5676413823422349280, .int 1]) (rest := []) ⟨hx, hb, hml, hown, hts⟩ (cz_X6_mix l dC dI ed H89.size 5676413823422349280 1) (va_cwS 2 hts gX6_mixThings_X6_mix rfl rfl rfl (by decide +kernel) ⟨Nat.le_of_ble_eq_true rfl, Nat.le_of_ble_eq_true rfl⟩) ⟨zb_blind, fun U hU hW => ⟨rfl, zb_mk hU hW hPr hPc hKc hDc hN hH hS hFc zx_e⟩⟩ rfl rfl hl.1 rfl (lv_room (Nat.le_of_ble_eq_true rfl)) dX6_mixThings_39 ⟨Nat.le_of_ble_eq_true rfl, Nat.le_of_ble_eq_true rfl⟩) hS (fun q _ h => hFc q h) hFc (fun r92 u t H91 locs ht hvm hw hB hz1 hk1 hS => ?_)
  obtain rfl : r92 = (-8498612211002688479) := hw.trans (by decide +kernel)
  have hP := zo_K hP hk1
  refine lv_lstore_n (lv' := [(3, .long (-8498612211002688479)), (6, .int 4), (5, .int 3), (0, .ref x), (1, .long (-1160429273186388225))]) hx hb dX6_mixThings_42 rfl hl (by decide) rfl (fun ls hl => ?_)
  refine lv_iinc (v := 5) (lv' := [(6, .int 5), (3, .long (-8498612211002688479)), (5, .int 3), (0, .ref x), (1, .long (-1160429273186388225))]) hx hb dX6_mixThings_43 hl (k := 1) rfl (by decide) (by decide) rfl (fun ls hl => ?_)
  refine lv_goto (tgt := 20) hx hb dX6_mixThings_46 (by decide) ?_
  refine lv_iload hx hb dX6_mixThings_20 (lv_at hl 0 rfl) ?_
  refine lv_bipush (v := 6) hx hb dX6_mixThings_22 (by decide) ?_
  refine lv_icmp_ge (tgt := 49) hx hb dX6_mixThings_24 (by decide) (fun h => absurd h (by decide)) (fun _ => ?_)
  refine lv_lload_n hx hb dX6_mixThings_27 rfl (lv_at hl 1 rfl) ?_
  refine lv_aload_n hx hb dX6_mixThings_28 rfl (lv_at hl 3 rfl) ?_
  refine va_get (D := (dC, dI)) (ci := 8) (v := .ref rm) (C := RX6) (T := TX6) (N := 3) hx hb hts zi_X6_mixThings_X6 hown hK (zo_R hR0 hS hAr) 0 rfl rfl 0 (by decide) (hts (.fieldLink RX6 12 "LockRooms" "room" "LLockRooms$Room;") (by decide +kernel)) (fun _ h9 => h9) rfl dX6_mixThings_29 ?_
  refine lv_iload hx hb dX6_mixThings_32 (lv_at hl 2 rfl) ?_
  refine lv_iload hx hb dX6_mixThings_34 (lv_at hl 0 rfl) ?_
  have hPr := ((zo_R hR0 hS hAr)).sub (ws' := [(rm, .inr (5, [.ref lk, .ref th, .ref pl, .ref gm, .int 2, .int 10, .int 0, .int 0, .int 1, .int 0, .int 0, .int 0])), (th, .inl (cT, 12, .inr (.inr (.inr (.inr ft))))), (t3, .inr (7, [.int (-1), .int 0, .int 0, .int 0, .int 0])), (lk, .inl (cL, 10, .inr (.inr (.inr (.inr fl))))), (l0, .inr (3, [.int 0, .int 0, .int 60, .int 0, .int 0, .int 0, .int 0, .int 0, .int 0, .int 0])), (l1, .inr (3, [.int 0, .int 0, .int 60, .int 0, .int 0, .int 0, .int 0, .int 0, .int 0, .int 0]))]) [1, 3, 9, 2, 4, 5] rfl
  have hPc := hP.sub (ws' := []) [] rfl
  have hDc := hD.sub (ws' := []) [] (by decide) rfl
  have hKc := hK.sub (tys' := [(cT, .object "LockRooms$Thing"), (cL, .object "LockRooms$Lock")]) [1, 0] rfl
  have hFc := va_free (wc := []) hD hS hA [] rfl
  refine va_calli (va_runV (As := [.int 3, .int 5]) (rest := [.long (-8498612211002688479)]) ⟨hx, hb, hml, hown, hts⟩ (cz_QtellThing_3_5 l dC dI ed H91.size rm lk th pl gm cT ft t3 cL fl l0 l1 hkt3 hkl0 hkl1) (cwV 2 hts gX6_mixThings_X3_tellThing rfl rfl rfl (by decide +kernel) ⟨Nat.le_of_ble_eq_true rfl, Nat.le_of_ble_eq_true rfl⟩) ⟨zb_blind, va_recv hK (zo_R hR0 hS hAr) (ci := 5) (q0 := 1) rfl rfl, fun U hU hW => ⟨rfl, zb_mk hU hW hPr hPc hKc hDc hN hH hS hFc zx_e⟩⟩ rfl rfl hl.1 rfl (lv_room (Nat.le_of_ble_eq_true rfl)) dX6_mixThings_36 ⟨Nat.le_of_ble_eq_true rfl, Nat.le_of_ble_eq_true rfl⟩) hS (fun q _ h => hFc q h) hFc (fun r94 u t H93 locs ht hvm hw hB hz1 hk1 hS => ?_)
  obtain rfl : r94 = 0 := hw
  have hP := zo_K hP hk1
  have hPr := (zo_nil : va_P (dC, dI) vwCl [] H93)
  have hPc := hP.sub (ws' := []) [] rfl
  have hDc := hD.sub (ws' := []) [] (by decide) rfl
  have hKc := hK.sub (tys' := []) [] rfl
  have hFc := va_free (wc := []) hD hS hA [] rfl
  refine va_calll (va_runS (As := [.long (-8498612211002688479), .int 0]) (rest := []) ⟨hx, hb, hml, hown, hts⟩ (cz_X6_mix l dC dI ed H93.size (-8498612211002688479) 0) (va_cwS 2 hts gX6_mixThings_X6_mix rfl rfl rfl (by decide +kernel) ⟨Nat.le_of_ble_eq_true rfl, Nat.le_of_ble_eq_true rfl⟩) ⟨zb_blind, fun U hU hW => ⟨rfl, zb_mk hU hW hPr hPc hKc hDc hN hH hS hFc zx_e⟩⟩ rfl rfl hl.1 rfl (lv_room (Nat.le_of_ble_eq_true rfl)) dX6_mixThings_39 ⟨Nat.le_of_ble_eq_true rfl, Nat.le_of_ble_eq_true rfl⟩) hS (fun q _ h => hFc q h) hFc (fun r96 u t H95 locs ht hvm hw hB hz1 hk1 hS => ?_)
  obtain rfl : r96 = (-5202561509149620225) := hw.trans (by decide +kernel)
  have hP := zo_K hP hk1
  refine lv_lstore_n (lv' := [(3, .long (-5202561509149620225)), (6, .int 5), (5, .int 3), (0, .ref x), (1, .long (-1160429273186388225))]) hx hb dX6_mixThings_42 rfl hl (by decide) rfl (fun ls hl => ?_)
  refine lv_iinc (v := 6) (lv' := [(6, .int 6), (3, .long (-5202561509149620225)), (5, .int 3), (0, .ref x), (1, .long (-1160429273186388225))]) hx hb dX6_mixThings_43 hl (k := 1) rfl (by decide) (by decide) rfl (fun ls hl => ?_)
  refine lv_goto (tgt := 20) hx hb dX6_mixThings_46 (by decide) ?_
  refine lv_iload hx hb dX6_mixThings_20 (lv_at hl 0 rfl) ?_
  refine lv_bipush (v := 6) hx hb dX6_mixThings_22 (by decide) ?_
  refine lv_icmp_ge (tgt := 49) hx hb dX6_mixThings_24 (by decide) (fun _ => ?_) (fun h => absurd h (by decide))
  refine lv_iinc (v := 4) (lv' := [(5, .int 4), (6, .int 6), (3, .long (-5202561509149620225)), (0, .ref x), (1, .long (-1160429273186388225))]) hx hb dX6_mixThings_49 hl (k := 2) rfl (by decide) (by decide) rfl (fun ls hl => ?_)
  refine lv_goto (tgt := 5) hx hb dX6_mixThings_52 (by decide) ?_
  exact cs_QmixThings_2 l dC dI ed x rm tr st lk th pl gm cL fl l0 l1 cT ft t0 t1 t2 t3 t4 t5 t6 t7 t8 t9 hkl0 hkl1 hkt0 hkt1 hkt2 hkt3 hkt4 hkt5 hkt6 hkt7 hkt8 hkt9 hx hb hr hml hown hlocks hts hR0 hN hA hAr hH hAe hK hP hD hS hl

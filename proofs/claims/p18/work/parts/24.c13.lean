set_option maxHeartbeats 4000000 in
set_option maxRecDepth 100000 in
theorem cz_QmixThings (l : Launch) (dC : Nat → ClassId) (dI : Nat → Nat → Nat) (ed sz : Nat) (x : Nat) (rm : Nat) (tr : Nat) (st : Nat) (lk : Nat) (th : Nat) (pl : Nat) (gm : Nat) (cL : ClassId) (fl : Nat → Option Nat) (l0 : Nat) (l1 : Nat) (cT : ClassId) (ft : Nat → Option Nat) (t0 : Nat) (t1 : Nat) (t2 : Nat) (t3 : Nat) (t4 : Nat) (t5 : Nat) (t6 : Nat) (t7 : Nat) (t8 : Nat) (t9 : Nat) (hkl0 : fl 0 = some l0) (hkl1 : fl 1 = some l1) (hkt0 : ft 0 = some t0) (hkt1 : ft 1 = some t1) (hkt2 : ft 2 = some t2) (hkt3 : ft 3 = some t3) (hkt4 : ft 4 = some t4) (hkt5 : ft 5 = some t5) (hkt6 : ft 6 = some t6) (hkt7 : ft 7 = some t7) (hkt8 : ft 8 = some t8) (hkt9 : ft 9 = some t9) : Met l yX6_mixThings wsX6_mixThings ({ frames := 3, cells := 0, slots := 0, locals := 67 } : Jvm.Room) (va_Pc [.ref x, .long (-1160429273186388225)] (zB dC dI ed sz [(x, .inr (8, [.ref rm, .ref tr, .ref st])), (rm, .inr (5, [.ref lk, .ref th, .ref pl, .ref gm, .int 2, .int 10, .int 0, .int 0, .int 1, .int 0, .int 0, .int 0])), (lk, .inl (cL, 10, .inr (.inr (.inr (.inr fl))))), (th, .inl (cT, 12, .inr (.inr (.inr (.inr ft))))), (l0, .inr (3, [.int 0, .int 0, .int 60, .int 0, .int 0, .int 0, .int 0, .int 0, .int 0, .int 0])), (l1, .inr (3, [.int 0, .int 0, .int 60, .int 0, .int 0, .int 0, .int 0, .int 0, .int 0, .int 0])), (t0, .inr (7, [.int (-1), .int 0, .int 0, .int 0, .int 0])), (t1, .inr (7, [.int (-1), .int 0, .int 0, .int 0, .int 0])), (t2, .inr (7, [.int (-1), .int 0, .int 0, .int 0, .int 0])), (t3, .inr (7, [.int (-1), .int 0, .int 0, .int 0, .int 0])), (t4, .inr (7, [.int (-1), .int 0, .int 0, .int 0, .int 0])), (t5, .inr (7, [.int (-1), .int 0, .int 0, .int 0, .int 0])), (t6, .inr (7, [.int (-1), .int 0, .int 0, .int 0, .int 0])), (t7, .inr (7, [.int (-1), .int 0, .int 0, .int 0, .int 0])), (t8, .inr (7, [.int (-1), .int 0, .int 0, .int 0, .int 0])), (t9, .inr (7, [.int (-1), .int 0, .int 0, .int 0, .int 0]))] [] [(cL, .object "LockRooms$Lock"), (cT, .object "LockRooms$Thing")])) (va_Ql (fun (r : Int64) (_ : Unit) => r = (-1088415371068898945)) (fun (_ : Unit) (_ : State) => True) (va_A [] sz)) 0 0 (va_A [] sz) := by
  refine Met.ofW (cc := cX6_mixThings) (maxL := 7) (ret := (some .long)) (by decide) rfl ?_
  intro p e s m args below meth c s₁ B hml hv
  obtain ⟨rfl, hsz, hR0, hP, hK, hD0, hN, hH, hX0⟩ := hv
  have hx := B.exec
  have hb := B.bytes
  have hr := B.returns
  have hts := atoms_spec (ws := wsX6_mixThings) B.pre
  have hown : s.vm.findClass RX6 = some m.cls := findClass_of_methodNamed B.named
  have hlocks := B.notSynchronized
  subst hsz
  have hD := hD0.self (sz := s.heap.size)
  have hAr := zx_A hX0 hR0
  generalize hAe : va_A [] s.heap.size = A at hD hAr hH ⊢
  have hA : ∀ q : Nat, s.heap.size ≤ q → A q := fun q h => by rw [← hAe]; exact Or.inr h
  have hS : va_S A s.heap s.heap [] := va_S.rf
  have hl := lv_entry ([.ref x, .long (-1160429273186388225)]) (n := 7) (Nat.le_of_ble_eq_true rfl)
  rw [lg_entry_eq]
  generalize (lg_sl ([.ref x, .long (-1160429273186388225)]) ++ List.replicate (7 - (lg_sl ([.ref x, .long (-1160429273186388225)])).length) Slot.unset).toArray = ls at hl ⊢
  have hl : lv_has ls 7 [(0, .ref x), (1, .long (-1160429273186388225))] := hl
  refine lv_lload_n hx hb dX6_mixThings_0 rfl (lv_at hl 1 rfl) ?_
  refine lv_lstore_n (lv' := [(3, .long (-1160429273186388225)), (0, .ref x), (1, .long (-1160429273186388225))]) hx hb dX6_mixThings_1 rfl hl (by decide) rfl (fun ls hl => ?_)
  refine lv_iconst (v := 0) hx hb dX6_mixThings_2 (by decide) ?_
  refine lv_istore (lv' := [(5, .int 0), (3, .long (-1160429273186388225)), (0, .ref x), (1, .long (-1160429273186388225))]) hx hb dX6_mixThings_3 hl (by decide) rfl (fun ls hl => ?_)
  refine lv_iload hx hb dX6_mixThings_5 (lv_at hl 0 rfl) ?_
  refine lv_aload_n hx hb dX6_mixThings_7 rfl (lv_at hl 2 rfl) ?_
  refine va_get (D := (dC, dI)) (ci := 8) (v := .ref rm) (C := RX6) (T := TX6) (N := 3) hx hb hts zi_X6_mixThings_X6 hown hK hR0 0 rfl rfl 0 (by decide) (hts (.fieldLink RX6 12 "LockRooms" "room" "LLockRooms$Room;") (by decide +kernel)) (fun _ h9 => h9) rfl dX6_mixThings_8 ?_
  refine va_get (D := (dC, dI)) (ci := 5) (v := .int 10) (C := RX3) (T := TX3) (N := 12) hx hb hts zi_X6_mixThings_X3 hown hK hR0 1 rfl rfl 5 (by decide) (hts (.fieldLink RX6 71 "LockRooms$Room" "thingCount" "I") (by decide +kernel)) (fun _ h9 => h9) rfl dX6_mixThings_11 ?_
  refine lv_icmp_ge (tgt := 55) hx hb dX6_mixThings_14 (by decide) (fun h => absurd h (by decide)) (fun _ => ?_)
  refine lv_iconst (v := 0) hx hb dX6_mixThings_17 (by decide) ?_
  refine lv_istore (lv' := [(6, .int 0), (5, .int 0), (3, .long (-1160429273186388225)), (0, .ref x), (1, .long (-1160429273186388225))]) hx hb dX6_mixThings_18 hl (by decide) rfl (fun ls hl => ?_)
  refine lv_iload hx hb dX6_mixThings_20 (lv_at hl 0 rfl) ?_
  refine lv_bipush (v := 6) hx hb dX6_mixThings_22 (by decide) ?_
  refine lv_icmp_ge (tgt := 49) hx hb dX6_mixThings_24 (by decide) (fun h => absurd h (by decide)) (fun _ => ?_)
  refine lv_lload_n hx hb dX6_mixThings_27 rfl (lv_at hl 2 rfl) ?_
  refine lv_aload_n hx hb dX6_mixThings_28 rfl (lv_at hl 3 rfl) ?_
  refine va_get (D := (dC, dI)) (ci := 8) (v := .ref rm) (C := RX6) (T := TX6) (N := 3) hx hb hts zi_X6_mixThings_X6 hown hK hR0 0 rfl rfl 0 (by decide) (hts (.fieldLink RX6 12 "LockRooms" "room" "LLockRooms$Room;") (by decide +kernel)) (fun _ h9 => h9) rfl dX6_mixThings_29 ?_
  refine lv_iload hx hb dX6_mixThings_32 (lv_at hl 1 rfl) ?_
  refine lv_iload hx hb dX6_mixThings_34 (lv_at hl 0 rfl) ?_
  have hPr := (hR0).sub (ws' := [(rm, .inr (5, [.ref lk, .ref th, .ref pl, .ref gm, .int 2, .int 10, .int 0, .int 0, .int 1, .int 0, .int 0, .int 0])), (th, .inl (cT, 12, .inr (.inr (.inr (.inr ft))))), (t0, .inr (7, [.int (-1), .int 0, .int 0, .int 0, .int 0]))]) [1, 3, 6] rfl
  have hPc := hP.sub (ws' := []) [] rfl
  have hDc := hD.sub (ws' := []) [] (by decide) rfl
  have hKc := hK.sub (tys' := [(cT, .object "LockRooms$Thing")]) [1] rfl
  have hFc := va_free (wc := []) hD hS hA [] rfl
  refine va_calli (va_runV (As := [.int 0, .int 0]) (rest := [.long (-1160429273186388225)]) ⟨hx, hb, hml, hown, hts⟩ (cz_QtellThing_0_0 l dC dI ed s.heap.size rm lk th pl gm cT ft t0 hkt0) (cwV 2 hts gX6_mixThings_X3_tellThing rfl rfl rfl (by decide +kernel) ⟨Nat.le_of_ble_eq_true rfl, Nat.le_of_ble_eq_true rfl⟩) ⟨zb_blind, va_recv hK hR0 (ci := 5) (q0 := 1) rfl rfl, fun U hU hW => ⟨rfl, zb_mk hU hW hPr hPc hKc hDc hN hH hS hFc zx_e⟩⟩ rfl rfl hl.1 rfl (lv_room (Nat.le_of_ble_eq_true rfl)) dX6_mixThings_36 ⟨Nat.le_of_ble_eq_true rfl, Nat.le_of_ble_eq_true rfl⟩) hS (fun q _ h => hFc q h) hFc (fun r2 u t H1 locs ht hvm hw hB hz1 hk1 hS => ?_)
  obtain rfl : r2 = (-1) := hw
  have hP := zo_K hP hk1
  have hPr := (zo_nil : va_P (dC, dI) vwCl [] H1)
  have hPc := hP.sub (ws' := []) [] rfl
  have hDc := hD.sub (ws' := []) [] (by decide) rfl
  have hKc := hK.sub (tys' := []) [] rfl
  have hFc := va_free (wc := []) hD hS hA [] rfl
  refine va_calll (va_runS (As := [.long (-1160429273186388225), .int (-1)]) (rest := []) ⟨hx, hb, hml, hown, hts⟩ (cz_X6_mix l dC dI ed H1.size (-1160429273186388225) (-1)) (va_cwS 2 hts gX6_mixThings_X6_mix rfl rfl rfl (by decide +kernel) ⟨Nat.le_of_ble_eq_true rfl, Nat.le_of_ble_eq_true rfl⟩) ⟨zb_blind, fun U hU hW => ⟨rfl, zb_mk hU hW hPr hPc hKc hDc hN hH hS hFc zx_e⟩⟩ rfl rfl hl.1 rfl (lv_room (Nat.le_of_ble_eq_true rfl)) dX6_mixThings_39 ⟨Nat.le_of_ble_eq_true rfl, Nat.le_of_ble_eq_true rfl⟩) hS (fun q _ h => hFc q h) hFc (fun r4 u t H3 locs ht hvm hw hB hz1 hk1 hS => ?_)
  obtain rfl : r4 = 920180678641068256 := hw.trans (by decide +kernel)
  have hP := zo_K hP hk1
  refine lv_lstore_n (lv' := [(3, .long 920180678641068256), (6, .int 0), (5, .int 0), (0, .ref x), (1, .long (-1160429273186388225))]) hx hb dX6_mixThings_42 rfl hl (by decide) rfl (fun ls hl => ?_)
  refine lv_iinc (v := 1) (lv' := [(6, .int 1), (3, .long 920180678641068256), (5, .int 0), (0, .ref x), (1, .long (-1160429273186388225))]) hx hb dX6_mixThings_43 hl (k := 1) rfl (by decide) (by decide) rfl (fun ls hl => ?_)
  refine lv_goto (tgt := 20) hx hb dX6_mixThings_46 (by decide) ?_
  refine lv_iload hx hb dX6_mixThings_20 (lv_at hl 0 rfl) ?_
  refine lv_bipush (v := 6) hx hb dX6_mixThings_22 (by decide) ?_
  refine lv_icmp_ge (tgt := 49) hx hb dX6_mixThings_24 (by decide) (fun h => absurd h (by decide)) (fun _ => ?_)
  refine lv_lload_n hx hb dX6_mixThings_27 rfl (lv_at hl 1 rfl) ?_
  refine lv_aload_n hx hb dX6_mixThings_28 rfl (lv_at hl 3 rfl) ?_
  refine va_get (D := (dC, dI)) (ci := 8) (v := .ref rm) (C := RX6) (T := TX6) (N := 3) hx hb hts zi_X6_mixThings_X6 hown hK (zo_R hR0 hS hAr) 0 rfl rfl 0 (by decide) (hts (.fieldLink RX6 12 "LockRooms" "room" "LLockRooms$Room;") (by decide +kernel)) (fun _ h9 => h9) rfl dX6_mixThings_29 ?_
  refine lv_iload hx hb dX6_mixThings_32 (lv_at hl 2 rfl) ?_
  refine lv_iload hx hb dX6_mixThings_34 (lv_at hl 0 rfl) ?_
  have hPr := ((zo_R hR0 hS hAr)).sub (ws' := [(rm, .inr (5, [.ref lk, .ref th, .ref pl, .ref gm, .int 2, .int 10, .int 0, .int 0, .int 1, .int 0, .int 0, .int 0])), (th, .inl (cT, 12, .inr (.inr (.inr (.inr ft))))), (t0, .inr (7, [.int (-1), .int 0, .int 0, .int 0, .int 0]))]) [1, 3, 6] rfl
  have hPc := hP.sub (ws' := []) [] rfl
  have hDc := hD.sub (ws' := []) [] (by decide) rfl
  have hKc := hK.sub (tys' := [(cT, .object "LockRooms$Thing")]) [1] rfl
  have hFc := va_free (wc := []) hD hS hA [] rfl
  refine va_calli (va_runV (As := [.int 0, .int 1]) (rest := [.long 920180678641068256]) ⟨hx, hb, hml, hown, hts⟩ (cz_QtellThing_0_1 l dC dI ed H3.size rm lk th pl gm cT ft t0 hkt0) (cwV 2 hts gX6_mixThings_X3_tellThing rfl rfl rfl (by decide +kernel) ⟨Nat.le_of_ble_eq_true rfl, Nat.le_of_ble_eq_true rfl⟩) ⟨zb_blind, va_recv hK (zo_R hR0 hS hAr) (ci := 5) (q0 := 1) rfl rfl, fun U hU hW => ⟨rfl, zb_mk hU hW hPr hPc hKc hDc hN hH hS hFc zx_e⟩⟩ rfl rfl hl.1 rfl (lv_room (Nat.le_of_ble_eq_true rfl)) dX6_mixThings_36 ⟨Nat.le_of_ble_eq_true rfl, Nat.le_of_ble_eq_true rfl⟩) hS (fun q _ h => hFc q h) hFc (fun r6 u t H5 locs ht hvm hw hB hz1 hk1 hS => ?_)
  obtain rfl : r6 = 0 := hw
  have hP := zo_K hP hk1
  have hPr := (zo_nil : va_P (dC, dI) vwCl [] H5)
  have hPc := hP.sub (ws' := []) [] rfl
  have hDc := hD.sub (ws' := []) [] (by decide) rfl
  have hKc := hK.sub (tys' := []) [] rfl
  have hFc := va_free (wc := []) hD hS hA [] rfl
  refine va_calll (va_runS (As := [.long 920180678641068256, .int 0]) (rest := []) ⟨hx, hb, hml, hown, hts⟩ (cz_X6_mix l dC dI ed H5.size 920180678641068256 0) (va_cwS 2 hts gX6_mixThings_X6_mix rfl rfl rfl (by decide +kernel) ⟨Nat.le_of_ble_eq_true rfl, Nat.le_of_ble_eq_true rfl⟩) ⟨zb_blind, fun U hU hW => ⟨rfl, zb_mk hU hW hPr hPc hKc hDc hN hH hS hFc zx_e⟩⟩ rfl rfl hl.1 rfl (lv_room (Nat.le_of_ble_eq_true rfl)) dX6_mixThings_39 ⟨Nat.le_of_ble_eq_true rfl, Nat.le_of_ble_eq_true rfl⟩) hS (fun q _ h => hFc q h) hFc (fun r8 u t H7 locs ht hvm hw hB hz1 hk1 hS => ?_)
  obtain rfl : r8 = (-8367887109545987296) := hw.trans (by decide +kernel)
  have hP := zo_K hP hk1
  refine lv_lstore_n (lv' := [(3, .long (-8367887109545987296)), (6, .int 1), (5, .int 0), (0, .ref x), (1, .long (-1160429273186388225))]) hx hb dX6_mixThings_42 rfl hl (by decide) rfl (fun ls hl => ?_)
  refine lv_iinc (v := 2) (lv' := [(6, .int 2), (3, .long (-8367887109545987296)), (5, .int 0), (0, .ref x), (1, .long (-1160429273186388225))]) hx hb dX6_mixThings_43 hl (k := 1) rfl (by decide) (by decide) rfl (fun ls hl => ?_)
  refine lv_goto (tgt := 20) hx hb dX6_mixThings_46 (by decide) ?_
  refine lv_iload hx hb dX6_mixThings_20 (lv_at hl 0 rfl) ?_
  refine lv_bipush (v := 6) hx hb dX6_mixThings_22 (by decide) ?_
  refine lv_icmp_ge (tgt := 49) hx hb dX6_mixThings_24 (by decide) (fun h => absurd h (by decide)) (fun _ => ?_)
  refine lv_lload_n hx hb dX6_mixThings_27 rfl (lv_at hl 1 rfl) ?_
  refine lv_aload_n hx hb dX6_mixThings_28 rfl (lv_at hl 3 rfl) ?_
  refine va_get (D := (dC, dI)) (ci := 8) (v := .ref rm) (C := RX6) (T := TX6) (N := 3) hx hb hts zi_X6_mixThings_X6 hown hK (zo_R hR0 hS hAr) 0 rfl rfl 0 (by decide) (hts (.fieldLink RX6 12 "LockRooms" "room" "LLockRooms$Room;") (by decide +kernel)) (fun _ h9 => h9) rfl dX6_mixThings_29 ?_
  refine lv_iload hx hb dX6_mixThings_32 (lv_at hl 2 rfl) ?_
  refine lv_iload hx hb dX6_mixThings_34 (lv_at hl 0 rfl) ?_
  have hPr := ((zo_R hR0 hS hAr)).sub (ws' := [(rm, .inr (5, [.ref lk, .ref th, .ref pl, .ref gm, .int 2, .int 10, .int 0, .int 0, .int 1, .int 0, .int 0, .int 0])), (th, .inl (cT, 12, .inr (.inr (.inr (.inr ft))))), (t0, .inr (7, [.int (-1), .int 0, .int 0, .int 0, .int 0]))]) [1, 3, 6] rfl
  have hPc := hP.sub (ws' := []) [] rfl
  have hDc := hD.sub (ws' := []) [] (by decide) rfl
  have hKc := hK.sub (tys' := [(cT, .object "LockRooms$Thing")]) [1] rfl
  have hFc := va_free (wc := []) hD hS hA [] rfl
  refine va_calli (va_runV (As := [.int 0, .int 2]) (rest := [.long (-8367887109545987296)]) ⟨hx, hb, hml, hown, hts⟩ (cz_QtellThing_0_2 l dC dI ed H7.size rm lk th pl gm cT ft t0 hkt0) (cwV 2 hts gX6_mixThings_X3_tellThing rfl rfl rfl (by decide +kernel) ⟨Nat.le_of_ble_eq_true rfl, Nat.le_of_ble_eq_true rfl⟩) ⟨zb_blind, va_recv hK (zo_R hR0 hS hAr) (ci := 5) (q0 := 1) rfl rfl, fun U hU hW => ⟨rfl, zb_mk hU hW hPr hPc hKc hDc hN hH hS hFc zx_e⟩⟩ rfl rfl hl.1 rfl (lv_room (Nat.le_of_ble_eq_true rfl)) dX6_mixThings_36 ⟨Nat.le_of_ble_eq_true rfl, Nat.le_of_ble_eq_true rfl⟩) hS (fun q _ h => hFc q h) hFc (fun r10 u t H9 locs ht hvm hw hB hz1 hk1 hS => ?_)
  obtain rfl : r10 = 0 := hw
  have hP := zo_K hP hk1
  have hPr := (zo_nil : va_P (dC, dI) vwCl [] H9)
  have hPc := hP.sub (ws' := []) [] rfl
  have hDc := hD.sub (ws' := []) [] (by decide) rfl
  have hKc := hK.sub (tys' := []) [] rfl
  have hFc := va_free (wc := []) hD hS hA [] rfl
  refine va_calll (va_runS (As := [.long (-8367887109545987296), .int 0]) (rest := []) ⟨hx, hb, hml, hown, hts⟩ (cz_X6_mix l dC dI ed H9.size (-8367887109545987296) 0) (va_cwS 2 hts gX6_mixThings_X6_mix rfl rfl rfl (by decide +kernel) ⟨Nat.le_of_ble_eq_true rfl, Nat.le_of_ble_eq_true rfl⟩) ⟨zb_blind, fun U hU hW => ⟨rfl, zb_mk hU hW hPr hPc hKc hDc hN hH hS hFc zx_e⟩⟩ rfl rfl hl.1 rfl (lv_room (Nat.le_of_ble_eq_true rfl)) dX6_mixThings_39 ⟨Nat.le_of_ble_eq_true rfl, Nat.le_of_ble_eq_true rfl⟩) hS (fun q _ h => hFc q h) hFc (fun r12 u t H11 locs ht hvm hw hB hz1 hk1 hS => ?_)
  obtain rfl : r12 = (-1150083363991883552) := hw.trans (by decide +kernel)
  have hP := zo_K hP hk1
  refine lv_lstore_n (lv' := [(3, .long (-1150083363991883552)), (6, .int 2), (5, .int 0), (0, .ref x), (1, .long (-1160429273186388225))]) hx hb dX6_mixThings_42 rfl hl (by decide) rfl (fun ls hl => ?_)
  refine lv_iinc (v := 3) (lv' := [(6, .int 3), (3, .long (-1150083363991883552)), (5, .int 0), (0, .ref x), (1, .long (-1160429273186388225))]) hx hb dX6_mixThings_43 hl (k := 1) rfl (by decide) (by decide) rfl (fun ls hl => ?_)
  refine lv_goto (tgt := 20) hx hb dX6_mixThings_46 (by decide) ?_
  refine lv_iload hx hb dX6_mixThings_20 (lv_at hl 0 rfl) ?_
  refine lv_bipush (v := 6) hx hb dX6_mixThings_22 (by decide) ?_
  refine lv_icmp_ge (tgt := 49) hx hb dX6_mixThings_24 (by decide) (fun h => absurd h (by decide)) (fun _ => ?_)
  refine lv_lload_n hx hb dX6_mixThings_27 rfl (lv_at hl 1 rfl) ?_
  refine lv_aload_n hx hb dX6_mixThings_28 rfl (lv_at hl 3 rfl) ?_
  refine va_get (D := (dC, dI)) (ci := 8) (v := .ref rm) (C := RX6) (T := TX6) (N := 3) hx hb hts zi_X6_mixThings_X6 hown hK (zo_R hR0 hS hAr) 0 rfl rfl 0 (by decide) (hts (.fieldLink RX6 12 "LockRooms" "room" "LLockRooms$Room;") (by decide +kernel)) (fun _ h9 => h9) rfl dX6_mixThings_29 ?_
  refine lv_iload hx hb dX6_mixThings_32 (lv_at hl 2 rfl) ?_
  refine lv_iload hx hb dX6_mixThings_34 (lv_at hl 0 rfl) ?_
  have hPr := ((zo_R hR0 hS hAr)).sub (ws' := [(rm, .inr (5, [.ref lk, .ref th, .ref pl, .ref gm, .int 2, .int 10, .int 0, .int 0, .int 1, .int 0, .int 0, .int 0])), (th, .inl (cT, 12, .inr (.inr (.inr (.inr ft))))), (t0, .inr (7, [.int (-1), .int 0, .int 0, .int 0, .int 0]))]) [1, 3, 6] rfl
  have hPc := hP.sub (ws' := []) [] rfl
  have hDc := hD.sub (ws' := []) [] (by decide) rfl
  have hKc := hK.sub (tys' := [(cT, .object "LockRooms$Thing")]) [1] rfl
  have hFc := va_free (wc := []) hD hS hA [] rfl
  refine va_calli (va_runV (As := [.int 0, .int 3]) (rest := [.long (-1150083363991883552)]) ⟨hx, hb, hml, hown, hts⟩ (cz_QtellThing_0_3 l dC dI ed H11.size rm lk th pl gm cT ft t0 hkt0) (cwV 2 hts gX6_mixThings_X3_tellThing rfl rfl rfl (by decide +kernel) ⟨Nat.le_of_ble_eq_true rfl, Nat.le_of_ble_eq_true rfl⟩) ⟨zb_blind, va_recv hK (zo_R hR0 hS hAr) (ci := 5) (q0 := 1) rfl rfl, fun U hU hW => ⟨rfl, zb_mk hU hW hPr hPc hKc hDc hN hH hS hFc zx_e⟩⟩ rfl rfl hl.1 rfl (lv_room (Nat.le_of_ble_eq_true rfl)) dX6_mixThings_36 ⟨Nat.le_of_ble_eq_true rfl, Nat.le_of_ble_eq_true rfl⟩) hS (fun q _ h => hFc q h) hFc (fun r14 u t H13 locs ht hvm hw hB hz1 hk1 hS => ?_)
  obtain rfl : r14 = 0 := hw
  have hP := zo_K hP hk1
  have hPr := (zo_nil : va_P (dC, dI) vwCl [] H13)
  have hPc := hP.sub (ws' := []) [] rfl
  have hDc := hD.sub (ws' := []) [] (by decide) rfl
  have hKc := hK.sub (tys' := []) [] rfl
  have hFc := va_free (wc := []) hD hS hA [] rfl
  refine va_calll (va_runS (As := [.long (-1150083363991883552), .int 0]) (rest := []) ⟨hx, hb, hml, hown, hts⟩ (cz_X6_mix l dC dI ed H13.size (-1150083363991883552) 0) (va_cwS 2 hts gX6_mixThings_X6_mix rfl rfl rfl (by decide +kernel) ⟨Nat.le_of_ble_eq_true rfl, Nat.le_of_ble_eq_true rfl⟩) ⟨zb_blind, fun U hU hW => ⟨rfl, zb_mk hU hW hPr hPc hKc hDc hN hH hS hFc zx_e⟩⟩ rfl rfl hl.1 rfl (lv_room (Nat.le_of_ble_eq_true rfl)) dX6_mixThings_39 ⟨Nat.le_of_ble_eq_true rfl, Nat.le_of_ble_eq_true rfl⟩) hS (fun q _ h => hFc q h) hFc (fun r16 u t H15 locs ht hvm hw hB hz1 hk1 hS => ?_)
  obtain rfl : r16 = 1240903863670713120 := hw.trans (by decide +kernel)
  have hP := zo_K hP hk1
  refine lv_lstore_n (lv' := [(3, .long 1240903863670713120), (6, .int 3), (5, .int 0), (0, .ref x), (1, .long (-1160429273186388225))]) hx hb dX6_mixThings_42 rfl hl (by decide) rfl (fun ls hl => ?_)
  refine lv_iinc (v := 4) (lv' := [(6, .int 4), (3, .long 1240903863670713120), (5, .int 0), (0, .ref x), (1, .long (-1160429273186388225))]) hx hb dX6_mixThings_43 hl (k := 1) rfl (by decide) (by decide) rfl (fun ls hl => ?_)
  refine lv_goto (tgt := 20) hx hb dX6_mixThings_46 (by decide) ?_
  refine lv_iload hx hb dX6_mixThings_20 (lv_at hl 0 rfl) ?_
  refine lv_bipush (v := 6) hx hb dX6_mixThings_22 (by decide) ?_
  refine lv_icmp_ge (tgt := 49) hx hb dX6_mixThings_24 (by decide) (fun h => absurd h (by decide)) (fun _ => ?_)
  refine lv_lload_n hx hb dX6_mixThings_27 rfl (lv_at hl 1 rfl) ?_
  refine lv_aload_n hx hb dX6_mixThings_28 rfl (lv_at hl 3 rfl) ?_
  refine va_get (D := (dC, dI)) (ci := 8) (v := .ref rm) (C := RX6) (T := TX6) (N := 3) hx hb hts zi_X6_mixThings_X6 hown hK (zo_R hR0 hS hAr) 0 rfl rfl 0 (by decide) (hts (.fieldLink RX6 12 "LockRooms" "room" "LLockRooms$Room;") (by decide +kernel)) (fun _ h9 => h9) rfl dX6_mixThings_29 ?_
  refine lv_iload hx hb dX6_mixThings_32 (lv_at hl 2 rfl) ?_
  refine lv_iload hx hb dX6_mixThings_34 (lv_at hl 0 rfl) ?_
  have hPr := ((zo_R hR0 hS hAr)).sub (ws' := [(rm, .inr (5, [.ref lk, .ref th, .ref pl, .ref gm, .int 2, .int 10, .int 0, .int 0, .int 1, .int 0, .int 0, .int 0])), (th, .inl (cT, 12, .inr (.inr (.inr (.inr ft))))), (t0, .inr (7, [.int (-1), .int 0, .int 0, .int 0, .int 0])), (lk, .inl (cL, 10, .inr (.inr (.inr (.inr fl))))), (l0, .inr (3, [.int 0, .int 0, .int 60, .int 0, .int 0, .int 0, .int 0, .int 0, .int 0, .int 0])), (l1, .inr (3, [.int 0, .int 0, .int 60, .int 0, .int 0, .int 0, .int 0, .int 0, .int 0, .int 0]))]) [1, 3, 6, 2, 4, 5] rfl
  have hPc := hP.sub (ws' := []) [] rfl
  have hDc := hD.sub (ws' := []) [] (by decide) rfl
  have hKc := hK.sub (tys' := [(cT, .object "LockRooms$Thing"), (cL, .object "LockRooms$Lock")]) [1, 0] rfl
  have hFc := va_free (wc := []) hD hS hA [] rfl
  refine va_calli (va_runV (As := [.int 0, .int 4]) (rest := [.long 1240903863670713120]) ⟨hx, hb, hml, hown, hts⟩ (cz_QtellThing_0_4 l dC dI ed H15.size rm lk th pl gm cT ft t0 cL fl l0 l1 hkt0 hkl0 hkl1) (cwV 2 hts gX6_mixThings_X3_tellThing rfl rfl rfl (by decide +kernel) ⟨Nat.le_of_ble_eq_true rfl, Nat.le_of_ble_eq_true rfl⟩) ⟨zb_blind, va_recv hK (zo_R hR0 hS hAr) (ci := 5) (q0 := 1) rfl rfl, fun U hU hW => ⟨rfl, zb_mk hU hW hPr hPc hKc hDc hN hH hS hFc zx_e⟩⟩ rfl rfl hl.1 rfl (lv_room (Nat.le_of_ble_eq_true rfl)) dX6_mixThings_36 ⟨Nat.le_of_ble_eq_true rfl, Nat.le_of_ble_eq_true rfl⟩) hS (fun q _ h => hFc q h) hFc (fun r18 u t H17 locs ht hvm hw hB hz1 hk1 hS => ?_)
  obtain rfl : r18 = 1 := hw
  have hP := zo_K hP hk1
  have hPr := (zo_nil : va_P (dC, dI) vwCl [] H17)
  have hPc := hP.sub (ws' := []) [] rfl
  have hDc := hD.sub (ws' := []) [] (by decide) rfl
  have hKc := hK.sub (tys' := []) [] rfl
  have hFc := va_free (wc := []) hD hS hA [] rfl
  refine va_calll (va_runS (As := [.long 1240903863670713120, .int 1]) (rest := []) ⟨hx, hb, hml, hown, hts⟩ (cz_X6_mix l dC dI ed H17.size 1240903863670713120 1) (va_cwS 2 hts gX6_mixThings_X6_mix rfl rfl rfl (by decide +kernel) ⟨Nat.le_of_ble_eq_true rfl, Nat.le_of_ble_eq_true rfl⟩) ⟨zb_blind, fun U hU hW => ⟨rfl, zb_mk hU hW hPr hPc hKc hDc hN hH hS hFc zx_e⟩⟩ rfl rfl hl.1 rfl (lv_room (Nat.le_of_ble_eq_true rfl)) dX6_mixThings_39 ⟨Nat.le_of_ble_eq_true rfl, Nat.le_of_ble_eq_true rfl⟩) hS (fun q _ h => hFc q h) hFc (fun r20 u t H19 locs ht hvm hw hB hz1 hk1 hS => ?_)
  obtain rfl : r20 = 1574531626373003489 := hw.trans (by decide +kernel)
  have hP := zo_K hP hk1
  refine lv_lstore_n (lv' := [(3, .long 1574531626373003489), (6, .int 4), (5, .int 0), (0, .ref x), (1, .long (-1160429273186388225))]) hx hb dX6_mixThings_42 rfl hl (by decide) rfl (fun ls hl => ?_)
  refine lv_iinc (v := 5) (lv' := [(6, .int 5), (3, .long 1574531626373003489), (5, .int 0), (0, .ref x), (1, .long (-1160429273186388225))]) hx hb dX6_mixThings_43 hl (k := 1) rfl (by decide) (by decide) rfl (fun ls hl => ?_)
  refine lv_goto (tgt := 20) hx hb dX6_mixThings_46 (by decide) ?_
  refine lv_iload hx hb dX6_mixThings_20 (lv_at hl 0 rfl) ?_
  refine lv_bipush (v := 6) hx hb dX6_mixThings_22 (by decide) ?_
  refine lv_icmp_ge (tgt := 49) hx hb dX6_mixThings_24 (by decide) (fun h => absurd h (by decide)) (fun _ => ?_)
  refine lv_lload_n hx hb dX6_mixThings_27 rfl (lv_at hl 1 rfl) ?_
  refine lv_aload_n hx hb dX6_mixThings_28 rfl (lv_at hl 3 rfl) ?_
  refine va_get (D := (dC, dI)) (ci := 8) (v := .ref rm) (C := RX6) (T := TX6) (N := 3) hx hb hts zi_X6_mixThings_X6 hown hK (zo_R hR0 hS hAr) 0 rfl rfl 0 (by decide) (hts (.fieldLink RX6 12 "LockRooms" "room" "LLockRooms$Room;") (by decide +kernel)) (fun _ h9 => h9) rfl dX6_mixThings_29 ?_
  refine lv_iload hx hb dX6_mixThings_32 (lv_at hl 2 rfl) ?_
  refine lv_iload hx hb dX6_mixThings_34 (lv_at hl 0 rfl) ?_
  have hPr := ((zo_R hR0 hS hAr)).sub (ws' := [(rm, .inr (5, [.ref lk, .ref th, .ref pl, .ref gm, .int 2, .int 10, .int 0, .int 0, .int 1, .int 0, .int 0, .int 0])), (th, .inl (cT, 12, .inr (.inr (.inr (.inr ft))))), (t0, .inr (7, [.int (-1), .int 0, .int 0, .int 0, .int 0])), (lk, .inl (cL, 10, .inr (.inr (.inr (.inr fl))))), (l0, .inr (3, [.int 0, .int 0, .int 60, .int 0, .int 0, .int 0, .int 0, .int 0, .int 0, .int 0])), (l1, .inr (3, [.int 0, .int 0, .int 60, .int 0, .int 0, .int 0, .int 0, .int 0, .int 0, .int 0]))]) [1, 3, 6, 2, 4, 5] rfl
  have hPc := hP.sub (ws' := []) [] rfl
  have hDc := hD.sub (ws' := []) [] (by decide) rfl
  have hKc := hK.sub (tys' := [(cT, .object "LockRooms$Thing"), (cL, .object "LockRooms$Lock")]) [1, 0] rfl
  have hFc := va_free (wc := []) hD hS hA [] rfl
  refine va_calli (va_runV (As := [.int 0, .int 5]) (rest := [.long 1574531626373003489]) ⟨hx, hb, hml, hown, hts⟩ (cz_QtellThing_0_5 l dC dI ed H19.size rm lk th pl gm cT ft t0 cL fl l0 l1 hkt0 hkl0 hkl1) (cwV 2 hts gX6_mixThings_X3_tellThing rfl rfl rfl (by decide +kernel) ⟨Nat.le_of_ble_eq_true rfl, Nat.le_of_ble_eq_true rfl⟩) ⟨zb_blind, va_recv hK (zo_R hR0 hS hAr) (ci := 5) (q0 := 1) rfl rfl, fun U hU hW => ⟨rfl, zb_mk hU hW hPr hPc hKc hDc hN hH hS hFc zx_e⟩⟩ rfl rfl hl.1 rfl (lv_room (Nat.le_of_ble_eq_true rfl)) dX6_mixThings_36 ⟨Nat.le_of_ble_eq_true rfl, Nat.le_of_ble_eq_true rfl⟩) hS (fun q _ h => hFc q h) hFc (fun r22 u t H21 locs ht hvm hw hB hz1 hk1 hS => ?_)
  obtain rfl : r22 = 0 := hw
  have hP := zo_K hP hk1
  have hPr := (zo_nil : va_P (dC, dI) vwCl [] H21)
  have hPc := hP.sub (ws' := []) [] rfl
  have hDc := hD.sub (ws' := []) [] (by decide) rfl
  have hKc := hK.sub (tys' := []) [] rfl
  have hFc := va_free (wc := []) hD hS hA [] rfl
  refine va_calll (va_runS (As := [.long 1574531626373003489, .int 0]) (rest := []) ⟨hx, hb, hml, hown, hts⟩ (cz_X6_mix l dC dI ed H21.size 1574531626373003489 0) (va_cwS 2 hts gX6_mixThings_X6_mix rfl rfl rfl (by decide +kernel) ⟨Nat.le_of_ble_eq_true rfl, Nat.le_of_ble_eq_true rfl⟩) ⟨zb_blind, fun U hU hW => ⟨rfl, zb_mk hU hW hPr hPc hKc hDc hN hH hS hFc zx_e⟩⟩ rfl rfl hl.1 rfl (lv_room (Nat.le_of_ble_eq_true rfl)) dX6_mixThings_39 ⟨Nat.le_of_ble_eq_true rfl, Nat.le_of_ble_eq_true rfl⟩) hS (fun q _ h => hFc q h) hFc (fun r24 u t H23 locs ht hvm hw hB hz1 hk1 hS => ?_)
  obtain rfl : r24 = (-6529751803565546689) := hw.trans (by decide +kernel)
  have hP := zo_K hP hk1
  refine lv_lstore_n (lv' := [(3, .long (-6529751803565546689)), (6, .int 5), (5, .int 0), (0, .ref x), (1, .long (-1160429273186388225))]) hx hb dX6_mixThings_42 rfl hl (by decide) rfl (fun ls hl => ?_)
  refine lv_iinc (v := 6) (lv' := [(6, .int 6), (3, .long (-6529751803565546689)), (5, .int 0), (0, .ref x), (1, .long (-1160429273186388225))]) hx hb dX6_mixThings_43 hl (k := 1) rfl (by decide) (by decide) rfl (fun ls hl => ?_)
  refine lv_goto (tgt := 20) hx hb dX6_mixThings_46 (by decide) ?_
  refine lv_iload hx hb dX6_mixThings_20 (lv_at hl 0 rfl) ?_
  refine lv_bipush (v := 6) hx hb dX6_mixThings_22 (by decide) ?_
  refine lv_icmp_ge (tgt := 49) hx hb dX6_mixThings_24 (by decide) (fun _ => ?_) (fun h => absurd h (by decide))
  refine lv_iinc (v := 1) (lv' := [(5, .int 1), (6, .int 6), (3, .long (-6529751803565546689)), (0, .ref x), (1, .long (-1160429273186388225))]) hx hb dX6_mixThings_49 hl (k := 2) rfl (by decide) (by decide) rfl (fun ls hl => ?_)
  refine lv_goto (tgt := 5) hx hb dX6_mixThings_52 (by decide) ?_
  refine lv_iload hx hb dX6_mixThings_5 (lv_at hl 0 rfl) ?_
  refine lv_aload_n hx hb dX6_mixThings_7 rfl (lv_at hl 3 rfl) ?_
  refine va_get (D := (dC, dI)) (ci := 8) (v := .ref rm) (C := RX6) (T := TX6) (N := 3) hx hb hts zi_X6_mixThings_X6 hown hK (zo_R hR0 hS hAr) 0 rfl rfl 0 (by decide) (hts (.fieldLink RX6 12 "LockRooms" "room" "LLockRooms$Room;") (by decide +kernel)) (fun _ h9 => h9) rfl dX6_mixThings_8 ?_
  refine va_get (D := (dC, dI)) (ci := 5) (v := .int 10) (C := RX3) (T := TX3) (N := 12) hx hb hts zi_X6_mixThings_X3 hown hK (zo_R hR0 hS hAr) 1 rfl rfl 5 (by decide) (hts (.fieldLink RX6 71 "LockRooms$Room" "thingCount" "I") (by decide +kernel)) (fun _ h9 => h9) rfl dX6_mixThings_11 ?_
  refine lv_icmp_ge (tgt := 55) hx hb dX6_mixThings_14 (by decide) (fun h => absurd h (by decide)) (fun _ => ?_)
  refine lv_iconst (v := 0) hx hb dX6_mixThings_17 (by decide) ?_
  refine lv_istore (lv' := [(6, .int 0), (5, .int 1), (3, .long (-6529751803565546689)), (0, .ref x), (1, .long (-1160429273186388225))]) hx hb dX6_mixThings_18 hl (by decide) rfl (fun ls hl => ?_)
  refine lv_iload hx hb dX6_mixThings_20 (lv_at hl 0 rfl) ?_
  refine lv_bipush (v := 6) hx hb dX6_mixThings_22 (by decide) ?_
  refine lv_icmp_ge (tgt := 49) hx hb dX6_mixThings_24 (by decide) (fun h => absurd h (by decide)) (fun _ => ?_)
  refine lv_lload_n hx hb dX6_mixThings_27 rfl (lv_at hl 2 rfl) ?_
  refine lv_aload_n hx hb dX6_mixThings_28 rfl (lv_at hl 3 rfl) ?_
  refine va_get (D := (dC, dI)) (ci := 8) (v := .ref rm) (C := RX6) (T := TX6) (N := 3) hx hb hts zi_X6_mixThings_X6 hown hK (zo_R hR0 hS hAr) 0 rfl rfl 0 (by decide) (hts (.fieldLink RX6 12 "LockRooms" "room" "LLockRooms$Room;") (by decide +kernel)) (fun _ h9 => h9) rfl dX6_mixThings_29 ?_
  refine lv_iload hx hb dX6_mixThings_32 (lv_at hl 1 rfl) ?_
  refine lv_iload hx hb dX6_mixThings_34 (lv_at hl 0 rfl) ?_
  have hPr := ((zo_R hR0 hS hAr)).sub (ws' := [(rm, .inr (5, [.ref lk, .ref th, .ref pl, .ref gm, .int 2, .int 10, .int 0, .int 0, .int 1, .int 0, .int 0, .int 0])), (th, .inl (cT, 12, .inr (.inr (.inr (.inr ft))))), (t1, .inr (7, [.int (-1), .int 0, .int 0, .int 0, .int 0]))]) [1, 3, 7] rfl
  have hPc := hP.sub (ws' := []) [] rfl
  have hDc := hD.sub (ws' := []) [] (by decide) rfl
  have hKc := hK.sub (tys' := [(cT, .object "LockRooms$Thing")]) [1] rfl
  have hFc := va_free (wc := []) hD hS hA [] rfl
  refine va_calli (va_runV (As := [.int 1, .int 0]) (rest := [.long (-6529751803565546689)]) ⟨hx, hb, hml, hown, hts⟩ (cz_QtellThing_1_0 l dC dI ed H23.size rm lk th pl gm cT ft t1 hkt1) (cwV 2 hts gX6_mixThings_X3_tellThing rfl rfl rfl (by decide +kernel) ⟨Nat.le_of_ble_eq_true rfl, Nat.le_of_ble_eq_true rfl⟩) ⟨zb_blind, va_recv hK (zo_R hR0 hS hAr) (ci := 5) (q0 := 1) rfl rfl, fun U hU hW => ⟨rfl, zb_mk hU hW hPr hPc hKc hDc hN hH hS hFc zx_e⟩⟩ rfl rfl hl.1 rfl (lv_room (Nat.le_of_ble_eq_true rfl)) dX6_mixThings_36 ⟨Nat.le_of_ble_eq_true rfl, Nat.le_of_ble_eq_true rfl⟩) hS (fun q _ h => hFc q h) hFc (fun r26 u t H25 locs ht hvm hw hB hz1 hk1 hS => ?_)
  obtain rfl : r26 = (-1) := hw
  have hP := zo_K hP hk1
  have hPr := (zo_nil : va_P (dC, dI) vwCl [] H25)
  have hPc := hP.sub (ws' := []) [] rfl
  have hDc := hD.sub (ws' := []) [] (by decide) rfl
  have hKc := hK.sub (tys' := []) [] rfl
  have hFc := va_free (wc := []) hD hS hA [] rfl
  refine va_calll (va_runS (As := [.long (-6529751803565546689), .int (-1)]) (rest := []) ⟨hx, hb, hml, hown, hts⟩ (cz_X6_mix l dC dI ed H25.size (-6529751803565546689) (-1)) (va_cwS 2 hts gX6_mixThings_X6_mix rfl rfl rfl (by decide +kernel) ⟨Nat.le_of_ble_eq_true rfl, Nat.le_of_ble_eq_true rfl⟩) ⟨zb_blind, fun U hU hW => ⟨rfl, zb_mk hU hW hPr hPc hKc hDc hN hH hS hFc zx_e⟩⟩ rfl rfl hl.1 rfl (lv_room (Nat.le_of_ble_eq_true rfl)) dX6_mixThings_39 ⟨Nat.le_of_ble_eq_true rfl, Nat.le_of_ble_eq_true rfl⟩) hS (fun q _ h => hFc q h) hFc (fun r28 u t H27 locs ht hvm hw hB hz1 hk1 hS => ?_)
  obtain rfl : r28 = 491878900273120416 := hw.trans (by decide +kernel)
  have hP := zo_K hP hk1
  refine lv_lstore_n (lv' := [(3, .long 491878900273120416), (6, .int 0), (5, .int 1), (0, .ref x), (1, .long (-1160429273186388225))]) hx hb dX6_mixThings_42 rfl hl (by decide) rfl (fun ls hl => ?_)
  refine lv_iinc (v := 1) (lv' := [(6, .int 1), (3, .long 491878900273120416), (5, .int 1), (0, .ref x), (1, .long (-1160429273186388225))]) hx hb dX6_mixThings_43 hl (k := 1) rfl (by decide) (by decide) rfl (fun ls hl => ?_)
  refine lv_goto (tgt := 20) hx hb dX6_mixThings_46 (by decide) ?_
  refine lv_iload hx hb dX6_mixThings_20 (lv_at hl 0 rfl) ?_
  refine lv_bipush (v := 6) hx hb dX6_mixThings_22 (by decide) ?_
  refine lv_icmp_ge (tgt := 49) hx hb dX6_mixThings_24 (by decide) (fun h => absurd h (by decide)) (fun _ => ?_)
  refine lv_lload_n hx hb dX6_mixThings_27 rfl (lv_at hl 1 rfl) ?_
  refine lv_aload_n hx hb dX6_mixThings_28 rfl (lv_at hl 3 rfl) ?_
  refine va_get (D := (dC, dI)) (ci := 8) (v := .ref rm) (C := RX6) (T := TX6) (N := 3) hx hb hts zi_X6_mixThings_X6 hown hK (zo_R hR0 hS hAr) 0 rfl rfl 0 (by decide) (hts (.fieldLink RX6 12 "LockRooms" "room" "LLockRooms$Room;") (by decide +kernel)) (fun _ h9 => h9) rfl dX6_mixThings_29 ?_
  refine lv_iload hx hb dX6_mixThings_32 (lv_at hl 2 rfl) ?_
  refine lv_iload hx hb dX6_mixThings_34 (lv_at hl 0 rfl) ?_
  have hPr := ((zo_R hR0 hS hAr)).sub (ws' := [(rm, .inr (5, [.ref lk, .ref th, .ref pl, .ref gm, .int 2, .int 10, .int 0, .int 0, .int 1, .int 0, .int 0, .int 0])), (th, .inl (cT, 12, .inr (.inr (.inr (.inr ft))))), (t1, .inr (7, [.int (-1), .int 0, .int 0, .int 0, .int 0]))]) [1, 3, 7] rfl
  have hPc := hP.sub (ws' := []) [] rfl
  have hDc := hD.sub (ws' := []) [] (by decide) rfl
  have hKc := hK.sub (tys' := [(cT, .object "LockRooms$Thing")]) [1] rfl
  have hFc := va_free (wc := []) hD hS hA [] rfl
  refine va_calli (va_runV (As := [.int 1, .int 1]) (rest := [.long 491878900273120416]) ⟨hx, hb, hml, hown, hts⟩ (cz_QtellThing_1_1 l dC dI ed H27.size rm lk th pl gm cT ft t1 hkt1) (cwV 2 hts gX6_mixThings_X3_tellThing rfl rfl rfl (by decide +kernel) ⟨Nat.le_of_ble_eq_true rfl, Nat.le_of_ble_eq_true rfl⟩) ⟨zb_blind, va_recv hK (zo_R hR0 hS hAr) (ci := 5) (q0 := 1) rfl rfl, fun U hU hW => ⟨rfl, zb_mk hU hW hPr hPc hKc hDc hN hH hS hFc zx_e⟩⟩ rfl rfl hl.1 rfl (lv_room (Nat.le_of_ble_eq_true rfl)) dX6_mixThings_36 ⟨Nat.le_of_ble_eq_true rfl, Nat.le_of_ble_eq_true rfl⟩) hS (fun q _ h => hFc q h) hFc (fun r30 u t H29 locs ht hvm hw hB hz1 hk1 hS => ?_)
  obtain rfl : r30 = 0 := hw
  have hP := zo_K hP hk1
  have hPr := (zo_nil : va_P (dC, dI) vwCl [] H29)
  have hPc := hP.sub (ws' := []) [] rfl
  have hDc := hD.sub (ws' := []) [] (by decide) rfl
  have hKc := hK.sub (tys' := []) [] rfl
  have hFc := va_free (wc := []) hD hS hA [] rfl
  refine va_calll (va_runS (As := [.long 491878900273120416, .int 0]) (rest := []) ⟨hx, hb, hml, hown, hts⟩ (cz_X6_mix l dC dI ed H29.size 491878900273120416 0) (va_cwS 2 hts gX6_mixThings_X6_mix rfl rfl rfl (by decide +kernel) ⟨Nat.le_of_ble_eq_true rfl, Nat.le_of_ble_eq_true rfl⟩) ⟨zb_blind, fun U hU hW => ⟨rfl, zb_mk hU hW hPr hPc hKc hDc hN hH hS hFc zx_e⟩⟩ rfl rfl hl.1 rfl (lv_room (Nat.le_of_ble_eq_true rfl)) dX6_mixThings_39 ⟨Nat.le_of_ble_eq_true rfl, Nat.le_of_ble_eq_true rfl⟩) hS (fun q _ h => hFc q h) hFc (fun r32 u t H31 locs ht hvm hw hB hz1 hk1 hS => ?_)
  obtain rfl : r32 = (-3198498165242818720) := hw.trans (by decide +kernel)
  have hP := zo_K hP hk1
  refine lv_lstore_n (lv' := [(3, .long (-3198498165242818720)), (6, .int 1), (5, .int 1), (0, .ref x), (1, .long (-1160429273186388225))]) hx hb dX6_mixThings_42 rfl hl (by decide) rfl (fun ls hl => ?_)
  refine lv_iinc (v := 2) (lv' := [(6, .int 2), (3, .long (-3198498165242818720)), (5, .int 1), (0, .ref x), (1, .long (-1160429273186388225))]) hx hb dX6_mixThings_43 hl (k := 1) rfl (by decide) (by decide) rfl (fun ls hl => ?_)
  refine lv_goto (tgt := 20) hx hb dX6_mixThings_46 (by decide) ?_
  refine lv_iload hx hb dX6_mixThings_20 (lv_at hl 0 rfl) ?_
  refine lv_bipush (v := 6) hx hb dX6_mixThings_22 (by decide) ?_
  refine lv_icmp_ge (tgt := 49) hx hb dX6_mixThings_24 (by decide) (fun h => absurd h (by decide)) (fun _ => ?_)
  refine lv_lload_n hx hb dX6_mixThings_27 rfl (lv_at hl 1 rfl) ?_
  refine lv_aload_n hx hb dX6_mixThings_28 rfl (lv_at hl 3 rfl) ?_
  refine va_get (D := (dC, dI)) (ci := 8) (v := .ref rm) (C := RX6) (T := TX6) (N := 3) hx hb hts zi_X6_mixThings_X6 hown hK (zo_R hR0 hS hAr) 0 rfl rfl 0 (by decide) (hts (.fieldLink RX6 12 "LockRooms" "room" "LLockRooms$Room;") (by decide +kernel)) (fun _ h9 => h9) rfl dX6_mixThings_29 ?_
  refine lv_iload hx hb dX6_mixThings_32 (lv_at hl 2 rfl) ?_
  refine lv_iload hx hb dX6_mixThings_34 (lv_at hl 0 rfl) ?_
  have hPr := ((zo_R hR0 hS hAr)).sub (ws' := [(rm, .inr (5, [.ref lk, .ref th, .ref pl, .ref gm, .int 2, .int 10, .int 0, .int 0, .int 1, .int 0, .int 0, .int 0])), (th, .inl (cT, 12, .inr (.inr (.inr (.inr ft))))), (t1, .inr (7, [.int (-1), .int 0, .int 0, .int 0, .int 0]))]) [1, 3, 7] rfl
  have hPc := hP.sub (ws' := []) [] rfl
  have hDc := hD.sub (ws' := []) [] (by decide) rfl
  have hKc := hK.sub (tys' := [(cT, .object "LockRooms$Thing")]) [1] rfl
  have hFc := va_free (wc := []) hD hS hA [] rfl
  refine va_calli (va_runV (As := [.int 1, .int 2]) (rest := [.long (-3198498165242818720)]) ⟨hx, hb, hml, hown, hts⟩ (cz_QtellThing_1_2 l dC dI ed H31.size rm lk th pl gm cT ft t1 hkt1) (cwV 2 hts gX6_mixThings_X3_tellThing rfl rfl rfl (by decide +kernel) ⟨Nat.le_of_ble_eq_true rfl, Nat.le_of_ble_eq_true rfl⟩) ⟨zb_blind, va_recv hK (zo_R hR0 hS hAr) (ci := 5) (q0 := 1) rfl rfl, fun U hU hW => ⟨rfl, zb_mk hU hW hPr hPc hKc hDc hN hH hS hFc zx_e⟩⟩ rfl rfl hl.1 rfl (lv_room (Nat.le_of_ble_eq_true rfl)) dX6_mixThings_36 ⟨Nat.le_of_ble_eq_true rfl, Nat.le_of_ble_eq_true rfl⟩) hS (fun q _ h => hFc q h) hFc (fun r34 u t H33 locs ht hvm hw hB hz1 hk1 hS => ?_)
  obtain rfl : r34 = 0 := hw
  have hP := zo_K hP hk1
  have hPr := (zo_nil : va_P (dC, dI) vwCl [] H33)
  have hPc := hP.sub (ws' := []) [] rfl
  have hDc := hD.sub (ws' := []) [] (by decide) rfl
  have hKc := hK.sub (tys' := []) [] rfl
  have hFc := va_free (wc := []) hD hS hA [] rfl
  refine va_calll (va_runS (As := [.long (-3198498165242818720), .int 0]) (rest := []) ⟨hx, hb, hml, hown, hts⟩ (cz_X6_mix l dC dI ed H33.size (-3198498165242818720) 0) (va_cwS 2 hts gX6_mixThings_X6_mix rfl rfl rfl (by decide +kernel) ⟨Nat.le_of_ble_eq_true rfl, Nat.le_of_ble_eq_true rfl⟩) ⟨zb_blind, fun U hU hW => ⟨rfl, zb_mk hU hW hPr hPc hKc hDc hN hH hS hFc zx_e⟩⟩ rfl rfl hl.1 rfl (lv_room (Nat.le_of_ble_eq_true rfl)) dX6_mixThings_39 ⟨Nat.le_of_ble_eq_true rfl, Nat.le_of_ble_eq_true rfl⟩) hS (fun q _ h => hFc q h) hFc (fun r36 u t H35 locs ht hvm hw hB hz1 hk1 hS => ?_)
  obtain rfl : r36 = (-6919722753979622240) := hw.trans (by decide +kernel)
  have hP := zo_K hP hk1
  refine lv_lstore_n (lv' := [(3, .long (-6919722753979622240)), (6, .int 2), (5, .int 1), (0, .ref x), (1, .long (-1160429273186388225))]) hx hb dX6_mixThings_42 rfl hl (by decide) rfl (fun ls hl => ?_)
  refine lv_iinc (v := 3) (lv' := [(6, .int 3), (3, .long (-6919722753979622240)), (5, .int 1), (0, .ref x), (1, .long (-1160429273186388225))]) hx hb dX6_mixThings_43 hl (k := 1) rfl (by decide) (by decide) rfl (fun ls hl => ?_)
  refine lv_goto (tgt := 20) hx hb dX6_mixThings_46 (by decide) ?_
  refine lv_iload hx hb dX6_mixThings_20 (lv_at hl 0 rfl) ?_
  refine lv_bipush (v := 6) hx hb dX6_mixThings_22 (by decide) ?_
  refine lv_icmp_ge (tgt := 49) hx hb dX6_mixThings_24 (by decide) (fun h => absurd h (by decide)) (fun _ => ?_)
  refine lv_lload_n hx hb dX6_mixThings_27 rfl (lv_at hl 1 rfl) ?_
  refine lv_aload_n hx hb dX6_mixThings_28 rfl (lv_at hl 3 rfl) ?_
  refine va_get (D := (dC, dI)) (ci := 8) (v := .ref rm) (C := RX6) (T := TX6) (N := 3) hx hb hts zi_X6_mixThings_X6 hown hK (zo_R hR0 hS hAr) 0 rfl rfl 0 (by decide) (hts (.fieldLink RX6 12 "LockRooms" "room" "LLockRooms$Room;") (by decide +kernel)) (fun _ h9 => h9) rfl dX6_mixThings_29 ?_
  refine lv_iload hx hb dX6_mixThings_32 (lv_at hl 2 rfl) ?_
  refine lv_iload hx hb dX6_mixThings_34 (lv_at hl 0 rfl) ?_
  have hPr := ((zo_R hR0 hS hAr)).sub (ws' := [(rm, .inr (5, [.ref lk, .ref th, .ref pl, .ref gm, .int 2, .int 10, .int 0, .int 0, .int 1, .int 0, .int 0, .int 0])), (th, .inl (cT, 12, .inr (.inr (.inr (.inr ft))))), (t1, .inr (7, [.int (-1), .int 0, .int 0, .int 0, .int 0]))]) [1, 3, 7] rfl
  have hPc := hP.sub (ws' := []) [] rfl
  have hDc := hD.sub (ws' := []) [] (by decide) rfl
  have hKc := hK.sub (tys' := [(cT, .object "LockRooms$Thing")]) [1] rfl
  have hFc := va_free (wc := []) hD hS hA [] rfl
  refine va_calli (va_runV (As := [.int 1, .int 3]) (rest := [.long (-6919722753979622240)]) ⟨hx, hb, hml, hown, hts⟩ (cz_QtellThing_1_3 l dC dI ed H35.size rm lk th pl gm cT ft t1 hkt1) (cwV 2 hts gX6_mixThings_X3_tellThing rfl rfl rfl (by decide +kernel) ⟨Nat.le_of_ble_eq_true rfl, Nat.le_of_ble_eq_true rfl⟩) ⟨zb_blind, va_recv hK (zo_R hR0 hS hAr) (ci := 5) (q0 := 1) rfl rfl, fun U hU hW => ⟨rfl, zb_mk hU hW hPr hPc hKc hDc hN hH hS hFc zx_e⟩⟩ rfl rfl hl.1 rfl (lv_room (Nat.le_of_ble_eq_true rfl)) dX6_mixThings_36 ⟨Nat.le_of_ble_eq_true rfl, Nat.le_of_ble_eq_true rfl⟩) hS (fun q _ h => hFc q h) hFc (fun r38 u t H37 locs ht hvm hw hB hz1 hk1 hS => ?_)
  obtain rfl : r38 = 0 := hw
  have hP := zo_K hP hk1
  have hPr := (zo_nil : va_P (dC, dI) vwCl [] H37)
  have hPc := hP.sub (ws' := []) [] rfl
  have hDc := hD.sub (ws' := []) [] (by decide) rfl
  have hKc := hK.sub (tys' := []) [] rfl
  have hFc := va_free (wc := []) hD hS hA [] rfl
  refine va_calll (va_runS (As := [.long (-6919722753979622240), .int 0]) (rest := []) ⟨hx, hb, hml, hown, hts⟩ (cz_X6_mix l dC dI ed H37.size (-6919722753979622240) 0) (va_cwS 2 hts gX6_mixThings_X6_mix rfl rfl rfl (by decide +kernel) ⟨Nat.le_of_ble_eq_true rfl, Nat.le_of_ble_eq_true rfl⟩) ⟨zb_blind, fun U hU hW => ⟨rfl, zb_mk hU hW hPr hPc hKc hDc hN hH hS hFc zx_e⟩⟩ rfl rfl hl.1 rfl (lv_room (Nat.le_of_ble_eq_true rfl)) dX6_mixThings_39 ⟨Nat.le_of_ble_eq_true rfl, Nat.le_of_ble_eq_true rfl⟩) hS (fun q _ h => hFc q h) hFc (fun r40 u t H39 locs ht hvm hw hB hz1 hk1 hS => ?_)
  obtain rfl : r40 = 6849523511146329952 := hw.trans (by decide +kernel)
  have hP := zo_K hP hk1
  refine lv_lstore_n (lv' := [(3, .long 6849523511146329952), (6, .int 3), (5, .int 1), (0, .ref x), (1, .long (-1160429273186388225))]) hx hb dX6_mixThings_42 rfl hl (by decide) rfl (fun ls hl => ?_)
  refine lv_iinc (v := 4) (lv' := [(6, .int 4), (3, .long 6849523511146329952), (5, .int 1), (0, .ref x), (1, .long (-1160429273186388225))]) hx hb dX6_mixThings_43 hl (k := 1) rfl (by decide) (by decide) rfl (fun ls hl => ?_)
  refine lv_goto (tgt := 20) hx hb dX6_mixThings_46 (by decide) ?_
  refine lv_iload hx hb dX6_mixThings_20 (lv_at hl 0 rfl) ?_
  refine lv_bipush (v := 6) hx hb dX6_mixThings_22 (by decide) ?_
  refine lv_icmp_ge (tgt := 49) hx hb dX6_mixThings_24 (by decide) (fun h => absurd h (by decide)) (fun _ => ?_)
  refine lv_lload_n hx hb dX6_mixThings_27 rfl (lv_at hl 1 rfl) ?_
  refine lv_aload_n hx hb dX6_mixThings_28 rfl (lv_at hl 3 rfl) ?_
  refine va_get (D := (dC, dI)) (ci := 8) (v := .ref rm) (C := RX6) (T := TX6) (N := 3) hx hb hts zi_X6_mixThings_X6 hown hK (zo_R hR0 hS hAr) 0 rfl rfl 0 (by decide) (hts (.fieldLink RX6 12 "LockRooms" "room" "LLockRooms$Room;") (by decide +kernel)) (fun _ h9 => h9) rfl dX6_mixThings_29 ?_
  refine lv_iload hx hb dX6_mixThings_32 (lv_at hl 2 rfl) ?_
  refine lv_iload hx hb dX6_mixThings_34 (lv_at hl 0 rfl) ?_
  have hPr := ((zo_R hR0 hS hAr)).sub (ws' := [(rm, .inr (5, [.ref lk, .ref th, .ref pl, .ref gm, .int 2, .int 10, .int 0, .int 0, .int 1, .int 0, .int 0, .int 0])), (th, .inl (cT, 12, .inr (.inr (.inr (.inr ft))))), (t1, .inr (7, [.int (-1), .int 0, .int 0, .int 0, .int 0])), (lk, .inl (cL, 10, .inr (.inr (.inr (.inr fl))))), (l0, .inr (3, [.int 0, .int 0, .int 60, .int 0, .int 0, .int 0, .int 0, .int 0, .int 0, .int 0])), (l1, .inr (3, [.int 0, .int 0, .int 60, .int 0, .int 0, .int 0, .int 0, .int 0, .int 0, .int 0]))]) [1, 3, 7, 2, 4, 5] rfl
  have hPc := hP.sub (ws' := []) [] rfl
  have hDc := hD.sub (ws' := []) [] (by decide) rfl
  have hKc := hK.sub (tys' := [(cT, .object "LockRooms$Thing"), (cL, .object "LockRooms$Lock")]) [1, 0] rfl
  have hFc := va_free (wc := []) hD hS hA [] rfl
  refine va_calli (va_runV (As := [.int 1, .int 4]) (rest := [.long 6849523511146329952]) ⟨hx, hb, hml, hown, hts⟩ (cz_QtellThing_1_4 l dC dI ed H39.size rm lk th pl gm cT ft t1 cL fl l0 l1 hkt1 hkl0 hkl1) (cwV 2 hts gX6_mixThings_X3_tellThing rfl rfl rfl (by decide +kernel) ⟨Nat.le_of_ble_eq_true rfl, Nat.le_of_ble_eq_true rfl⟩) ⟨zb_blind, va_recv hK (zo_R hR0 hS hAr) (ci := 5) (q0 := 1) rfl rfl, fun U hU hW => ⟨rfl, zb_mk hU hW hPr hPc hKc hDc hN hH hS hFc zx_e⟩⟩ rfl rfl hl.1 rfl (lv_room (Nat.le_of_ble_eq_true rfl)) dX6_mixThings_36 ⟨Nat.le_of_ble_eq_true rfl, Nat.le_of_ble_eq_true rfl⟩) hS (fun q _ h => hFc q h) hFc (fun r42 u t H41 locs ht hvm hw hB hz1 hk1 hS => ?_)
  obtain rfl : r42 = 1 := hw
  have hP := zo_K hP hk1
  have hPr := (zo_nil : va_P (dC, dI) vwCl [] H41)
  have hPc := hP.sub (ws' := []) [] rfl
  have hDc := hD.sub (ws' := []) [] (by decide) rfl
  have hKc := hK.sub (tys' := []) [] rfl
  have hFc := va_free (wc := []) hD hS hA [] rfl
  refine va_calll (va_runS (As := [.long 6849523511146329952, .int 1]) (rest := []) ⟨hx, hb, hml, hown, hts⟩ (cz_X6_mix l dC dI ed H41.size 6849523511146329952 1) (va_cwS 2 hts gX6_mixThings_X6_mix rfl rfl rfl (by decide +kernel) ⟨Nat.le_of_ble_eq_true rfl, Nat.le_of_ble_eq_true rfl⟩) ⟨zb_blind, fun U hU hW => ⟨rfl, zb_mk hU hW hPr hPc hKc hDc hN hH hS hFc zx_e⟩⟩ rfl rfl hl.1 rfl (lv_room (Nat.le_of_ble_eq_true rfl)) dX6_mixThings_39 ⟨Nat.le_of_ble_eq_true rfl, Nat.le_of_ble_eq_true rfl⟩) hS (fun q _ h => hFc q h) hFc (fun r44 u t H43 locs ht hvm hw hB hz1 hk1 hS => ?_)
  obtain rfl : r44 = (-9025700038978390879) := hw.trans (by decide +kernel)
  have hP := zo_K hP hk1
  refine lv_lstore_n (lv' := [(3, .long (-9025700038978390879)), (6, .int 4), (5, .int 1), (0, .ref x), (1, .long (-1160429273186388225))]) hx hb dX6_mixThings_42 rfl hl (by decide) rfl (fun ls hl => ?_)
  refine lv_iinc (v := 5) (lv' := [(6, .int 5), (3, .long (-9025700038978390879)), (5, .int 1), (0, .ref x), (1, .long (-1160429273186388225))]) hx hb dX6_mixThings_43 hl (k := 1) rfl (by decide) (by decide) rfl (fun ls hl => ?_)
  refine lv_goto (tgt := 20) hx hb dX6_mixThings_46 (by decide) ?_
  refine lv_iload hx hb dX6_mixThings_20 (lv_at hl 0 rfl) ?_
  refine lv_bipush (v := 6) hx hb dX6_mixThings_22 (by decide) ?_
  refine lv_icmp_ge (tgt := 49) hx hb dX6_mixThings_24 (by decide) (fun h => absurd h (by decide)) (fun _ => ?_)
  refine lv_lload_n hx hb dX6_mixThings_27 rfl (lv_at hl 1 rfl) ?_
  refine lv_aload_n hx hb dX6_mixThings_28 rfl (lv_at hl 3 rfl) ?_
  refine va_get (D := (dC, dI)) (ci := 8) (v := .ref rm) (C := RX6) (T := TX6) (N := 3) hx hb hts zi_X6_mixThings_X6 hown hK (zo_R hR0 hS hAr) 0 rfl rfl 0 (by decide) (hts (.fieldLink RX6 12 "LockRooms" "room" "LLockRooms$Room;") (by decide +kernel)) (fun _ h9 => h9) rfl dX6_mixThings_29 ?_
  refine lv_iload hx hb dX6_mixThings_32 (lv_at hl 2 rfl) ?_
  refine lv_iload hx hb dX6_mixThings_34 (lv_at hl 0 rfl) ?_
  have hPr := ((zo_R hR0 hS hAr)).sub (ws' := [(rm, .inr (5, [.ref lk, .ref th, .ref pl, .ref gm, .int 2, .int 10, .int 0, .int 0, .int 1, .int 0, .int 0, .int 0])), (th, .inl (cT, 12, .inr (.inr (.inr (.inr ft))))), (t1, .inr (7, [.int (-1), .int 0, .int 0, .int 0, .int 0])), (lk, .inl (cL, 10, .inr (.inr (.inr (.inr fl))))), (l0, .inr (3, [.int 0, .int 0, .int 60, .int 0, .int 0, .int 0, .int 0, .int 0, .int 0, .int 0])), (l1, .inr (3, [.int 0, .int 0, .int 60, .int 0, .int 0, .int 0, .int 0, .int 0, .int 0, .int 0]))]) [1, 3, 7, 2, 4, 5] rfl
  have hPc := hP.sub (ws' := []) [] rfl
  have hDc := hD.sub (ws' := []) [] (by decide) rfl
  have hKc := hK.sub (tys' := [(cT, .object "LockRooms$Thing"), (cL, .object "LockRooms$Lock")]) [1, 0] rfl
  have hFc := va_free (wc := []) hD hS hA [] rfl
  refine va_calli (va_runV (As := [.int 1, .int 5]) (rest := [.long (-9025700038978390879)]) ⟨hx, hb, hml, hown, hts⟩ (cz_QtellThing_1_5 l dC dI ed H43.size rm lk th pl gm cT ft t1 cL fl l0 l1 hkt1 hkl0 hkl1) (cwV 2 hts gX6_mixThings_X3_tellThing rfl rfl rfl (by decide +kernel) ⟨Nat.le_of_ble_eq_true rfl, Nat.le_of_ble_eq_true rfl⟩) ⟨zb_blind, va_recv hK (zo_R hR0 hS hAr) (ci := 5) (q0 := 1) rfl rfl, fun U hU hW => ⟨rfl, zb_mk hU hW hPr hPc hKc hDc hN hH hS hFc zx_e⟩⟩ rfl rfl hl.1 rfl (lv_room (Nat.le_of_ble_eq_true rfl)) dX6_mixThings_36 ⟨Nat.le_of_ble_eq_true rfl, Nat.le_of_ble_eq_true rfl⟩) hS (fun q _ h => hFc q h) hFc (fun r46 u t H45 locs ht hvm hw hB hz1 hk1 hS => ?_)
  obtain rfl : r46 = 0 := hw
  have hP := zo_K hP hk1
  have hPr := (zo_nil : va_P (dC, dI) vwCl [] H45)
  have hPc := hP.sub (ws' := []) [] rfl
  have hDc := hD.sub (ws' := []) [] (by decide) rfl
  have hKc := hK.sub (tys' := []) [] rfl
  have hFc := va_free (wc := []) hD hS hA [] rfl
  refine va_calll (va_runS (As := [.long (-9025700038978390879), .int 0]) (rest := []) ⟨hx, hb, hml, hown, hts⟩ (cz_X6_mix l dC dI ed H45.size (-9025700038978390879) 0) (va_cwS 2 hts gX6_mixThings_X6_mix rfl rfl rfl (by decide +kernel) ⟨Nat.le_of_ble_eq_true rfl, Nat.le_of_ble_eq_true rfl⟩) ⟨zb_blind, fun U hU hW => ⟨rfl, zb_mk hU hW hPr hPc hKc hDc hN hH hS hFc zx_e⟩⟩ rfl rfl hl.1 rfl (lv_room (Nat.le_of_ble_eq_true rfl)) dX6_mixThings_39 ⟨Nat.le_of_ble_eq_true rfl, Nat.le_of_ble_eq_true rfl⟩) hS (fun q _ h => hFc q h) hFc (fun r48 u t H47 locs ht hvm hw hB hz1 hk1 hS => ?_)
  obtain rfl : r48 = (-3095540102686843009) := hw.trans (by decide +kernel)
  have hP := zo_K hP hk1
  refine lv_lstore_n (lv' := [(3, .long (-3095540102686843009)), (6, .int 5), (5, .int 1), (0, .ref x), (1, .long (-1160429273186388225))]) hx hb dX6_mixThings_42 rfl hl (by decide) rfl (fun ls hl => ?_)
  refine lv_iinc (v := 6) (lv' := [(6, .int 6), (3, .long (-3095540102686843009)), (5, .int 1), (0, .ref x), (1, .long (-1160429273186388225))]) hx hb dX6_mixThings_43 hl (k := 1) rfl (by decide) (by decide) rfl (fun ls hl => ?_)
  refine lv_goto (tgt := 20) hx hb dX6_mixThings_46 (by decide) ?_
  refine lv_iload hx hb dX6_mixThings_20 (lv_at hl 0 rfl) ?_
  refine lv_bipush (v := 6) hx hb dX6_mixThings_22 (by decide) ?_
  refine lv_icmp_ge (tgt := 49) hx hb dX6_mixThings_24 (by decide) (fun _ => ?_) (fun h => absurd h (by decide))
  refine lv_iinc (v := 2) (lv' := [(5, .int 2), (6, .int 6), (3, .long (-3095540102686843009)), (0, .ref x), (1, .long (-1160429273186388225))]) hx hb dX6_mixThings_49 hl (k := 2) rfl (by decide) (by decide) rfl (fun ls hl => ?_)
  refine lv_goto (tgt := 5) hx hb dX6_mixThings_52 (by decide) ?_
  exact cs_QmixThings_1 l dC dI ed x rm tr st lk th pl gm cL fl l0 l1 cT ft t0 t1 t2 t3 t4 t5 t6 t7 t8 t9 hkl0 hkl1 hkt0 hkt1 hkt2 hkt3 hkt4 hkt5 hkt6 hkt7 hkt8 hkt9 hx hb hr hml hown hlocks hts hR0 hN hA hAr hH hAe hK hP hD hS hl
set_option maxHeartbeats 4000000 in
set_option maxRecDepth 100000 in
theorem cz_QmixPlayers (l : Launch) (dC : Nat → ClassId) (dI : Nat → Nat → Nat) (ed sz : Nat) (x : Nat) (rm : Nat) (tr : Nat) (st : Nat) (lk : Nat) (th : Nat) (pl : Nat) (gm : Nat) : Met l yX6_mixPlayers wsX6_mixPlayers ({ frames := 0, cells := 0, slots := 0, locals := 0 } : Jvm.Room) (va_Pc [.ref x, .long (-1088415371068898945)] (zB dC dI ed sz [(x, .inr (8, [.ref rm, .ref tr, .ref st])), (rm, .inr (5, [.ref lk, .ref th, .ref pl, .ref gm, .int 2, .int 10, .int 0, .int 0, .int 1, .int 0, .int 0, .int 0]))] [] [])) (va_Ql (fun (r : Int64) (_ : Unit) => r = (-1088415371068898945)) (fun (_ : Unit) (_ : State) => True) (va_A [] sz)) 0 0 (va_A [] sz) := by
  refine Met.ofW (cc := cX6_mixPlayers) (maxL := 7) (ret := (some .long)) (by decide) rfl ?_
  intro p e s m args below meth c s₁ B hml hv
  obtain ⟨rfl, hsz, hR0, hP, hK, hD0, hN, hH, hX0⟩ := hv
  have hx := B.exec
  have hb := B.bytes
  have hr := B.returns
  have hts := atoms_spec (ws := wsX6_mixPlayers) B.pre
  have hown : s.vm.findClass RX6 = some m.cls := findClass_of_methodNamed B.named
  have hlocks := B.notSynchronized
  subst hsz
  have hD := hD0.self (sz := s.heap.size)
  have hAr := zx_A hX0 hR0
  generalize hAe : va_A [] s.heap.size = A at hD hAr hH ⊢
  have hA : ∀ q : Nat, s.heap.size ≤ q → A q := fun q h => by rw [← hAe]; exact Or.inr h
  have hS : va_S A s.heap s.heap [] := va_S.rf
  have hl := lv_entry ([.ref x, .long (-1088415371068898945)]) (n := 7) (Nat.le_of_ble_eq_true rfl)
  rw [lg_entry_eq]
  generalize (lg_sl ([.ref x, .long (-1088415371068898945)]) ++ List.replicate (7 - (lg_sl ([.ref x, .long (-1088415371068898945)])).length) Slot.unset).toArray = ls at hl ⊢
  have hl : lv_has ls 7 [(0, .ref x), (1, .long (-1088415371068898945))] := hl
  refine lv_lload_n hx hb dX6_mixPlayers_0 rfl (lv_at hl 1 rfl) ?_
  refine lv_lstore_n (lv' := [(3, .long (-1088415371068898945)), (0, .ref x), (1, .long (-1088415371068898945))]) hx hb dX6_mixPlayers_1 rfl hl (by decide) rfl (fun ls hl => ?_)
  refine lv_iconst (v := 0) hx hb dX6_mixPlayers_2 (by decide) ?_
  refine lv_istore (lv' := [(5, .int 0), (3, .long (-1088415371068898945)), (0, .ref x), (1, .long (-1088415371068898945))]) hx hb dX6_mixPlayers_3 hl (by decide) rfl (fun ls hl => ?_)
  refine lv_iload hx hb dX6_mixPlayers_5 (lv_at hl 0 rfl) ?_
  refine lv_aload_n hx hb dX6_mixPlayers_7 rfl (lv_at hl 2 rfl) ?_
  refine va_get (D := (dC, dI)) (ci := 8) (v := .ref rm) (C := RX6) (T := TX6) (N := 3) hx hb hts zi_X6_mixPlayers_X6 hown hK hR0 0 rfl rfl 0 (by decide) (hts (.fieldLink RX6 12 "LockRooms" "room" "LLockRooms$Room;") (by decide +kernel)) (fun _ h9 => h9) rfl dX6_mixPlayers_8 ?_
  refine va_get (D := (dC, dI)) (ci := 5) (v := .int 0) (C := RX3) (T := TX3) (N := 12) hx hb hts zi_X6_mixPlayers_X3 hown hK hR0 1 rfl rfl 6 (by decide) (hts (.fieldLink RX6 82 "LockRooms$Room" "playerCount" "I") (by decide +kernel)) (fun _ h9 => h9) rfl dX6_mixPlayers_11 ?_
  refine lv_icmp_ge (tgt := 54) hx hb dX6_mixPlayers_14 (by decide) (fun _ => ?_) (fun h => absurd h (by decide))
  refine lv_lload_n hx hb dX6_mixPlayers_54 rfl (lv_at hl 1 rfl) ?_
  refine W.widen (k := 0) (n := 0) (Nat.le_of_ble_eq_true rfl) (Nat.le_of_ble_eq_true rfl) ?_
  exact W.lret hx hb hr (fun t ht hW => ⟨⟨(-1088415371068898945), (), rfl, rfl, trivial⟩, hS.F ht⟩) hS.2.2 dX6_mixPlayers_55
set_option maxHeartbeats 4000000 in
set_option maxRecDepth 100000 in
theorem cz_QX6_digest (l : Launch) (dC : Nat → ClassId) (dI : Nat → Nat → Nat) (ed sz : Nat) (x : Nat) (rm : Nat) (tr : Nat) (st : Nat) (a1 : Nat) (a2 : Nat) (a3 : Nat) (gm : Nat) (lk : Nat) (th : Nat) (pl : Nat) (cL : ClassId) (fl : Nat → Option Nat) (l0 : Nat) (l1 : Nat) (cT : ClassId) (ft : Nat → Option Nat) (t0 : Nat) (t1 : Nat) (t2 : Nat) (t3 : Nat) (t4 : Nat) (t5 : Nat) (t6 : Nat) (t7 : Nat) (t8 : Nat) (t9 : Nat) (cZ : ClassId) (f1 : Nat → Int32) (cI : ClassId) (f2 : Nat → Int32) (cJ : ClassId) (f3 : Nat → Int32) (hkl0 : fl 0 = some l0) (hkl1 : fl 1 = some l1) (hkt0 : ft 0 = some t0) (hkt1 : ft 1 = some t1) (hkt2 : ft 2 = some t2) (hkt3 : ft 3 = some t3) (hkt4 : ft 4 = some t4) (hkt5 : ft 5 = some t5) (hkt6 : ft 6 = some t6) (hkt7 : ft 7 = some t7) (hkt8 : ft 8 = some t8) (hkt9 : ft 9 = some t9) : Met l yX6_digest wsX6_digest ({ frames := 6, cells := 0, slots := 0, locals := 145 } : Jvm.Room) (va_Pc [.ref x] (zB dC dI ed sz [(x, .inr (8, [.ref rm, .ref tr, .ref st])), (st, .inr (6, [.ref a1, .ref a2, .ref a3])), (gm, .inr (2, [.int 0, .int 0, .int 0, .int 0, .int 0, .int (-1), .long 0])), (rm, .inr (5, [.ref lk, .ref th, .ref pl, .ref gm, .int 2, .int 10, .int 0, .int 0, .int 1, .int 0, .int 0, .int 0])), (lk, .inl (cL, 10, .inr (.inr (.inr (.inr fl))))), (th, .inl (cT, 12, .inr (.inr (.inr (.inr ft))))), (l0, .inr (3, [.int 0, .int 0, .int 60, .int 0, .int 0, .int 0, .int 0, .int 0, .int 0, .int 0])), (l1, .inr (3, [.int 0, .int 0, .int 60, .int 0, .int 0, .int 0, .int 0, .int 0, .int 0, .int 0])), (t0, .inr (7, [.int (-1), .int 0, .int 0, .int 0, .int 0])), (t1, .inr (7, [.int (-1), .int 0, .int 0, .int 0, .int 0])), (t2, .inr (7, [.int (-1), .int 0, .int 0, .int 0, .int 0])), (t3, .inr (7, [.int (-1), .int 0, .int 0, .int 0, .int 0])), (t4, .inr (7, [.int (-1), .int 0, .int 0, .int 0, .int 0])), (t5, .inr (7, [.int (-1), .int 0, .int 0, .int 0, .int 0])), (t6, .inr (7, [.int (-1), .int 0, .int 0, .int 0, .int 0])), (t7, .inr (7, [.int (-1), .int 0, .int 0, .int 0, .int 0])), (t8, .inr (7, [.int (-1), .int 0, .int 0, .int 0, .int 0])), (t9, .inr (7, [.int (-1), .int 0, .int 0, .int 0, .int 0]))] [(a1, .inl (cZ, 1024, .inl f1)), (a2, .inl (cI, 1024, .inl f2)), (a3, .inl (cJ, 1024, .inl f3))] [(cL, .object "LockRooms$Lock"), (cT, .object "LockRooms$Thing"), (cZ, .boolean), (cI, .int), (cJ, .int)])) (va_Ql (fun (r : Int64) (_ : Unit) => r = 1244744325466633148) (fun (_ : Unit) (t : State) => ∃ (g1 : Nat → Int32), ∃ (g2 : Nat → Int32), ∃ (g3 : Nat → Int32), va_P (dC, dI) vwCl [(a1, .inl (cZ, 1024, .inl g1)), (a2, .inl (cI, 1024, .inl g2)), (a3, .inl (cJ, 1024, .inl g3))] t.heap ∧ va_D (va_A [(a1, .inl (cZ, 1024, .inl f1)), (a2, .inl (cI, 1024, .inl f2)), (a3, .inl (cJ, 1024, .inl f3))] sz) [(a1, .inl (cZ, 1024, .inl g1)), (a2, .inl (cI, 1024, .inl g2)), (a3, .inl (cJ, 1024, .inl g3))] ∧ va_K (dC, dI) vwCl [(cZ, .boolean), (cI, .int), (cJ, .int)] t) (va_A [(a1, .inl (cZ, 1024, .inl f1)), (a2, .inl (cI, 1024, .inl f2)), (a3, .inl (cJ, 1024, .inl f3))] sz)) 0 0 (va_A [(a1, .inl (cZ, 1024, .inl f1)), (a2, .inl (cI, 1024, .inl f2)), (a3, .inl (cJ, 1024, .inl f3))] sz) := by
  refine Met.ofW (cc := cX6_digest) (maxL := 4) (ret := (some .long)) (by decide) rfl ?_
  intro p e s m args below meth c s₁ B hml hv
  obtain ⟨rfl, hsz, hR0, hP, hK, hD0, hN, hH, hX0⟩ := hv
  have hx := B.exec
  have hb := B.bytes
  have hr := B.returns
  have hts := atoms_spec (ws := wsX6_digest) B.pre
  have hown : s.vm.findClass RX6 = some m.cls := findClass_of_methodNamed B.named
  have hlocks := B.notSynchronized
  subst hsz
  have hD := hD0.self (sz := s.heap.size)
  have hAr := zx_A hX0 hR0
  generalize hAe : va_A [(a1, .inl (cZ, 1024, .inl f1)), (a2, .inl (cI, 1024, .inl f2)), (a3, .inl (cJ, 1024, .inl f3))] s.heap.size = A at hD hAr hH ⊢
  have hA : ∀ q : Nat, s.heap.size ≤ q → A q := fun q h => by rw [← hAe]; exact Or.inr h
  have hS : va_S A s.heap s.heap [] := va_S.rf
  have hl := lv_entry ([.ref x]) (n := 4) (Nat.le_of_ble_eq_true rfl)
  rw [lg_entry_eq]
  generalize (lg_sl ([.ref x]) ++ List.replicate (4 - (lg_sl ([.ref x])).length) Slot.unset).toArray = ls at hl ⊢
  have hl : lv_has ls 4 [(0, .ref x)] := hl
  refine lv_ldc2 (v := 9102) hx hb hown (hts (.constantLong RX6 259 (9102)) (by decide +kernel)) dX6_digest_0 ?_
  refine lv_lstore_n (lv' := [(1, .long 9102), (0, .ref x)]) hx hb dX6_digest_3 rfl hl (by decide) rfl (fun ls hl => ?_)
  refine lv_iconst (v := 0) hx hb dX6_digest_4 (by decide) ?_
  refine lv_istore_n (lv' := [(3, .int 0), (1, .long 9102), (0, .ref x)]) hx hb dX6_digest_5 rfl hl (by decide) rfl (fun ls hl => ?_)
  refine lv_iload_n hx hb dX6_digest_6 rfl (lv_at hl 0 rfl) ?_
  refine lv_bipush (v := 19) hx hb dX6_digest_7 (by decide) ?_
  refine lv_icmp_ge (tgt := 31) hx hb dX6_digest_9 (by decide) (fun h => absurd h (by decide)) (fun _ => ?_)
  refine lv_lload_n hx hb dX6_digest_12 rfl (lv_at hl 1 rfl) ?_
  refine lv_aload_n hx hb dX6_digest_13 rfl (lv_at hl 2 rfl) ?_
  refine va_get (D := (dC, dI)) (ci := 8) (v := .ref rm) (C := RX6) (T := TX6) (N := 3) hx hb hts zi_X6_digest_X6 hown hK hR0 0 rfl rfl 0 (by decide) (hts (.fieldLink RX6 12 "LockRooms" "room" "LLockRooms$Room;") (by decide +kernel)) (fun _ h9 => h9) rfl dX6_digest_14 ?_
  refine lv_iload_n hx hb dX6_digest_17 rfl (lv_at hl 0 rfl) ?_
  have hPr := (hR0).sub (ws' := [(rm, .inr (5, [.ref lk, .ref th, .ref pl, .ref gm, .int 2, .int 10, .int 0, .int 0, .int 1, .int 0, .int 0, .int 0])), (gm, .inr (2, [.int 0, .int 0, .int 0, .int 0, .int 0, .int (-1), .long 0]))]) [3, 2] rfl
  have hPc := hP.sub (ws' := []) [] rfl
  have hDc := hD.sub (ws' := []) [] (by decide) rfl
  have hKc := hK.sub (tys' := []) [] rfl
  have hFc := va_free (wc := []) hD hS hA [] rfl
  refine va_calli (va_runV (As := [.int 0]) (rest := [.long 9102]) ⟨hx, hb, hml, hown, hts⟩ (cz_Qtell_0 l dC dI ed s.heap.size rm lk th pl gm) (cwV 1 hts gX6_digest_X3_tell rfl rfl rfl (by decide +kernel) ⟨Nat.le_of_ble_eq_true rfl, Nat.le_of_ble_eq_true rfl⟩) ⟨zb_blind, va_recv hK hR0 (ci := 5) (q0 := 3) rfl rfl, fun U hU hW => ⟨rfl, zb_mk hU hW hPr hPc hKc hDc hN hH hS hFc zx_e⟩⟩ rfl rfl hl.1 rfl (lv_room (Nat.le_of_ble_eq_true rfl)) dX6_digest_18 ⟨Nat.le_of_ble_eq_true rfl, Nat.le_of_ble_eq_true rfl⟩) hS (fun q _ h => hFc q h) hFc (fun r2 u t H1 locs ht hvm hw hB hz1 hk1 hS => ?_)
  obtain rfl : r2 = 0 := hw
  have hP := zo_K hP hk1
  have hPr := (zo_nil : va_P (dC, dI) vwCl [] H1)
  have hPc := hP.sub (ws' := []) [] rfl
  have hDc := hD.sub (ws' := []) [] (by decide) rfl
  have hKc := hK.sub (tys' := []) [] rfl
  have hFc := va_free (wc := []) hD hS hA [] rfl
  refine va_calll (va_runS (As := [.long 9102, .int 0]) (rest := []) ⟨hx, hb, hml, hown, hts⟩ (cz_X6_mix l dC dI ed H1.size 9102 0) (va_cwS 2 hts gX6_digest_X6_mix rfl rfl rfl (by decide +kernel) ⟨Nat.le_of_ble_eq_true rfl, Nat.le_of_ble_eq_true rfl⟩) ⟨zb_blind, fun U hU hW => ⟨rfl, zb_mk hU hW hPr hPc hKc hDc hN hH hS hFc zx_e⟩⟩ rfl rfl hl.1 rfl (lv_room (Nat.le_of_ble_eq_true rfl)) dX6_digest_21 ⟨Nat.le_of_ble_eq_true rfl, Nat.le_of_ble_eq_true rfl⟩) hS (fun q _ h => hFc q h) hFc (fun r4 u t H3 locs ht hvm hw hB hz1 hk1 hS => ?_)
  obtain rfl : r4 = 282162 := hw.trans (by decide +kernel)
  have hP := zo_K hP hk1
  refine lv_lstore_n (lv' := [(1, .long 282162), (3, .int 0), (0, .ref x)]) hx hb dX6_digest_24 rfl hl (by decide) rfl (fun ls hl => ?_)
  refine lv_iinc (v := 1) (lv' := [(3, .int 1), (1, .long 282162), (0, .ref x)]) hx hb dX6_digest_25 hl (k := 1) rfl (by decide) (by decide) rfl (fun ls hl => ?_)
  refine lv_goto (tgt := 6) hx hb dX6_digest_28 (by decide) ?_
  refine lv_iload_n hx hb dX6_digest_6 rfl (lv_at hl 0 rfl) ?_
  refine lv_bipush (v := 19) hx hb dX6_digest_7 (by decide) ?_
  refine lv_icmp_ge (tgt := 31) hx hb dX6_digest_9 (by decide) (fun h => absurd h (by decide)) (fun _ => ?_)
  refine lv_lload_n hx hb dX6_digest_12 rfl (lv_at hl 1 rfl) ?_
  refine lv_aload_n hx hb dX6_digest_13 rfl (lv_at hl 2 rfl) ?_
  refine va_get (D := (dC, dI)) (ci := 8) (v := .ref rm) (C := RX6) (T := TX6) (N := 3) hx hb hts zi_X6_digest_X6 hown hK (zo_R hR0 hS hAr) 0 rfl rfl 0 (by decide) (hts (.fieldLink RX6 12 "LockRooms" "room" "LLockRooms$Room;") (by decide +kernel)) (fun _ h9 => h9) rfl dX6_digest_14 ?_
  refine lv_iload_n hx hb dX6_digest_17 rfl (lv_at hl 0 rfl) ?_
  have hPr := ((zo_R hR0 hS hAr)).sub (ws' := [(rm, .inr (5, [.ref lk, .ref th, .ref pl, .ref gm, .int 2, .int 10, .int 0, .int 0, .int 1, .int 0, .int 0, .int 0])), (gm, .inr (2, [.int 0, .int 0, .int 0, .int 0, .int 0, .int (-1), .long 0]))]) [3, 2] rfl
  have hPc := hP.sub (ws' := []) [] rfl
  have hDc := hD.sub (ws' := []) [] (by decide) rfl
  have hKc := hK.sub (tys' := []) [] rfl
  have hFc := va_free (wc := []) hD hS hA [] rfl
  refine va_calli (va_runV (As := [.int 1]) (rest := [.long 282162]) ⟨hx, hb, hml, hown, hts⟩ (cz_Qtell_1 l dC dI ed H3.size rm lk th pl gm) (cwV 1 hts gX6_digest_X3_tell rfl rfl rfl (by decide +kernel) ⟨Nat.le_of_ble_eq_true rfl, Nat.le_of_ble_eq_true rfl⟩) ⟨zb_blind, va_recv hK (zo_R hR0 hS hAr) (ci := 5) (q0 := 3) rfl rfl, fun U hU hW => ⟨rfl, zb_mk hU hW hPr hPc hKc hDc hN hH hS hFc zx_e⟩⟩ rfl rfl hl.1 rfl (lv_room (Nat.le_of_ble_eq_true rfl)) dX6_digest_18 ⟨Nat.le_of_ble_eq_true rfl, Nat.le_of_ble_eq_true rfl⟩) hS (fun q _ h => hFc q h) hFc (fun r6 u t H5 locs ht hvm hw hB hz1 hk1 hS => ?_)
  obtain rfl : r6 = 2 := hw
  have hP := zo_K hP hk1
  have hPr := (zo_nil : va_P (dC, dI) vwCl [] H5)
  have hPc := hP.sub (ws' := []) [] rfl
  have hDc := hD.sub (ws' := []) [] (by decide) rfl
  have hKc := hK.sub (tys' := []) [] rfl
  have hFc := va_free (wc := []) hD hS hA [] rfl
  refine va_calll (va_runS (As := [.long 282162, .int 2]) (rest := []) ⟨hx, hb, hml, hown, hts⟩ (cz_X6_mix l dC dI ed H5.size 282162 2) (va_cwS 2 hts gX6_digest_X6_mix rfl rfl rfl (by decide +kernel) ⟨Nat.le_of_ble_eq_true rfl, Nat.le_of_ble_eq_true rfl⟩) ⟨zb_blind, fun U hU hW => ⟨rfl, zb_mk hU hW hPr hPc hKc hDc hN hH hS hFc zx_e⟩⟩ rfl rfl hl.1 rfl (lv_room (Nat.le_of_ble_eq_true rfl)) dX6_digest_21 ⟨Nat.le_of_ble_eq_true rfl, Nat.le_of_ble_eq_true rfl⟩) hS (fun q _ h => hFc q h) hFc (fun r8 u t H7 locs ht hvm hw hB hz1 hk1 hS => ?_)
  obtain rfl : r8 = 8747024 := hw.trans (by decide +kernel)
  have hP := zo_K hP hk1
  refine lv_lstore_n (lv' := [(1, .long 8747024), (3, .int 1), (0, .ref x)]) hx hb dX6_digest_24 rfl hl (by decide) rfl (fun ls hl => ?_)
  refine lv_iinc (v := 2) (lv' := [(3, .int 2), (1, .long 8747024), (0, .ref x)]) hx hb dX6_digest_25 hl (k := 1) rfl (by decide) (by decide) rfl (fun ls hl => ?_)
  refine lv_goto (tgt := 6) hx hb dX6_digest_28 (by decide) ?_
  refine lv_iload_n hx hb dX6_digest_6 rfl (lv_at hl 0 rfl) ?_
  refine lv_bipush (v := 19) hx hb dX6_digest_7 (by decide) ?_
  refine lv_icmp_ge (tgt := 31) hx hb dX6_digest_9 (by decide) (fun h => absurd h (by decide)) (fun _ => ?_)
  refine lv_lload_n hx hb dX6_digest_12 rfl (lv_at hl 1 rfl) ?_
  refine lv_aload_n hx hb dX6_digest_13 rfl (lv_at hl 2 rfl) ?_
  refine va_get (D := (dC, dI)) (ci := 8) (v := .ref rm) (C := RX6) (T := TX6) (N := 3) hx hb hts zi_X6_digest_X6 hown hK (zo_R hR0 hS hAr) 0 rfl rfl 0 (by decide) (hts (.fieldLink RX6 12 "LockRooms" "room" "LLockRooms$Room;") (by decide +kernel)) (fun _ h9 => h9) rfl dX6_digest_14 ?_
  refine lv_iload_n hx hb dX6_digest_17 rfl (lv_at hl 0 rfl) ?_
  have hPr := ((zo_R hR0 hS hAr)).sub (ws' := [(rm, .inr (5, [.ref lk, .ref th, .ref pl, .ref gm, .int 2, .int 10, .int 0, .int 0, .int 1, .int 0, .int 0, .int 0])), (gm, .inr (2, [.int 0, .int 0, .int 0, .int 0, .int 0, .int (-1), .long 0]))]) [3, 2] rfl
  have hPc := hP.sub (ws' := []) [] rfl
  have hDc := hD.sub (ws' := []) [] (by decide) rfl
  have hKc := hK.sub (tys' := []) [] rfl
  have hFc := va_free (wc := []) hD hS hA [] rfl
  refine va_calli (va_runV (As := [.int 2]) (rest := [.long 8747024]) ⟨hx, hb, hml, hown, hts⟩ (cz_Qtell_2 l dC dI ed H7.size rm lk th pl gm) (cwV 1 hts gX6_digest_X3_tell rfl rfl rfl (by decide +kernel) ⟨Nat.le_of_ble_eq_true rfl, Nat.le_of_ble_eq_true rfl⟩) ⟨zb_blind, va_recv hK (zo_R hR0 hS hAr) (ci := 5) (q0 := 3) rfl rfl, fun U hU hW => ⟨rfl, zb_mk hU hW hPr hPc hKc hDc hN hH hS hFc zx_e⟩⟩ rfl rfl hl.1 rfl (lv_room (Nat.le_of_ble_eq_true rfl)) dX6_digest_18 ⟨Nat.le_of_ble_eq_true rfl, Nat.le_of_ble_eq_true rfl⟩) hS (fun q _ h => hFc q h) hFc (fun r10 u t H9 locs ht hvm hw hB hz1 hk1 hS => ?_)
  obtain rfl : r10 = 10 := hw
  have hP := zo_K hP hk1
  have hPr := (zo_nil : va_P (dC, dI) vwCl [] H9)
  have hPc := hP.sub (ws' := []) [] rfl
  have hDc := hD.sub (ws' := []) [] (by decide) rfl
  have hKc := hK.sub (tys' := []) [] rfl
  have hFc := va_free (wc := []) hD hS hA [] rfl
  refine va_calll (va_runS (As := [.long 8747024, .int 10]) (rest := []) ⟨hx, hb, hml, hown, hts⟩ (cz_X6_mix l dC dI ed H9.size 8747024 10) (va_cwS 2 hts gX6_digest_X6_mix rfl rfl rfl (by decide +kernel) ⟨Nat.le_of_ble_eq_true rfl, Nat.le_of_ble_eq_true rfl⟩) ⟨zb_blind, fun U hU hW => ⟨rfl, zb_mk hU hW hPr hPc hKc hDc hN hH hS hFc zx_e⟩⟩ rfl rfl hl.1 rfl (lv_room (Nat.le_of_ble_eq_true rfl)) dX6_digest_21 ⟨Nat.le_of_ble_eq_true rfl, Nat.le_of_ble_eq_true rfl⟩) hS (fun q _ h => hFc q h) hFc (fun r12 u t H11 locs ht hvm hw hB hz1 hk1 hS => ?_)
  obtain rfl : r12 = 271157754 := hw.trans (by decide +kernel)
  have hP := zo_K hP hk1
  refine lv_lstore_n (lv' := [(1, .long 271157754), (3, .int 2), (0, .ref x)]) hx hb dX6_digest_24 rfl hl (by decide) rfl (fun ls hl => ?_)
  refine lv_iinc (v := 3) (lv' := [(3, .int 3), (1, .long 271157754), (0, .ref x)]) hx hb dX6_digest_25 hl (k := 1) rfl (by decide) (by decide) rfl (fun ls hl => ?_)
  refine lv_goto (tgt := 6) hx hb dX6_digest_28 (by decide) ?_
  refine lv_iload_n hx hb dX6_digest_6 rfl (lv_at hl 0 rfl) ?_
  refine lv_bipush (v := 19) hx hb dX6_digest_7 (by decide) ?_
  refine lv_icmp_ge (tgt := 31) hx hb dX6_digest_9 (by decide) (fun h => absurd h (by decide)) (fun _ => ?_)
  refine lv_lload_n hx hb dX6_digest_12 rfl (lv_at hl 1 rfl) ?_
  refine lv_aload_n hx hb dX6_digest_13 rfl (lv_at hl 2 rfl) ?_
  refine va_get (D := (dC, dI)) (ci := 8) (v := .ref rm) (C := RX6) (T := TX6) (N := 3) hx hb hts zi_X6_digest_X6 hown hK (zo_R hR0 hS hAr) 0 rfl rfl 0 (by decide) (hts (.fieldLink RX6 12 "LockRooms" "room" "LLockRooms$Room;") (by decide +kernel)) (fun _ h9 => h9) rfl dX6_digest_14 ?_
  refine lv_iload_n hx hb dX6_digest_17 rfl (lv_at hl 0 rfl) ?_
  have hPr := ((zo_R hR0 hS hAr)).sub (ws' := [(rm, .inr (5, [.ref lk, .ref th, .ref pl, .ref gm, .int 2, .int 10, .int 0, .int 0, .int 1, .int 0, .int 0, .int 0])), (gm, .inr (2, [.int 0, .int 0, .int 0, .int 0, .int 0, .int (-1), .long 0]))]) [3, 2] rfl
  have hPc := hP.sub (ws' := []) [] rfl
  have hDc := hD.sub (ws' := []) [] (by decide) rfl
  have hKc := hK.sub (tys' := []) [] rfl
  have hFc := va_free (wc := []) hD hS hA [] rfl
  refine va_calli (va_runV (As := [.int 3]) (rest := [.long 271157754]) ⟨hx, hb, hml, hown, hts⟩ (cz_Qtell_3 l dC dI ed H11.size rm lk th pl gm) (cwV 1 hts gX6_digest_X3_tell rfl rfl rfl (by decide +kernel) ⟨Nat.le_of_ble_eq_true rfl, Nat.le_of_ble_eq_true rfl⟩) ⟨zb_blind, va_recv hK (zo_R hR0 hS hAr) (ci := 5) (q0 := 3) rfl rfl, fun U hU hW => ⟨rfl, zb_mk hU hW hPr hPc hKc hDc hN hH hS hFc zx_e⟩⟩ rfl rfl hl.1 rfl (lv_room (Nat.le_of_ble_eq_true rfl)) dX6_digest_18 ⟨Nat.le_of_ble_eq_true rfl, Nat.le_of_ble_eq_true rfl⟩) hS (fun q _ h => hFc q h) hFc (fun r14 u t H13 locs ht hvm hw hB hz1 hk1 hS => ?_)
  obtain rfl : r14 = 0 := hw
  have hP := zo_K hP hk1
  have hPr := (zo_nil : va_P (dC, dI) vwCl [] H13)
  have hPc := hP.sub (ws' := []) [] rfl
  have hDc := hD.sub (ws' := []) [] (by decide) rfl
  have hKc := hK.sub (tys' := []) [] rfl
  have hFc := va_free (wc := []) hD hS hA [] rfl
  refine va_calll (va_runS (As := [.long 271157754, .int 0]) (rest := []) ⟨hx, hb, hml, hown, hts⟩ (cz_X6_mix l dC dI ed H13.size 271157754 0) (va_cwS 2 hts gX6_digest_X6_mix rfl rfl rfl (by decide +kernel) ⟨Nat.le_of_ble_eq_true rfl, Nat.le_of_ble_eq_true rfl⟩) ⟨zb_blind, fun U hU hW => ⟨rfl, zb_mk hU hW hPr hPc hKc hDc hN hH hS hFc zx_e⟩⟩ rfl rfl hl.1 rfl (lv_room (Nat.le_of_ble_eq_true rfl)) dX6_digest_21 ⟨Nat.le_of_ble_eq_true rfl, Nat.le_of_ble_eq_true rfl⟩) hS (fun q _ h => hFc q h) hFc (fun r16 u t H15 locs ht hvm hw hB hz1 hk1 hS => ?_)
  obtain rfl : r16 = 8405890374 := hw.trans (by decide +kernel)
  have hP := zo_K hP hk1
  refine lv_lstore_n (lv' := [(1, .long 8405890374), (3, .int 3), (0, .ref x)]) hx hb dX6_digest_24 rfl hl (by decide) rfl (fun ls hl => ?_)
  refine lv_iinc (v := 4) (lv' := [(3, .int 4), (1, .long 8405890374), (0, .ref x)]) hx hb dX6_digest_25 hl (k := 1) rfl (by decide) (by decide) rfl (fun ls hl => ?_)
  refine lv_goto (tgt := 6) hx hb dX6_digest_28 (by decide) ?_
  refine lv_iload_n hx hb dX6_digest_6 rfl (lv_at hl 0 rfl) ?_
  refine lv_bipush (v := 19) hx hb dX6_digest_7 (by decide) ?_
  refine lv_icmp_ge (tgt := 31) hx hb dX6_digest_9 (by decide) (fun h => absurd h (by decide)) (fun _ => ?_)
  refine lv_lload_n hx hb dX6_digest_12 rfl (lv_at hl 1 rfl) ?_
  refine lv_aload_n hx hb dX6_digest_13 rfl (lv_at hl 2 rfl) ?_
  refine va_get (D := (dC, dI)) (ci := 8) (v := .ref rm) (C := RX6) (T := TX6) (N := 3) hx hb hts zi_X6_digest_X6 hown hK (zo_R hR0 hS hAr) 0 rfl rfl 0 (by decide) (hts (.fieldLink RX6 12 "LockRooms" "room" "LLockRooms$Room;") (by decide +kernel)) (fun _ h9 => h9) rfl dX6_digest_14 ?_
  refine lv_iload_n hx hb dX6_digest_17 rfl (lv_at hl 0 rfl) ?_
  have hPr := ((zo_R hR0 hS hAr)).sub (ws' := [(rm, .inr (5, [.ref lk, .ref th, .ref pl, .ref gm, .int 2, .int 10, .int 0, .int 0, .int 1, .int 0, .int 0, .int 0])), (gm, .inr (2, [.int 0, .int 0, .int 0, .int 0, .int 0, .int (-1), .long 0]))]) [3, 2] rfl
  have hPc := hP.sub (ws' := []) [] rfl
  have hDc := hD.sub (ws' := []) [] (by decide) rfl
  have hKc := hK.sub (tys' := []) [] rfl
  have hFc := va_free (wc := []) hD hS hA [] rfl
  refine va_calli (va_runV (As := [.int 4]) (rest := [.long 8405890374]) ⟨hx, hb, hml, hown, hts⟩ (cz_Qtell_4 l dC dI ed H15.size rm lk th pl gm) (cwV 1 hts gX6_digest_X3_tell rfl rfl rfl (by decide +kernel) ⟨Nat.le_of_ble_eq_true rfl, Nat.le_of_ble_eq_true rfl⟩) ⟨zb_blind, va_recv hK (zo_R hR0 hS hAr) (ci := 5) (q0 := 3) rfl rfl, fun U hU hW => ⟨rfl, zb_mk hU hW hPr hPc hKc hDc hN hH hS hFc zx_e⟩⟩ rfl rfl hl.1 rfl (lv_room (Nat.le_of_ble_eq_true rfl)) dX6_digest_18 ⟨Nat.le_of_ble_eq_true rfl, Nat.le_of_ble_eq_true rfl⟩) hS (fun q _ h => hFc q h) hFc (fun r18 u t H17 locs ht hvm hw hB hz1 hk1 hS => ?_)
  obtain rfl : r18 = 0 := hw
  have hP := zo_K hP hk1
  have hPr := (zo_nil : va_P (dC, dI) vwCl [] H17)
  have hPc := hP.sub (ws' := []) [] rfl
  have hDc := hD.sub (ws' := []) [] (by decide) rfl
  have hKc := hK.sub (tys' := []) [] rfl
  have hFc := va_free (wc := []) hD hS hA [] rfl
  refine va_calll (va_runS (As := [.long 8405890374, .int 0]) (rest := []) ⟨hx, hb, hml, hown, hts⟩ (cz_X6_mix l dC dI ed H17.size 8405890374 0) (va_cwS 2 hts gX6_digest_X6_mix rfl rfl rfl (by decide +kernel) ⟨Nat.le_of_ble_eq_true rfl, Nat.le_of_ble_eq_true rfl⟩) ⟨zb_blind, fun U hU hW => ⟨rfl, zb_mk hU hW hPr hPc hKc hDc hN hH hS hFc zx_e⟩⟩ rfl rfl hl.1 rfl (lv_room (Nat.le_of_ble_eq_true rfl)) dX6_digest_21 ⟨Nat.le_of_ble_eq_true rfl, Nat.le_of_ble_eq_true rfl⟩) hS (fun q _ h => hFc q h) hFc (fun r20 u t H19 locs ht hvm hw hB hz1 hk1 hS => ?_)
  obtain rfl : r20 = 260582601594 := hw.trans (by decide +kernel)
  have hP := zo_K hP hk1
  refine lv_lstore_n (lv' := [(1, .long 260582601594), (3, .int 4), (0, .ref x)]) hx hb dX6_digest_24 rfl hl (by decide) rfl (fun ls hl => ?_)
  refine lv_iinc (v := 5) (lv' := [(3, .int 5), (1, .long 260582601594), (0, .ref x)]) hx hb dX6_digest_25 hl (k := 1) rfl (by decide) (by decide) rfl (fun ls hl => ?_)
  refine lv_goto (tgt := 6) hx hb dX6_digest_28 (by decide) ?_
  refine lv_iload_n hx hb dX6_digest_6 rfl (lv_at hl 0 rfl) ?_
  refine lv_bipush (v := 19) hx hb dX6_digest_7 (by decide) ?_
  refine lv_icmp_ge (tgt := 31) hx hb dX6_digest_9 (by decide) (fun h => absurd h (by decide)) (fun _ => ?_)
  refine lv_lload_n hx hb dX6_digest_12 rfl (lv_at hl 1 rfl) ?_
  refine lv_aload_n hx hb dX6_digest_13 rfl (lv_at hl 2 rfl) ?_
  refine va_get (D := (dC, dI)) (ci := 8) (v := .ref rm) (C := RX6) (T := TX6) (N := 3) hx hb hts zi_X6_digest_X6 hown hK (zo_R hR0 hS hAr) 0 rfl rfl 0 (by decide) (hts (.fieldLink RX6 12 "LockRooms" "room" "LLockRooms$Room;") (by decide +kernel)) (fun _ h9 => h9) rfl dX6_digest_14 ?_
  refine lv_iload_n hx hb dX6_digest_17 rfl (lv_at hl 0 rfl) ?_
  have hPr := ((zo_R hR0 hS hAr)).sub (ws' := [(rm, .inr (5, [.ref lk, .ref th, .ref pl, .ref gm, .int 2, .int 10, .int 0, .int 0, .int 1, .int 0, .int 0, .int 0])), (gm, .inr (2, [.int 0, .int 0, .int 0, .int 0, .int 0, .int (-1), .long 0]))]) [3, 2] rfl
  have hPc := hP.sub (ws' := []) [] rfl
  have hDc := hD.sub (ws' := []) [] (by decide) rfl
  have hKc := hK.sub (tys' := []) [] rfl
  have hFc := va_free (wc := []) hD hS hA [] rfl
  refine va_calli (va_runV (As := [.int 5]) (rest := [.long 260582601594]) ⟨hx, hb, hml, hown, hts⟩ (cz_Qtell_5 l dC dI ed H19.size rm lk th pl gm) (cwV 1 hts gX6_digest_X3_tell rfl rfl rfl (by decide +kernel) ⟨Nat.le_of_ble_eq_true rfl, Nat.le_of_ble_eq_true rfl⟩) ⟨zb_blind, va_recv hK (zo_R hR0 hS hAr) (ci := 5) (q0 := 3) rfl rfl, fun U hU hW => ⟨rfl, zb_mk hU hW hPr hPc hKc hDc hN hH hS hFc zx_e⟩⟩ rfl rfl hl.1 rfl (lv_room (Nat.le_of_ble_eq_true rfl)) dX6_digest_18 ⟨Nat.le_of_ble_eq_true rfl, Nat.le_of_ble_eq_true rfl⟩) hS (fun q _ h => hFc q h) hFc (fun r22 u t H21 locs ht hvm hw hB hz1 hk1 hS => ?_)
  obtain rfl : r22 = 0 := hw
  have hP := zo_K hP hk1
  have hPr := (zo_nil : va_P (dC, dI) vwCl [] H21)
  have hPc := hP.sub (ws' := []) [] rfl
  have hDc := hD.sub (ws' := []) [] (by decide) rfl
  have hKc := hK.sub (tys' := []) [] rfl
  have hFc := va_free (wc := []) hD hS hA [] rfl
  refine va_calll (va_runS (As := [.long 260582601594, .int 0]) (rest := []) ⟨hx, hb, hml, hown, hts⟩ (cz_X6_mix l dC dI ed H21.size 260582601594 0) (va_cwS 2 hts gX6_digest_X6_mix rfl rfl rfl (by decide +kernel) ⟨Nat.le_of_ble_eq_true rfl, Nat.le_of_ble_eq_true rfl⟩) ⟨zb_blind, fun U hU hW => ⟨rfl, zb_mk hU hW hPr hPc hKc hDc hN hH hS hFc zx_e⟩⟩ rfl rfl hl.1 rfl (lv_room (Nat.le_of_ble_eq_true rfl)) dX6_digest_21 ⟨Nat.le_of_ble_eq_true rfl, Nat.le_of_ble_eq_true rfl⟩) hS (fun q _ h => hFc q h) hFc (fun r24 u t H23 locs ht hvm hw hB hz1 hk1 hS => ?_)
  obtain rfl : r24 = 8078060649414 := hw.trans (by decide +kernel)
  have hP := zo_K hP hk1
  refine lv_lstore_n (lv' := [(1, .long 8078060649414), (3, .int 5), (0, .ref x)]) hx hb dX6_digest_24 rfl hl (by decide) rfl (fun ls hl => ?_)
  refine lv_iinc (v := 6) (lv' := [(3, .int 6), (1, .long 8078060649414), (0, .ref x)]) hx hb dX6_digest_25 hl (k := 1) rfl (by decide) (by decide) rfl (fun ls hl => ?_)
  refine lv_goto (tgt := 6) hx hb dX6_digest_28 (by decide) ?_
  refine lv_iload_n hx hb dX6_digest_6 rfl (lv_at hl 0 rfl) ?_
  refine lv_bipush (v := 19) hx hb dX6_digest_7 (by decide) ?_
  refine lv_icmp_ge (tgt := 31) hx hb dX6_digest_9 (by decide) (fun h => absurd h (by decide)) (fun _ => ?_)
  refine lv_lload_n hx hb dX6_digest_12 rfl (lv_at hl 1 rfl) ?_
  refine lv_aload_n hx hb dX6_digest_13 rfl (lv_at hl 2 rfl) ?_
  refine va_get (D := (dC, dI)) (ci := 8) (v := .ref rm) (C := RX6) (T := TX6) (N := 3) hx hb hts zi_X6_digest_X6 hown hK (zo_R hR0 hS hAr) 0 rfl rfl 0 (by decide) (hts (.fieldLink RX6 12 "LockRooms" "room" "LLockRooms$Room;") (by decide +kernel)) (fun _ h9 => h9) rfl dX6_digest_14 ?_
  refine lv_iload_n hx hb dX6_digest_17 rfl (lv_at hl 0 rfl) ?_
  have hPr := ((zo_R hR0 hS hAr)).sub (ws' := [(rm, .inr (5, [.ref lk, .ref th, .ref pl, .ref gm, .int 2, .int 10, .int 0, .int 0, .int 1, .int 0, .int 0, .int 0])), (gm, .inr (2, [.int 0, .int 0, .int 0, .int 0, .int 0, .int (-1), .long 0]))]) [3, 2] rfl
  have hPc := hP.sub (ws' := []) [] rfl
  have hDc := hD.sub (ws' := []) [] (by decide) rfl
  have hKc := hK.sub (tys' := []) [] rfl
  have hFc := va_free (wc := []) hD hS hA [] rfl
  refine va_calli (va_runV (As := [.int 6]) (rest := [.long 8078060649414]) ⟨hx, hb, hml, hown, hts⟩ (cz_Qtell_6 l dC dI ed H23.size rm lk th pl gm) (cwV 1 hts gX6_digest_X3_tell rfl rfl rfl (by decide +kernel) ⟨Nat.le_of_ble_eq_true rfl, Nat.le_of_ble_eq_true rfl⟩) ⟨zb_blind, va_recv hK (zo_R hR0 hS hAr) (ci := 5) (q0 := 3) rfl rfl, fun U hU hW => ⟨rfl, zb_mk hU hW hPr hPc hKc hDc hN hH hS hFc zx_e⟩⟩ rfl rfl hl.1 rfl (lv_room (Nat.le_of_ble_eq_true rfl)) dX6_digest_18 ⟨Nat.le_of_ble_eq_true rfl, Nat.le_of_ble_eq_true rfl⟩) hS (fun q _ h => hFc q h) hFc (fun r26 u t H25 locs ht hvm hw hB hz1 hk1 hS => ?_)
  obtain rfl : r26 = 0 := hw
  have hP := zo_K hP hk1
  have hPr := (zo_nil : va_P (dC, dI) vwCl [] H25)
  have hPc := hP.sub (ws' := []) [] rfl
  have hDc := hD.sub (ws' := []) [] (by decide) rfl
  have hKc := hK.sub (tys' := []) [] rfl
  have hFc := va_free (wc := []) hD hS hA [] rfl
  refine va_calll (va_runS (As := [.long 8078060649414, .int 0]) (rest := []) ⟨hx, hb, hml, hown, hts⟩ (cz_X6_mix l dC dI ed H25.size 8078060649414 0) (va_cwS 2 hts gX6_digest_X6_mix rfl rfl rfl (by decide +kernel) ⟨Nat.le_of_ble_eq_true rfl, Nat.le_of_ble_eq_true rfl⟩) ⟨zb_blind, fun U hU hW => ⟨rfl, zb_mk hU hW hPr hPc hKc hDc hN hH hS hFc zx_e⟩⟩ rfl rfl hl.1 rfl (lv_room (Nat.le_of_ble_eq_true rfl)) dX6_digest_21 ⟨Nat.le_of_ble_eq_true rfl, Nat.le_of_ble_eq_true rfl⟩) hS (fun q _ h => hFc q h) hFc (fun r28 u t H27 locs ht hvm hw hB hz1 hk1 hS => ?_)
  obtain rfl : r28 = 250419880131834 := hw.trans (by decide +kernel)
  have hP := zo_K hP hk1
  refine lv_lstore_n (lv' := [(1, .long 250419880131834), (3, .int 6), (0, .ref x)]) hx hb dX6_digest_24 rfl hl (by decide) rfl (fun ls hl => ?_)
  refine lv_iinc (v := 7) (lv' := [(3, .int 7), (1, .long 250419880131834), (0, .ref x)]) hx hb dX6_digest_25 hl (k := 1) rfl (by decide) (by decide) rfl (fun ls hl => ?_)
  refine lv_goto (tgt := 6) hx hb dX6_digest_28 (by decide) ?_
  refine lv_iload_n hx hb dX6_digest_6 rfl (lv_at hl 0 rfl) ?_
  refine lv_bipush (v := 19) hx hb dX6_digest_7 (by decide) ?_
  refine lv_icmp_ge (tgt := 31) hx hb dX6_digest_9 (by decide) (fun h => absurd h (by decide)) (fun _ => ?_)
  refine lv_lload_n hx hb dX6_digest_12 rfl (lv_at hl 1 rfl) ?_
  refine lv_aload_n hx hb dX6_digest_13 rfl (lv_at hl 2 rfl) ?_
  refine va_get (D := (dC, dI)) (ci := 8) (v := .ref rm) (C := RX6) (T := TX6) (N := 3) hx hb hts zi_X6_digest_X6 hown hK (zo_R hR0 hS hAr) 0 rfl rfl 0 (by decide) (hts (.fieldLink RX6 12 "LockRooms" "room" "LLockRooms$Room;") (by decide +kernel)) (fun _ h9 => h9) rfl dX6_digest_14 ?_
  refine lv_iload_n hx hb dX6_digest_17 rfl (lv_at hl 0 rfl) ?_
  have hPr := ((zo_R hR0 hS hAr)).sub (ws' := [(rm, .inr (5, [.ref lk, .ref th, .ref pl, .ref gm, .int 2, .int 10, .int 0, .int 0, .int 1, .int 0, .int 0, .int 0])), (gm, .inr (2, [.int 0, .int 0, .int 0, .int 0, .int 0, .int (-1), .long 0]))]) [3, 2] rfl
  have hPc := hP.sub (ws' := []) [] rfl
  have hDc := hD.sub (ws' := []) [] (by decide) rfl
  have hKc := hK.sub (tys' := []) [] rfl
  have hFc := va_free (wc := []) hD hS hA [] rfl
  refine va_calli (va_runV (As := [.int 7]) (rest := [.long 250419880131834]) ⟨hx, hb, hml, hown, hts⟩ (cz_Qtell_7 l dC dI ed H27.size rm lk th pl gm) (cwV 1 hts gX6_digest_X3_tell rfl rfl rfl (by decide +kernel) ⟨Nat.le_of_ble_eq_true rfl, Nat.le_of_ble_eq_true rfl⟩) ⟨zb_blind, va_recv hK (zo_R hR0 hS hAr) (ci := 5) (q0 := 3) rfl rfl, fun U hU hW => ⟨rfl, zb_mk hU hW hPr hPc hKc hDc hN hH hS hFc zx_e⟩⟩ rfl rfl hl.1 rfl (lv_room (Nat.le_of_ble_eq_true rfl)) dX6_digest_18 ⟨Nat.le_of_ble_eq_true rfl, Nat.le_of_ble_eq_true rfl⟩) hS (fun q _ h => hFc q h) hFc (fun r30 u t H29 locs ht hvm hw hB hz1 hk1 hS => ?_)
  obtain rfl : r30 = 0 := hw
  have hP := zo_K hP hk1
  have hPr := (zo_nil : va_P (dC, dI) vwCl [] H29)
  have hPc := hP.sub (ws' := []) [] rfl
  have hDc := hD.sub (ws' := []) [] (by decide) rfl
  have hKc := hK.sub (tys' := []) [] rfl
  have hFc := va_free (wc := []) hD hS hA [] rfl
  refine va_calll (va_runS (As := [.long 250419880131834, .int 0]) (rest := []) ⟨hx, hb, hml, hown, hts⟩ (cz_X6_mix l dC dI ed H29.size 250419880131834 0) (va_cwS 2 hts gX6_digest_X6_mix rfl rfl rfl (by decide +kernel) ⟨Nat.le_of_ble_eq_true rfl, Nat.le_of_ble_eq_true rfl⟩) ⟨zb_blind, fun U hU hW => ⟨rfl, zb_mk hU hW hPr hPc hKc hDc hN hH hS hFc zx_e⟩⟩ rfl rfl hl.1 rfl (lv_room (Nat.le_of_ble_eq_true rfl)) dX6_digest_21 ⟨Nat.le_of_ble_eq_true rfl, Nat.le_of_ble_eq_true rfl⟩) hS (fun q _ h => hFc q h) hFc (fun r32 u t H31 locs ht hvm hw hB hz1 hk1 hS => ?_)
  obtain rfl : r32 = 7763016284086854 := hw.trans (by decide +kernel)
  have hP := zo_K hP hk1
  refine lv_lstore_n (lv' := [(1, .long 7763016284086854), (3, .int 7), (0, .ref x)]) hx hb dX6_digest_24 rfl hl (by decide) rfl (fun ls hl => ?_)
  refine lv_iinc (v := 8) (lv' := [(3, .int 8), (1, .long 7763016284086854), (0, .ref x)]) hx hb dX6_digest_25 hl (k := 1) rfl (by decide) (by decide) rfl (fun ls hl => ?_)
  refine lv_goto (tgt := 6) hx hb dX6_digest_28 (by decide) ?_
  refine lv_iload_n hx hb dX6_digest_6 rfl (lv_at hl 0 rfl) ?_
  refine lv_bipush (v := 19) hx hb dX6_digest_7 (by decide) ?_
  refine lv_icmp_ge (tgt := 31) hx hb dX6_digest_9 (by decide) (fun h => absurd h (by decide)) (fun _ => ?_)
  refine lv_lload_n hx hb dX6_digest_12 rfl (lv_at hl 1 rfl) ?_
  refine lv_aload_n hx hb dX6_digest_13 rfl (lv_at hl 2 rfl) ?_
  refine va_get (D := (dC, dI)) (ci := 8) (v := .ref rm) (C := RX6) (T := TX6) (N := 3) hx hb hts zi_X6_digest_X6 hown hK (zo_R hR0 hS hAr) 0 rfl rfl 0 (by decide) (hts (.fieldLink RX6 12 "LockRooms" "room" "LLockRooms$Room;") (by decide +kernel)) (fun _ h9 => h9) rfl dX6_digest_14 ?_
  refine lv_iload_n hx hb dX6_digest_17 rfl (lv_at hl 0 rfl) ?_
  have hPr := ((zo_R hR0 hS hAr)).sub (ws' := [(rm, .inr (5, [.ref lk, .ref th, .ref pl, .ref gm, .int 2, .int 10, .int 0, .int 0, .int 1, .int 0, .int 0, .int 0])), (gm, .inr (2, [.int 0, .int 0, .int 0, .int 0, .int 0, .int (-1), .long 0]))]) [3, 2] rfl
  have hPc := hP.sub (ws' := []) [] rfl
  have hDc := hD.sub (ws' := []) [] (by decide) rfl
  have hKc := hK.sub (tys' := []) [] rfl
  have hFc := va_free (wc := []) hD hS hA [] rfl
  refine va_calli (va_runV (As := [.int 8]) (rest := [.long 7763016284086854]) ⟨hx, hb, hml, hown, hts⟩ (cz_Qtell_8 l dC dI ed H31.size rm lk th pl gm) (cwV 1 hts gX6_digest_X3_tell rfl rfl rfl (by decide +kernel) ⟨Nat.le_of_ble_eq_true rfl, Nat.le_of_ble_eq_true rfl⟩) ⟨zb_blind, va_recv hK (zo_R hR0 hS hAr) (ci := 5) (q0 := 3) rfl rfl, fun U hU hW => ⟨rfl, zb_mk hU hW hPr hPc hKc hDc hN hH hS hFc zx_e⟩⟩ rfl rfl hl.1 rfl (lv_room (Nat.le_of_ble_eq_true rfl)) dX6_digest_18 ⟨Nat.le_of_ble_eq_true rfl, Nat.le_of_ble_eq_true rfl⟩) hS (fun q _ h => hFc q h) hFc (fun r34 u t H33 locs ht hvm hw hB hz1 hk1 hS => ?_)
  obtain rfl : r34 = (-1) := hw
  have hP := zo_K hP hk1
  have hPr := (zo_nil : va_P (dC, dI) vwCl [] H33)
  have hPc := hP.sub (ws' := []) [] rfl
  have hDc := hD.sub (ws' := []) [] (by decide) rfl
  have hKc := hK.sub (tys' := []) [] rfl
  have hFc := va_free (wc := []) hD hS hA [] rfl
  refine va_calll (va_runS (As := [.long 7763016284086854, .int (-1)]) (rest := []) ⟨hx, hb, hml, hown, hts⟩ (cz_X6_mix l dC dI ed H33.size 7763016284086854 (-1)) (va_cwS 2 hts gX6_digest_X6_mix rfl rfl rfl (by decide +kernel) ⟨Nat.le_of_ble_eq_true rfl, Nat.le_of_ble_eq_true rfl⟩) ⟨zb_blind, fun U hU hW => ⟨rfl, zb_mk hU hW hPr hPc hKc hDc hN hH hS hFc zx_e⟩⟩ rfl rfl hl.1 rfl (lv_room (Nat.le_of_ble_eq_true rfl)) dX6_digest_21 ⟨Nat.le_of_ble_eq_true rfl, Nat.le_of_ble_eq_true rfl⟩) hS (fun q _ h => hFc q h) hFc (fun r36 u t H35 locs ht hvm hw hB hz1 hk1 hS => ?_)
  obtain rfl : r36 = 240653504806692473 := hw.trans (by decide +kernel)
  have hP := zo_K hP hk1
  refine lv_lstore_n (lv' := [(1, .long 240653504806692473), (3, .int 8), (0, .ref x)]) hx hb dX6_digest_24 rfl hl (by decide) rfl (fun ls hl => ?_)
  refine lv_iinc (v := 9) (lv' := [(3, .int 9), (1, .long 240653504806692473), (0, .ref x)]) hx hb dX6_digest_25 hl (k := 1) rfl (by decide) (by decide) rfl (fun ls hl => ?_)
  refine lv_goto (tgt := 6) hx hb dX6_digest_28 (by decide) ?_
  refine lv_iload_n hx hb dX6_digest_6 rfl (lv_at hl 0 rfl) ?_
  refine lv_bipush (v := 19) hx hb dX6_digest_7 (by decide) ?_
  refine lv_icmp_ge (tgt := 31) hx hb dX6_digest_9 (by decide) (fun h => absurd h (by decide)) (fun _ => ?_)
  refine lv_lload_n hx hb dX6_digest_12 rfl (lv_at hl 1 rfl) ?_
  refine lv_aload_n hx hb dX6_digest_13 rfl (lv_at hl 2 rfl) ?_
  refine va_get (D := (dC, dI)) (ci := 8) (v := .ref rm) (C := RX6) (T := TX6) (N := 3) hx hb hts zi_X6_digest_X6 hown hK (zo_R hR0 hS hAr) 0 rfl rfl 0 (by decide) (hts (.fieldLink RX6 12 "LockRooms" "room" "LLockRooms$Room;") (by decide +kernel)) (fun _ h9 => h9) rfl dX6_digest_14 ?_
  refine lv_iload_n hx hb dX6_digest_17 rfl (lv_at hl 0 rfl) ?_
  have hPr := ((zo_R hR0 hS hAr)).sub (ws' := [(rm, .inr (5, [.ref lk, .ref th, .ref pl, .ref gm, .int 2, .int 10, .int 0, .int 0, .int 1, .int 0, .int 0, .int 0])), (gm, .inr (2, [.int 0, .int 0, .int 0, .int 0, .int 0, .int (-1), .long 0]))]) [3, 2] rfl
  have hPc := hP.sub (ws' := []) [] rfl
  have hDc := hD.sub (ws' := []) [] (by decide) rfl
  have hKc := hK.sub (tys' := []) [] rfl
  have hFc := va_free (wc := []) hD hS hA [] rfl
  refine va_calli (va_runV (As := [.int 9]) (rest := [.long 240653504806692473]) ⟨hx, hb, hml, hown, hts⟩ (cz_Qtell_9 l dC dI ed H35.size rm lk th pl gm) (cwV 1 hts gX6_digest_X3_tell rfl rfl rfl (by decide +kernel) ⟨Nat.le_of_ble_eq_true rfl, Nat.le_of_ble_eq_true rfl⟩) ⟨zb_blind, va_recv hK (zo_R hR0 hS hAr) (ci := 5) (q0 := 3) rfl rfl, fun U hU hW => ⟨rfl, zb_mk hU hW hPr hPc hKc hDc hN hH hS hFc zx_e⟩⟩ rfl rfl hl.1 rfl (lv_room (Nat.le_of_ble_eq_true rfl)) dX6_digest_18 ⟨Nat.le_of_ble_eq_true rfl, Nat.le_of_ble_eq_true rfl⟩) hS (fun q _ h => hFc q h) hFc (fun r38 u t H37 locs ht hvm hw hB hz1 hk1 hS => ?_)
  obtain rfl : r38 = 0 := hw
  have hP := zo_K hP hk1
  have hPr := (zo_nil : va_P (dC, dI) vwCl [] H37)
  have hPc := hP.sub (ws' := []) [] rfl
  have hDc := hD.sub (ws' := []) [] (by decide) rfl
  have hKc := hK.sub (tys' := []) [] rfl
  have hFc := va_free (wc := []) hD hS hA [] rfl
  refine va_calll (va_runS (As := [.long 240653504806692473, .int 0]) (rest := []) ⟨hx, hb, hml, hown, hts⟩ (cz_X6_mix l dC dI ed H37.size 240653504806692473 0) (va_cwS 2 hts gX6_digest_X6_mix rfl rfl rfl (by decide +kernel) ⟨Nat.le_of_ble_eq_true rfl, Nat.le_of_ble_eq_true rfl⟩) ⟨zb_blind, fun U hU hW => ⟨rfl, zb_mk hU hW hPr hPc hKc hDc hN hH hS hFc zx_e⟩⟩ rfl rfl hl.1 rfl (lv_room (Nat.le_of_ble_eq_true rfl)) dX6_digest_21 ⟨Nat.le_of_ble_eq_true rfl, Nat.le_of_ble_eq_true rfl⟩) hS (fun q _ h => hFc q h) hFc (fun r40 u t H39 locs ht hvm hw hB hz1 hk1 hS => ?_)
  obtain rfl : r40 = 7460258649007466663 := hw.trans (by decide +kernel)
  have hP := zo_K hP hk1
  refine lv_lstore_n (lv' := [(1, .long 7460258649007466663), (3, .int 9), (0, .ref x)]) hx hb dX6_digest_24 rfl hl (by decide) rfl (fun ls hl => ?_)
  refine lv_iinc (v := 10) (lv' := [(3, .int 10), (1, .long 7460258649007466663), (0, .ref x)]) hx hb dX6_digest_25 hl (k := 1) rfl (by decide) (by decide) rfl (fun ls hl => ?_)
  refine lv_goto (tgt := 6) hx hb dX6_digest_28 (by decide) ?_
  refine lv_iload_n hx hb dX6_digest_6 rfl (lv_at hl 0 rfl) ?_
  refine lv_bipush (v := 19) hx hb dX6_digest_7 (by decide) ?_
  refine lv_icmp_ge (tgt := 31) hx hb dX6_digest_9 (by decide) (fun h => absurd h (by decide)) (fun _ => ?_)
  refine lv_lload_n hx hb dX6_digest_12 rfl (lv_at hl 1 rfl) ?_
  refine lv_aload_n hx hb dX6_digest_13 rfl (lv_at hl 2 rfl) ?_
  refine va_get (D := (dC, dI)) (ci := 8) (v := .ref rm) (C := RX6) (T := TX6) (N := 3) hx hb hts zi_X6_digest_X6 hown hK (zo_R hR0 hS hAr) 0 rfl rfl 0 (by decide) (hts (.fieldLink RX6 12 "LockRooms" "room" "LLockRooms$Room;") (by decide +kernel)) (fun _ h9 => h9) rfl dX6_digest_14 ?_
  refine lv_iload_n hx hb dX6_digest_17 rfl (lv_at hl 0 rfl) ?_
  have hPr := ((zo_R hR0 hS hAr)).sub (ws' := [(rm, .inr (5, [.ref lk, .ref th, .ref pl, .ref gm, .int 2, .int 10, .int 0, .int 0, .int 1, .int 0, .int 0, .int 0])), (gm, .inr (2, [.int 0, .int 0, .int 0, .int 0, .int 0, .int (-1), .long 0]))]) [3, 2] rfl
  have hPc := hP.sub (ws' := []) [] rfl
  have hDc := hD.sub (ws' := []) [] (by decide) rfl
  have hKc := hK.sub (tys' := []) [] rfl
  have hFc := va_free (wc := []) hD hS hA [] rfl
  refine va_calli (va_runV (As := [.int 10]) (rest := [.long 7460258649007466663]) ⟨hx, hb, hml, hown, hts⟩ (cz_Qtell_10 l dC dI ed H39.size rm lk th pl gm) (cwV 1 hts gX6_digest_X3_tell rfl rfl rfl (by decide +kernel) ⟨Nat.le_of_ble_eq_true rfl, Nat.le_of_ble_eq_true rfl⟩) ⟨zb_blind, va_recv hK (zo_R hR0 hS hAr) (ci := 5) (q0 := 3) rfl rfl, fun U hU hW => ⟨rfl, zb_mk hU hW hPr hPc hKc hDc hN hH hS hFc zx_e⟩⟩ rfl rfl hl.1 rfl (lv_room (Nat.le_of_ble_eq_true rfl)) dX6_digest_18 ⟨Nat.le_of_ble_eq_true rfl, Nat.le_of_ble_eq_true rfl⟩) hS (fun q _ h => hFc q h) hFc (fun r42 u t H41 locs ht hvm hw hB hz1 hk1 hS => ?_)
  obtain rfl : r42 = 0 := hw
  have hP := zo_K hP hk1
  have hPr := (zo_nil : va_P (dC, dI) vwCl [] H41)
  have hPc := hP.sub (ws' := []) [] rfl
  have hDc := hD.sub (ws' := []) [] (by decide) rfl
  have hKc := hK.sub (tys' := []) [] rfl
  have hFc := va_free (wc := []) hD hS hA [] rfl
  refine va_calll (va_runS (As := [.long 7460258649007466663, .int 0]) (rest := []) ⟨hx, hb, hml, hown, hts⟩ (cz_X6_mix l dC dI ed H41.size 7460258649007466663 0) (va_cwS 2 hts gX6_digest_X6_mix rfl rfl rfl (by decide +kernel) ⟨Nat.le_of_ble_eq_true rfl, Nat.le_of_ble_eq_true rfl⟩) ⟨zb_blind, fun U hU hW => ⟨rfl, zb_mk hU hW hPr hPc hKc hDc hN hH hS hFc zx_e⟩⟩ rfl rfl hl.1 rfl (lv_room (Nat.le_of_ble_eq_true rfl)) dX6_digest_21 ⟨Nat.le_of_ble_eq_true rfl, Nat.le_of_ble_eq_true rfl⟩) hS (fun q _ h => hFc q h) hFc (fun r44 u t H43 locs ht hvm hw hB hz1 hk1 hS => ?_)
  obtain rfl : r44 = (-8539654838992704455) := hw.trans (by decide +kernel)
  have hP := zo_K hP hk1
  refine lv_lstore_n (lv' := [(1, .long (-8539654838992704455)), (3, .int 10), (0, .ref x)]) hx hb dX6_digest_24 rfl hl (by decide) rfl (fun ls hl => ?_)
  refine lv_iinc (v := 11) (lv' := [(3, .int 11), (1, .long (-8539654838992704455)), (0, .ref x)]) hx hb dX6_digest_25 hl (k := 1) rfl (by decide) (by decide) rfl (fun ls hl => ?_)
  refine lv_goto (tgt := 6) hx hb dX6_digest_28 (by decide) ?_
  refine lv_iload_n hx hb dX6_digest_6 rfl (lv_at hl 0 rfl) ?_
  refine lv_bipush (v := 19) hx hb dX6_digest_7 (by decide) ?_
  refine lv_icmp_ge (tgt := 31) hx hb dX6_digest_9 (by decide) (fun h => absurd h (by decide)) (fun _ => ?_)
  refine lv_lload_n hx hb dX6_digest_12 rfl (lv_at hl 1 rfl) ?_
  refine lv_aload_n hx hb dX6_digest_13 rfl (lv_at hl 2 rfl) ?_
  refine va_get (D := (dC, dI)) (ci := 8) (v := .ref rm) (C := RX6) (T := TX6) (N := 3) hx hb hts zi_X6_digest_X6 hown hK (zo_R hR0 hS hAr) 0 rfl rfl 0 (by decide) (hts (.fieldLink RX6 12 "LockRooms" "room" "LLockRooms$Room;") (by decide +kernel)) (fun _ h9 => h9) rfl dX6_digest_14 ?_
  refine lv_iload_n hx hb dX6_digest_17 rfl (lv_at hl 0 rfl) ?_
  have hPr := ((zo_R hR0 hS hAr)).sub (ws' := [(rm, .inr (5, [.ref lk, .ref th, .ref pl, .ref gm, .int 2, .int 10, .int 0, .int 0, .int 1, .int 0, .int 0, .int 0])), (gm, .inr (2, [.int 0, .int 0, .int 0, .int 0, .int 0, .int (-1), .long 0]))]) [3, 2] rfl
  have hPc := hP.sub (ws' := []) [] rfl
  have hDc := hD.sub (ws' := []) [] (by decide) rfl
  have hKc := hK.sub (tys' := []) [] rfl
  have hFc := va_free (wc := []) hD hS hA [] rfl
  refine va_calli (va_runV (As := [.int 11]) (rest := [.long (-8539654838992704455)]) ⟨hx, hb, hml, hown, hts⟩ (cz_Qtell_11 l dC dI ed H43.size rm lk th pl gm) (cwV 1 hts gX6_digest_X3_tell rfl rfl rfl (by decide +kernel) ⟨Nat.le_of_ble_eq_true rfl, Nat.le_of_ble_eq_true rfl⟩) ⟨zb_blind, va_recv hK (zo_R hR0 hS hAr) (ci := 5) (q0 := 3) rfl rfl, fun U hU hW => ⟨rfl, zb_mk hU hW hPr hPc hKc hDc hN hH hS hFc zx_e⟩⟩ rfl rfl hl.1 rfl (lv_room (Nat.le_of_ble_eq_true rfl)) dX6_digest_18 ⟨Nat.le_of_ble_eq_true rfl, Nat.le_of_ble_eq_true rfl⟩) hS (fun q _ h => hFc q h) hFc (fun r46 u t H45 locs ht hvm hw hB hz1 hk1 hS => ?_)
  obtain rfl : r46 = 0 := hw
  have hP := zo_K hP hk1
  have hPr := (zo_nil : va_P (dC, dI) vwCl [] H45)
  have hPc := hP.sub (ws' := []) [] rfl
  have hDc := hD.sub (ws' := []) [] (by decide) rfl
  have hKc := hK.sub (tys' := []) [] rfl
  have hFc := va_free (wc := []) hD hS hA [] rfl
  refine va_calll (va_runS (As := [.long (-8539654838992704455), .int 0]) (rest := []) ⟨hx, hb, hml, hown, hts⟩ (cz_X6_mix l dC dI ed H45.size (-8539654838992704455) 0) (va_cwS 2 hts gX6_digest_X6_mix rfl rfl rfl (by decide +kernel) ⟨Nat.le_of_ble_eq_true rfl, Nat.le_of_ble_eq_true rfl⟩) ⟨zb_blind, fun U hU hW => ⟨rfl, zb_mk hU hW hPr hPc hKc hDc hN hH hS hFc zx_e⟩⟩ rfl rfl hl.1 rfl (lv_room (Nat.le_of_ble_eq_true rfl)) dX6_digest_21 ⟨Nat.le_of_ble_eq_true rfl, Nat.le_of_ble_eq_true rfl⟩) hS (fun q _ h => hFc q h) hFc (fun r48 u t H47 locs ht hvm hw hB hz1 hk1 hS => ?_)
  obtain rfl : r48 = (-6474882976840115481) := hw.trans (by decide +kernel)
  have hP := zo_K hP hk1
  refine lv_lstore_n (lv' := [(1, .long (-6474882976840115481)), (3, .int 11), (0, .ref x)]) hx hb dX6_digest_24 rfl hl (by decide) rfl (fun ls hl => ?_)
  refine lv_iinc (v := 12) (lv' := [(3, .int 12), (1, .long (-6474882976840115481)), (0, .ref x)]) hx hb dX6_digest_25 hl (k := 1) rfl (by decide) (by decide) rfl (fun ls hl => ?_)
  refine lv_goto (tgt := 6) hx hb dX6_digest_28 (by decide) ?_
  refine lv_iload_n hx hb dX6_digest_6 rfl (lv_at hl 0 rfl) ?_
  refine lv_bipush (v := 19) hx hb dX6_digest_7 (by decide) ?_
  refine lv_icmp_ge (tgt := 31) hx hb dX6_digest_9 (by decide) (fun h => absurd h (by decide)) (fun _ => ?_)
  refine lv_lload_n hx hb dX6_digest_12 rfl (lv_at hl 1 rfl) ?_
  refine lv_aload_n hx hb dX6_digest_13 rfl (lv_at hl 2 rfl) ?_
  refine va_get (D := (dC, dI)) (ci := 8) (v := .ref rm) (C := RX6) (T := TX6) (N := 3) hx hb hts zi_X6_digest_X6 hown hK (zo_R hR0 hS hAr) 0 rfl rfl 0 (by decide) (hts (.fieldLink RX6 12 "LockRooms" "room" "LLockRooms$Room;") (by decide +kernel)) (fun _ h9 => h9) rfl dX6_digest_14 ?_
  refine lv_iload_n hx hb dX6_digest_17 rfl (lv_at hl 0 rfl) ?_
  have hPr := ((zo_R hR0 hS hAr)).sub (ws' := [(rm, .inr (5, [.ref lk, .ref th, .ref pl, .ref gm, .int 2, .int 10, .int 0, .int 0, .int 1, .int 0, .int 0, .int 0])), (gm, .inr (2, [.int 0, .int 0, .int 0, .int 0, .int 0, .int (-1), .long 0])), (lk, .inl (cL, 10, .inr (.inr (.inr (.inr fl))))), (l0, .inr (3, [.int 0, .int 0, .int 60, .int 0, .int 0, .int 0, .int 0, .int 0, .int 0, .int 0])), (l1, .inr (3, [.int 0, .int 0, .int 60, .int 0, .int 0, .int 0, .int 0, .int 0, .int 0, .int 0]))]) [3, 2, 4, 6, 7] rfl
  have hPc := hP.sub (ws' := []) [] rfl
  have hDc := hD.sub (ws' := []) [] (by decide) rfl
  have hKc := hK.sub (tys' := [(cL, .object "LockRooms$Lock")]) [0] rfl
  have hFc := va_free (wc := []) hD hS hA [] rfl
  refine va_calli (va_runV (As := [.int 12]) (rest := [.long (-6474882976840115481)]) ⟨hx, hb, hml, hown, hts⟩ (cz_Qtell_12 l dC dI ed H47.size rm lk th pl gm cL fl l0 l1 hkl0 hkl1) (cwV 1 hts gX6_digest_X3_tell rfl rfl rfl (by decide +kernel) ⟨Nat.le_of_ble_eq_true rfl, Nat.le_of_ble_eq_true rfl⟩) ⟨zb_blind, va_recv hK (zo_R hR0 hS hAr) (ci := 5) (q0 := 3) rfl rfl, fun U hU hW => ⟨rfl, zb_mk hU hW hPr hPc hKc hDc hN hH hS hFc zx_e⟩⟩ rfl rfl hl.1 rfl (lv_room (Nat.le_of_ble_eq_true rfl)) dX6_digest_18 ⟨Nat.le_of_ble_eq_true rfl, Nat.le_of_ble_eq_true rfl⟩) hS (fun q _ h => hFc q h) hFc (fun r50 u t H49 locs ht hvm hw hB hz1 hk1 hS => ?_)
  obtain rfl : r50 = 0 := hw
  have hP := zo_K hP hk1
  have hPr := (zo_nil : va_P (dC, dI) vwCl [] H49)
  have hPc := hP.sub (ws' := []) [] rfl
  have hDc := hD.sub (ws' := []) [] (by decide) rfl
  have hKc := hK.sub (tys' := []) [] rfl
  have hFc := va_free (wc := []) hD hS hA [] rfl
  refine va_calll (va_runS (As := [.long (-6474882976840115481), .int 0]) (rest := []) ⟨hx, hb, hml, hown, hts⟩ (cz_X6_mix l dC dI ed H49.size (-6474882976840115481) 0) (va_cwS 2 hts gX6_digest_X6_mix rfl rfl rfl (by decide +kernel) ⟨Nat.le_of_ble_eq_true rfl, Nat.le_of_ble_eq_true rfl⟩) ⟨zb_blind, fun U hU hW => ⟨rfl, zb_mk hU hW hPr hPc hKc hDc hN hH hS hFc zx_e⟩⟩ rfl rfl hl.1 rfl (lv_room (Nat.le_of_ble_eq_true rfl)) dX6_digest_21 ⟨Nat.le_of_ble_eq_true rfl, Nat.le_of_ble_eq_true rfl⟩) hS (fun q _ h => hFc q h) hFc (fun r52 u t H51 locs ht hvm hw hB hz1 hk1 hS => ?_)
  obtain rfl : r52 = 2192812528761487865 := hw.trans (by decide +kernel)
  have hP := zo_K hP hk1
  refine lv_lstore_n (lv' := [(1, .long 2192812528761487865), (3, .int 12), (0, .ref x)]) hx hb dX6_digest_24 rfl hl (by decide) rfl (fun ls hl => ?_)
  refine lv_iinc (v := 13) (lv' := [(3, .int 13), (1, .long 2192812528761487865), (0, .ref x)]) hx hb dX6_digest_25 hl (k := 1) rfl (by decide) (by decide) rfl (fun ls hl => ?_)
  refine lv_goto (tgt := 6) hx hb dX6_digest_28 (by decide) ?_
  refine lv_iload_n hx hb dX6_digest_6 rfl (lv_at hl 0 rfl) ?_
  refine lv_bipush (v := 19) hx hb dX6_digest_7 (by decide) ?_
  refine lv_icmp_ge (tgt := 31) hx hb dX6_digest_9 (by decide) (fun h => absurd h (by decide)) (fun _ => ?_)
  refine lv_lload_n hx hb dX6_digest_12 rfl (lv_at hl 1 rfl) ?_
  refine lv_aload_n hx hb dX6_digest_13 rfl (lv_at hl 2 rfl) ?_
  refine va_get (D := (dC, dI)) (ci := 8) (v := .ref rm) (C := RX6) (T := TX6) (N := 3) hx hb hts zi_X6_digest_X6 hown hK (zo_R hR0 hS hAr) 0 rfl rfl 0 (by decide) (hts (.fieldLink RX6 12 "LockRooms" "room" "LLockRooms$Room;") (by decide +kernel)) (fun _ h9 => h9) rfl dX6_digest_14 ?_
  refine lv_iload_n hx hb dX6_digest_17 rfl (lv_at hl 0 rfl) ?_
  have hPr := ((zo_R hR0 hS hAr)).sub (ws' := [(rm, .inr (5, [.ref lk, .ref th, .ref pl, .ref gm, .int 2, .int 10, .int 0, .int 0, .int 1, .int 0, .int 0, .int 0])), (gm, .inr (2, [.int 0, .int 0, .int 0, .int 0, .int 0, .int (-1), .long 0])), (lk, .inl (cL, 10, .inr (.inr (.inr (.inr fl))))), (th, .inl (cT, 12, .inr (.inr (.inr (.inr ft))))), (l0, .inr (3, [.int 0, .int 0, .int 60, .int 0, .int 0, .int 0, .int 0, .int 0, .int 0, .int 0])), (l1, .inr (3, [.int 0, .int 0, .int 60, .int 0, .int 0, .int 0, .int 0, .int 0, .int 0, .int 0])), (t0, .inr (7, [.int (-1), .int 0, .int 0, .int 0, .int 0])), (t1, .inr (7, [.int (-1), .int 0, .int 0, .int 0, .int 0])), (t2, .inr (7, [.int (-1), .int 0, .int 0, .int 0, .int 0])), (t3, .inr (7, [.int (-1), .int 0, .int 0, .int 0, .int 0])), (t4, .inr (7, [.int (-1), .int 0, .int 0, .int 0, .int 0])), (t5, .inr (7, [.int (-1), .int 0, .int 0, .int 0, .int 0])), (t6, .inr (7, [.int (-1), .int 0, .int 0, .int 0, .int 0])), (t7, .inr (7, [.int (-1), .int 0, .int 0, .int 0, .int 0])), (t8, .inr (7, [.int (-1), .int 0, .int 0, .int 0, .int 0])), (t9, .inr (7, [.int (-1), .int 0, .int 0, .int 0, .int 0]))]) [3, 2, 4, 5, 6, 7, 8, 9, 10, 11, 12, 13, 14, 15, 16, 17] rfl
  have hPc := hP.sub (ws' := []) [] rfl
  have hDc := hD.sub (ws' := []) [] (by decide) rfl
  have hKc := hK.sub (tys' := [(cL, .object "LockRooms$Lock"), (cT, .object "LockRooms$Thing")]) [0, 1] rfl
  have hFc := va_free (wc := []) hD hS hA [] rfl
  refine va_calli (va_runV (As := [.int 13]) (rest := [.long 2192812528761487865]) ⟨hx, hb, hml, hown, hts⟩ (cz_Qtell_13 l dC dI ed H51.size rm lk th pl gm cL fl l0 l1 cT ft t0 t1 t2 t3 t4 t5 t6 t7 t8 t9 hkl0 hkl1 hkt0 hkt1 hkt2 hkt3 hkt4 hkt5 hkt6 hkt7 hkt8 hkt9) (cwV 1 hts gX6_digest_X3_tell rfl rfl rfl (by decide +kernel) ⟨Nat.le_of_ble_eq_true rfl, Nat.le_of_ble_eq_true rfl⟩) ⟨zb_blind, va_recv hK (zo_R hR0 hS hAr) (ci := 5) (q0 := 3) rfl rfl, fun U hU hW => ⟨rfl, zb_mk hU hW hPr hPc hKc hDc hN hH hS hFc zx_e⟩⟩ rfl rfl hl.1 rfl (lv_room (Nat.le_of_ble_eq_true rfl)) dX6_digest_18 ⟨Nat.le_of_ble_eq_true rfl, Nat.le_of_ble_eq_true rfl⟩) hS (fun q _ h => hFc q h) hFc (fun r54 u t H53 locs ht hvm hw hB hz1 hk1 hS => ?_)
  obtain rfl : r54 = 3 := hw
  have hP := zo_K hP hk1
  have hPr := (zo_nil : va_P (dC, dI) vwCl [] H53)
  have hPc := hP.sub (ws' := []) [] rfl
  have hDc := hD.sub (ws' := []) [] (by decide) rfl
  have hKc := hK.sub (tys' := []) [] rfl
  have hFc := va_free (wc := []) hD hS hA [] rfl
  refine va_calll (va_runS (As := [.long 2192812528761487865, .int 3]) (rest := []) ⟨hx, hb, hml, hown, hts⟩ (cz_X6_mix l dC dI ed H53.size 2192812528761487865 3) (va_cwS 2 hts gX6_digest_X6_mix rfl rfl rfl (by decide +kernel) ⟨Nat.le_of_ble_eq_true rfl, Nat.le_of_ble_eq_true rfl⟩) ⟨zb_blind, fun U hU hW => ⟨rfl, zb_mk hU hW hPr hPc hKc hDc hN hH hS hFc zx_e⟩⟩ rfl rfl hl.1 rfl (lv_room (Nat.le_of_ble_eq_true rfl)) dX6_digest_21 ⟨Nat.le_of_ble_eq_true rfl, Nat.le_of_ble_eq_true rfl⟩) hS (fun q _ h => hFc q h) hFc (fun r56 u t H55 locs ht hvm hw hB hz1 hk1 hS => ?_)
  obtain rfl : r56 = (-5809787903232082646) := hw.trans (by decide +kernel)
  have hP := zo_K hP hk1
  refine lv_lstore_n (lv' := [(1, .long (-5809787903232082646)), (3, .int 13), (0, .ref x)]) hx hb dX6_digest_24 rfl hl (by decide) rfl (fun ls hl => ?_)
  refine lv_iinc (v := 14) (lv' := [(3, .int 14), (1, .long (-5809787903232082646)), (0, .ref x)]) hx hb dX6_digest_25 hl (k := 1) rfl (by decide) (by decide) rfl (fun ls hl => ?_)
  refine lv_goto (tgt := 6) hx hb dX6_digest_28 (by decide) ?_
  refine lv_iload_n hx hb dX6_digest_6 rfl (lv_at hl 0 rfl) ?_
  refine lv_bipush (v := 19) hx hb dX6_digest_7 (by decide) ?_
  refine lv_icmp_ge (tgt := 31) hx hb dX6_digest_9 (by decide) (fun h => absurd h (by decide)) (fun _ => ?_)
  refine lv_lload_n hx hb dX6_digest_12 rfl (lv_at hl 1 rfl) ?_
  refine lv_aload_n hx hb dX6_digest_13 rfl (lv_at hl 2 rfl) ?_
  refine va_get (D := (dC, dI)) (ci := 8) (v := .ref rm) (C := RX6) (T := TX6) (N := 3) hx hb hts zi_X6_digest_X6 hown hK (zo_R hR0 hS hAr) 0 rfl rfl 0 (by decide) (hts (.fieldLink RX6 12 "LockRooms" "room" "LLockRooms$Room;") (by decide +kernel)) (fun _ h9 => h9) rfl dX6_digest_14 ?_
  refine lv_iload_n hx hb dX6_digest_17 rfl (lv_at hl 0 rfl) ?_
  have hPr := ((zo_R hR0 hS hAr)).sub (ws' := [(rm, .inr (5, [.ref lk, .ref th, .ref pl, .ref gm, .int 2, .int 10, .int 0, .int 0, .int 1, .int 0, .int 0, .int 0])), (gm, .inr (2, [.int 0, .int 0, .int 0, .int 0, .int 0, .int (-1), .long 0])), (th, .inl (cT, 12, .inr (.inr (.inr (.inr ft))))), (t0, .inr (7, [.int (-1), .int 0, .int 0, .int 0, .int 0])), (t1, .inr (7, [.int (-1), .int 0, .int 0, .int 0, .int 0])), (t2, .inr (7, [.int (-1), .int 0, .int 0, .int 0, .int 0])), (t3, .inr (7, [.int (-1), .int 0, .int 0, .int 0, .int 0])), (t4, .inr (7, [.int (-1), .int 0, .int 0, .int 0, .int 0])), (t5, .inr (7, [.int (-1), .int 0, .int 0, .int 0, .int 0])), (t6, .inr (7, [.int (-1), .int 0, .int 0, .int 0, .int 0])), (t7, .inr (7, [.int (-1), .int 0, .int 0, .int 0, .int 0])), (t8, .inr (7, [.int (-1), .int 0, .int 0, .int 0, .int 0])), (t9, .inr (7, [.int (-1), .int 0, .int 0, .int 0, .int 0]))]) [3, 2, 5, 8, 9, 10, 11, 12, 13, 14, 15, 16, 17] rfl
  have hPc := hP.sub (ws' := []) [] rfl
  have hDc := hD.sub (ws' := []) [] (by decide) rfl
  have hKc := hK.sub (tys' := [(cT, .object "LockRooms$Thing")]) [1] rfl
  have hFc := va_free (wc := []) hD hS hA [] rfl
  refine va_calli (va_runV (As := [.int 14]) (rest := [.long (-5809787903232082646)]) ⟨hx, hb, hml, hown, hts⟩ (cz_Qtell_14 l dC dI ed H55.size rm lk th pl gm cT ft t0 t1 t2 t3 t4 t5 t6 t7 t8 t9 hkt0 hkt1 hkt2 hkt3 hkt4 hkt5 hkt6 hkt7 hkt8 hkt9) (cwV 1 hts gX6_digest_X3_tell rfl rfl rfl (by decide +kernel) ⟨Nat.le_of_ble_eq_true rfl, Nat.le_of_ble_eq_true rfl⟩) ⟨zb_blind, va_recv hK (zo_R hR0 hS hAr) (ci := 5) (q0 := 3) rfl rfl, fun U hU hW => ⟨rfl, zb_mk hU hW hPr hPc hKc hDc hN hH hS hFc zx_e⟩⟩ rfl rfl hl.1 rfl (lv_room (Nat.le_of_ble_eq_true rfl)) dX6_digest_18 ⟨Nat.le_of_ble_eq_true rfl, Nat.le_of_ble_eq_true rfl⟩) hS (fun q _ h => hFc q h) hFc (fun r58 u t H57 locs ht hvm hw hB hz1 hk1 hS => ?_)
  obtain rfl : r58 = 0 := hw
  have hP := zo_K hP hk1
  have hPr := (zo_nil : va_P (dC, dI) vwCl [] H57)
  have hPc := hP.sub (ws' := []) [] rfl
  have hDc := hD.sub (ws' := []) [] (by decide) rfl
  have hKc := hK.sub (tys' := []) [] rfl
  have hFc := va_free (wc := []) hD hS hA [] rfl
  refine va_calll (va_runS (As := [.long (-5809787903232082646), .int 0]) (rest := []) ⟨hx, hb, hml, hown, hts⟩ (cz_X6_mix l dC dI ed H57.size (-5809787903232082646) 0) (va_cwS 2 hts gX6_digest_X6_mix rfl rfl rfl (by decide +kernel) ⟨Nat.le_of_ble_eq_true rfl, Nat.le_of_ble_eq_true rfl⟩) ⟨zb_blind, fun U hU hW => ⟨rfl, zb_mk hU hW hPr hPc hKc hDc hN hH hS hFc zx_e⟩⟩ rfl rfl hl.1 rfl (lv_room (Nat.le_of_ble_eq_true rfl)) dX6_digest_21 ⟨Nat.le_of_ble_eq_true rfl, Nat.le_of_ble_eq_true rfl⟩) hS (fun q _ h => hFc q h) hFc (fun r60 u t H59 locs ht hvm hw hB hz1 hk1 hS => ?_)
  obtain rfl : r60 = 4364015736900954134 := hw.trans (by decide +kernel)
  have hP := zo_K hP hk1
  refine lv_lstore_n (lv' := [(1, .long 4364015736900954134), (3, .int 14), (0, .ref x)]) hx hb dX6_digest_24 rfl hl (by decide) rfl (fun ls hl => ?_)
  refine lv_iinc (v := 15) (lv' := [(3, .int 15), (1, .long 4364015736900954134), (0, .ref x)]) hx hb dX6_digest_25 hl (k := 1) rfl (by decide) (by decide) rfl (fun ls hl => ?_)
  refine lv_goto (tgt := 6) hx hb dX6_digest_28 (by decide) ?_
  refine lv_iload_n hx hb dX6_digest_6 rfl (lv_at hl 0 rfl) ?_
  refine lv_bipush (v := 19) hx hb dX6_digest_7 (by decide) ?_
  refine lv_icmp_ge (tgt := 31) hx hb dX6_digest_9 (by decide) (fun h => absurd h (by decide)) (fun _ => ?_)
  refine lv_lload_n hx hb dX6_digest_12 rfl (lv_at hl 1 rfl) ?_
  refine lv_aload_n hx hb dX6_digest_13 rfl (lv_at hl 2 rfl) ?_
  refine va_get (D := (dC, dI)) (ci := 8) (v := .ref rm) (C := RX6) (T := TX6) (N := 3) hx hb hts zi_X6_digest_X6 hown hK (zo_R hR0 hS hAr) 0 rfl rfl 0 (by decide) (hts (.fieldLink RX6 12 "LockRooms" "room" "LLockRooms$Room;") (by decide +kernel)) (fun _ h9 => h9) rfl dX6_digest_14 ?_
  refine lv_iload_n hx hb dX6_digest_17 rfl (lv_at hl 0 rfl) ?_
  have hPr := ((zo_R hR0 hS hAr)).sub (ws' := [(rm, .inr (5, [.ref lk, .ref th, .ref pl, .ref gm, .int 2, .int 10, .int 0, .int 0, .int 1, .int 0, .int 0, .int 0])), (gm, .inr (2, [.int 0, .int 0, .int 0, .int 0, .int 0, .int (-1), .long 0])), (th, .inl (cT, 12, .inr (.inr (.inr (.inr ft))))), (t0, .inr (7, [.int (-1), .int 0, .int 0, .int 0, .int 0])), (t1, .inr (7, [.int (-1), .int 0, .int 0, .int 0, .int 0])), (t2, .inr (7, [.int (-1), .int 0, .int 0, .int 0, .int 0])), (t3, .inr (7, [.int (-1), .int 0, .int 0, .int 0, .int 0])), (t4, .inr (7, [.int (-1), .int 0, .int 0, .int 0, .int 0])), (t5, .inr (7, [.int (-1), .int 0, .int 0, .int 0, .int 0])), (t6, .inr (7, [.int (-1), .int 0, .int 0, .int 0, .int 0])), (t7, .inr (7, [.int (-1), .int 0, .int 0, .int 0, .int 0])), (t8, .inr (7, [.int (-1), .int 0, .int 0, .int 0, .int 0])), (t9, .inr (7, [.int (-1), .int 0, .int 0, .int 0, .int 0]))]) [3, 2, 5, 8, 9, 10, 11, 12, 13, 14, 15, 16, 17] rfl
  have hPc := hP.sub (ws' := []) [] rfl
  have hDc := hD.sub (ws' := []) [] (by decide) rfl
  have hKc := hK.sub (tys' := [(cT, .object "LockRooms$Thing")]) [1] rfl
  have hFc := va_free (wc := []) hD hS hA [] rfl
  refine va_calli (va_runV (As := [.int 15]) (rest := [.long 4364015736900954134]) ⟨hx, hb, hml, hown, hts⟩ (cz_Qtell_15 l dC dI ed H59.size rm lk th pl gm cT ft t0 t1 t2 t3 t4 t5 t6 t7 t8 t9 hkt0 hkt1 hkt2 hkt3 hkt4 hkt5 hkt6 hkt7 hkt8 hkt9) (cwV 1 hts gX6_digest_X3_tell rfl rfl rfl (by decide +kernel) ⟨Nat.le_of_ble_eq_true rfl, Nat.le_of_ble_eq_true rfl⟩) ⟨zb_blind, va_recv hK (zo_R hR0 hS hAr) (ci := 5) (q0 := 3) rfl rfl, fun U hU hW => ⟨rfl, zb_mk hU hW hPr hPc hKc hDc hN hH hS hFc zx_e⟩⟩ rfl rfl hl.1 rfl (lv_room (Nat.le_of_ble_eq_true rfl)) dX6_digest_18 ⟨Nat.le_of_ble_eq_true rfl, Nat.le_of_ble_eq_true rfl⟩) hS (fun q _ h => hFc q h) hFc (fun r62 u t H61 locs ht hvm hw hB hz1 hk1 hS => ?_)
  obtain rfl : r62 = 0 := hw
  have hP := zo_K hP hk1
  have hPr := (zo_nil : va_P (dC, dI) vwCl [] H61)
  have hPc := hP.sub (ws' := []) [] rfl
  have hDc := hD.sub (ws' := []) [] (by decide) rfl
  have hKc := hK.sub (tys' := []) [] rfl
  have hFc := va_free (wc := []) hD hS hA [] rfl
  refine va_calll (va_runS (As := [.long 4364015736900954134, .int 0]) (rest := []) ⟨hx, hb, hml, hown, hts⟩ (cz_X6_mix l dC dI ed H61.size 4364015736900954134 0) (va_cwS 2 hts gX6_digest_X6_mix rfl rfl rfl (by decide +kernel) ⟨Nat.le_of_ble_eq_true rfl, Nat.le_of_ble_eq_true rfl⟩) ⟨zb_blind, fun U hU hW => ⟨rfl, zb_mk hU hW hPr hPc hKc hDc hN hH hS hFc zx_e⟩⟩ rfl rfl hl.1 rfl (lv_room (Nat.le_of_ble_eq_true rfl)) dX6_digest_21 ⟨Nat.le_of_ble_eq_true rfl, Nat.le_of_ble_eq_true rfl⟩) hS (fun q _ h => hFc q h) hFc (fun r64 u t H63 locs ht hvm hw hB hz1 hk1 hS => ?_)
  obtain rfl : r64 = 6157279327962716842 := hw.trans (by decide +kernel)
  have hP := zo_K hP hk1
  refine lv_lstore_n (lv' := [(1, .long 6157279327962716842), (3, .int 15), (0, .ref x)]) hx hb dX6_digest_24 rfl hl (by decide) rfl (fun ls hl => ?_)
  refine lv_iinc (v := 16) (lv' := [(3, .int 16), (1, .long 6157279327962716842), (0, .ref x)]) hx hb dX6_digest_25 hl (k := 1) rfl (by decide) (by decide) rfl (fun ls hl => ?_)
  refine lv_goto (tgt := 6) hx hb dX6_digest_28 (by decide) ?_
  refine lv_iload_n hx hb dX6_digest_6 rfl (lv_at hl 0 rfl) ?_
  refine lv_bipush (v := 19) hx hb dX6_digest_7 (by decide) ?_
  refine lv_icmp_ge (tgt := 31) hx hb dX6_digest_9 (by decide) (fun h => absurd h (by decide)) (fun _ => ?_)
  refine lv_lload_n hx hb dX6_digest_12 rfl (lv_at hl 1 rfl) ?_
  refine lv_aload_n hx hb dX6_digest_13 rfl (lv_at hl 2 rfl) ?_
  refine va_get (D := (dC, dI)) (ci := 8) (v := .ref rm) (C := RX6) (T := TX6) (N := 3) hx hb hts zi_X6_digest_X6 hown hK (zo_R hR0 hS hAr) 0 rfl rfl 0 (by decide) (hts (.fieldLink RX6 12 "LockRooms" "room" "LLockRooms$Room;") (by decide +kernel)) (fun _ h9 => h9) rfl dX6_digest_14 ?_
  refine lv_iload_n hx hb dX6_digest_17 rfl (lv_at hl 0 rfl) ?_
  have hPr := ((zo_R hR0 hS hAr)).sub (ws' := [(rm, .inr (5, [.ref lk, .ref th, .ref pl, .ref gm, .int 2, .int 10, .int 0, .int 0, .int 1, .int 0, .int 0, .int 0])), (gm, .inr (2, [.int 0, .int 0, .int 0, .int 0, .int 0, .int (-1), .long 0])), (th, .inl (cT, 12, .inr (.inr (.inr (.inr ft))))), (t0, .inr (7, [.int (-1), .int 0, .int 0, .int 0, .int 0])), (t1, .inr (7, [.int (-1), .int 0, .int 0, .int 0, .int 0])), (t2, .inr (7, [.int (-1), .int 0, .int 0, .int 0, .int 0])), (t3, .inr (7, [.int (-1), .int 0, .int 0, .int 0, .int 0])), (t4, .inr (7, [.int (-1), .int 0, .int 0, .int 0, .int 0])), (t5, .inr (7, [.int (-1), .int 0, .int 0, .int 0, .int 0])), (t6, .inr (7, [.int (-1), .int 0, .int 0, .int 0, .int 0])), (t7, .inr (7, [.int (-1), .int 0, .int 0, .int 0, .int 0])), (t8, .inr (7, [.int (-1), .int 0, .int 0, .int 0, .int 0])), (t9, .inr (7, [.int (-1), .int 0, .int 0, .int 0, .int 0]))]) [3, 2, 5, 8, 9, 10, 11, 12, 13, 14, 15, 16, 17] rfl
  have hPc := hP.sub (ws' := []) [] rfl
  have hDc := hD.sub (ws' := []) [] (by decide) rfl
  have hKc := hK.sub (tys' := [(cT, .object "LockRooms$Thing")]) [1] rfl
  have hFc := va_free (wc := []) hD hS hA [] rfl
  refine va_calli (va_runV (As := [.int 16]) (rest := [.long 6157279327962716842]) ⟨hx, hb, hml, hown, hts⟩ (cz_Qtell_16 l dC dI ed H63.size rm lk th pl gm cT ft t0 t1 t2 t3 t4 t5 t6 t7 t8 t9 hkt0 hkt1 hkt2 hkt3 hkt4 hkt5 hkt6 hkt7 hkt8 hkt9) (cwV 1 hts gX6_digest_X3_tell rfl rfl rfl (by decide +kernel) ⟨Nat.le_of_ble_eq_true rfl, Nat.le_of_ble_eq_true rfl⟩) ⟨zb_blind, va_recv hK (zo_R hR0 hS hAr) (ci := 5) (q0 := 3) rfl rfl, fun U hU hW => ⟨rfl, zb_mk hU hW hPr hPc hKc hDc hN hH hS hFc zx_e⟩⟩ rfl rfl hl.1 rfl (lv_room (Nat.le_of_ble_eq_true rfl)) dX6_digest_18 ⟨Nat.le_of_ble_eq_true rfl, Nat.le_of_ble_eq_true rfl⟩) hS (fun q _ h => hFc q h) hFc (fun r66 u t H65 locs ht hvm hw hB hz1 hk1 hS => ?_)
  obtain rfl : r66 = 0 := hw
  have hP := zo_K hP hk1
  have hPr := (zo_nil : va_P (dC, dI) vwCl [] H65)
  have hPc := hP.sub (ws' := []) [] rfl
  have hDc := hD.sub (ws' := []) [] (by decide) rfl
  have hKc := hK.sub (tys' := []) [] rfl
  have hFc := va_free (wc := []) hD hS hA [] rfl
  refine va_calll (va_runS (As := [.long 6157279327962716842, .int 0]) (rest := []) ⟨hx, hb, hml, hown, hts⟩ (cz_X6_mix l dC dI ed H65.size 6157279327962716842 0) (va_cwS 2 hts gX6_digest_X6_mix rfl rfl rfl (by decide +kernel) ⟨Nat.le_of_ble_eq_true rfl, Nat.le_of_ble_eq_true rfl⟩) ⟨zb_blind, fun U hU hW => ⟨rfl, zb_mk hU hW hPr hPc hKc hDc hN hH hS hFc zx_e⟩⟩ rfl rfl hl.1 rfl (lv_room (Nat.le_of_ble_eq_true rfl)) dX6_digest_21 ⟨Nat.le_of_ble_eq_true rfl, Nat.le_of_ble_eq_true rfl⟩) hS (fun q _ h => hFc q h) hFc (fun r68 u t H67 locs ht hvm hw hB hz1 hk1 hS => ?_)
  obtain rfl : r68 = 6408218429748705942 := hw.trans (by decide +kernel)
  have hP := zo_K hP hk1
  refine lv_lstore_n (lv' := [(1, .long 6408218429748705942), (3, .int 16), (0, .ref x)]) hx hb dX6_digest_24 rfl hl (by decide) rfl (fun ls hl => ?_)
  refine lv_iinc (v := 17) (lv' := [(3, .int 17), (1, .long 6408218429748705942), (0, .ref x)]) hx hb dX6_digest_25 hl (k := 1) rfl (by decide) (by decide) rfl (fun ls hl => ?_)
  refine lv_goto (tgt := 6) hx hb dX6_digest_28 (by decide) ?_
  refine lv_iload_n hx hb dX6_digest_6 rfl (lv_at hl 0 rfl) ?_
  refine lv_bipush (v := 19) hx hb dX6_digest_7 (by decide) ?_
  refine lv_icmp_ge (tgt := 31) hx hb dX6_digest_9 (by decide) (fun h => absurd h (by decide)) (fun _ => ?_)
  refine lv_lload_n hx hb dX6_digest_12 rfl (lv_at hl 1 rfl) ?_
  refine lv_aload_n hx hb dX6_digest_13 rfl (lv_at hl 2 rfl) ?_
  refine va_get (D := (dC, dI)) (ci := 8) (v := .ref rm) (C := RX6) (T := TX6) (N := 3) hx hb hts zi_X6_digest_X6 hown hK (zo_R hR0 hS hAr) 0 rfl rfl 0 (by decide) (hts (.fieldLink RX6 12 "LockRooms" "room" "LLockRooms$Room;") (by decide +kernel)) (fun _ h9 => h9) rfl dX6_digest_14 ?_
  refine lv_iload_n hx hb dX6_digest_17 rfl (lv_at hl 0 rfl) ?_
  have hPr := ((zo_R hR0 hS hAr)).sub (ws' := [(rm, .inr (5, [.ref lk, .ref th, .ref pl, .ref gm, .int 2, .int 10, .int 0, .int 0, .int 1, .int 0, .int 0, .int 0])), (gm, .inr (2, [.int 0, .int 0, .int 0, .int 0, .int 0, .int (-1), .long 0]))]) [3, 2] rfl
  have hPc := hP.sub (ws' := []) [] rfl
  have hDc := hD.sub (ws' := []) [] (by decide) rfl
  have hKc := hK.sub (tys' := []) [] rfl
  have hFc := va_free (wc := []) hD hS hA [] rfl
  refine va_calli (va_runV (As := [.int 17]) (rest := [.long 6408218429748705942]) ⟨hx, hb, hml, hown, hts⟩ (cz_Qtell_17 l dC dI ed H67.size rm lk th pl gm) (cwV 1 hts gX6_digest_X3_tell rfl rfl rfl (by decide +kernel) ⟨Nat.le_of_ble_eq_true rfl, Nat.le_of_ble_eq_true rfl⟩) ⟨zb_blind, va_recv hK (zo_R hR0 hS hAr) (ci := 5) (q0 := 3) rfl rfl, fun U hU hW => ⟨rfl, zb_mk hU hW hPr hPc hKc hDc hN hH hS hFc zx_e⟩⟩ rfl rfl hl.1 rfl (lv_room (Nat.le_of_ble_eq_true rfl)) dX6_digest_18 ⟨Nat.le_of_ble_eq_true rfl, Nat.le_of_ble_eq_true rfl⟩) hS (fun q _ h => hFc q h) hFc (fun r70 u t H69 locs ht hvm hw hB hz1 hk1 hS => ?_)
  obtain rfl : r70 = 1 := hw
  have hP := zo_K hP hk1
  have hPr := (zo_nil : va_P (dC, dI) vwCl [] H69)
  have hPc := hP.sub (ws' := []) [] rfl
  have hDc := hD.sub (ws' := []) [] (by decide) rfl
  have hKc := hK.sub (tys' := []) [] rfl
  have hFc := va_free (wc := []) hD hS hA [] rfl
  refine va_calll (va_runS (As := [.long 6408218429748705942, .int 1]) (rest := []) ⟨hx, hb, hml, hown, hts⟩ (cz_X6_mix l dC dI ed H69.size 6408218429748705942 1) (va_cwS 2 hts gX6_digest_X6_mix rfl rfl rfl (by decide +kernel) ⟨Nat.le_of_ble_eq_true rfl, Nat.le_of_ble_eq_true rfl⟩) ⟨zb_blind, fun U hU hW => ⟨rfl, zb_mk hU hW hPr hPc hKc hDc hN hH hS hFc zx_e⟩⟩ rfl rfl hl.1 rfl (lv_room (Nat.le_of_ble_eq_true rfl)) dX6_digest_21 ⟨Nat.le_of_ble_eq_true rfl, Nat.le_of_ble_eq_true rfl⟩) hS (fun q _ h => hFc q h) hFc (fun r72 u t H71 locs ht hvm hw hB hz1 hk1 hS => ?_)
  obtain rfl : r72 = (-4259413488595183573) := hw.trans (by decide +kernel)
  have hP := zo_K hP hk1
  refine lv_lstore_n (lv' := [(1, .long (-4259413488595183573)), (3, .int 17), (0, .ref x)]) hx hb dX6_digest_24 rfl hl (by decide) rfl (fun ls hl => ?_)
  refine lv_iinc (v := 18) (lv' := [(3, .int 18), (1, .long (-4259413488595183573)), (0, .ref x)]) hx hb dX6_digest_25 hl (k := 1) rfl (by decide) (by decide) rfl (fun ls hl => ?_)
  refine lv_goto (tgt := 6) hx hb dX6_digest_28 (by decide) ?_
  refine lv_iload_n hx hb dX6_digest_6 rfl (lv_at hl 0 rfl) ?_
  refine lv_bipush (v := 19) hx hb dX6_digest_7 (by decide) ?_
  refine lv_icmp_ge (tgt := 31) hx hb dX6_digest_9 (by decide) (fun h => absurd h (by decide)) (fun _ => ?_)
  refine lv_lload_n hx hb dX6_digest_12 rfl (lv_at hl 1 rfl) ?_
  refine lv_aload_n hx hb dX6_digest_13 rfl (lv_at hl 2 rfl) ?_
  refine va_get (D := (dC, dI)) (ci := 8) (v := .ref rm) (C := RX6) (T := TX6) (N := 3) hx hb hts zi_X6_digest_X6 hown hK (zo_R hR0 hS hAr) 0 rfl rfl 0 (by decide) (hts (.fieldLink RX6 12 "LockRooms" "room" "LLockRooms$Room;") (by decide +kernel)) (fun _ h9 => h9) rfl dX6_digest_14 ?_
  refine lv_iload_n hx hb dX6_digest_17 rfl (lv_at hl 0 rfl) ?_
  have hPr := ((zo_R hR0 hS hAr)).sub (ws' := [(rm, .inr (5, [.ref lk, .ref th, .ref pl, .ref gm, .int 2, .int 10, .int 0, .int 0, .int 1, .int 0, .int 0, .int 0])), (gm, .inr (2, [.int 0, .int 0, .int 0, .int 0, .int 0, .int (-1), .long 0]))]) [3, 2] rfl
  have hPc := hP.sub (ws' := []) [] rfl
  have hDc := hD.sub (ws' := []) [] (by decide) rfl
  have hKc := hK.sub (tys' := []) [] rfl
  have hFc := va_free (wc := []) hD hS hA [] rfl
  refine va_calli (va_runV (As := [.int 18]) (rest := [.long (-4259413488595183573)]) ⟨hx, hb, hml, hown, hts⟩ (cz_Qtell_18 l dC dI ed H71.size rm lk th pl gm) (cwV 1 hts gX6_digest_X3_tell rfl rfl rfl (by decide +kernel) ⟨Nat.le_of_ble_eq_true rfl, Nat.le_of_ble_eq_true rfl⟩) ⟨zb_blind, va_recv hK (zo_R hR0 hS hAr) (ci := 5) (q0 := 3) rfl rfl, fun U hU hW => ⟨rfl, zb_mk hU hW hPr hPc hKc hDc hN hH hS hFc zx_e⟩⟩ rfl rfl hl.1 rfl (lv_room (Nat.le_of_ble_eq_true rfl)) dX6_digest_18 ⟨Nat.le_of_ble_eq_true rfl, Nat.le_of_ble_eq_true rfl⟩) hS (fun q _ h => hFc q h) hFc (fun r74 u t H73 locs ht hvm hw hB hz1 hk1 hS => ?_)
  obtain rfl : r74 = 0 := hw
  have hP := zo_K hP hk1
  have hPr := (zo_nil : va_P (dC, dI) vwCl [] H73)
  have hPc := hP.sub (ws' := []) [] rfl
  have hDc := hD.sub (ws' := []) [] (by decide) rfl
  have hKc := hK.sub (tys' := []) [] rfl
  have hFc := va_free (wc := []) hD hS hA [] rfl
  refine va_calll (va_runS (As := [.long (-4259413488595183573), .int 0]) (rest := []) ⟨hx, hb, hml, hown, hts⟩ (cz_X6_mix l dC dI ed H73.size (-4259413488595183573) 0) (va_cwS 2 hts gX6_digest_X6_mix rfl rfl rfl (by decide +kernel) ⟨Nat.le_of_ble_eq_true rfl, Nat.le_of_ble_eq_true rfl⟩) ⟨zb_blind, fun U hU hW => ⟨rfl, zb_mk hU hW hPr hPc hKc hDc hN hH hS hFc zx_e⟩⟩ rfl rfl hl.1 rfl (lv_room (Nat.le_of_ble_eq_true rfl)) dX6_digest_21 ⟨Nat.le_of_ble_eq_true rfl, Nat.le_of_ble_eq_true rfl⟩) hS (fun q _ h => hFc q h) hFc (fun r76 u t H75 locs ht hvm hw hB hz1 hk1 hS => ?_)
  obtain rfl : r76 = (-2914609630483829451) := hw.trans (by decide +kernel)
  have hP := zo_K hP hk1
  refine lv_lstore_n (lv' := [(1, .long (-2914609630483829451)), (3, .int 18), (0, .ref x)]) hx hb dX6_digest_24 rfl hl (by decide) rfl (fun ls hl => ?_)
  refine lv_iinc (v := 19) (lv' := [(3, .int 19), (1, .long (-2914609630483829451)), (0, .ref x)]) hx hb dX6_digest_25 hl (k := 1) rfl (by decide) (by decide) rfl (fun ls hl => ?_)
  refine lv_goto (tgt := 6) hx hb dX6_digest_28 (by decide) ?_
  refine lv_iload_n hx hb dX6_digest_6 rfl (lv_at hl 0 rfl) ?_
  refine lv_bipush (v := 19) hx hb dX6_digest_7 (by decide) ?_
  refine lv_icmp_ge (tgt := 31) hx hb dX6_digest_9 (by decide) (fun _ => ?_) (fun h => absurd h (by decide))
  refine lv_aload_n hx hb dX6_digest_31 rfl (lv_at hl 2 rfl) ?_
  refine lv_lload_n hx hb dX6_digest_32 rfl (lv_at hl 1 rfl) ?_
  have hPr := ((zo_R hR0 hS hAr)).sub (ws' := [(x, .inr (8, [.ref rm, .ref tr, .ref st])), (rm, .inr (5, [.ref lk, .ref th, .ref pl, .ref gm, .int 2, .int 10, .int 0, .int 0, .int 1, .int 0, .int 0, .int 0])), (lk, .inl (cL, 10, .inr (.inr (.inr (.inr fl))))), (th, .inl (cT, 12, .inr (.inr (.inr (.inr ft))))), (l0, .inr (3, [.int 0, .int 0, .int 60, .int 0, .int 0, .int 0, .int 0, .int 0, .int 0, .int 0])), (l1, .inr (3, [.int 0, .int 0, .int 60, .int 0, .int 0, .int 0, .int 0, .int 0, .int 0, .int 0])), (t0, .inr (7, [.int (-1), .int 0, .int 0, .int 0, .int 0])), (t1, .inr (7, [.int (-1), .int 0, .int 0, .int 0, .int 0])), (t2, .inr (7, [.int (-1), .int 0, .int 0, .int 0, .int 0])), (t3, .inr (7, [.int (-1), .int 0, .int 0, .int 0, .int 0])), (t4, .inr (7, [.int (-1), .int 0, .int 0, .int 0, .int 0])), (t5, .inr (7, [.int (-1), .int 0, .int 0, .int 0, .int 0])), (t6, .inr (7, [.int (-1), .int 0, .int 0, .int 0, .int 0])), (t7, .inr (7, [.int (-1), .int 0, .int 0, .int 0, .int 0])), (t8, .inr (7, [.int (-1), .int 0, .int 0, .int 0, .int 0])), (t9, .inr (7, [.int (-1), .int 0, .int 0, .int 0, .int 0]))]) [0, 3, 4, 5, 6, 7, 8, 9, 10, 11, 12, 13, 14, 15, 16, 17] rfl
  have hPc := hP.sub (ws' := []) [] rfl
  have hDc := hD.sub (ws' := []) [] (by decide) rfl
  have hKc := hK.sub (tys' := [(cL, .object "LockRooms$Lock"), (cT, .object "LockRooms$Thing")]) [0, 1] rfl
  have hFc := va_free (wc := []) hD hS hA [] rfl
  refine va_calll (va_runV (As := [.long (-2914609630483829451)]) (rest := []) ⟨hx, hb, hml, hown, hts⟩ (cz_QmixLocks l dC dI ed H75.size x rm tr st lk th pl gm cL fl l0 l1 cT ft t0 t1 t2 t3 t4 t5 t6 t7 t8 t9 hkl0 hkl1 hkt0 hkt1 hkt2 hkt3 hkt4 hkt5 hkt6 hkt7 hkt8 hkt9) (cwV 1 hts gX6_digest_X6_mixLocks rfl rfl rfl (by decide +kernel) ⟨Nat.le_of_ble_eq_true rfl, Nat.le_of_ble_eq_true rfl⟩) ⟨zb_blind, va_recv hK (zo_R hR0 hS hAr) (ci := 8) (q0 := 0) rfl rfl, fun U hU hW => ⟨rfl, zb_mk hU hW hPr hPc hKc hDc hN hH hS hFc zx_e⟩⟩ rfl rfl hl.1 rfl (lv_room (Nat.le_of_ble_eq_true rfl)) dX6_digest_33 ⟨Nat.le_of_ble_eq_true rfl, Nat.le_of_ble_eq_true rfl⟩) hS (fun q _ h => hFc q h) hFc (fun r78 u t H77 locs ht hvm hw hB hz1 hk1 hS => ?_)
  obtain rfl : r78 = (-1160429273186388225) := hw
  have hP := zo_K hP hk1
  refine lv_lstore_n (lv' := [(1, .long (-1160429273186388225)), (3, .int 19), (0, .ref x)]) hx hb dX6_digest_36 rfl hl (by decide) rfl (fun ls hl => ?_)
  refine lv_aload_n hx hb dX6_digest_37 rfl (lv_at hl 2 rfl) ?_
  refine lv_lload_n hx hb dX6_digest_38 rfl (lv_at hl 0 rfl) ?_
  have hPr := ((zo_R hR0 hS hAr)).sub (ws' := [(x, .inr (8, [.ref rm, .ref tr, .ref st])), (rm, .inr (5, [.ref lk, .ref th, .ref pl, .ref gm, .int 2, .int 10, .int 0, .int 0, .int 1, .int 0, .int 0, .int 0])), (lk, .inl (cL, 10, .inr (.inr (.inr (.inr fl))))), (th, .inl (cT, 12, .inr (.inr (.inr (.inr ft))))), (l0, .inr (3, [.int 0, .int 0, .int 60, .int 0, .int 0, .int 0, .int 0, .int 0, .int 0, .int 0])), (l1, .inr (3, [.int 0, .int 0, .int 60, .int 0, .int 0, .int 0, .int 0, .int 0, .int 0, .int 0])), (t0, .inr (7, [.int (-1), .int 0, .int 0, .int 0, .int 0])), (t1, .inr (7, [.int (-1), .int 0, .int 0, .int 0, .int 0])), (t2, .inr (7, [.int (-1), .int 0, .int 0, .int 0, .int 0])), (t3, .inr (7, [.int (-1), .int 0, .int 0, .int 0, .int 0])), (t4, .inr (7, [.int (-1), .int 0, .int 0, .int 0, .int 0])), (t5, .inr (7, [.int (-1), .int 0, .int 0, .int 0, .int 0])), (t6, .inr (7, [.int (-1), .int 0, .int 0, .int 0, .int 0])), (t7, .inr (7, [.int (-1), .int 0, .int 0, .int 0, .int 0])), (t8, .inr (7, [.int (-1), .int 0, .int 0, .int 0, .int 0])), (t9, .inr (7, [.int (-1), .int 0, .int 0, .int 0, .int 0]))]) [0, 3, 4, 5, 6, 7, 8, 9, 10, 11, 12, 13, 14, 15, 16, 17] rfl
  have hPc := hP.sub (ws' := []) [] rfl
  have hDc := hD.sub (ws' := []) [] (by decide) rfl
  have hKc := hK.sub (tys' := [(cL, .object "LockRooms$Lock"), (cT, .object "LockRooms$Thing")]) [0, 1] rfl
  have hFc := va_free (wc := []) hD hS hA [] rfl
  refine va_calll (va_runV (As := [.long (-1160429273186388225)]) (rest := []) ⟨hx, hb, hml, hown, hts⟩ (cz_QmixThings l dC dI ed H77.size x rm tr st lk th pl gm cL fl l0 l1 cT ft t0 t1 t2 t3 t4 t5 t6 t7 t8 t9 hkl0 hkl1 hkt0 hkt1 hkt2 hkt3 hkt4 hkt5 hkt6 hkt7 hkt8 hkt9) (cwV 1 hts gX6_digest_X6_mixThings rfl rfl rfl (by decide +kernel) ⟨Nat.le_of_ble_eq_true rfl, Nat.le_of_ble_eq_true rfl⟩) ⟨zb_blind, va_recv hK (zo_R hR0 hS hAr) (ci := 8) (q0 := 0) rfl rfl, fun U hU hW => ⟨rfl, zb_mk hU hW hPr hPc hKc hDc hN hH hS hFc zx_e⟩⟩ rfl rfl hl.1 rfl (lv_room (Nat.le_of_ble_eq_true rfl)) dX6_digest_39 ⟨Nat.le_of_ble_eq_true rfl, Nat.le_of_ble_eq_true rfl⟩) hS (fun q _ h => hFc q h) hFc (fun r80 u t H79 locs ht hvm hw hB hz1 hk1 hS => ?_)
  obtain rfl : r80 = (-1088415371068898945) := hw
  have hP := zo_K hP hk1
  refine lv_lstore_n (lv' := [(1, .long (-1088415371068898945)), (3, .int 19), (0, .ref x)]) hx hb dX6_digest_42 rfl hl (by decide) rfl (fun ls hl => ?_)
  refine lv_aload_n hx hb dX6_digest_43 rfl (lv_at hl 2 rfl) ?_
  refine lv_lload_n hx hb dX6_digest_44 rfl (lv_at hl 0 rfl) ?_
  have hPr := ((zo_R hR0 hS hAr)).sub (ws' := [(x, .inr (8, [.ref rm, .ref tr, .ref st])), (rm, .inr (5, [.ref lk, .ref th, .ref pl, .ref gm, .int 2, .int 10, .int 0, .int 0, .int 1, .int 0, .int 0, .int 0]))]) [0, 3] rfl
  have hPc := hP.sub (ws' := []) [] rfl
  have hDc := hD.sub (ws' := []) [] (by decide) rfl
  have hKc := hK.sub (tys' := []) [] rfl
  have hFc := va_free (wc := []) hD hS hA [] rfl
  refine va_calll (va_runV (As := [.long (-1088415371068898945)]) (rest := []) ⟨hx, hb, hml, hown, hts⟩ (cz_QmixPlayers l dC dI ed H79.size x rm tr st lk th pl gm) (cwV 1 hts gX6_digest_X6_mixPlayers rfl rfl rfl (by decide +kernel) ⟨Nat.le_of_ble_eq_true rfl, Nat.le_of_ble_eq_true rfl⟩) ⟨zb_blind, va_recv hK (zo_R hR0 hS hAr) (ci := 8) (q0 := 0) rfl rfl, fun U hU hW => ⟨rfl, zb_mk hU hW hPr hPc hKc hDc hN hH hS hFc zx_e⟩⟩ rfl rfl hl.1 rfl (lv_room (Nat.le_of_ble_eq_true rfl)) dX6_digest_45 ⟨Nat.le_of_ble_eq_true rfl, Nat.le_of_ble_eq_true rfl⟩) hS (fun q _ h => hFc q h) hFc (fun r82 u t H81 locs ht hvm hw hB hz1 hk1 hS => ?_)
  obtain rfl : r82 = (-1088415371068898945) := hw
  have hP := zo_K hP hk1
  refine lv_lstore_n (lv' := [(1, .long (-1088415371068898945)), (3, .int 19), (0, .ref x)]) hx hb dX6_digest_48 rfl hl (by decide) rfl (fun ls hl => ?_)
  refine lv_lload_n hx hb dX6_digest_49 rfl (lv_at hl 0 rfl) ?_
  refine lv_aload_n hx hb dX6_digest_50 rfl (lv_at hl 2 rfl) ?_
  have hPr := ((zo_R hR0 hS hAr)).sub (ws' := [(x, .inr (8, [.ref rm, .ref tr, .ref st])), (st, .inr (6, [.ref a1, .ref a2, .ref a3])), (rm, .inr (5, [.ref lk, .ref th, .ref pl, .ref gm, .int 2, .int 10, .int 0, .int 0, .int 1, .int 0, .int 0, .int 0])), (lk, .inl (cL, 10, .inr (.inr (.inr (.inr fl))))), (th, .inl (cT, 12, .inr (.inr (.inr (.inr ft))))), (l0, .inr (3, [.int 0, .int 0, .int 60, .int 0, .int 0, .int 0, .int 0, .int 0, .int 0, .int 0])), (l1, .inr (3, [.int 0, .int 0, .int 60, .int 0, .int 0, .int 0, .int 0, .int 0, .int 0, .int 0])), (t0, .inr (7, [.int (-1), .int 0, .int 0, .int 0, .int 0])), (t1, .inr (7, [.int (-1), .int 0, .int 0, .int 0, .int 0])), (t2, .inr (7, [.int (-1), .int 0, .int 0, .int 0, .int 0])), (t3, .inr (7, [.int (-1), .int 0, .int 0, .int 0, .int 0])), (t4, .inr (7, [.int (-1), .int 0, .int 0, .int 0, .int 0])), (t5, .inr (7, [.int (-1), .int 0, .int 0, .int 0, .int 0])), (t6, .inr (7, [.int (-1), .int 0, .int 0, .int 0, .int 0])), (t7, .inr (7, [.int (-1), .int 0, .int 0, .int 0, .int 0])), (t8, .inr (7, [.int (-1), .int 0, .int 0, .int 0, .int 0])), (t9, .inr (7, [.int (-1), .int 0, .int 0, .int 0, .int 0]))]) [0, 1, 3, 4, 5, 6, 7, 8, 9, 10, 11, 12, 13, 14, 15, 16, 17] rfl
  have hPc := hP.sub (ws' := [(a1, .inl (cZ, 1024, .inl f1)), (a2, .inl (cI, 1024, .inl f2)), (a3, .inl (cJ, 1024, .inl f3))]) [0, 1, 2] rfl
  have hDc := hD.sub (ws' := [(a1, .inl (cZ, 1024, .inl f1)), (a2, .inl (cI, 1024, .inl f2)), (a3, .inl (cJ, 1024, .inl f3))]) [0, 1, 2] (by decide) rfl
  have hKc := hK.sub (tys' := [(cL, .object "LockRooms$Lock"), (cT, .object "LockRooms$Thing"), (cZ, .boolean), (cI, .int), (cJ, .int)]) [0, 1, 2, 3, 4] rfl
  have hFc := va_free (wc := [(a1, .inl (cZ, 1024, .inl f1)), (a2, .inl (cI, 1024, .inl f2)), (a3, .inl (cJ, 1024, .inl f3))]) hD hS hA [0, 1, 2] rfl
  refine va_calli (va_runV (As := []) (rest := [.long (-1088415371068898945)]) ⟨hx, hb, hml, hown, hts⟩ (cz_QX6_canEnd l dC dI ed H81.size x rm tr st a1 a2 a3 lk th pl gm cL fl l0 l1 cT ft t0 t1 t2 t3 t4 t5 t6 t7 t8 t9 cZ f1 cI f2 cJ f3 hkl0 hkl1 hkt0 hkt1 hkt2 hkt3 hkt4 hkt5 hkt6 hkt7 hkt8 hkt9) (cwV 0 hts gX6_digest_X6_canEnd rfl rfl rfl (by decide +kernel) ⟨Nat.le_of_ble_eq_true rfl, Nat.le_of_ble_eq_true rfl⟩) ⟨zb_blind, va_recv hK (zo_R hR0 hS hAr) (ci := 8) (q0 := 0) rfl rfl, fun U hU hW => ⟨rfl, zb_mk hU hW hPr hPc hKc hDc hN hH hS hFc (zx_cons (zx_r (hAr _ (List.mem_of_getElem? (i := 0) rfl)) hDc) (zx_cons (zx_r (hAr _ (List.mem_of_getElem? (i := 1) rfl)) hDc) (zx_cons (zx_r (hAr _ (List.mem_of_getElem? (i := 3) rfl)) hDc) (zx_cons (zx_r (hAr _ (List.mem_of_getElem? (i := 4) rfl)) hDc) (zx_cons (zx_r (hAr _ (List.mem_of_getElem? (i := 5) rfl)) hDc) (zx_cons (zx_r (hAr _ (List.mem_of_getElem? (i := 6) rfl)) hDc) (zx_cons (zx_r (hAr _ (List.mem_of_getElem? (i := 7) rfl)) hDc) (zx_cons (zx_r (hAr _ (List.mem_of_getElem? (i := 8) rfl)) hDc) (zx_cons (zx_r (hAr _ (List.mem_of_getElem? (i := 9) rfl)) hDc) (zx_cons (zx_r (hAr _ (List.mem_of_getElem? (i := 10) rfl)) hDc) (zx_cons (zx_r (hAr _ (List.mem_of_getElem? (i := 11) rfl)) hDc) (zx_cons (zx_r (hAr _ (List.mem_of_getElem? (i := 12) rfl)) hDc) (zx_cons (zx_r (hAr _ (List.mem_of_getElem? (i := 13) rfl)) hDc) (zx_cons (zx_r (hAr _ (List.mem_of_getElem? (i := 14) rfl)) hDc) (zx_cons (zx_r (hAr _ (List.mem_of_getElem? (i := 15) rfl)) hDc) (zx_cons (zx_r (hAr _ (List.mem_of_getElem? (i := 16) rfl)) hDc) (zx_cons (zx_r (hAr _ (List.mem_of_getElem? (i := 17) rfl)) hDc) zx_nil)))))))))))))))))⟩⟩ rfl rfl hl.1 rfl (lv_room (Nat.le_of_ble_eq_true rfl)) dX6_digest_51 ⟨Nat.le_of_ble_eq_true rfl, Nat.le_of_ble_eq_true rfl⟩) hS (fun q _ h => hFc q h) hFc (fun r84 u t H83 locs ht hvm hw hB hz1 hk1 hS => ?_)
  obtain rfl : r84 = 1 := hw
  obtain ⟨g1_85, g2_85, g3_85, hP1, hD1, hK1⟩ := hB
  rw [ht] at hP1
  obtain ⟨hP, hD⟩ := va_join (wr := []) (w1 := [(a1, .inl (cZ, 1024, .inl g1_85)), (a2, .inl (cI, 1024, .inl g2_85)), (a3, .inl (cJ, 1024, .inl g3_85))]) hP hD [0, 1, 2] [] rfl rfl (by decide) (by decide) hk1 hFc hP1 hD1
  have hP : va_P (dC, dI) vwCl [(a1, .inl (cZ, 1024, .inl g1_85)), (a2, .inl (cI, 1024, .inl g2_85)), (a3, .inl (cJ, 1024, .inl g3_85))] H83 := hP
  have hD : va_D A [(a1, .inl (cZ, 1024, .inl g1_85)), (a2, .inl (cI, 1024, .inl g2_85)), (a3, .inl (cJ, 1024, .inl g3_85))] := hD
  refine lv_if_eq (tgt := 61) hx hb dX6_digest_54 (by decide) (fun h => absurd h (by decide)) (fun _ => ?_)
  refine lv_iconst (v := 1) hx hb dX6_digest_57 (by decide) ?_
  refine lv_goto (tgt := 62) hx hb dX6_digest_58 (by decide) ?_
  have hPr := (zo_nil : va_P (dC, dI) vwCl [] H83)
  have hPc := hP.sub (ws' := []) [] rfl
  have hDc := hD.sub (ws' := []) [] (by decide) rfl
  have hKc := hK.sub (tys' := []) [] rfl
  have hFc := va_free (wc := []) hD hS hA [] rfl
  refine va_calll (va_runS (As := [.long (-1088415371068898945), .int 1]) (rest := []) ⟨hx, hb, hml, hown, hts⟩ (cz_X6_mix l dC dI ed H83.size (-1088415371068898945) 1) (va_cwS 2 hts gX6_digest_X6_mix rfl rfl rfl (by decide +kernel) ⟨Nat.le_of_ble_eq_true rfl, Nat.le_of_ble_eq_true rfl⟩) ⟨zb_blind, fun U hU hW => ⟨rfl, zb_mk hU hW hPr hPc hKc hDc hN hH hS hFc zx_e⟩⟩ rfl rfl hl.1 rfl (lv_room (Nat.le_of_ble_eq_true rfl)) dX6_digest_62 ⟨Nat.le_of_ble_eq_true rfl, Nat.le_of_ble_eq_true rfl⟩) hS (fun q _ h => hFc q h) hFc (fun r87 u t H86 locs ht hvm hw hB hz1 hk1 hS => ?_)
  obtain rfl : r87 = 3152611644283235938 := hw.trans (by decide +kernel)
  have hP := zo_K hP hk1
  refine lv_lstore_n (lv' := [(1, .long 3152611644283235938), (3, .int 19), (0, .ref x)]) hx hb dX6_digest_65 rfl hl (by decide) rfl (fun ls hl => ?_)
  refine lv_lload_n hx hb dX6_digest_66 rfl (lv_at hl 0 rfl) ?_
  refine lv_aload_n hx hb dX6_digest_67 rfl (lv_at hl 2 rfl) ?_
  have hPr := ((zo_R hR0 hS hAr)).sub (ws' := [(x, .inr (8, [.ref rm, .ref tr, .ref st])), (st, .inr (6, [.ref a1, .ref a2, .ref a3])), (rm, .inr (5, [.ref lk, .ref th, .ref pl, .ref gm, .int 2, .int 10, .int 0, .int 0, .int 1, .int 0, .int 0, .int 0])), (lk, .inl (cL, 10, .inr (.inr (.inr (.inr fl))))), (th, .inl (cT, 12, .inr (.inr (.inr (.inr ft))))), (l0, .inr (3, [.int 0, .int 0, .int 60, .int 0, .int 0, .int 0, .int 0, .int 0, .int 0, .int 0])), (l1, .inr (3, [.int 0, .int 0, .int 60, .int 0, .int 0, .int 0, .int 0, .int 0, .int 0, .int 0])), (t0, .inr (7, [.int (-1), .int 0, .int 0, .int 0, .int 0])), (t1, .inr (7, [.int (-1), .int 0, .int 0, .int 0, .int 0])), (t2, .inr (7, [.int (-1), .int 0, .int 0, .int 0, .int 0])), (t3, .inr (7, [.int (-1), .int 0, .int 0, .int 0, .int 0])), (t4, .inr (7, [.int (-1), .int 0, .int 0, .int 0, .int 0])), (t5, .inr (7, [.int (-1), .int 0, .int 0, .int 0, .int 0])), (t6, .inr (7, [.int (-1), .int 0, .int 0, .int 0, .int 0])), (t7, .inr (7, [.int (-1), .int 0, .int 0, .int 0, .int 0])), (t8, .inr (7, [.int (-1), .int 0, .int 0, .int 0, .int 0])), (t9, .inr (7, [.int (-1), .int 0, .int 0, .int 0, .int 0]))]) [0, 1, 3, 4, 5, 6, 7, 8, 9, 10, 11, 12, 13, 14, 15, 16, 17] rfl
  have hPc := hP.sub (ws' := [(a1, .inl (cZ, 1024, .inl g1_85)), (a2, .inl (cI, 1024, .inl g2_85)), (a3, .inl (cJ, 1024, .inl g3_85))]) [0, 1, 2] rfl
  have hDc := hD.sub (ws' := [(a1, .inl (cZ, 1024, .inl g1_85)), (a2, .inl (cI, 1024, .inl g2_85)), (a3, .inl (cJ, 1024, .inl g3_85))]) [0, 1, 2] (by decide) rfl
  have hKc := hK.sub (tys' := [(cL, .object "LockRooms$Lock"), (cT, .object "LockRooms$Thing"), (cZ, .boolean), (cI, .int), (cJ, .int)]) [0, 1, 2, 3, 4] rfl
  have hFc := va_free (wc := [(a1, .inl (cZ, 1024, .inl g1_85)), (a2, .inl (cI, 1024, .inl g2_85)), (a3, .inl (cJ, 1024, .inl g3_85))]) hD hS hA [0, 1, 2] rfl
  refine va_calli (va_runV (As := []) (rest := [.long 3152611644283235938]) ⟨hx, hb, hml, hown, hts⟩ (cz_QX6_stands l dC dI ed H86.size x rm tr st a1 a2 a3 lk th pl gm cL fl l0 l1 cT ft t0 t1 t2 t3 t4 t5 t6 t7 t8 t9 cZ g1_85 cI g2_85 cJ g3_85 hkl0 hkl1 hkt0 hkt1 hkt2 hkt3 hkt4 hkt5 hkt6 hkt7 hkt8 hkt9) (cwV 0 hts gX6_digest_X6_stands rfl rfl rfl (by decide +kernel) ⟨Nat.le_of_ble_eq_true rfl, Nat.le_of_ble_eq_true rfl⟩) ⟨zb_blind, va_recv hK (zo_R hR0 hS hAr) (ci := 8) (q0 := 0) rfl rfl, fun U hU hW => ⟨rfl, zb_mk hU hW hPr hPc hKc hDc hN hH hS hFc (zx_cons (zx_r (hAr _ (List.mem_of_getElem? (i := 0) rfl)) hDc) (zx_cons (zx_r (hAr _ (List.mem_of_getElem? (i := 1) rfl)) hDc) (zx_cons (zx_r (hAr _ (List.mem_of_getElem? (i := 3) rfl)) hDc) (zx_cons (zx_r (hAr _ (List.mem_of_getElem? (i := 4) rfl)) hDc) (zx_cons (zx_r (hAr _ (List.mem_of_getElem? (i := 5) rfl)) hDc) (zx_cons (zx_r (hAr _ (List.mem_of_getElem? (i := 6) rfl)) hDc) (zx_cons (zx_r (hAr _ (List.mem_of_getElem? (i := 7) rfl)) hDc) (zx_cons (zx_r (hAr _ (List.mem_of_getElem? (i := 8) rfl)) hDc) (zx_cons (zx_r (hAr _ (List.mem_of_getElem? (i := 9) rfl)) hDc) (zx_cons (zx_r (hAr _ (List.mem_of_getElem? (i := 10) rfl)) hDc) (zx_cons (zx_r (hAr _ (List.mem_of_getElem? (i := 11) rfl)) hDc) (zx_cons (zx_r (hAr _ (List.mem_of_getElem? (i := 12) rfl)) hDc) (zx_cons (zx_r (hAr _ (List.mem_of_getElem? (i := 13) rfl)) hDc) (zx_cons (zx_r (hAr _ (List.mem_of_getElem? (i := 14) rfl)) hDc) (zx_cons (zx_r (hAr _ (List.mem_of_getElem? (i := 15) rfl)) hDc) (zx_cons (zx_r (hAr _ (List.mem_of_getElem? (i := 16) rfl)) hDc) (zx_cons (zx_r (hAr _ (List.mem_of_getElem? (i := 17) rfl)) hDc) zx_nil)))))))))))))))))⟩⟩ rfl rfl hl.1 rfl (lv_room (Nat.le_of_ble_eq_true rfl)) dX6_digest_68 ⟨Nat.le_of_ble_eq_true rfl, Nat.le_of_ble_eq_true rfl⟩) hS (fun q _ h => hFc q h) hFc (fun r89 u t H88 locs ht hvm hw hB hz1 hk1 hS => ?_)
  obtain rfl : r89 = 4 := hw
  obtain ⟨g1_90, g2_90, g3_90, hP1, hD1, hK1⟩ := hB
  rw [ht] at hP1
  obtain ⟨hP, hD⟩ := va_join (wr := []) (w1 := [(a1, .inl (cZ, 1024, .inl g1_90)), (a2, .inl (cI, 1024, .inl g2_90)), (a3, .inl (cJ, 1024, .inl g3_90))]) hP hD [0, 1, 2] [] rfl rfl (by decide) (by decide) hk1 hFc hP1 hD1
  have hP : va_P (dC, dI) vwCl [(a1, .inl (cZ, 1024, .inl g1_90)), (a2, .inl (cI, 1024, .inl g2_90)), (a3, .inl (cJ, 1024, .inl g3_90))] H88 := hP
  have hD : va_D A [(a1, .inl (cZ, 1024, .inl g1_90)), (a2, .inl (cI, 1024, .inl g2_90)), (a3, .inl (cJ, 1024, .inl g3_90))] := hD
  have hPr := (zo_nil : va_P (dC, dI) vwCl [] H88)
  have hPc := hP.sub (ws' := []) [] rfl
  have hDc := hD.sub (ws' := []) [] (by decide) rfl
  have hKc := hK.sub (tys' := []) [] rfl
  have hFc := va_free (wc := []) hD hS hA [] rfl
  refine va_calll (va_runS (As := [.long 3152611644283235938, .int 4]) (rest := []) ⟨hx, hb, hml, hown, hts⟩ (cz_X6_mix l dC dI ed H88.size 3152611644283235938 4) (va_cwS 2 hts gX6_digest_X6_mix rfl rfl rfl (by decide +kernel) ⟨Nat.le_of_ble_eq_true rfl, Nat.le_of_ble_eq_true rfl⟩) ⟨zb_blind, fun U hU hW => ⟨rfl, zb_mk hU hW hPr hPc hKc hDc hN hH hS hFc zx_e⟩⟩ rfl rfl hl.1 rfl (lv_room (Nat.le_of_ble_eq_true rfl)) dX6_digest_71 ⟨Nat.le_of_ble_eq_true rfl, Nat.le_of_ble_eq_true rfl⟩) hS (fun q _ h => hFc q h) hFc (fun r92 u t H91 locs ht hvm hw hB hz1 hk1 hS => ?_)
  obtain rfl : r92 = 5497240604232556002 := hw.trans (by decide +kernel)
  have hP := zo_K hP hk1
  refine lv_lstore_n (lv' := [(1, .long 5497240604232556002), (3, .int 19), (0, .ref x)]) hx hb dX6_digest_74 rfl hl (by decide) rfl (fun ls hl => ?_)
  refine lv_lload_n hx hb dX6_digest_75 rfl (lv_at hl 0 rfl) ?_
  refine lv_aload_n hx hb dX6_digest_76 rfl (lv_at hl 2 rfl) ?_
  have hPr := ((zo_R hR0 hS hAr)).sub (ws' := [(x, .inr (8, [.ref rm, .ref tr, .ref st])), (st, .inr (6, [.ref a1, .ref a2, .ref a3])), (rm, .inr (5, [.ref lk, .ref th, .ref pl, .ref gm, .int 2, .int 10, .int 0, .int 0, .int 1, .int 0, .int 0, .int 0])), (lk, .inl (cL, 10, .inr (.inr (.inr (.inr fl))))), (th, .inl (cT, 12, .inr (.inr (.inr (.inr ft))))), (l0, .inr (3, [.int 0, .int 0, .int 60, .int 0, .int 0, .int 0, .int 0, .int 0, .int 0, .int 0])), (l1, .inr (3, [.int 0, .int 0, .int 60, .int 0, .int 0, .int 0, .int 0, .int 0, .int 0, .int 0])), (t0, .inr (7, [.int (-1), .int 0, .int 0, .int 0, .int 0])), (t1, .inr (7, [.int (-1), .int 0, .int 0, .int 0, .int 0])), (t2, .inr (7, [.int (-1), .int 0, .int 0, .int 0, .int 0])), (t3, .inr (7, [.int (-1), .int 0, .int 0, .int 0, .int 0])), (t4, .inr (7, [.int (-1), .int 0, .int 0, .int 0, .int 0])), (t5, .inr (7, [.int (-1), .int 0, .int 0, .int 0, .int 0])), (t6, .inr (7, [.int (-1), .int 0, .int 0, .int 0, .int 0])), (t7, .inr (7, [.int (-1), .int 0, .int 0, .int 0, .int 0])), (t8, .inr (7, [.int (-1), .int 0, .int 0, .int 0, .int 0])), (t9, .inr (7, [.int (-1), .int 0, .int 0, .int 0, .int 0]))]) [0, 1, 3, 4, 5, 6, 7, 8, 9, 10, 11, 12, 13, 14, 15, 16, 17] rfl
  have hPc := hP.sub (ws' := [(a1, .inl (cZ, 1024, .inl g1_90)), (a2, .inl (cI, 1024, .inl g2_90)), (a3, .inl (cJ, 1024, .inl g3_90))]) [0, 1, 2] rfl
  have hDc := hD.sub (ws' := [(a1, .inl (cZ, 1024, .inl g1_90)), (a2, .inl (cI, 1024, .inl g2_90)), (a3, .inl (cJ, 1024, .inl g3_90))]) [0, 1, 2] (by decide) rfl
  have hKc := hK.sub (tys' := [(cL, .object "LockRooms$Lock"), (cT, .object "LockRooms$Thing"), (cZ, .boolean), (cI, .int), (cJ, .int)]) [0, 1, 2, 3, 4] rfl
  have hFc := va_free (wc := [(a1, .inl (cZ, 1024, .inl g1_90)), (a2, .inl (cI, 1024, .inl g2_90)), (a3, .inl (cJ, 1024, .inl g3_90))]) hD hS hA [0, 1, 2] rfl
  refine va_calli (va_runV (As := []) (rest := [.long 5497240604232556002]) ⟨hx, hb, hml, hown, hts⟩ (cz_QX6_deadEnds l dC dI ed H91.size x rm tr st a1 a2 a3 lk th pl gm cL fl l0 l1 cT ft t0 t1 t2 t3 t4 t5 t6 t7 t8 t9 cZ g1_90 cI g2_90 cJ g3_90 hkl0 hkl1 hkt0 hkt1 hkt2 hkt3 hkt4 hkt5 hkt6 hkt7 hkt8 hkt9) (cwV 0 hts gX6_digest_X6_deadEnds rfl rfl rfl (by decide +kernel) ⟨Nat.le_of_ble_eq_true rfl, Nat.le_of_ble_eq_true rfl⟩) ⟨zb_blind, va_recv hK (zo_R hR0 hS hAr) (ci := 8) (q0 := 0) rfl rfl, fun U hU hW => ⟨rfl, zb_mk hU hW hPr hPc hKc hDc hN hH hS hFc (zx_cons (zx_r (hAr _ (List.mem_of_getElem? (i := 0) rfl)) hDc) (zx_cons (zx_r (hAr _ (List.mem_of_getElem? (i := 1) rfl)) hDc) (zx_cons (zx_r (hAr _ (List.mem_of_getElem? (i := 3) rfl)) hDc) (zx_cons (zx_r (hAr _ (List.mem_of_getElem? (i := 4) rfl)) hDc) (zx_cons (zx_r (hAr _ (List.mem_of_getElem? (i := 5) rfl)) hDc) (zx_cons (zx_r (hAr _ (List.mem_of_getElem? (i := 6) rfl)) hDc) (zx_cons (zx_r (hAr _ (List.mem_of_getElem? (i := 7) rfl)) hDc) (zx_cons (zx_r (hAr _ (List.mem_of_getElem? (i := 8) rfl)) hDc) (zx_cons (zx_r (hAr _ (List.mem_of_getElem? (i := 9) rfl)) hDc) (zx_cons (zx_r (hAr _ (List.mem_of_getElem? (i := 10) rfl)) hDc) (zx_cons (zx_r (hAr _ (List.mem_of_getElem? (i := 11) rfl)) hDc) (zx_cons (zx_r (hAr _ (List.mem_of_getElem? (i := 12) rfl)) hDc) (zx_cons (zx_r (hAr _ (List.mem_of_getElem? (i := 13) rfl)) hDc) (zx_cons (zx_r (hAr _ (List.mem_of_getElem? (i := 14) rfl)) hDc) (zx_cons (zx_r (hAr _ (List.mem_of_getElem? (i := 15) rfl)) hDc) (zx_cons (zx_r (hAr _ (List.mem_of_getElem? (i := 16) rfl)) hDc) (zx_cons (zx_r (hAr _ (List.mem_of_getElem? (i := 17) rfl)) hDc) zx_nil)))))))))))))))))⟩⟩ rfl rfl hl.1 rfl (lv_room (Nat.le_of_ble_eq_true rfl)) dX6_digest_77 ⟨Nat.le_of_ble_eq_true rfl, Nat.le_of_ble_eq_true rfl⟩) hS (fun q _ h => hFc q h) hFc (fun r94 u t H93 locs ht hvm hw hB hz1 hk1 hS => ?_)
  obtain rfl : r94 = 0 := hw
  obtain ⟨g1_95, g2_95, g3_95, hP1, hD1, hK1⟩ := hB
  rw [ht] at hP1
  obtain ⟨hP, hD⟩ := va_join (wr := []) (w1 := [(a1, .inl (cZ, 1024, .inl g1_95)), (a2, .inl (cI, 1024, .inl g2_95)), (a3, .inl (cJ, 1024, .inl g3_95))]) hP hD [0, 1, 2] [] rfl rfl (by decide) (by decide) hk1 hFc hP1 hD1
  have hP : va_P (dC, dI) vwCl [(a1, .inl (cZ, 1024, .inl g1_95)), (a2, .inl (cI, 1024, .inl g2_95)), (a3, .inl (cJ, 1024, .inl g3_95))] H93 := hP
  have hD : va_D A [(a1, .inl (cZ, 1024, .inl g1_95)), (a2, .inl (cI, 1024, .inl g2_95)), (a3, .inl (cJ, 1024, .inl g3_95))] := hD
  have hPr := (zo_nil : va_P (dC, dI) vwCl [] H93)
  have hPc := hP.sub (ws' := []) [] rfl
  have hDc := hD.sub (ws' := []) [] (by decide) rfl
  have hKc := hK.sub (tys' := []) [] rfl
  have hFc := va_free (wc := []) hD hS hA [] rfl
  refine va_calll (va_runS (As := [.long 5497240604232556002, .int 0]) (rest := []) ⟨hx, hb, hml, hown, hts⟩ (cz_X6_mix l dC dI ed H93.size 5497240604232556002 0) (va_cwS 2 hts gX6_digest_X6_mix rfl rfl rfl (by decide +kernel) ⟨Nat.le_of_ble_eq_true rfl, Nat.le_of_ble_eq_true rfl⟩) ⟨zb_blind, fun U hU hW => ⟨rfl, zb_mk hU hW hPr hPc hKc hDc hN hH hS hFc zx_e⟩⟩ rfl rfl hl.1 rfl (lv_room (Nat.le_of_ble_eq_true rfl)) dX6_digest_80 ⟨Nat.le_of_ble_eq_true rfl, Nat.le_of_ble_eq_true rfl⟩) hS (fun q _ h => hFc q h) hFc (fun r97 u t H96 locs ht hvm hw hB hz1 hk1 hS => ?_)
  obtain rfl : r97 = 4393762067823271518 := hw.trans (by decide +kernel)
  have hP := zo_K hP hk1
  refine lv_lstore_n (lv' := [(1, .long 4393762067823271518), (3, .int 19), (0, .ref x)]) hx hb dX6_digest_83 rfl hl (by decide) rfl (fun ls hl => ?_)
  refine lv_lload_n hx hb dX6_digest_84 rfl (lv_at hl 0 rfl) ?_
  refine lv_aload_n hx hb dX6_digest_85 rfl (lv_at hl 2 rfl) ?_
  have hPr := ((zo_R hR0 hS hAr)).sub (ws' := [(x, .inr (8, [.ref rm, .ref tr, .ref st])), (st, .inr (6, [.ref a1, .ref a2, .ref a3])), (rm, .inr (5, [.ref lk, .ref th, .ref pl, .ref gm, .int 2, .int 10, .int 0, .int 0, .int 1, .int 0, .int 0, .int 0])), (lk, .inl (cL, 10, .inr (.inr (.inr (.inr fl))))), (th, .inl (cT, 12, .inr (.inr (.inr (.inr ft))))), (l0, .inr (3, [.int 0, .int 0, .int 60, .int 0, .int 0, .int 0, .int 0, .int 0, .int 0, .int 0])), (l1, .inr (3, [.int 0, .int 0, .int 60, .int 0, .int 0, .int 0, .int 0, .int 0, .int 0, .int 0])), (t0, .inr (7, [.int (-1), .int 0, .int 0, .int 0, .int 0])), (t1, .inr (7, [.int (-1), .int 0, .int 0, .int 0, .int 0])), (t2, .inr (7, [.int (-1), .int 0, .int 0, .int 0, .int 0])), (t3, .inr (7, [.int (-1), .int 0, .int 0, .int 0, .int 0])), (t4, .inr (7, [.int (-1), .int 0, .int 0, .int 0, .int 0])), (t5, .inr (7, [.int (-1), .int 0, .int 0, .int 0, .int 0])), (t6, .inr (7, [.int (-1), .int 0, .int 0, .int 0, .int 0])), (t7, .inr (7, [.int (-1), .int 0, .int 0, .int 0, .int 0])), (t8, .inr (7, [.int (-1), .int 0, .int 0, .int 0, .int 0])), (t9, .inr (7, [.int (-1), .int 0, .int 0, .int 0, .int 0]))]) [0, 1, 3, 4, 5, 6, 7, 8, 9, 10, 11, 12, 13, 14, 15, 16, 17] rfl
  have hPc := hP.sub (ws' := [(a1, .inl (cZ, 1024, .inl g1_95)), (a2, .inl (cI, 1024, .inl g2_95)), (a3, .inl (cJ, 1024, .inl g3_95))]) [0, 1, 2] rfl
  have hDc := hD.sub (ws' := [(a1, .inl (cZ, 1024, .inl g1_95)), (a2, .inl (cI, 1024, .inl g2_95)), (a3, .inl (cJ, 1024, .inl g3_95))]) [0, 1, 2] (by decide) rfl
  have hKc := hK.sub (tys' := [(cL, .object "LockRooms$Lock"), (cT, .object "LockRooms$Thing"), (cZ, .boolean), (cI, .int), (cJ, .int)]) [0, 1, 2, 3, 4] rfl
  have hFc := va_free (wc := [(a1, .inl (cZ, 1024, .inl g1_95)), (a2, .inl (cI, 1024, .inl g2_95)), (a3, .inl (cJ, 1024, .inl g3_95))]) hD hS hA [0, 1, 2] rfl
  refine va_calli (va_runV (As := []) (rest := [.long 4393762067823271518]) ⟨hx, hb, hml, hown, hts⟩ (cz_QX6_depth l dC dI ed H96.size x rm tr st a1 a2 a3 lk th pl gm cL fl l0 l1 cT ft t0 t1 t2 t3 t4 t5 t6 t7 t8 t9 cZ g1_95 cI g2_95 cJ g3_95 hkl0 hkl1 hkt0 hkt1 hkt2 hkt3 hkt4 hkt5 hkt6 hkt7 hkt8 hkt9) (cwV 0 hts gX6_digest_X6_depth rfl rfl rfl (by decide +kernel) ⟨Nat.le_of_ble_eq_true rfl, Nat.le_of_ble_eq_true rfl⟩) ⟨zb_blind, va_recv hK (zo_R hR0 hS hAr) (ci := 8) (q0 := 0) rfl rfl, fun U hU hW => ⟨rfl, zb_mk hU hW hPr hPc hKc hDc hN hH hS hFc (zx_cons (zx_r (hAr _ (List.mem_of_getElem? (i := 0) rfl)) hDc) (zx_cons (zx_r (hAr _ (List.mem_of_getElem? (i := 1) rfl)) hDc) (zx_cons (zx_r (hAr _ (List.mem_of_getElem? (i := 3) rfl)) hDc) (zx_cons (zx_r (hAr _ (List.mem_of_getElem? (i := 4) rfl)) hDc) (zx_cons (zx_r (hAr _ (List.mem_of_getElem? (i := 5) rfl)) hDc) (zx_cons (zx_r (hAr _ (List.mem_of_getElem? (i := 6) rfl)) hDc) (zx_cons (zx_r (hAr _ (List.mem_of_getElem? (i := 7) rfl)) hDc) (zx_cons (zx_r (hAr _ (List.mem_of_getElem? (i := 8) rfl)) hDc) (zx_cons (zx_r (hAr _ (List.mem_of_getElem? (i := 9) rfl)) hDc) (zx_cons (zx_r (hAr _ (List.mem_of_getElem? (i := 10) rfl)) hDc) (zx_cons (zx_r (hAr _ (List.mem_of_getElem? (i := 11) rfl)) hDc) (zx_cons (zx_r (hAr _ (List.mem_of_getElem? (i := 12) rfl)) hDc) (zx_cons (zx_r (hAr _ (List.mem_of_getElem? (i := 13) rfl)) hDc) (zx_cons (zx_r (hAr _ (List.mem_of_getElem? (i := 14) rfl)) hDc) (zx_cons (zx_r (hAr _ (List.mem_of_getElem? (i := 15) rfl)) hDc) (zx_cons (zx_r (hAr _ (List.mem_of_getElem? (i := 16) rfl)) hDc) (zx_cons (zx_r (hAr _ (List.mem_of_getElem? (i := 17) rfl)) hDc) zx_nil)))))))))))))))))⟩⟩ rfl rfl hl.1 rfl (lv_room (Nat.le_of_ble_eq_true rfl)) dX6_digest_86 ⟨Nat.le_of_ble_eq_true rfl, Nat.le_of_ble_eq_true rfl⟩) hS (fun q _ h => hFc q h) hFc (fun r99 u t H98 locs ht hvm hw hB hz1 hk1 hS => ?_)
  obtain rfl : r99 = 1 := hw
  obtain ⟨g1_100, g2_100, g3_100, hP1, hD1, hK1⟩ := hB
  rw [ht] at hP1
  obtain ⟨hP, hD⟩ := va_join (wr := []) (w1 := [(a1, .inl (cZ, 1024, .inl g1_100)), (a2, .inl (cI, 1024, .inl g2_100)), (a3, .inl (cJ, 1024, .inl g3_100))]) hP hD [0, 1, 2] [] rfl rfl (by decide) (by decide) hk1 hFc hP1 hD1
  have hP : va_P (dC, dI) vwCl [(a1, .inl (cZ, 1024, .inl g1_100)), (a2, .inl (cI, 1024, .inl g2_100)), (a3, .inl (cJ, 1024, .inl g3_100))] H98 := hP
  have hD : va_D A [(a1, .inl (cZ, 1024, .inl g1_100)), (a2, .inl (cI, 1024, .inl g2_100)), (a3, .inl (cJ, 1024, .inl g3_100))] := hD
  have hPr := (zo_nil : va_P (dC, dI) vwCl [] H98)
  have hPc := hP.sub (ws' := []) [] rfl
  have hDc := hD.sub (ws' := []) [] (by decide) rfl
  have hKc := hK.sub (tys' := []) [] rfl
  have hFc := va_free (wc := []) hD hS hA [] rfl
  refine va_calll (va_runS (As := [.long 4393762067823271518, .int 1]) (rest := []) ⟨hx, hb, hml, hown, hts⟩ (cz_X6_mix l dC dI ed H98.size 4393762067823271518 1) (va_cwS 2 hts gX6_digest_X6_mix rfl rfl rfl (by decide +kernel) ⟨Nat.le_of_ble_eq_true rfl, Nat.le_of_ble_eq_true rfl⟩) ⟨zb_blind, fun U hU hW => ⟨rfl, zb_mk hU hW hPr hPc hKc hDc hN hH hS hFc zx_e⟩⟩ rfl rfl hl.1 rfl (lv_room (Nat.le_of_ble_eq_true rfl)) dX6_digest_89 ⟨Nat.le_of_ble_eq_true rfl, Nat.le_of_ble_eq_true rfl⟩) hS (fun q _ h => hFc q h) hFc (fun r102 u t H101 locs ht hvm hw hB hz1 hk1 hS => ?_)
  obtain rfl : r102 = 7079415586554555747 := hw.trans (by decide +kernel)
  have hP := zo_K hP hk1
  refine lv_lstore_n (lv' := [(1, .long 7079415586554555747), (3, .int 19), (0, .ref x)]) hx hb dX6_digest_92 rfl hl (by decide) rfl (fun ls hl => ?_)
  refine lv_lload_n hx hb dX6_digest_93 rfl (lv_at hl 0 rfl) ?_
  refine lv_aload_n hx hb dX6_digest_94 rfl (lv_at hl 2 rfl) ?_
  have hPr := ((zo_R hR0 hS hAr)).sub (ws' := [(x, .inr (8, [.ref rm, .ref tr, .ref st])), (st, .inr (6, [.ref a1, .ref a2, .ref a3])), (rm, .inr (5, [.ref lk, .ref th, .ref pl, .ref gm, .int 2, .int 10, .int 0, .int 0, .int 1, .int 0, .int 0, .int 0])), (lk, .inl (cL, 10, .inr (.inr (.inr (.inr fl))))), (th, .inl (cT, 12, .inr (.inr (.inr (.inr ft))))), (l0, .inr (3, [.int 0, .int 0, .int 60, .int 0, .int 0, .int 0, .int 0, .int 0, .int 0, .int 0])), (l1, .inr (3, [.int 0, .int 0, .int 60, .int 0, .int 0, .int 0, .int 0, .int 0, .int 0, .int 0])), (t0, .inr (7, [.int (-1), .int 0, .int 0, .int 0, .int 0])), (t1, .inr (7, [.int (-1), .int 0, .int 0, .int 0, .int 0])), (t2, .inr (7, [.int (-1), .int 0, .int 0, .int 0, .int 0])), (t3, .inr (7, [.int (-1), .int 0, .int 0, .int 0, .int 0])), (t4, .inr (7, [.int (-1), .int 0, .int 0, .int 0, .int 0])), (t5, .inr (7, [.int (-1), .int 0, .int 0, .int 0, .int 0])), (t6, .inr (7, [.int (-1), .int 0, .int 0, .int 0, .int 0])), (t7, .inr (7, [.int (-1), .int 0, .int 0, .int 0, .int 0])), (t8, .inr (7, [.int (-1), .int 0, .int 0, .int 0, .int 0])), (t9, .inr (7, [.int (-1), .int 0, .int 0, .int 0, .int 0]))]) [0, 1, 3, 4, 5, 6, 7, 8, 9, 10, 11, 12, 13, 14, 15, 16, 17] rfl
  have hPc := hP.sub (ws' := [(a1, .inl (cZ, 1024, .inl g1_100)), (a2, .inl (cI, 1024, .inl g2_100)), (a3, .inl (cJ, 1024, .inl g3_100))]) [0, 1, 2] rfl
  have hDc := hD.sub (ws' := [(a1, .inl (cZ, 1024, .inl g1_100)), (a2, .inl (cI, 1024, .inl g2_100)), (a3, .inl (cJ, 1024, .inl g3_100))]) [0, 1, 2] (by decide) rfl
  have hKc := hK.sub (tys' := [(cL, .object "LockRooms$Lock"), (cT, .object "LockRooms$Thing"), (cZ, .boolean), (cI, .int), (cJ, .int)]) [0, 1, 2, 3, 4] rfl
  have hFc := va_free (wc := [(a1, .inl (cZ, 1024, .inl g1_100)), (a2, .inl (cI, 1024, .inl g2_100)), (a3, .inl (cJ, 1024, .inl g3_100))]) hD hS hA [0, 1, 2] rfl
  refine va_calli (va_runV (As := []) (rest := [.long 7079415586554555747]) ⟨hx, hb, hml, hown, hts⟩ (cz_QX6_cannotMiss l dC dI ed H101.size x rm tr st a1 a2 a3 lk th pl gm cL fl l0 l1 cT ft t0 t1 t2 t3 t4 t5 t6 t7 t8 t9 cZ g1_100 cI g2_100 cJ g3_100 hkl0 hkl1 hkt0 hkt1 hkt2 hkt3 hkt4 hkt5 hkt6 hkt7 hkt8 hkt9) (cwV 0 hts gX6_digest_X6_cannotMiss rfl rfl rfl (by decide +kernel) ⟨Nat.le_of_ble_eq_true rfl, Nat.le_of_ble_eq_true rfl⟩) ⟨zb_blind, va_recv hK (zo_R hR0 hS hAr) (ci := 8) (q0 := 0) rfl rfl, fun U hU hW => ⟨rfl, zb_mk hU hW hPr hPc hKc hDc hN hH hS hFc (zx_cons (zx_r (hAr _ (List.mem_of_getElem? (i := 0) rfl)) hDc) (zx_cons (zx_r (hAr _ (List.mem_of_getElem? (i := 1) rfl)) hDc) (zx_cons (zx_r (hAr _ (List.mem_of_getElem? (i := 3) rfl)) hDc) (zx_cons (zx_r (hAr _ (List.mem_of_getElem? (i := 4) rfl)) hDc) (zx_cons (zx_r (hAr _ (List.mem_of_getElem? (i := 5) rfl)) hDc) (zx_cons (zx_r (hAr _ (List.mem_of_getElem? (i := 6) rfl)) hDc) (zx_cons (zx_r (hAr _ (List.mem_of_getElem? (i := 7) rfl)) hDc) (zx_cons (zx_r (hAr _ (List.mem_of_getElem? (i := 8) rfl)) hDc) (zx_cons (zx_r (hAr _ (List.mem_of_getElem? (i := 9) rfl)) hDc) (zx_cons (zx_r (hAr _ (List.mem_of_getElem? (i := 10) rfl)) hDc) (zx_cons (zx_r (hAr _ (List.mem_of_getElem? (i := 11) rfl)) hDc) (zx_cons (zx_r (hAr _ (List.mem_of_getElem? (i := 12) rfl)) hDc) (zx_cons (zx_r (hAr _ (List.mem_of_getElem? (i := 13) rfl)) hDc) (zx_cons (zx_r (hAr _ (List.mem_of_getElem? (i := 14) rfl)) hDc) (zx_cons (zx_r (hAr _ (List.mem_of_getElem? (i := 15) rfl)) hDc) (zx_cons (zx_r (hAr _ (List.mem_of_getElem? (i := 16) rfl)) hDc) (zx_cons (zx_r (hAr _ (List.mem_of_getElem? (i := 17) rfl)) hDc) zx_nil)))))))))))))))))⟩⟩ rfl rfl hl.1 rfl (lv_room (Nat.le_of_ble_eq_true rfl)) dX6_digest_95 ⟨Nat.le_of_ble_eq_true rfl, Nat.le_of_ble_eq_true rfl⟩) hS (fun q _ h => hFc q h) hFc (fun r104 u t H103 locs ht hvm hw hB hz1 hk1 hS => ?_)
  obtain rfl : r104 = 0 := hw
  obtain ⟨g1_105, g2_105, g3_105, hP1, hD1, hK1⟩ := hB
  rw [ht] at hP1
  obtain ⟨hP, hD⟩ := va_join (wr := []) (w1 := [(a1, .inl (cZ, 1024, .inl g1_105)), (a2, .inl (cI, 1024, .inl g2_105)), (a3, .inl (cJ, 1024, .inl g3_105))]) hP hD [0, 1, 2] [] rfl rfl (by decide) (by decide) hk1 hFc hP1 hD1
  have hP : va_P (dC, dI) vwCl [(a1, .inl (cZ, 1024, .inl g1_105)), (a2, .inl (cI, 1024, .inl g2_105)), (a3, .inl (cJ, 1024, .inl g3_105))] H103 := hP
  have hD : va_D A [(a1, .inl (cZ, 1024, .inl g1_105)), (a2, .inl (cI, 1024, .inl g2_105)), (a3, .inl (cJ, 1024, .inl g3_105))] := hD
  have hPr := (zo_nil : va_P (dC, dI) vwCl [] H103)
  have hPc := hP.sub (ws' := []) [] rfl
  have hDc := hD.sub (ws' := []) [] (by decide) rfl
  have hKc := hK.sub (tys' := []) [] rfl
  have hFc := va_free (wc := []) hD hS hA [] rfl
  refine va_calll (va_runS (As := [.long 7079415586554555747, .int 0]) (rest := []) ⟨hx, hb, hml, hown, hts⟩ (cz_X6_mix l dC dI ed H103.size 7079415586554555747 0) (va_cwS 2 hts gX6_digest_X6_mix rfl rfl rfl (by decide +kernel) ⟨Nat.le_of_ble_eq_true rfl, Nat.le_of_ble_eq_true rfl⟩) ⟨zb_blind, fun U hU hW => ⟨rfl, zb_mk hU hW hPr hPc hKc hDc hN hH hS hFc zx_e⟩⟩ rfl rfl hl.1 rfl (lv_room (Nat.le_of_ble_eq_true rfl)) dX6_digest_98 ⟨Nat.le_of_ble_eq_true rfl, Nat.le_of_ble_eq_true rfl⟩) hS (fun q _ h => hFc q h) hFc (fun r107 u t H106 locs ht hvm hw hB hz1 hk1 hS => ?_)
  obtain rfl : r107 = (-1899045701323391235) := hw.trans (by decide +kernel)
  have hP := zo_K hP hk1
  refine lv_lstore_n (lv' := [(1, .long (-1899045701323391235)), (3, .int 19), (0, .ref x)]) hx hb dX6_digest_101 rfl hl (by decide) rfl (fun ls hl => ?_)
  refine lv_lload_n hx hb dX6_digest_102 rfl (lv_at hl 0 rfl) ?_
  refine lv_aload_n hx hb dX6_digest_103 rfl (lv_at hl 2 rfl) ?_
  have hPr := ((zo_R hR0 hS hAr)).sub (ws' := [(x, .inr (8, [.ref rm, .ref tr, .ref st])), (st, .inr (6, [.ref a1, .ref a2, .ref a3])), (rm, .inr (5, [.ref lk, .ref th, .ref pl, .ref gm, .int 2, .int 10, .int 0, .int 0, .int 1, .int 0, .int 0, .int 0])), (lk, .inl (cL, 10, .inr (.inr (.inr (.inr fl))))), (th, .inl (cT, 12, .inr (.inr (.inr (.inr ft))))), (l0, .inr (3, [.int 0, .int 0, .int 60, .int 0, .int 0, .int 0, .int 0, .int 0, .int 0, .int 0])), (l1, .inr (3, [.int 0, .int 0, .int 60, .int 0, .int 0, .int 0, .int 0, .int 0, .int 0, .int 0])), (t0, .inr (7, [.int (-1), .int 0, .int 0, .int 0, .int 0])), (t1, .inr (7, [.int (-1), .int 0, .int 0, .int 0, .int 0])), (t2, .inr (7, [.int (-1), .int 0, .int 0, .int 0, .int 0])), (t3, .inr (7, [.int (-1), .int 0, .int 0, .int 0, .int 0])), (t4, .inr (7, [.int (-1), .int 0, .int 0, .int 0, .int 0])), (t5, .inr (7, [.int (-1), .int 0, .int 0, .int 0, .int 0])), (t6, .inr (7, [.int (-1), .int 0, .int 0, .int 0, .int 0])), (t7, .inr (7, [.int (-1), .int 0, .int 0, .int 0, .int 0])), (t8, .inr (7, [.int (-1), .int 0, .int 0, .int 0, .int 0])), (t9, .inr (7, [.int (-1), .int 0, .int 0, .int 0, .int 0]))]) [0, 1, 3, 4, 5, 6, 7, 8, 9, 10, 11, 12, 13, 14, 15, 16, 17] rfl
  have hPc := hP.sub (ws' := [(a1, .inl (cZ, 1024, .inl g1_105)), (a2, .inl (cI, 1024, .inl g2_105)), (a3, .inl (cJ, 1024, .inl g3_105))]) [0, 1, 2] rfl
  have hDc := hD.sub (ws' := [(a1, .inl (cZ, 1024, .inl g1_105)), (a2, .inl (cI, 1024, .inl g2_105)), (a3, .inl (cJ, 1024, .inl g3_105))]) [0, 1, 2] (by decide) rfl
  have hKc := hK.sub (tys' := [(cL, .object "LockRooms$Lock"), (cT, .object "LockRooms$Thing"), (cZ, .boolean), (cI, .int), (cJ, .int)]) [0, 1, 2, 3, 4] rfl
  have hFc := va_free (wc := [(a1, .inl (cZ, 1024, .inl g1_105)), (a2, .inl (cI, 1024, .inl g2_105)), (a3, .inl (cJ, 1024, .inl g3_105))]) hD hS hA [0, 1, 2] rfl
  refine va_calli (va_runV (As := []) (rest := [.long (-1899045701323391235)]) ⟨hx, hb, hml, hown, hts⟩ (cz_QX6_bestHint l dC dI ed H106.size x rm tr st a1 a2 a3 lk th pl gm cL fl l0 l1 cT ft t0 t1 t2 t3 t4 t5 t6 t7 t8 t9 cZ g1_105 cI g2_105 cJ g3_105 hkl0 hkl1 hkt0 hkt1 hkt2 hkt3 hkt4 hkt5 hkt6 hkt7 hkt8 hkt9) (cwV 0 hts gX6_digest_X6_bestHint rfl rfl rfl (by decide +kernel) ⟨Nat.le_of_ble_eq_true rfl, Nat.le_of_ble_eq_true rfl⟩) ⟨zb_blind, va_recv hK (zo_R hR0 hS hAr) (ci := 8) (q0 := 0) rfl rfl, fun U hU hW => ⟨rfl, zb_mk hU hW hPr hPc hKc hDc hN hH hS hFc (zx_cons (zx_r (hAr _ (List.mem_of_getElem? (i := 0) rfl)) hDc) (zx_cons (zx_r (hAr _ (List.mem_of_getElem? (i := 1) rfl)) hDc) (zx_cons (zx_r (hAr _ (List.mem_of_getElem? (i := 3) rfl)) hDc) (zx_cons (zx_r (hAr _ (List.mem_of_getElem? (i := 4) rfl)) hDc) (zx_cons (zx_r (hAr _ (List.mem_of_getElem? (i := 5) rfl)) hDc) (zx_cons (zx_r (hAr _ (List.mem_of_getElem? (i := 6) rfl)) hDc) (zx_cons (zx_r (hAr _ (List.mem_of_getElem? (i := 7) rfl)) hDc) (zx_cons (zx_r (hAr _ (List.mem_of_getElem? (i := 8) rfl)) hDc) (zx_cons (zx_r (hAr _ (List.mem_of_getElem? (i := 9) rfl)) hDc) (zx_cons (zx_r (hAr _ (List.mem_of_getElem? (i := 10) rfl)) hDc) (zx_cons (zx_r (hAr _ (List.mem_of_getElem? (i := 11) rfl)) hDc) (zx_cons (zx_r (hAr _ (List.mem_of_getElem? (i := 12) rfl)) hDc) (zx_cons (zx_r (hAr _ (List.mem_of_getElem? (i := 13) rfl)) hDc) (zx_cons (zx_r (hAr _ (List.mem_of_getElem? (i := 14) rfl)) hDc) (zx_cons (zx_r (hAr _ (List.mem_of_getElem? (i := 15) rfl)) hDc) (zx_cons (zx_r (hAr _ (List.mem_of_getElem? (i := 16) rfl)) hDc) (zx_cons (zx_r (hAr _ (List.mem_of_getElem? (i := 17) rfl)) hDc) zx_nil)))))))))))))))))⟩⟩ rfl rfl hl.1 rfl (lv_room (Nat.le_of_ble_eq_true rfl)) dX6_digest_104 ⟨Nat.le_of_ble_eq_true rfl, Nat.le_of_ble_eq_true rfl⟩) hS (fun q _ h => hFc q h) hFc (fun r109 u t H108 locs ht hvm hw hB hz1 hk1 hS => ?_)
  obtain rfl : r109 = 0 := hw
  obtain ⟨g1_110, g2_110, g3_110, hP1, hD1, hK1⟩ := hB
  rw [ht] at hP1
  obtain ⟨hP, hD⟩ := va_join (wr := []) (w1 := [(a1, .inl (cZ, 1024, .inl g1_110)), (a2, .inl (cI, 1024, .inl g2_110)), (a3, .inl (cJ, 1024, .inl g3_110))]) hP hD [0, 1, 2] [] rfl rfl (by decide) (by decide) hk1 hFc hP1 hD1
  have hP : va_P (dC, dI) vwCl [(a1, .inl (cZ, 1024, .inl g1_110)), (a2, .inl (cI, 1024, .inl g2_110)), (a3, .inl (cJ, 1024, .inl g3_110))] H108 := hP
  have hD : va_D A [(a1, .inl (cZ, 1024, .inl g1_110)), (a2, .inl (cI, 1024, .inl g2_110)), (a3, .inl (cJ, 1024, .inl g3_110))] := hD
  have hPr := (zo_nil : va_P (dC, dI) vwCl [] H108)
  have hPc := hP.sub (ws' := []) [] rfl
  have hDc := hD.sub (ws' := []) [] (by decide) rfl
  have hKc := hK.sub (tys' := []) [] rfl
  have hFc := va_free (wc := []) hD hS hA [] rfl
  refine va_calll (va_runS (As := [.long (-1899045701323391235), .int 0]) (rest := []) ⟨hx, hb, hml, hown, hts⟩ (cz_X6_mix l dC dI ed H108.size (-1899045701323391235) 0) (va_cwS 2 hts gX6_digest_X6_mix rfl rfl rfl (by decide +kernel) ⟨Nat.le_of_ble_eq_true rfl, Nat.le_of_ble_eq_true rfl⟩) ⟨zb_blind, fun U hU hW => ⟨rfl, zb_mk hU hW hPr hPc hKc hDc hN hH hS hFc zx_e⟩⟩ rfl rfl hl.1 rfl (lv_room (Nat.le_of_ble_eq_true rfl)) dX6_digest_107 ⟨Nat.le_of_ble_eq_true rfl, Nat.le_of_ble_eq_true rfl⟩) hS (fun q _ h => hFc q h) hFc (fun r112 u t H111 locs ht hvm hw hB hz1 hk1 hS => ?_)
  obtain rfl : r112 = (-3530184519896473437) := hw.trans (by decide +kernel)
  have hP := zo_K hP hk1
  refine lv_lstore_n (lv' := [(1, .long (-3530184519896473437)), (3, .int 19), (0, .ref x)]) hx hb dX6_digest_110 rfl hl (by decide) rfl (fun ls hl => ?_)
  refine lv_lload_n hx hb dX6_digest_111 rfl (lv_at hl 0 rfl) ?_
  refine lv_aload_n hx hb dX6_digest_112 rfl (lv_at hl 2 rfl) ?_
  have hPr := ((zo_R hR0 hS hAr)).sub (ws' := [(x, .inr (8, [.ref rm, .ref tr, .ref st])), (rm, .inr (5, [.ref lk, .ref th, .ref pl, .ref gm, .int 2, .int 10, .int 0, .int 0, .int 1, .int 0, .int 0, .int 0])), (gm, .inr (2, [.int 0, .int 0, .int 0, .int 0, .int 0, .int (-1), .long 0]))]) [0, 3, 2] rfl
  have hPc := hP.sub (ws' := []) [] rfl
  have hDc := hD.sub (ws' := []) [] (by decide) rfl
  have hKc := hK.sub (tys' := []) [] rfl
  have hFc := va_free (wc := []) hD hS hA [] rfl
  refine va_calli (va_runV (As := []) (rest := [.long (-3530184519896473437)]) ⟨hx, hb, hml, hown, hts⟩ (cz_QX6_endsAt l dC dI ed H111.size x rm tr st lk th pl gm) (cwV 0 hts gX6_digest_X6_endsAt rfl rfl rfl (by decide +kernel) ⟨Nat.le_of_ble_eq_true rfl, Nat.le_of_ble_eq_true rfl⟩) ⟨zb_blind, va_recv hK (zo_R hR0 hS hAr) (ci := 8) (q0 := 0) rfl rfl, fun U hU hW => ⟨rfl, zb_mk hU hW hPr hPc hKc hDc hN hH hS hFc zx_e⟩⟩ rfl rfl hl.1 rfl (lv_room (Nat.le_of_ble_eq_true rfl)) dX6_digest_113 ⟨Nat.le_of_ble_eq_true rfl, Nat.le_of_ble_eq_true rfl⟩) hS (fun q _ h => hFc q h) hFc (fun r114 u t H113 locs ht hvm hw hB hz1 hk1 hS => ?_)
  obtain rfl : r114 = (-1) := hw
  have hP := zo_K hP hk1
  have hPr := (zo_nil : va_P (dC, dI) vwCl [] H113)
  have hPc := hP.sub (ws' := []) [] rfl
  have hDc := hD.sub (ws' := []) [] (by decide) rfl
  have hKc := hK.sub (tys' := []) [] rfl
  have hFc := va_free (wc := []) hD hS hA [] rfl
  refine va_calll (va_runS (As := [.long (-3530184519896473437), .int (-1)]) (rest := []) ⟨hx, hb, hml, hown, hts⟩ (cz_X6_mix l dC dI ed H113.size (-3530184519896473437) (-1)) (va_cwS 2 hts gX6_digest_X6_mix rfl rfl rfl (by decide +kernel) ⟨Nat.le_of_ble_eq_true rfl, Nat.le_of_ble_eq_true rfl⟩) ⟨zb_blind, fun U hU hW => ⟨rfl, zb_mk hU hW hPr hPc hKc hDc hN hH hS hFc zx_e⟩⟩ rfl rfl hl.1 rfl (lv_room (Nat.le_of_ble_eq_true rfl)) dX6_digest_116 ⟨Nat.le_of_ble_eq_true rfl, Nat.le_of_ble_eq_true rfl⟩) hS (fun q _ h => hFc q h) hFc (fun r116 u t H115 locs ht hvm hw hB hz1 hk1 hS => ?_)
  obtain rfl : r116 = 1244744325466633148 := hw.trans (by decide +kernel)
  have hP := zo_K hP hk1
  refine W.widen (k := 0) (n := 0) (Nat.le_of_ble_eq_true rfl) (Nat.le_of_ble_eq_true rfl) ?_
  have hP9 := hP.sub (ws' := [(a1, .inl (cZ, 1024, .inl g1_110)), (a2, .inl (cI, 1024, .inl g2_110)), (a3, .inl (cJ, 1024, .inl g3_110))]) [0, 1, 2] rfl
  have hD9 := hD.sub (ws' := [(a1, .inl (cZ, 1024, .inl g1_110)), (a2, .inl (cI, 1024, .inl g2_110)), (a3, .inl (cJ, 1024, .inl g3_110))]) [0, 1, 2] (by decide) rfl
  have hK9 := hK.sub (tys' := [(cZ, .boolean), (cI, .int), (cJ, .int)]) [2, 3, 4] rfl
  exact W.lret hx hb hr (fun t ht hW => ⟨⟨1244744325466633148, (), rfl, rfl, ⟨g1_110, g2_110, g3_110, by rw [ht]; exact hP9, hD9, va_K.moved hW.alike hK9⟩⟩, hS.F ht⟩) hS.2.2 dX6_digest_119

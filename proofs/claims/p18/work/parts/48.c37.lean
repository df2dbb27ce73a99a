set_option maxHeartbeats 4000000 in
set_option maxRecDepth 100000 in
theorem cz_QaddThing_3 (l : Launch) (dC : Nat → ClassId) (dI : Nat → Nat → Nat) (ed sz : Nat) (th : Nat) (cT : ClassId) (ft : Nat → Option Nat) (t3 : Nat) (rm : Nat) (lk : Nat) (pl : Nat) (gm : Nat) (hkt3 : ft 3 = some t3) : Met l yX3_addThing wsX3_addThing ({ frames := 0, cells := 0, slots := 0, locals := 0 } : Jvm.Room) (va_Pc [.ref rm, .int (-1), .int 0] (zB dC dI ed sz [(th, .inl (cT, 12, .inr (.inr (.inr (.inr ft)))))] [(rm, .inr (5, [.ref lk, .ref th, .ref pl, .ref gm, .int 2, .int 3, .int 0, .int 0, .int 1, .int 0, .int 0, .int 0])), (t3, .inr (7, [.int 0, .int 0, .int 0, .int 0, .int 0]))] [(cT, .object "LockRooms$Thing")])) (va_Qi (fun (r : Int32) (_ : Unit) => r = 3) (fun (_ : Unit) (t : State) => va_P (dC, dI) vwCl [(rm, .inr (5, [.ref lk, .ref th, .ref pl, .ref gm, .int 2, .int 4, .int 0, .int 0, .int 1, .int 0, .int 0, .int 0])), (t3, .inr (7, [.int (-1), .int 0, .int 0, .int 0, .int 0]))] t.heap ∧ va_D (va_A [(rm, .inr (5, [.ref lk, .ref th, .ref pl, .ref gm, .int 2, .int 3, .int 0, .int 0, .int 1, .int 0, .int 0, .int 0])), (t3, .inr (7, [.int 0, .int 0, .int 0, .int 0, .int 0]))] sz) [(rm, .inr (5, [.ref lk, .ref th, .ref pl, .ref gm, .int 2, .int 4, .int 0, .int 0, .int 1, .int 0, .int 0, .int 0])), (t3, .inr (7, [.int (-1), .int 0, .int 0, .int 0, .int 0]))] ∧ va_K (dC, dI) vwCl [] t) (va_A [(rm, .inr (5, [.ref lk, .ref th, .ref pl, .ref gm, .int 2, .int 3, .int 0, .int 0, .int 1, .int 0, .int 0, .int 0])), (t3, .inr (7, [.int 0, .int 0, .int 0, .int 0, .int 0]))] sz)) 0 0 (va_A [(rm, .inr (5, [.ref lk, .ref th, .ref pl, .ref gm, .int 2, .int 3, .int 0, .int 0, .int 1, .int 0, .int 0, .int 0])), (t3, .inr (7, [.int 0, .int 0, .int 0, .int 0, .int 0]))] sz) := by
  refine Met.ofW (cc := cX3_addThing) (maxL := 5) (ret := (some .int)) (by decide) rfl ?_
  intro p e s m args below meth c s₁ B hml hv
  obtain ⟨rfl, hsz, hR0, hP, hK, hD0, hN, hH, hX0⟩ := hv
  have hx := B.exec
  have hb := B.bytes
  have hr := B.returns
  have hts := atoms_spec (ws := wsX3_addThing) B.pre
  have hown : s.vm.findClass RX3 = some m.cls := findClass_of_methodNamed B.named
  have hlocks := B.notSynchronized
  subst hsz
  have hD := hD0.self (sz := s.heap.size)
  have hAr := zx_A hX0 hR0
  generalize hAe : va_A [(rm, .inr (5, [.ref lk, .ref th, .ref pl, .ref gm, .int 2, .int 3, .int 0, .int 0, .int 1, .int 0, .int 0, .int 0])), (t3, .inr (7, [.int 0, .int 0, .int 0, .int 0, .int 0]))] s.heap.size = A at hD hAr hH ⊢
  have hA : ∀ q : Nat, s.heap.size ≤ q → A q := fun q h => by rw [← hAe]; exact Or.inr h
  have hS : va_S A s.heap s.heap [] := va_S.rf
  have hl := lv_entry ([.ref rm, .int (-1), .int 0]) (n := 5) (Nat.le_of_ble_eq_true rfl)
  rw [lg_entry_eq]
  generalize (lg_sl ([.ref rm, .int (-1), .int 0]) ++ List.replicate (5 - (lg_sl ([.ref rm, .int (-1), .int 0])).length) Slot.unset).toArray = ls at hl ⊢
  have hl : lv_has ls 5 [(0, .ref rm), (1, .int (-1)), (2, .int 0)] := hl
  refine lv_aload_n hx hb dX3_addThing_0 rfl (lv_at hl 0 rfl) ?_
  refine va_get (D := (dC, dI)) (ci := 5) (v := .int 3) (C := RX3) (T := TX3) (N := 12) hx hb hts zi_X3_addThing_X3 hown hK hP 0 rfl rfl 5 (by decide) (hts (.fieldLink RX3 54 "LockRooms$Room" "thingCount" "I") (by decide +kernel)) (fun _ h9 => h9) rfl dX3_addThing_1 ?_
  refine lv_istore_n (lv' := [(3, .int 3), (0, .ref rm), (1, .int (-1)), (2, .int 0)]) hx hb dX3_addThing_4 rfl hl (by decide) rfl (fun ls hl => ?_)
  refine lv_iload_n hx hb dX3_addThing_5 rfl (lv_at hl 0 rfl) ?_
  refine lv_bipush (v := 12) hx hb dX3_addThing_6 (by decide) ?_
  refine lv_icmp_lt (tgt := 13) hx hb dX3_addThing_8 (by decide) (fun _ => ?_) (fun h => absurd h (by decide))
  refine lv_aload_n hx hb dX3_addThing_13 rfl (lv_at hl 1 rfl) ?_
  refine va_get (D := (dC, dI)) (ci := 5) (v := .ref th) (C := RX3) (T := TX3) (N := 12) hx hb hts zi_X3_addThing_X3 hown hK hP 0 rfl rfl 1 (by decide) (hts (.fieldLink RX3 19 "LockRooms$Room" "things" "[LLockRooms$Thing;") (by decide +kernel)) (fun _ h9 => h9) rfl dX3_addThing_14 ?_
  refine lv_iload_n hx hb dX3_addThing_17 rfl (lv_at hl 0 rfl) ?_
  refine va_aldq hx hb hK hR0 0 0 rfl rfl (by unfold vp_in; decide) dX3_addThing_18 ?_
  refine zo_q (v := .ref t3) (by rw [show Int32.toNatClampNeg 3 = 3 from by decide, hkt3]; rfl) ?_
  refine lv_astore (lv' := [(4, .ref t3), (3, .int 3), (0, .ref rm), (1, .int (-1)), (2, .int 0)]) hx hb dX3_addThing_19 hl (by decide) rfl (fun ls hl => ?_)
  refine lv_aload hx hb dX3_addThing_21 (lv_at hl 0 rfl) ?_
  refine lv_iload_n hx hb dX3_addThing_23 rfl (lv_at hl 3 rfl) ?_
  refine va_put (D := (dC, dI)) (ci := 7) (v := .int (-1)) (ty := .int) (C := RX5) (T := TX5) (N := 5) hx hb hts zi_X3_addThing_X5 tyX5 tyX5_ok nmX5 hown hK hP hD hS 1 rfl rfl 0 (by decide) (hts (.fieldLink RX3 90 "LockRooms$Thing" "place" "I") (by decide +kernel)) (fun _ h9 => h9) rfl (by decide +kernel) rfl rfl (Nat.le_of_ble_eq_true rfl) dX3_addThing_24 (fun H1 locs hP hD hS => ?_)
  have hP : va_P (dC, dI) vwCl [(rm, .inr (5, [.ref lk, .ref th, .ref pl, .ref gm, .int 2, .int 3, .int 0, .int 0, .int 1, .int 0, .int 0, .int 0])), (t3, .inr (7, [.int (-1), .int 0, .int 0, .int 0, .int 0]))] H1 := hP
  have hD : va_D A [(rm, .inr (5, [.ref lk, .ref th, .ref pl, .ref gm, .int 2, .int 3, .int 0, .int 0, .int 1, .int 0, .int 0, .int 0])), (t3, .inr (7, [.int (-1), .int 0, .int 0, .int 0, .int 0]))] := hD
  refine lv_aload hx hb dX3_addThing_27 (lv_at hl 0 rfl) ?_
  refine lv_iload_n hx hb dX3_addThing_29 rfl (lv_at hl 4 rfl) ?_
  refine va_put (D := (dC, dI)) (ci := 7) (v := .int 0) (ty := .int) (C := RX5) (T := TX5) (N := 5) hx hb hts zi_X3_addThing_X5 tyX5 tyX5_ok nmX5 hown hK hP hD hS 1 rfl rfl 1 (by decide) (hts (.fieldLink RX3 93 "LockRooms$Thing" "hid" "I") (by decide +kernel)) (fun _ h9 => h9) rfl (by decide +kernel) rfl rfl (Nat.le_of_ble_eq_true rfl) dX3_addThing_30 (fun H2 locs hP hD hS => ?_)
  have hP : va_P (dC, dI) vwCl [(rm, .inr (5, [.ref lk, .ref th, .ref pl, .ref gm, .int 2, .int 3, .int 0, .int 0, .int 1, .int 0, .int 0, .int 0])), (t3, .inr (7, [.int (-1), .int 0, .int 0, .int 0, .int 0]))] H2 := hP
  have hD : va_D A [(rm, .inr (5, [.ref lk, .ref th, .ref pl, .ref gm, .int 2, .int 3, .int 0, .int 0, .int 1, .int 0, .int 0, .int 0])), (t3, .inr (7, [.int (-1), .int 0, .int 0, .int 0, .int 0]))] := hD
  refine lv_aload_n hx hb dX3_addThing_33 rfl (lv_at hl 2 rfl) ?_
  refine lv_dup hx hb dX3_addThing_34 rfl ?_
  refine va_get (D := (dC, dI)) (ci := 5) (v := .int 3) (C := RX3) (T := TX3) (N := 12) hx hb hts zi_X3_addThing_X3 hown hK hP 0 rfl rfl 5 (by decide) (hts (.fieldLink RX3 54 "LockRooms$Room" "thingCount" "I") (by decide +kernel)) (fun _ h9 => h9) rfl dX3_addThing_35 ?_
  refine lv_iconst (v := 1) hx hb dX3_addThing_38 (by decide) ?_
  refine lv_iadd hx hb dX3_addThing_39 ?_
  refine zo_i (v := 4) (by decide) ?_
  refine va_put (D := (dC, dI)) (ci := 5) (v := .int 4) (ty := .int) (C := RX3) (T := TX3) (N := 12) hx hb hts zi_X3_addThing_X3 tyX3 tyX3_ok nmX3 hown hK hP hD hS 0 rfl rfl 5 (by decide) (hts (.fieldLink RX3 54 "LockRooms$Room" "thingCount" "I") (by decide +kernel)) (fun _ h9 => h9) rfl (by decide +kernel) rfl rfl (Nat.le_of_ble_eq_true rfl) dX3_addThing_40 (fun H3 locs hP hD hS => ?_)
  have hP : va_P (dC, dI) vwCl [(rm, .inr (5, [.ref lk, .ref th, .ref pl, .ref gm, .int 2, .int 4, .int 0, .int 0, .int 1, .int 0, .int 0, .int 0])), (t3, .inr (7, [.int (-1), .int 0, .int 0, .int 0, .int 0]))] H3 := hP
  have hD : va_D A [(rm, .inr (5, [.ref lk, .ref th, .ref pl, .ref gm, .int 2, .int 4, .int 0, .int 0, .int 1, .int 0, .int 0, .int 0])), (t3, .inr (7, [.int (-1), .int 0, .int 0, .int 0, .int 0]))] := hD
  refine lv_iload_n hx hb dX3_addThing_43 rfl (lv_at hl 1 rfl) ?_
  refine W.widen (k := 0) (n := 0) (Nat.le_of_ble_eq_true rfl) (Nat.le_of_ble_eq_true rfl) ?_
  have hP9 := hP.sub (ws' := [(rm, .inr (5, [.ref lk, .ref th, .ref pl, .ref gm, .int 2, .int 4, .int 0, .int 0, .int 1, .int 0, .int 0, .int 0])), (t3, .inr (7, [.int (-1), .int 0, .int 0, .int 0, .int 0]))]) [0, 1] rfl
  have hD9 := hD.sub (ws' := [(rm, .inr (5, [.ref lk, .ref th, .ref pl, .ref gm, .int 2, .int 4, .int 0, .int 0, .int 1, .int 0, .int 0, .int 0])), (t3, .inr (7, [.int (-1), .int 0, .int 0, .int 0, .int 0]))]) [0, 1] (by decide) rfl
  have hK9 := hK.sub (tys' := []) [] rfl
  exact W.iret hx hb hr (fun t ht hW => ⟨⟨3, (), rfl, rfl, ⟨by rw [ht]; exact hP9, hD9, va_K.moved hW.alike hK9⟩⟩, hS.F ht⟩) hS.2.2 dX3_addThing_44
set_option maxHeartbeats 4000000 in
set_option maxRecDepth 100000 in
theorem cz_QX6_thing_3 (l : Launch) (dC : Nat → ClassId) (dI : Nat → Nat → Nat) (ed sz : Nat) (x : Nat) (rm : Nat) (tr : Nat) (st : Nat) (gm : Nat) (th : Nat) (cT : ClassId) (ft : Nat → Option Nat) (t3 : Nat) (lk : Nat) (pl : Nat) (hkt3 : ft 3 = some t3) : Met l yX6_thing wsX6_thing ({ frames := 1, cells := 0, slots := 0, locals := 24 } : Jvm.Room) (va_Pc [.ref x, .int (-1), .int 0] (zB dC dI ed sz [(x, .inr (8, [.ref rm, .ref tr, .ref st])), (gm, .inr (2, [.int 0, .int 0, .int 0, .int 0, .int 0, .int (-1), .long 0])), (th, .inl (cT, 12, .inr (.inr (.inr (.inr ft)))))] [(rm, .inr (5, [.ref lk, .ref th, .ref pl, .ref gm, .int 2, .int 3, .int 0, .int 0, .int 1, .int 0, .int 0, .int 0])), (t3, .inr (7, [.int 0, .int 0, .int 0, .int 0, .int 0]))] [(cT, .object "LockRooms$Thing")])) (va_Qi (fun (r : Int32) (_ : Unit) => r = 3) (fun (_ : Unit) (t : State) => va_P (dC, dI) vwCl [(rm, .inr (5, [.ref lk, .ref th, .ref pl, .ref gm, .int 2, .int 4, .int 0, .int 0, .int 1, .int 0, .int 0, .int 0])), (t3, .inr (7, [.int (-1), .int 0, .int 0, .int 0, .int 0]))] t.heap ∧ va_D (va_A [(rm, .inr (5, [.ref lk, .ref th, .ref pl, .ref gm, .int 2, .int 3, .int 0, .int 0, .int 1, .int 0, .int 0, .int 0])), (t3, .inr (7, [.int 0, .int 0, .int 0, .int 0, .int 0]))] sz) [(rm, .inr (5, [.ref lk, .ref th, .ref pl, .ref gm, .int 2, .int 4, .int 0, .int 0, .int 1, .int 0, .int 0, .int 0])), (t3, .inr (7, [.int (-1), .int 0, .int 0, .int 0, .int 0]))] ∧ va_K (dC, dI) vwCl [] t) (va_A [(rm, .inr (5, [.ref lk, .ref th, .ref pl, .ref gm, .int 2, .int 3, .int 0, .int 0, .int 1, .int 0, .int 0, .int 0])), (t3, .inr (7, [.int 0, .int 0, .int 0, .int 0, .int 0]))] sz)) 0 0 (va_A [(rm, .inr (5, [.ref lk, .ref th, .ref pl, .ref gm, .int 2, .int 3, .int 0, .int 0, .int 1, .int 0, .int 0, .int 0])), (t3, .inr (7, [.int 0, .int 0, .int 0, .int 0, .int 0]))] sz) := by
  refine Met.ofW (cc := cX6_thing) (maxL := 3) (ret := (some .int)) (by decide) rfl ?_
  intro p e s m args below meth c s₁ B hml hv
  obtain ⟨rfl, hsz, hR0, hP, hK, hD0, hN, hH, hX0⟩ := hv
  have hx := B.exec
  have hb := B.bytes
  have hr := B.returns
  have hts := atoms_spec (ws := wsX6_thing) B.pre
  have hown : s.vm.findClass RX6 = some m.cls := findClass_of_methodNamed B.named
  have hlocks := B.notSynchronized
  subst hsz
  have hD := hD0.self (sz := s.heap.size)
  have hAr := zx_A hX0 hR0
  generalize hAe : va_A [(rm, .inr (5, [.ref lk, .ref th, .ref pl, .ref gm, .int 2, .int 3, .int 0, .int 0, .int 1, .int 0, .int 0, .int 0])), (t3, .inr (7, [.int 0, .int 0, .int 0, .int 0, .int 0]))] s.heap.size = A at hD hAr hH ⊢
  have hA : ∀ q : Nat, s.heap.size ≤ q → A q := fun q h => by rw [← hAe]; exact Or.inr h
  have hS : va_S A s.heap s.heap [] := va_S.rf
  have hl := lv_entry ([.ref x, .int (-1), .int 0]) (n := 3) (Nat.le_of_ble_eq_true rfl)
  rw [lg_entry_eq]
  generalize (lg_sl ([.ref x, .int (-1), .int 0]) ++ List.replicate (3 - (lg_sl ([.ref x, .int (-1), .int 0])).length) Slot.unset).toArray = ls at hl ⊢
  have hl : lv_has ls 3 [(0, .ref x), (1, .int (-1)), (2, .int 0)] := hl
  refine lv_iload_n hx hb dX6_thing_0 rfl (lv_at hl 1 rfl) ?_
  refine lv_iconst (v := (-1)) hx hb dX6_thing_1 (by decide) ?_
  refine lv_icmp_eq (tgt := 26) hx hb dX6_thing_2 (by decide) (fun _ => ?_) (fun h => absurd h (by decide))
  refine lv_iload_n hx hb dX6_thing_26 rfl (lv_at hl 2 rfl) ?_
  refine lv_iconst (v := 0) hx hb dX6_thing_27 (by decide) ?_
  refine lv_bipush (v := 9) hx hb dX6_thing_28 (by decide) ?_
  have hPr := (zo_nil : va_P (dC, dI) vwCl [] s.heap)
  have hPc := hP.sub (ws' := []) [] rfl
  have hDc := hD.sub (ws' := []) [] (by decide) rfl
  have hKc := hK.sub (tys' := []) [] rfl
  have hFc := va_free (wc := []) hD hS hA [] rfl
  refine va_calli (va_runS (As := [.int 0, .int 0, .int 9]) (rest := []) ⟨hx, hb, hml, hown, hts⟩ (cz_QX6_isWithin_0_9 l dC dI ed s.heap.size ) (va_cwS 3 hts gX6_thing_X6_isWithin rfl rfl rfl (by decide +kernel) ⟨Nat.le_of_ble_eq_true rfl, Nat.le_of_ble_eq_true rfl⟩) ⟨zb_blind, fun U hU hW => ⟨rfl, zb_mk hU hW hPr hPc hKc hDc hN hH hS hFc zx_e⟩⟩ rfl rfl hl.1 rfl (lv_room (Nat.le_of_ble_eq_true rfl)) dX6_thing_30 ⟨Nat.le_of_ble_eq_true rfl, Nat.le_of_ble_eq_true rfl⟩) hS (fun q _ h => hFc q h) hFc (fun r2 u t H1 locs ht hvm hw hB hz1 hk1 hS => ?_)
  obtain rfl : r2 = 1 := hw
  have hP := zo_K hP hk1
  refine lv_if_ne (tgt := 46) hx hb dX6_thing_33 (by decide) (fun _ => ?_) (fun h => absurd h (by decide))
  refine lv_aload_n hx hb dX6_thing_46 rfl (lv_at hl 0 rfl) ?_
  refine va_get (D := (dC, dI)) (ci := 8) (v := .ref rm) (C := RX6) (T := TX6) (N := 3) hx hb hts zi_X6_thing_X6 hown hK (zo_R hR0 hS hAr) 0 rfl rfl 0 (by decide) (hts (.fieldLink RX6 12 "LockRooms" "room" "LLockRooms$Room;") (by decide +kernel)) (fun _ h9 => h9) rfl dX6_thing_47 ?_
  refine va_get (D := (dC, dI)) (ci := 5) (v := .int 3) (C := RX3) (T := TX3) (N := 12) hx hb hts zi_X6_thing_X3 hown hK hP 0 rfl rfl 5 (by decide) (hts (.fieldLink RX6 71 "LockRooms$Room" "thingCount" "I") (by decide +kernel)) (fun _ h9 => h9) rfl dX6_thing_50 ?_
  refine lv_bipush (v := 12) hx hb dX6_thing_53 (by decide) ?_
  refine lv_icmp_ge (tgt := 71) hx hb dX6_thing_55 (by decide) (fun h => absurd h (by decide)) (fun _ => ?_)
  refine lv_aload_n hx hb dX6_thing_58 rfl (lv_at hl 0 rfl) ?_
  refine va_get (D := (dC, dI)) (ci := 8) (v := .ref rm) (C := RX6) (T := TX6) (N := 3) hx hb hts zi_X6_thing_X6 hown hK (zo_R hR0 hS hAr) 0 rfl rfl 0 (by decide) (hts (.fieldLink RX6 12 "LockRooms" "room" "LLockRooms$Room;") (by decide +kernel)) (fun _ h9 => h9) rfl dX6_thing_59 ?_
  refine va_get (D := (dC, dI)) (ci := 5) (v := .ref gm) (C := RX3) (T := TX3) (N := 12) hx hb hts zi_X6_thing_X3 hown hK hP 0 rfl rfl 3 (by decide) (hts (.fieldLink RX6 41 "LockRooms$Room" "games" "LLockRooms$Games;") (by decide +kernel)) (fun _ h9 => h9) rfl dX6_thing_62 ?_
  refine va_get (D := (dC, dI)) (ci := 2) (v := .int 0) (C := RX0) (T := TX0) (N := 7) hx hb hts zi_X6_thing_X0 hown hK (zo_R hR0 hS hAr) 1 rfl rfl 0 (by decide) (hts (.fieldLink RX6 45 "LockRooms$Games" "isRunning" "Z") (by decide +kernel)) (fun _ h9 => h9) rfl dX6_thing_65 ?_
  refine lv_if_eq (tgt := 81) hx hb dX6_thing_68 (by decide) (fun _ => ?_) (fun h => absurd h (by decide))
  refine lv_aload_n hx hb dX6_thing_81 rfl (lv_at hl 0 rfl) ?_
  refine va_get (D := (dC, dI)) (ci := 8) (v := .ref rm) (C := RX6) (T := TX6) (N := 3) hx hb hts zi_X6_thing_X6 hown hK (zo_R hR0 hS hAr) 0 rfl rfl 0 (by decide) (hts (.fieldLink RX6 12 "LockRooms" "room" "LLockRooms$Room;") (by decide +kernel)) (fun _ h9 => h9) rfl dX6_thing_82 ?_
  refine lv_iload_n hx hb dX6_thing_85 rfl (lv_at hl 1 rfl) ?_
  refine lv_iload_n hx hb dX6_thing_86 rfl (lv_at hl 2 rfl) ?_
  have hPr := ((zo_R hR0 hS hAr)).sub (ws' := [(th, .inl (cT, 12, .inr (.inr (.inr (.inr ft)))))]) [2] rfl
  have hPc := hP.sub (ws' := [(rm, .inr (5, [.ref lk, .ref th, .ref pl, .ref gm, .int 2, .int 3, .int 0, .int 0, .int 1, .int 0, .int 0, .int 0])), (t3, .inr (7, [.int 0, .int 0, .int 0, .int 0, .int 0]))]) [0, 1] rfl
  have hDc := hD.sub (ws' := [(rm, .inr (5, [.ref lk, .ref th, .ref pl, .ref gm, .int 2, .int 3, .int 0, .int 0, .int 1, .int 0, .int 0, .int 0])), (t3, .inr (7, [.int 0, .int 0, .int 0, .int 0, .int 0]))]) [0, 1] (by decide) rfl
  have hKc := hK.sub (tys' := [(cT, .object "LockRooms$Thing")]) [0] rfl
  have hFc := va_free (wc := [(rm, .inr (5, [.ref lk, .ref th, .ref pl, .ref gm, .int 2, .int 3, .int 0, .int 0, .int 1, .int 0, .int 0, .int 0])), (t3, .inr (7, [.int 0, .int 0, .int 0, .int 0, .int 0]))]) hD hS hA [0, 1] rfl
  refine va_calli (va_runV (As := [.int (-1), .int 0]) (rest := []) ⟨hx, hb, hml, hown, hts⟩ (cz_QaddThing_3 l dC dI ed H1.size th cT ft t3 rm lk pl gm hkt3) (cwV 2 hts gX6_thing_X3_addThing rfl rfl rfl (by decide +kernel) ⟨Nat.le_of_ble_eq_true rfl, Nat.le_of_ble_eq_true rfl⟩) ⟨zb_blind, va_recv hK hP (ci := 5) (q0 := 0) rfl rfl, fun U hU hW => ⟨rfl, zb_mk hU hW hPr hPc hKc hDc hN hH hS hFc (zx_cons (zx_r (hAr _ (List.mem_of_getElem? (i := 2) rfl)) hDc) zx_nil)⟩⟩ rfl rfl hl.1 rfl (lv_room (Nat.le_of_ble_eq_true rfl)) dX6_thing_87 ⟨Nat.le_of_ble_eq_true rfl, Nat.le_of_ble_eq_true rfl⟩) hS (fun q _ h => hFc q h) hFc (fun r4 u t H3 locs ht hvm hw hB hz1 hk1 hS => ?_)
  obtain rfl : r4 = 3 := hw
  obtain ⟨hP1, hD1, hK1⟩ := hB
  rw [ht] at hP1
  obtain ⟨hP, hD⟩ := va_join (wr := []) (w1 := [(rm, .inr (5, [.ref lk, .ref th, .ref pl, .ref gm, .int 2, .int 4, .int 0, .int 0, .int 1, .int 0, .int 0, .int 0])), (t3, .inr (7, [.int (-1), .int 0, .int 0, .int 0, .int 0]))]) hP hD [0, 1] [] rfl rfl (by decide) (by decide) hk1 hFc hP1 hD1
  have hP : va_P (dC, dI) vwCl [(rm, .inr (5, [.ref lk, .ref th, .ref pl, .ref gm, .int 2, .int 4, .int 0, .int 0, .int 1, .int 0, .int 0, .int 0])), (t3, .inr (7, [.int (-1), .int 0, .int 0, .int 0, .int 0]))] H3 := hP
  have hD : va_D A [(rm, .inr (5, [.ref lk, .ref th, .ref pl, .ref gm, .int 2, .int 4, .int 0, .int 0, .int 1, .int 0, .int 0, .int 0])), (t3, .inr (7, [.int (-1), .int 0, .int 0, .int 0, .int 0]))] := hD
  refine W.widen (k := 0) (n := 0) (Nat.le_of_ble_eq_true rfl) (Nat.le_of_ble_eq_true rfl) ?_
  have hP9 := hP.sub (ws' := [(rm, .inr (5, [.ref lk, .ref th, .ref pl, .ref gm, .int 2, .int 4, .int 0, .int 0, .int 1, .int 0, .int 0, .int 0])), (t3, .inr (7, [.int (-1), .int 0, .int 0, .int 0, .int 0]))]) [0, 1] rfl
  have hD9 := hD.sub (ws' := [(rm, .inr (5, [.ref lk, .ref th, .ref pl, .ref gm, .int 2, .int 4, .int 0, .int 0, .int 1, .int 0, .int 0, .int 0])), (t3, .inr (7, [.int (-1), .int 0, .int 0, .int 0, .int 0]))]) [0, 1] (by decide) rfl
  have hK9 := hK.sub (tys' := []) [] rfl
  exact W.iret hx hb hr (fun t ht hW => ⟨⟨3, (), rfl, rfl, ⟨by rw [ht]; exact hP9, hD9, va_K.moved hW.alike hK9⟩⟩, hS.F ht⟩) hS.2.2 dX6_thing_90
set_option maxHeartbeats 4000000 in
set_option maxRecDepth 100000 in
theorem cz_QL_thing_3 (l : Launch) (dC : Nat → ClassId) (dI : Nat → Nat → Nat) (ed sz : Nat) (x : Nat) (rm : Nat) (tr : Nat) (st : Nat) (gm : Nat) (th : Nat) (cT : ClassId) (ft : Nat → Option Nat) (t3 : Nat) (lk : Nat) (pl : Nat) (ou : Nat) (cQ : ClassId) (fo9 : Nat → Int64) (htr : l.stackTraces = false) (hkt3 : ft 3 = some t3) : vx_Met l yL_thing zwsL_thing ({ frames := 2, cells := 0, slots := 0, locals := 46 } : Jvm.Room) (va_Pc [.ref x, .int (-1), .int 0, .ref ou] (zB dC dI ed sz [(x, .inr (8, [.ref rm, .ref tr, .ref st])), (gm, .inr (2, [.int 0, .int 0, .int 0, .int 0, .int 0, .int (-1), .long 0])), (th, .inl (cT, 12, .inr (.inr (.inr (.inr ft)))))] [(rm, .inr (5, [.ref lk, .ref th, .ref pl, .ref gm, .int 2, .int 3, .int 0, .int 0, .int 1, .int 0, .int 0, .int 0])), (t3, .inr (7, [.int 0, .int 0, .int 0, .int 0, .int 0])), (ou, .inl (cQ, 1, .inr (.inl fo9)))] [(cT, .object "LockRooms$Thing"), (cQ, .long)])) (va_Qi (fun (r : Int32) (_ : Unit) => r = 0) (fun (_ : Unit) (t : State) => ∃ (fo8 : Nat → Int64), (fo8 0 = 3) ∧ va_P (dC, dI) vwCl [(rm, .inr (5, [.ref lk, .ref th, .ref pl, .ref gm, .int 2, .int 4, .int 0, .int 0, .int 1, .int 0, .int 0, .int 0])), (t3, .inr (7, [.int (-1), .int 0, .int 0, .int 0, .int 0])), (ou, .inl (cQ, 1, .inr (.inl fo8)))] t.heap ∧ va_D (va_A [(rm, .inr (5, [.ref lk, .ref th, .ref pl, .ref gm, .int 2, .int 3, .int 0, .int 0, .int 1, .int 0, .int 0, .int 0])), (t3, .inr (7, [.int 0, .int 0, .int 0, .int 0, .int 0])), (ou, .inl (cQ, 1, .inr (.inl fo9)))] sz) [(rm, .inr (5, [.ref lk, .ref th, .ref pl, .ref gm, .int 2, .int 4, .int 0, .int 0, .int 1, .int 0, .int 0, .int 0])), (t3, .inr (7, [.int (-1), .int 0, .int 0, .int 0, .int 0])), (ou, .inl (cQ, 1, .inr (.inl fo8)))] ∧ va_K (dC, dI) vwCl [(cQ, .long)] t) (va_A [(rm, .inr (5, [.ref lk, .ref th, .ref pl, .ref gm, .int 2, .int 3, .int 0, .int 0, .int 1, .int 0, .int 0, .int 0])), (t3, .inr (7, [.int 0, .int 0, .int 0, .int 0, .int 0])), (ou, .inl (cQ, 1, .inr (.inl fo9)))] sz)) (vx_X (fun (_ : Unit) => False) (fun (_ : String) (_ : Unit) (_ : State) => True) (va_A [(rm, .inr (5, [.ref lk, .ref th, .ref pl, .ref gm, .int 2, .int 3, .int 0, .int 0, .int 1, .int 0, .int 0, .int 0])), (t3, .inr (7, [.int 0, .int 0, .int 0, .int 0, .int 0])), (ou, .inl (cQ, 1, .inr (.inl fo9)))] sz)) 0 0 (va_A [(rm, .inr (5, [.ref lk, .ref th, .ref pl, .ref gm, .int 2, .int 3, .int 0, .int 0, .int 1, .int 0, .int 0, .int 0])), (t3, .inr (7, [.int 0, .int 0, .int 0, .int 0, .int 0])), (ou, .inl (cQ, 1, .inr (.inl fo9)))] sz) := by
  refine vx_ofWH (cc := cL_thing) (maxL := 5) (ret := (some .int)) (by decide) rfl ?_
  intro p e s m args below meth c s₁ B hml hv
  obtain ⟨rfl, hsz, hR0, hP, hK, hD0, hN, hH, hX0⟩ := hv
  have hx := B.exec
  have hb := B.bytes
  have hr := B.returns
  have hts := atoms_spec (ws := zwsL_thing) B.pre
  have hown : s.vm.findClass RL = some m.cls := findClass_of_methodNamed B.named
  have hlocks := B.notSynchronized
  have hex : c.exceptionTable.toList = tableOf [(0, 10, 13, 21), (0, 10, 17, 13), (0, 10, 21, 15)] := vx_table (x := yL_thing) B (hts _ List.mem_cons_self)
  subst hsz
  have hD := hD0.self (sz := s.heap.size)
  have hAr := zx_A hX0 hR0
  generalize hAe : va_A [(rm, .inr (5, [.ref lk, .ref th, .ref pl, .ref gm, .int 2, .int 3, .int 0, .int 0, .int 1, .int 0, .int 0, .int 0])), (t3, .inr (7, [.int 0, .int 0, .int 0, .int 0, .int 0])), (ou, .inl (cQ, 1, .inr (.inl fo9)))] s.heap.size = A at hD hAr hH ⊢
  have hA : ∀ q : Nat, s.heap.size ≤ q → A q := fun q h => by rw [← hAe]; exact Or.inr h
  have hS : va_S A s.heap s.heap [] := va_S.rf
  have hl := lv_entry ([.ref x, .int (-1), .int 0, .ref ou]) (n := 5) (Nat.le_of_ble_eq_true rfl)
  rw [lg_entry_eq]
  generalize (lg_sl ([.ref x, .int (-1), .int 0, .ref ou]) ++ List.replicate (5 - (lg_sl ([.ref x, .int (-1), .int 0, .ref ou])).length) Slot.unset).toArray = ls at hl ⊢
  have hl : lv_has ls 5 [(0, .ref x), (1, .int (-1)), (2, .int 0), (3, .ref ou)] := hl
  refine lv_aload_n hx hb dL_thing_0 rfl (lv_at hl 3 rfl) ?_
  refine lv_iconst (v := 0) hx hb dL_thing_1 (by decide) ?_
  refine lv_aload_n hx hb dL_thing_2 rfl (lv_at hl 0 rfl) ?_
  refine lv_iload_n hx hb dL_thing_3 rfl (lv_at hl 1 rfl) ?_
  refine lv_iload_n hx hb dL_thing_4 rfl (lv_at hl 2 rfl) ?_
  have hPr := (hR0).sub (ws' := [(x, .inr (8, [.ref rm, .ref tr, .ref st])), (gm, .inr (2, [.int 0, .int 0, .int 0, .int 0, .int 0, .int (-1), .long 0])), (th, .inl (cT, 12, .inr (.inr (.inr (.inr ft)))))]) [0, 1, 2] rfl
  have hPc := hP.sub (ws' := [(rm, .inr (5, [.ref lk, .ref th, .ref pl, .ref gm, .int 2, .int 3, .int 0, .int 0, .int 1, .int 0, .int 0, .int 0])), (t3, .inr (7, [.int 0, .int 0, .int 0, .int 0, .int 0]))]) [0, 1] rfl
  have hDc := hD.sub (ws' := [(rm, .inr (5, [.ref lk, .ref th, .ref pl, .ref gm, .int 2, .int 3, .int 0, .int 0, .int 1, .int 0, .int 0, .int 0])), (t3, .inr (7, [.int 0, .int 0, .int 0, .int 0, .int 0]))]) [0, 1] (by decide) rfl
  have hKc := hK.sub (tys' := [(cT, .object "LockRooms$Thing")]) [0] rfl
  have hFc := va_free (wc := [(rm, .inr (5, [.ref lk, .ref th, .ref pl, .ref gm, .int 2, .int 3, .int 0, .int 0, .int 1, .int 0, .int 0, .int 0])), (t3, .inr (7, [.int 0, .int 0, .int 0, .int 0, .int 0]))]) hD hS hA [0, 1] rfl
  refine va_calli (va_runV (As := [.int (-1), .int 0]) (rest := [.int 0, .ref ou]) ⟨hx, hb, hml, hown, hts⟩ (cz_QX6_thing_3 l dC dI ed s.heap.size x rm tr st gm th cT ft t3 lk pl hkt3) (cwV 2 hts zgL_thing_X6_thing rfl rfl rfl (by decide +kernel) ⟨Nat.le_of_ble_eq_true rfl, Nat.le_of_ble_eq_true rfl⟩) ⟨zb_blind, va_recv hK hR0 (ci := 8) (q0 := 0) rfl rfl, fun U hU hW => ⟨rfl, zb_mk hU hW hPr hPc hKc hDc hN hH hS hFc (zx_cons (zx_r (hAr _ (List.mem_of_getElem? (i := 0) rfl)) hDc) (zx_cons (zx_r (hAr _ (List.mem_of_getElem? (i := 1) rfl)) hDc) (zx_cons (zx_r (hAr _ (List.mem_of_getElem? (i := 2) rfl)) hDc) zx_nil)))⟩⟩ rfl rfl hl.1 rfl (lv_room (Nat.le_of_ble_eq_true rfl)) dL_thing_5 ⟨Nat.le_of_ble_eq_true rfl, Nat.le_of_ble_eq_true rfl⟩) hS (fun q _ h => hFc q h) hFc (fun r2 u t H1 locs ht hvm hw hB hz1 hk1 hS => ?_)
  obtain rfl : r2 = 3 := hw
  obtain ⟨hP1, hD1, hK1⟩ := hB
  rw [ht] at hP1
  obtain ⟨hP, hD⟩ := va_join (wr := [(ou, .inl (cQ, 1, .inr (.inl fo9)))]) (w1 := [(rm, .inr (5, [.ref lk, .ref th, .ref pl, .ref gm, .int 2, .int 4, .int 0, .int 0, .int 1, .int 0, .int 0, .int 0])), (t3, .inr (7, [.int (-1), .int 0, .int 0, .int 0, .int 0]))]) hP hD [0, 1] [2] rfl rfl (by decide) (by decide) hk1 hFc hP1 hD1
  have hP : va_P (dC, dI) vwCl [(ou, .inl (cQ, 1, .inr (.inl fo9))), (rm, .inr (5, [.ref lk, .ref th, .ref pl, .ref gm, .int 2, .int 4, .int 0, .int 0, .int 1, .int 0, .int 0, .int 0])), (t3, .inr (7, [.int (-1), .int 0, .int 0, .int 0, .int 0]))] H1 := hP
  have hD : va_D A [(ou, .inl (cQ, 1, .inr (.inl fo9))), (rm, .inr (5, [.ref lk, .ref th, .ref pl, .ref gm, .int 2, .int 4, .int 0, .int 0, .int 1, .int 0, .int 0, .int 0])), (t3, .inr (7, [.int (-1), .int 0, .int 0, .int 0, .int 0]))] := hD
  refine lv_i2l (v := 3) hx hb dL_thing_8 (by decide) ?_
  refine va_last hx hb hK hP hD hS 0 1 rfl rfl (by unfold vp_in; decide) dL_thing_9 (fun H4 locs hP hD hS => ?_)
  obtain ⟨f5, ef5⟩ : ∃ z : Nat → Int64, z = vp_updL fo9 0 3 := ⟨_, rfl⟩
  have k6 : f5 0 = 3 := by rw [ef5]; exact pk_uLs
  have hP : va_P (dC, dI) vwCl [(ou, .inl (cQ, 1, .inr (.inl f5))), (rm, .inr (5, [.ref lk, .ref th, .ref pl, .ref gm, .int 2, .int 4, .int 0, .int 0, .int 1, .int 0, .int 0, .int 0])), (t3, .inr (7, [.int (-1), .int 0, .int 0, .int 0, .int 0]))] H4 := by rw [ef5]; exact hP
  have hD : va_D A [(ou, .inl (cQ, 1, .inr (.inl f5))), (rm, .inr (5, [.ref lk, .ref th, .ref pl, .ref gm, .int 2, .int 4, .int 0, .int 0, .int 1, .int 0, .int 0, .int 0])), (t3, .inr (7, [.int (-1), .int 0, .int 0, .int 0, .int 0]))] := by rw [ef5]; exact hD
  refine lv_goto (tgt := 25) hx hb dL_thing_10 (by decide) ?_
  refine lv_iconst (v := 0) hx hb dL_thing_25 (by decide) ?_
  refine vx_ret ?_
  refine W.widen (k := 0) (n := 0) (Nat.le_of_ble_eq_true rfl) (Nat.le_of_ble_eq_true rfl) ?_
  have hP9 := hP.sub (ws' := [(rm, .inr (5, [.ref lk, .ref th, .ref pl, .ref gm, .int 2, .int 4, .int 0, .int 0, .int 1, .int 0, .int 0, .int 0])), (t3, .inr (7, [.int (-1), .int 0, .int 0, .int 0, .int 0])), (ou, .inl (cQ, 1, .inr (.inl f5)))]) [1, 2, 0] rfl
  have hD9 := hD.sub (ws' := [(rm, .inr (5, [.ref lk, .ref th, .ref pl, .ref gm, .int 2, .int 4, .int 0, .int 0, .int 1, .int 0, .int 0, .int 0])), (t3, .inr (7, [.int (-1), .int 0, .int 0, .int 0, .int 0])), (ou, .inl (cQ, 1, .inr (.inl f5)))]) [1, 2, 0] (by decide) rfl
  have hK9 := hK.sub (tys' := [(cQ, .long)]) [1] rfl
  exact W.iret hx hb hr (fun t ht hW => ⟨⟨0, (), rfl, rfl, ⟨f5, k6, by rw [ht]; exact hP9, hD9, va_K.moved hW.alike hK9⟩⟩, hS.F ht⟩) hS.2.2 dL_thing_26
set_option maxHeartbeats 4000000 in
set_option maxRecDepth 100000 in
theorem cz_QX8_thing_3 (l : Launch) (dC : Nat → ClassId) (dI : Nat → Nat → Nat) (ed sz : Nat) (mr : Nat) (ll : Nat) (lt : Nat) (lp : Nat) (mo : Nat) (x9 : Int32) (s9 : Int64) (ota : Nat) (cOt : ClassId) (fot : Nat → Option Nat) (ta0 : Nat) (ta1 : Nat) (ta2 : Nat) (hot0 : fot 0 = some ta0) (hot1 : fot 1 = some ta1) (hot2 : fot 2 = some ta2) : Met l yX8_thing wsX8_thing ({ frames := 2, cells := 1, slots := 5, locals := 44 } : Jvm.Room) (va_Pc [.ref mo, .int (-1), .int 0] (zB dC dI ed sz [(mr, .inr (9, [.ref ll, .ref lt, .ref lp, .int 0, .int 0, .int 0, .int 0, .int 0, .int 0, .int 0, .int (-1), .int 0, .int 0, .int 0]))] [(mo, .inr (10, [.int x9, .ref mr, .int 1, .long s9])), (lt, .inr (1, [.int 3, .ref ota, .int 3])), (ota, .inl (cOt, 10, .inr (.inr (.inr (.inr fot)))))] [(cOt, .object "java/lang/Object")])) (va_Qi (fun (r : Int32) (_ : Unit) => r = 3) (fun (_ : Unit) (t : State) => ∃ (go : Nat → Option Nat), ∃ (ta3 : Nat), ∃ (cB3 : ClassId), ∃ (fb3 : Nat → Int32), (go 0 = some ta0 ∧ go 1 = some ta1 ∧ go 2 = some ta2 ∧ go 3 = some ta3 ∧ fb3 0 = (-1) ∧ fb3 1 = 0 ∧ fb3 2 = 0 ∧ fb3 3 = 0 ∧ fb3 4 = 0) ∧ va_P (dC, dI) vwCl [(mo, .inr (10, [.int 0, .ref mr, .int 1, .long s9])), (lt, .inr (1, [.int 4, .ref ota, .int 4])), (ota, .inl (cOt, 10, .inr (.inr (.inr (.inr go))))), (ta3, .inl (cB3, 5, .inl fb3))] t.heap ∧ va_D (va_A [(mo, .inr (10, [.int x9, .ref mr, .int 1, .long s9])), (lt, .inr (1, [.int 3, .ref ota, .int 3])), (ota, .inl (cOt, 10, .inr (.inr (.inr (.inr fot)))))] sz) [(mo, .inr (10, [.int 0, .ref mr, .int 1, .long s9])), (lt, .inr (1, [.int 4, .ref ota, .int 4])), (ota, .inl (cOt, 10, .inr (.inr (.inr (.inr go))))), (ta3, .inl (cB3, 5, .inl fb3))] ∧ va_K (dC, dI) vwCl [(cOt, .object "java/lang/Object"), (cB3, .int)] t) (va_A [(mo, .inr (10, [.int x9, .ref mr, .int 1, .long s9])), (lt, .inr (1, [.int 3, .ref ota, .int 3])), (ota, .inl (cOt, 10, .inr (.inr (.inr (.inr fot)))))] sz)) 1 5 (va_A [(mo, .inr (10, [.int x9, .ref mr, .int 1, .long s9])), (lt, .inr (1, [.int 3, .ref ota, .int 3])), (ota, .inl (cOt, 10, .inr (.inr (.inr (.inr fot)))))] sz) := by
  refine Met.ofW (cc := cX8_thing) (maxL := 4) (ret := (some .int)) (by decide) rfl ?_
  intro p e s m args below meth c s₁ B hml hv
  obtain ⟨rfl, hsz, hR0, hP, hK, hD0, hN, hH, hX0⟩ := hv
  have hx := B.exec
  have hb := B.bytes
  have hr := B.returns
  have hts := atoms_spec (ws := wsX8_thing) B.pre
  have hown : s.vm.findClass RX8 = some m.cls := findClass_of_methodNamed B.named
  have hlocks := B.notSynchronized
  subst hsz
  have hD := hD0.self (sz := s.heap.size)
  have hAr := zx_A hX0 hR0
  generalize hAe : va_A [(mo, .inr (10, [.int x9, .ref mr, .int 1, .long s9])), (lt, .inr (1, [.int 3, .ref ota, .int 3])), (ota, .inl (cOt, 10, .inr (.inr (.inr (.inr fot)))))] s.heap.size = A at hD hAr hH ⊢
  have hA : ∀ q : Nat, s.heap.size ≤ q → A q := fun q h => by rw [← hAe]; exact Or.inr h
  have hS : va_S A s.heap s.heap [] := va_S.rf
  have hl := lv_entry ([.ref mo, .int (-1), .int 0]) (n := 4) (Nat.le_of_ble_eq_true rfl)
  rw [lg_entry_eq]
  generalize (lg_sl ([.ref mo, .int (-1), .int 0]) ++ List.replicate (4 - (lg_sl ([.ref mo, .int (-1), .int 0])).length) Slot.unset).toArray = ls at hl ⊢
  have hl : lv_has ls 4 [(0, .ref mo), (1, .int (-1)), (2, .int 0)] := hl
  refine lv_aload_n hx hb dX8_thing_0 rfl (lv_at hl 0 rfl) ?_
  refine lv_iconst (v := 0) hx hb dX8_thing_1 (by decide) ?_
  refine va_put (D := (dC, dI)) (ci := 10) (v := .int 0) (ty := .int) (C := RX8) (T := TX8) (N := 4) hx hb hts zi_X8_thing_X8 tyX8 tyX8_ok nmX8 hown hK hP hD hS 0 rfl rfl 0 (by decide) (hts (.fieldLink RX8 20 "LockRoomsModel" "thrown" "I") (by decide +kernel)) (fun _ h9 => h9) rfl (by decide +kernel) rfl rfl (Nat.le_of_ble_eq_true rfl) dX8_thing_2 (fun H1 locs hP hD hS => ?_)
  have hP : va_P (dC, dI) vwCl [(mo, .inr (10, [.int 0, .ref mr, .int 1, .long s9])), (lt, .inr (1, [.int 3, .ref ota, .int 3])), (ota, .inl (cOt, 10, .inr (.inr (.inr (.inr fot)))))] H1 := hP
  have hD : va_D A [(mo, .inr (10, [.int 0, .ref mr, .int 1, .long s9])), (lt, .inr (1, [.int 3, .ref ota, .int 3])), (ota, .inl (cOt, 10, .inr (.inr (.inr (.inr fot)))))] := hD
  refine lv_iload_n hx hb dX8_thing_5 rfl (lv_at hl 1 rfl) ?_
  refine lv_iconst (v := (-1)) hx hb dX8_thing_6 (by decide) ?_
  refine lv_icmp_eq (tgt := 24) hx hb dX8_thing_7 (by decide) (fun _ => ?_) (fun h => absurd h (by decide))
  refine lv_iload_n hx hb dX8_thing_24 rfl (lv_at hl 2 rfl) ?_
  refine lv_iconst (v := 0) hx hb dX8_thing_25 (by decide) ?_
  refine lv_bipush (v := 9) hx hb dX8_thing_26 (by decide) ?_
  have hPr := (zo_nil : va_P (dC, dI) vwCl [] H1)
  have hPc := hP.sub (ws' := []) [] rfl
  have hDc := hD.sub (ws' := []) [] (by decide) rfl
  have hKc := hK.sub (tys' := []) [] rfl
  have hFc := va_free (wc := []) hD hS hA [] rfl
  refine va_calli (va_runS (As := [.int 0, .int 0, .int 9]) (rest := []) ⟨hx, hb, hml, hown, hts⟩ (cz_QX8_is_0_9 l dC dI ed H1.size ) (va_cwS 3 hts gX8_thing_X8_is rfl rfl rfl (by decide +kernel) ⟨Nat.le_of_ble_eq_true rfl, Nat.le_of_ble_eq_true rfl⟩) ⟨zb_blind, fun U hU hW => ⟨rfl, zb_mk hU hW hPr hPc hKc hDc hN hH hS hFc zx_e⟩⟩ rfl rfl hl.1 rfl (lv_room (Nat.le_of_ble_eq_true rfl)) dX8_thing_28 ⟨Nat.le_of_ble_eq_true rfl, Nat.le_of_ble_eq_true rfl⟩) hS (fun q _ h => hFc q h) hFc (fun r3 u t H2 locs ht hvm hw hB hz1 hk1 hS => ?_)
  obtain rfl : r3 = 1 := hw
  have hP := zo_K hP hk1
  refine lv_if_ne (tgt := 40) hx hb dX8_thing_31 (by decide) (fun _ => ?_) (fun h => absurd h (by decide))
  refine lv_aload_n hx hb dX8_thing_40 rfl (lv_at hl 0 rfl) ?_
  refine va_get (D := (dC, dI)) (ci := 10) (v := .ref mr) (C := RX8) (T := TX8) (N := 4) hx hb hts zi_X8_thing_X8 hown hK hP 0 rfl rfl 1 (by decide) (hts (.fieldLink RX8 10 "LockRoomsModel" "room" "LLockRoomsModel$Room;") (by decide +kernel)) (fun _ h9 => h9) rfl dX8_thing_41 ?_
  refine va_getN (D := (dC, dI)) (ci := 9) (v := .ref lt) (C := RX7) (T := TX7) (N := 14) hx hb hts zi_X8_thing_X7 hown hK (zo_R hR0 hS hAr) 0 rfl rfl 1 (by decide) (va_Nw.use rfl (hN.1 ("LockRoomsModel", 38, "LockRoomsModel$Room", "things", "Ljava/util/ArrayList;", "LockRoomsModel") (List.mem_of_getElem? (i := 2) rfl))) (fun _ h9 => h9) rfl dX8_thing_44 ?_
  have hPr := (hP).sub (ws' := [(lt, .inr (1, [.int 3, .ref ota, .int 3]))]) [1] rfl
  have hPc := hP.sub (ws' := []) [] rfl
  have hDc := hD.sub (ws' := []) [] (by decide) rfl
  have hKc := hK.sub (tys' := []) [] rfl
  have hFc := va_free (wc := []) hD hS hA [] rfl
  refine va_calli (va_runV (As := []) (rest := []) ⟨hx, hb, hml, hown, hts⟩ (cz_Qsize l dC dI ed H2.size lt 3 ota 3) (cwV 0 hts gX8_thing_Jx4a65c_size_8abf5 rfl rfl rfl (by decide +kernel) ⟨Nat.le_of_ble_eq_true rfl, Nat.le_of_ble_eq_true rfl⟩) ⟨zb_blind, va_recv hK hP (ci := 1) (q0 := 1) rfl rfl, fun U hU hW => ⟨rfl, zb_mk hU hW hPr hPc hKc hDc hN hH hS hFc zx_e⟩⟩ rfl rfl hl.1 rfl (lv_room (Nat.le_of_ble_eq_true rfl)) dX8_thing_47 ⟨Nat.le_of_ble_eq_true rfl, Nat.le_of_ble_eq_true rfl⟩) hS (fun q _ h => hFc q h) hFc (fun r5 u t H4 locs ht hvm hw hB hz1 hk1 hS => ?_)
  obtain rfl : r5 = 3 := hw.trans (by decide +kernel)
  have hP := zo_K hP hk1
  refine lv_bipush (v := 12) hx hb dX8_thing_50 (by decide) ?_
  refine lv_icmp_eq (tgt := 65) hx hb dX8_thing_52 (by decide) (fun h => absurd h (by decide)) (fun _ => ?_)
  refine lv_aload_n hx hb dX8_thing_55 rfl (lv_at hl 0 rfl) ?_
  refine va_get (D := (dC, dI)) (ci := 10) (v := .ref mr) (C := RX8) (T := TX8) (N := 4) hx hb hts zi_X8_thing_X8 hown hK hP 0 rfl rfl 1 (by decide) (hts (.fieldLink RX8 10 "LockRoomsModel" "room" "LLockRoomsModel$Room;") (by decide +kernel)) (fun _ h9 => h9) rfl dX8_thing_56 ?_
  refine va_getN (D := (dC, dI)) (ci := 9) (v := .int 0) (C := RX7) (T := TX7) (N := 14) hx hb hts zi_X8_thing_X7 hown hK (zo_R hR0 hS hAr) 0 rfl rfl 5 (by decide) (va_Nw.use rfl (hN.1 ("LockRoomsModel", 45, "LockRoomsModel$Room", "isRunning", "Z", "LockRoomsModel") (List.mem_of_getElem? (i := 6) rfl))) (fun _ h9 => h9) rfl dX8_thing_59 ?_
  refine lv_if_eq (tgt := 71) hx hb dX8_thing_62 (by decide) (fun _ => ?_) (fun h => absurd h (by decide))
  refine lv_iconst (v := 5) hx hb dX8_thing_71 (by decide) ?_
  refine va_newa (atype := .int) (a0 := (5, .inl (fun _ => 0))) hx hb (hts (.arrayClass .int) (by decide +kernel)) rfl hK hP hD hS hA (fun cA => rfl) (by decide) (N' := 5) (by decide) (by decide) (Nat.le_of_ble_eq_true rfl) (Nat.le_of_ble_eq_true rfl) dX8_thing_72 (fun q6 cA8 H7 hK hP hD hS => ?_)
  have hP : va_P (dC, dI) vwCl [(mo, .inr (10, [.int 0, .ref mr, .int 1, .long s9])), (lt, .inr (1, [.int 3, .ref ota, .int 3])), (ota, .inl (cOt, 10, .inr (.inr (.inr (.inr fot))))), (q6, .inl (cA8, 5, .inl (fun _ => 0)))] H7 := hP
  have hD : va_D A [(mo, .inr (10, [.int 0, .ref mr, .int 1, .long s9])), (lt, .inr (1, [.int 3, .ref ota, .int 3])), (ota, .inl (cOt, 10, .inr (.inr (.inr (.inr fot))))), (q6, .inl (cA8, 5, .inl (fun _ => 0)))] := hD
  refine lv_astore_n (lv' := [(3, .ref q6), (0, .ref mo), (1, .int (-1)), (2, .int 0)]) hx hb dX8_thing_74 rfl hl (by decide) rfl (fun ls hl => ?_)
  refine lv_aload_n hx hb dX8_thing_75 rfl (lv_at hl 0 rfl) ?_
  refine lv_iconst (v := 0) hx hb dX8_thing_76 (by decide) ?_
  refine lv_iload_n hx hb dX8_thing_77 rfl (lv_at hl 2 rfl) ?_
  refine va_iast hx hb hK hP hD hS 3 1 rfl rfl (by unfold vp_in; decide) dX8_thing_78 (fun H10 locs hP hD hS => ?_)
  obtain ⟨f11, ef11⟩ : ∃ z : Nat → Int32, z = upd (fun _ => 0) 0 (-1) := ⟨_, rfl⟩
  have k12 : f11 1 = 0 := by rw [ef11]; exact (pk_un (by decide)).trans (rfl)
  have k13 : f11 2 = 0 := by rw [ef11]; exact (pk_un (by decide)).trans (rfl)
  have k14 : f11 3 = 0 := by rw [ef11]; exact (pk_un (by decide)).trans (rfl)
  have k15 : f11 4 = 0 := by rw [ef11]; exact (pk_un (by decide)).trans (rfl)
  have k16 : f11 0 = (-1) := by rw [ef11]; exact pk_us
  have hP : va_P (dC, dI) vwCl [(mo, .inr (10, [.int 0, .ref mr, .int 1, .long s9])), (lt, .inr (1, [.int 3, .ref ota, .int 3])), (ota, .inl (cOt, 10, .inr (.inr (.inr (.inr fot))))), (q6, .inl (cA8, 5, .inl f11))] H10 := by rw [ef11]; exact hP
  have hD : va_D A [(mo, .inr (10, [.int 0, .ref mr, .int 1, .long s9])), (lt, .inr (1, [.int 3, .ref ota, .int 3])), (ota, .inl (cOt, 10, .inr (.inr (.inr (.inr fot))))), (q6, .inl (cA8, 5, .inl f11))] := by rw [ef11]; exact hD
  refine lv_aload_n hx hb dX8_thing_79 rfl (lv_at hl 0 rfl) ?_
  refine lv_iconst (v := 1) hx hb dX8_thing_80 (by decide) ?_
  refine lv_iload_n hx hb dX8_thing_81 rfl (lv_at hl 3 rfl) ?_
  refine va_iast hx hb hK hP hD hS 3 1 rfl rfl (by unfold vp_in; decide) dX8_thing_82 (fun H17 locs hP hD hS => ?_)
  obtain ⟨f18, ef18⟩ : ∃ z : Nat → Int32, z = upd f11 1 0 := ⟨_, rfl⟩
  have k19 : f18 2 = 0 := by rw [ef18]; exact (pk_un (by decide)).trans (k13)
  have k20 : f18 3 = 0 := by rw [ef18]; exact (pk_un (by decide)).trans (k14)
  have k21 : f18 4 = 0 := by rw [ef18]; exact (pk_un (by decide)).trans (k15)
  have k22 : f18 0 = (-1) := by rw [ef18]; exact (pk_un (by decide)).trans (k16)
  have k23 : f18 1 = 0 := by rw [ef18]; exact pk_us
  have hP : va_P (dC, dI) vwCl [(mo, .inr (10, [.int 0, .ref mr, .int 1, .long s9])), (lt, .inr (1, [.int 3, .ref ota, .int 3])), (ota, .inl (cOt, 10, .inr (.inr (.inr (.inr fot))))), (q6, .inl (cA8, 5, .inl f18))] H17 := by rw [ef18]; exact hP
  have hD : va_D A [(mo, .inr (10, [.int 0, .ref mr, .int 1, .long s9])), (lt, .inr (1, [.int 3, .ref ota, .int 3])), (ota, .inl (cOt, 10, .inr (.inr (.inr (.inr fot))))), (q6, .inl (cA8, 5, .inl f18))] := by rw [ef18]; exact hD
  refine lv_aload_n hx hb dX8_thing_83 rfl (lv_at hl 1 rfl) ?_
  refine va_get (D := (dC, dI)) (ci := 10) (v := .ref mr) (C := RX8) (T := TX8) (N := 4) hx hb hts zi_X8_thing_X8 hown hK hP 0 rfl rfl 1 (by decide) (hts (.fieldLink RX8 10 "LockRoomsModel" "room" "LLockRoomsModel$Room;") (by decide +kernel)) (fun _ h9 => h9) rfl dX8_thing_84 ?_
  refine va_getN (D := (dC, dI)) (ci := 9) (v := .ref lt) (C := RX7) (T := TX7) (N := 14) hx hb hts zi_X8_thing_X7 hown hK (zo_R hR0 hS hAr) 0 rfl rfl 1 (by decide) (va_Nw.use rfl (hN.1 ("LockRoomsModel", 38, "LockRoomsModel$Room", "things", "Ljava/util/ArrayList;", "LockRoomsModel") (List.mem_of_getElem? (i := 2) rfl))) (fun _ h9 => h9) rfl dX8_thing_87 ?_
  refine lv_aload_n hx hb dX8_thing_90 rfl (lv_at hl 0 rfl) ?_
  have hPr := (hP).sub (ws' := [(q6, .inl (cA8, 5, .inl f18))]) [3] rfl
  have hPc := hP.sub (ws' := [(lt, .inr (1, [.int 3, .ref ota, .int 3])), (ota, .inl (cOt, 10, .inr (.inr (.inr (.inr fot)))))]) [1, 2] rfl
  have hDc := hD.sub (ws' := [(lt, .inr (1, [.int 3, .ref ota, .int 3])), (ota, .inl (cOt, 10, .inr (.inr (.inr (.inr fot)))))]) [1, 2] (by decide) rfl
  have hKc := hK.sub (tys' := [(cA8, .int), (cOt, .object "java/lang/Object")]) [1, 0] rfl
  have hFc := va_free (wc := [(lt, .inr (1, [.int 3, .ref ota, .int 3])), (ota, .inl (cOt, 10, .inr (.inr (.inr (.inr fot)))))]) hD hS hA [1, 2] rfl
  refine va_calli (va_runV (As := [.ref q6]) (rest := []) ⟨hx, hb, hml, hown, hts⟩ (cz_Qadd_3 l dC dI ed H17.size q6 cA8 5 f18 lt ota cOt fot ta0 ta1 ta2 hot0 hot1 hot2) (cwV 1 hts gX8_thing_Jx4a65c_add_9ea2d rfl rfl rfl (by decide +kernel) ⟨Nat.le_of_ble_eq_true rfl, Nat.le_of_ble_eq_true rfl⟩) ⟨zb_blind, va_recv hK hP (ci := 1) (q0 := 1) rfl rfl, fun U hU hW => ⟨rfl, zb_mk hU hW hPr hPc hKc hDc hN hH hS hFc (zx_cons (zx_o hD 3 [1, 2] rfl rfl (by decide)) zx_nil)⟩⟩ rfl rfl hl.1 rfl (lv_room (Nat.le_of_ble_eq_true rfl)) dX8_thing_91 ⟨Nat.le_of_ble_eq_true rfl, Nat.le_of_ble_eq_true rfl⟩) hS (fun q _ h => hFc q h) hFc (fun r25 u t H24 locs ht hvm hw hB hz1 hk1 hS => ?_)
  obtain rfl : r25 = 1 := hw
  obtain ⟨go_26, ⟨k26_0, k26_1, k26_2, k26_3⟩, hP1, hD1, hK1⟩ := hB
  rw [ht] at hP1
  obtain ⟨hP, hD⟩ := va_join (wr := [(mo, .inr (10, [.int 0, .ref mr, .int 1, .long s9])), (q6, .inl (cA8, 5, .inl f18))]) (w1 := [(lt, .inr (1, [.int 4, .ref ota, .int 4])), (ota, .inl (cOt, 10, .inr (.inr (.inr (.inr go_26)))))]) hP hD [1, 2] [0, 3] rfl rfl (by decide) (by decide) hk1 hFc hP1 hD1
  have hP : va_P (dC, dI) vwCl [(mo, .inr (10, [.int 0, .ref mr, .int 1, .long s9])), (q6, .inl (cA8, 5, .inl f18)), (lt, .inr (1, [.int 4, .ref ota, .int 4])), (ota, .inl (cOt, 10, .inr (.inr (.inr (.inr go_26)))))] H24 := hP
  have hD : va_D A [(mo, .inr (10, [.int 0, .ref mr, .int 1, .long s9])), (q6, .inl (cA8, 5, .inl f18)), (lt, .inr (1, [.int 4, .ref ota, .int 4])), (ota, .inl (cOt, 10, .inr (.inr (.inr (.inr go_26)))))] := hD
  refine lv_pop hx hb dX8_thing_94 rfl ?_
  refine lv_aload_n hx hb dX8_thing_95 rfl (lv_at hl 1 rfl) ?_
  refine va_get (D := (dC, dI)) (ci := 10) (v := .ref mr) (C := RX8) (T := TX8) (N := 4) hx hb hts zi_X8_thing_X8 hown hK hP 0 rfl rfl 1 (by decide) (hts (.fieldLink RX8 10 "LockRoomsModel" "room" "LLockRoomsModel$Room;") (by decide +kernel)) (fun _ h9 => h9) rfl dX8_thing_96 ?_
  refine va_getN (D := (dC, dI)) (ci := 9) (v := .ref lt) (C := RX7) (T := TX7) (N := 14) hx hb hts zi_X8_thing_X7 hown hK (zo_R hR0 hS hAr) 0 rfl rfl 1 (by decide) (va_Nw.use rfl (hN.1 ("LockRoomsModel", 38, "LockRoomsModel$Room", "things", "Ljava/util/ArrayList;", "LockRoomsModel") (List.mem_of_getElem? (i := 2) rfl))) (fun _ h9 => h9) rfl dX8_thing_99 ?_
  have hPr := (hP).sub (ws' := [(lt, .inr (1, [.int 4, .ref ota, .int 4]))]) [2] rfl
  have hPc := hP.sub (ws' := []) [] rfl
  have hDc := hD.sub (ws' := []) [] (by decide) rfl
  have hKc := hK.sub (tys' := []) [] rfl
  have hFc := va_free (wc := []) hD hS hA [] rfl
  refine va_calli (va_runV (As := []) (rest := []) ⟨hx, hb, hml, hown, hts⟩ (cz_Qsize l dC dI ed H24.size lt 4 ota 4) (cwV 0 hts gX8_thing_Jx4a65c_size_8abf5 rfl rfl rfl (by decide +kernel) ⟨Nat.le_of_ble_eq_true rfl, Nat.le_of_ble_eq_true rfl⟩) ⟨zb_blind, va_recv hK hP (ci := 1) (q0 := 2) rfl rfl, fun U hU hW => ⟨rfl, zb_mk hU hW hPr hPc hKc hDc hN hH hS hFc zx_e⟩⟩ rfl rfl hl.1 rfl (lv_room (Nat.le_of_ble_eq_true rfl)) dX8_thing_102 ⟨Nat.le_of_ble_eq_true rfl, Nat.le_of_ble_eq_true rfl⟩) hS (fun q _ h => hFc q h) hFc (fun r28 u t H27 locs ht hvm hw hB hz1 hk1 hS => ?_)
  obtain rfl : r28 = 4 := hw.trans (by decide +kernel)
  have hP := zo_K hP hk1
  refine lv_iconst (v := 1) hx hb dX8_thing_105 (by decide) ?_
  refine lv_isub hx hb dX8_thing_106 ?_
  refine zo_i (v := 3) (by decide) ?_
  refine W.widen (k := 1) (n := 5) (Nat.le_of_ble_eq_true rfl) (Nat.le_of_ble_eq_true rfl) ?_
  have hP9 := hP.sub (ws' := [(mo, .inr (10, [.int 0, .ref mr, .int 1, .long s9])), (lt, .inr (1, [.int 4, .ref ota, .int 4])), (ota, .inl (cOt, 10, .inr (.inr (.inr (.inr go_26))))), (q6, .inl (cA8, 5, .inl f18))]) [0, 2, 3, 1] rfl
  have hD9 := hD.sub (ws' := [(mo, .inr (10, [.int 0, .ref mr, .int 1, .long s9])), (lt, .inr (1, [.int 4, .ref ota, .int 4])), (ota, .inl (cOt, 10, .inr (.inr (.inr (.inr go_26))))), (q6, .inl (cA8, 5, .inl f18))]) [0, 2, 3, 1] (by decide) rfl
  have hK9 := hK.sub (tys' := [(cOt, .object "java/lang/Object"), (cA8, .int)]) [0, 1] rfl
  exact W.iret hx hb hr (fun t ht hW => ⟨⟨3, (), rfl, rfl, ⟨go_26, q6, cA8, f18, ⟨k26_0, k26_1, k26_2, k26_3, k22, k23, k19, k20, k21⟩, by rw [ht]; exact hP9, hD9, va_K.moved hW.alike hK9⟩⟩, hS.F ht⟩) hS.2.2 dX8_thing_107
set_option maxHeartbeats 4000000 in
set_option maxRecDepth 100000 in
theorem cz_QaddThing_4 (l : Launch) (dC : Nat → ClassId) (dI : Nat → Nat → Nat) (ed sz : Nat) (th : Nat) (cT : ClassId) (ft : Nat → Option Nat) (t4 : Nat) (rm : Nat) (lk : Nat) (pl : Nat) (gm : Nat) (hkt4 : ft 4 = some t4) : Met l yX3_addThing wsX3_addThing ({ frames := 0, cells := 0, slots := 0, locals := 0 } : Jvm.Room) (va_Pc [.ref rm, .int (-1), .int 0] (zB dC dI ed sz [(th, .inl (cT, 12, .inr (.inr (.inr (.inr ft)))))] [(rm, .inr (5, [.ref lk, .ref th, .ref pl, .ref gm, .int 2, .int 4, .int 0, .int 0, .int 1, .int 0, .int 0, .int 0])), (t4, .inr (7, [.int 0, .int 0, .int 0, .int 0, .int 0]))] [(cT, .object "LockRooms$Thing")])) (va_Qi (fun (r : Int32) (_ : Unit) => r = 4) (fun (_ : Unit) (t : State) => va_P (dC, dI) vwCl [(rm, .inr (5, [.ref lk, .ref th, .ref pl, .ref gm, .int 2, .int 5, .int 0, .int 0, .int 1, .int 0, .int 0, .int 0])), (t4, .inr (7, [.int (-1), .int 0, .int 0, .int 0, .int 0]))] t.heap ∧ va_D (va_A [(rm, .inr (5, [.ref lk, .ref th, .ref pl, .ref gm, .int 2, .int 4, .int 0, .int 0, .int 1, .int 0, .int 0, .int 0])), (t4, .inr (7, [.int 0, .int 0, .int 0, .int 0, .int 0]))] sz) [(rm, .inr (5, [.ref lk, .ref th, .ref pl, .ref gm, .int 2, .int 5, .int 0, .int 0, .int 1, .int 0, .int 0, .int 0])), (t4, .inr (7, [.int (-1), .int 0, .int 0, .int 0, .int 0]))] ∧ va_K (dC, dI) vwCl [] t) (va_A [(rm, .inr (5, [.ref lk, .ref th, .ref pl, .ref gm, .int 2, .int 4, .int 0, .int 0, .int 1, .int 0, .int 0, .int 0])), (t4, .inr (7, [.int 0, .int 0, .int 0, .int 0, .int 0]))] sz)) 0 0 (va_A [(rm, .inr (5, [.ref lk, .ref th, .ref pl, .ref gm, .int 2, .int 4, .int 0, .int 0, .int 1, .int 0, .int 0, .int 0])), (t4, .inr (7, [.int 0, .int 0, .int 0, .int 0, .int 0]))] sz) := by
  refine Met.ofW (cc := cX3_addThing) (maxL := 5) (ret := (some .int)) (by decide) rfl ?_
  intro p e s m args below meth c s₁ B hml hv
  obtain ⟨rfl, hsz, hR0, hP, hK, hD0, hN, hH, hX0⟩ := hv
  have hx := B.exec
  have hb := B.bytes
  have hr := B.returns
  have hts := atoms_spec (ws := wsX3_addThing) B.pre
  have hown : s.vm.findClass RX3 = some m.cls := findClass_of_methodNamed B.named
  have hlocks := B.notSynchronized
  subst hsz
  have hD := hD0.self (sz := s.heap.size)
  have hAr := zx_A hX0 hR0
  generalize hAe : va_A [(rm, .inr (5, [.ref lk, .ref th, .ref pl, .ref gm, .int 2, .int 4, .int 0, .int 0, .int 1, .int 0, .int 0, .int 0])), (t4, .inr (7, [.int 0, .int 0, .int 0, .int 0, .int 0]))] s.heap.size = A at hD hAr hH ⊢
  have hA : ∀ q : Nat, s.heap.size ≤ q → A q := fun q h => by rw [← hAe]; exact Or.inr h
  have hS : va_S A s.heap s.heap [] := va_S.rf
  have hl := lv_entry ([.ref rm, .int (-1), .int 0]) (n := 5) (Nat.le_of_ble_eq_true rfl)
  rw [lg_entry_eq]
  generalize (lg_sl ([.ref rm, .int (-1), .int 0]) ++ List.replicate (5 - (lg_sl ([.ref rm, .int (-1), .int 0])).length) Slot.unset).toArray = ls at hl ⊢
  have hl : lv_has ls 5 [(0, .ref rm), (1, .int (-1)), (2, .int 0)] := hl
  refine lv_aload_n hx hb dX3_addThing_0 rfl (lv_at hl 0 rfl) ?_
  refine va_get (D := (dC, dI)) (ci := 5) (v := .int 4) (C := RX3) (T := TX3) (N := 12) hx hb hts zi_X3_addThing_X3 hown hK hP 0 rfl rfl 5 (by decide) (hts (.fieldLink RX3 54 "LockRooms$Room" "thingCount" "I") (by decide +kernel)) (fun _ h9 => h9) rfl dX3_addThing_1 ?_
  refine lv_istore_n (lv' := [(3, .int 4), (0, .ref rm), (1, .int (-1)), (2, .int 0)]) hx hb dX3_addThing_4 rfl hl (by decide) rfl (fun ls hl => ?_)
  refine lv_iload_n hx hb dX3_addThing_5 rfl (lv_at hl 0 rfl) ?_
  refine lv_bipush (v := 12) hx hb dX3_addThing_6 (by decide) ?_
  refine lv_icmp_lt (tgt := 13) hx hb dX3_addThing_8 (by decide) (fun _ => ?_) (fun h => absurd h (by decide))
  refine lv_aload_n hx hb dX3_addThing_13 rfl (lv_at hl 1 rfl) ?_
  refine va_get (D := (dC, dI)) (ci := 5) (v := .ref th) (C := RX3) (T := TX3) (N := 12) hx hb hts zi_X3_addThing_X3 hown hK hP 0 rfl rfl 1 (by decide) (hts (.fieldLink RX3 19 "LockRooms$Room" "things" "[LLockRooms$Thing;") (by decide +kernel)) (fun _ h9 => h9) rfl dX3_addThing_14 ?_
  refine lv_iload_n hx hb dX3_addThing_17 rfl (lv_at hl 0 rfl) ?_
  refine va_aldq hx hb hK hR0 0 0 rfl rfl (by unfold vp_in; decide) dX3_addThing_18 ?_
  refine zo_q (v := .ref t4) (by rw [show Int32.toNatClampNeg 4 = 4 from by decide, hkt4]; rfl) ?_
  refine lv_astore (lv' := [(4, .ref t4), (3, .int 4), (0, .ref rm), (1, .int (-1)), (2, .int 0)]) hx hb dX3_addThing_19 hl (by decide) rfl (fun ls hl => ?_)
  refine lv_aload hx hb dX3_addThing_21 (lv_at hl 0 rfl) ?_
  refine lv_iload_n hx hb dX3_addThing_23 rfl (lv_at hl 3 rfl) ?_
  refine va_put (D := (dC, dI)) (ci := 7) (v := .int (-1)) (ty := .int) (C := RX5) (T := TX5) (N := 5) hx hb hts zi_X3_addThing_X5 tyX5 tyX5_ok nmX5 hown hK hP hD hS 1 rfl rfl 0 (by decide) (hts (.fieldLink RX3 90 "LockRooms$Thing" "place" "I") (by decide +kernel)) (fun _ h9 => h9) rfl (by decide +kernel) rfl rfl (Nat.le_of_ble_eq_true rfl) dX3_addThing_24 (fun H1 locs hP hD hS => ?_)
  have hP : va_P (dC, dI) vwCl [(rm, .inr (5, [.ref lk, .ref th, .ref pl, .ref gm, .int 2, .int 4, .int 0, .int 0, .int 1, .int 0, .int 0, .int 0])), (t4, .inr (7, [.int (-1), .int 0, .int 0, .int 0, .int 0]))] H1 := hP
  have hD : va_D A [(rm, .inr (5, [.ref lk, .ref th, .ref pl, .ref gm, .int 2, .int 4, .int 0, .int 0, .int 1, .int 0, .int 0, .int 0])), (t4, .inr (7, [.int (-1), .int 0, .int 0, .int 0, .int 0]))] := hD
  refine lv_aload hx hb dX3_addThing_27 (lv_at hl 0 rfl) ?_
  refine lv_iload_n hx hb dX3_addThing_29 rfl (lv_at hl 4 rfl) ?_
  refine va_put (D := (dC, dI)) (ci := 7) (v := .int 0) (ty := .int) (C := RX5) (T := TX5) (N := 5) hx hb hts zi_X3_addThing_X5 tyX5 tyX5_ok nmX5 hown hK hP hD hS 1 rfl rfl 1 (by decide) (hts (.fieldLink RX3 93 "LockRooms$Thing" "hid" "I") (by decide +kernel)) (fun _ h9 => h9) rfl (by decide +kernel) rfl rfl (Nat.le_of_ble_eq_true rfl) dX3_addThing_30 (fun H2 locs hP hD hS => ?_)
  have hP : va_P (dC, dI) vwCl [(rm, .inr (5, [.ref lk, .ref th, .ref pl, .ref gm, .int 2, .int 4, .int 0, .int 0, .int 1, .int 0, .int 0, .int 0])), (t4, .inr (7, [.int (-1), .int 0, .int 0, .int 0, .int 0]))] H2 := hP
  have hD : va_D A [(rm, .inr (5, [.ref lk, .ref th, .ref pl, .ref gm, .int 2, .int 4, .int 0, .int 0, .int 1, .int 0, .int 0, .int 0])), (t4, .inr (7, [.int (-1), .int 0, .int 0, .int 0, .int 0]))] := hD
  refine lv_aload_n hx hb dX3_addThing_33 rfl (lv_at hl 2 rfl) ?_
  refine lv_dup hx hb dX3_addThing_34 rfl ?_
  refine va_get (D := (dC, dI)) (ci := 5) (v := .int 4) (C := RX3) (T := TX3) (N := 12) hx hb hts zi_X3_addThing_X3 hown hK hP 0 rfl rfl 5 (by decide) (hts (.fieldLink RX3 54 "LockRooms$Room" "thingCount" "I") (by decide +kernel)) (fun _ h9 => h9) rfl dX3_addThing_35 ?_
  refine lv_iconst (v := 1) hx hb dX3_addThing_38 (by decide) ?_
  refine lv_iadd hx hb dX3_addThing_39 ?_
  refine zo_i (v := 5) (by decide) ?_
  refine va_put (D := (dC, dI)) (ci := 5) (v := .int 5) (ty := .int) (C := RX3) (T := TX3) (N := 12) hx hb hts zi_X3_addThing_X3 tyX3 tyX3_ok nmX3 hown hK hP hD hS 0 rfl rfl 5 (by decide) (hts (.fieldLink RX3 54 "LockRooms$Room" "thingCount" "I") (by decide +kernel)) (fun _ h9 => h9) rfl (by decide +kernel) rfl rfl (Nat.le_of_ble_eq_true rfl) dX3_addThing_40 (fun H3 locs hP hD hS => ?_)
  have hP : va_P (dC, dI) vwCl [(rm, .inr (5, [.ref lk, .ref th, .ref pl, .ref gm, .int 2, .int 5, .int 0, .int 0, .int 1, .int 0, .int 0, .int 0])), (t4, .inr (7, [.int (-1), .int 0, .int 0, .int 0, .int 0]))] H3 := hP
  have hD : va_D A [(rm, .inr (5, [.ref lk, .ref th, .ref pl, .ref gm, .int 2, .int 5, .int 0, .int 0, .int 1, .int 0, .int 0, .int 0])), (t4, .inr (7, [.int (-1), .int 0, .int 0, .int 0, .int 0]))] := hD
  refine lv_iload_n hx hb dX3_addThing_43 rfl (lv_at hl 1 rfl) ?_
  refine W.widen (k := 0) (n := 0) (Nat.le_of_ble_eq_true rfl) (Nat.le_of_ble_eq_true rfl) ?_
  have hP9 := hP.sub (ws' := [(rm, .inr (5, [.ref lk, .ref th, .ref pl, .ref gm, .int 2, .int 5, .int 0, .int 0, .int 1, .int 0, .int 0, .int 0])), (t4, .inr (7, [.int (-1), .int 0, .int 0, .int 0, .int 0]))]) [0, 1] rfl
  have hD9 := hD.sub (ws' := [(rm, .inr (5, [.ref lk, .ref th, .ref pl, .ref gm, .int 2, .int 5, .int 0, .int 0, .int 1, .int 0, .int 0, .int 0])), (t4, .inr (7, [.int (-1), .int 0, .int 0, .int 0, .int 0]))]) [0, 1] (by decide) rfl
  have hK9 := hK.sub (tys' := []) [] rfl
  exact W.iret hx hb hr (fun t ht hW => ⟨⟨4, (), rfl, rfl, ⟨by rw [ht]; exact hP9, hD9, va_K.moved hW.alike hK9⟩⟩, hS.F ht⟩) hS.2.2 dX3_addThing_44
set_option maxHeartbeats 4000000 in
set_option maxRecDepth 100000 in
theorem cz_QX6_thing_4 (l : Launch) (dC : Nat → ClassId) (dI : Nat → Nat → Nat) (ed sz : Nat) (x : Nat) (rm : Nat) (tr : Nat) (st : Nat) (gm : Nat) (th : Nat) (cT : ClassId) (ft : Nat → Option Nat) (t4 : Nat) (lk : Nat) (pl : Nat) (hkt4 : ft 4 = some t4) : Met l yX6_thing wsX6_thing ({ frames := 1, cells := 0, slots := 0, locals := 24 } : Jvm.Room) (va_Pc [.ref x, .int (-1), .int 0] (zB dC dI ed sz [(x, .inr (8, [.ref rm, .ref tr, .ref st])), (gm, .inr (2, [.int 0, .int 0, .int 0, .int 0, .int 0, .int (-1), .long 0])), (th, .inl (cT, 12, .inr (.inr (.inr (.inr ft)))))] [(rm, .inr (5, [.ref lk, .ref th, .ref pl, .ref gm, .int 2, .int 4, .int 0, .int 0, .int 1, .int 0, .int 0, .int 0])), (t4, .inr (7, [.int 0, .int 0, .int 0, .int 0, .int 0]))] [(cT, .object "LockRooms$Thing")])) (va_Qi (fun (r : Int32) (_ : Unit) => r = 4) (fun (_ : Unit) (t : State) => va_P (dC, dI) vwCl [(rm, .inr (5, [.ref lk, .ref th, .ref pl, .ref gm, .int 2, .int 5, .int 0, .int 0, .int 1, .int 0, .int 0, .int 0])), (t4, .inr (7, [.int (-1), .int 0, .int 0, .int 0, .int 0]))] t.heap ∧ va_D (va_A [(rm, .inr (5, [.ref lk, .ref th, .ref pl, .ref gm, .int 2, .int 4, .int 0, .int 0, .int 1, .int 0, .int 0, .int 0])), (t4, .inr (7, [.int 0, .int 0, .int 0, .int 0, .int 0]))] sz) [(rm, .inr (5, [.ref lk, .ref th, .ref pl, .ref gm, .int 2, .int 5, .int 0, .int 0, .int 1, .int 0, .int 0, .int 0])), (t4, .inr (7, [.int (-1), .int 0, .int 0, .int 0, .int 0]))] ∧ va_K (dC, dI) vwCl [] t) (va_A [(rm, .inr (5, [.ref lk, .ref th, .ref pl, .ref gm, .int 2, .int 4, .int 0, .int 0, .int 1, .int 0, .int 0, .int 0])), (t4, .inr (7, [.int 0, .int 0, .int 0, .int 0, .int 0]))] sz)) 0 0 (va_A [(rm, .inr (5, [.ref lk, .ref th, .ref pl, .ref gm, .int 2, .int 4, .int 0, .int 0, .int 1, .int 0, .int 0, .int 0])), (t4, .inr (7, [.int 0, .int 0, .int 0, .int 0, .int 0]))] sz) := by
  refine Met.ofW (cc := cX6_thing) (maxL := 3) (ret := (some .int)) (by decide) rfl ?_
  intro p e s m args below meth c s₁ B hml hv
  obtain ⟨rfl, hsz, hR0, hP, hK, hD0, hN, hH, hX0⟩ := hv
  have hx := B.exec
  have hb := B.bytes
  have hr := B.returns
  have hts := atoms_spec (ws := wsX6_thing) B.pre
  have hown : s.vm.findClass RX6 = some m.cls := findClass_of_methodNamed B.named
  have hlocks := B.notSynchronized
  subst hsz
  have hD := hD0.self (sz := s.heap.size)
  have hAr := zx_A hX0 hR0
  generalize hAe : va_A [(rm, .inr (5, [.ref lk, .ref th, .ref pl, .ref gm, .int 2, .int 4, .int 0, .int 0, .int 1, .int 0, .int 0, .int 0])), (t4, .inr (7, [.int 0, .int 0, .int 0, .int 0, .int 0]))] s.heap.size = A at hD hAr hH ⊢
  have hA : ∀ q : Nat, s.heap.size ≤ q → A q := fun q h => by rw [← hAe]; exact Or.inr h
  have hS : va_S A s.heap s.heap [] := va_S.rf
  have hl := lv_entry ([.ref x, .int (-1), .int 0]) (n := 3) (Nat.le_of_ble_eq_true rfl)
  rw [lg_entry_eq]
  generalize (lg_sl ([.ref x, .int (-1), .int 0]) ++ List.replicate (3 - (lg_sl ([.ref x, .int (-1), .int 0])).length) Slot.unset).toArray = ls at hl ⊢
  have hl : lv_has ls 3 [(0, .ref x), (1, .int (-1)), (2, .int 0)] := hl
  refine lv_iload_n hx hb dX6_thing_0 rfl (lv_at hl 1 rfl) ?_
  refine lv_iconst (v := (-1)) hx hb dX6_thing_1 (by decide) ?_
  refine lv_icmp_eq (tgt := 26) hx hb dX6_thing_2 (by decide) (fun _ => ?_) (fun h => absurd h (by decide))
  refine lv_iload_n hx hb dX6_thing_26 rfl (lv_at hl 2 rfl) ?_
  refine lv_iconst (v := 0) hx hb dX6_thing_27 (by decide) ?_
  refine lv_bipush (v := 9) hx hb dX6_thing_28 (by decide) ?_
  have hPr := (zo_nil : va_P (dC, dI) vwCl [] s.heap)
  have hPc := hP.sub (ws' := []) [] rfl
  have hDc := hD.sub (ws' := []) [] (by decide) rfl
  have hKc := hK.sub (tys' := []) [] rfl
  have hFc := va_free (wc := []) hD hS hA [] rfl
  refine va_calli (va_runS (As := [.int 0, .int 0, .int 9]) (rest := []) ⟨hx, hb, hml, hown, hts⟩ (cz_QX6_isWithin_0_9 l dC dI ed s.heap.size ) (va_cwS 3 hts gX6_thing_X6_isWithin rfl rfl rfl (by decide +kernel) ⟨Nat.le_of_ble_eq_true rfl, Nat.le_of_ble_eq_true rfl⟩) ⟨zb_blind, fun U hU hW => ⟨rfl, zb_mk hU hW hPr hPc hKc hDc hN hH hS hFc zx_e⟩⟩ rfl rfl hl.1 rfl (lv_room (Nat.le_of_ble_eq_true rfl)) dX6_thing_30 ⟨Nat.le_of_ble_eq_true rfl, Nat.le_of_ble_eq_true rfl⟩) hS (fun q _ h => hFc q h) hFc (fun r2 u t H1 locs ht hvm hw hB hz1 hk1 hS => ?_)
  obtain rfl : r2 = 1 := hw
  have hP := zo_K hP hk1
  refine lv_if_ne (tgt := 46) hx hb dX6_thing_33 (by decide) (fun _ => ?_) (fun h => absurd h (by decide))
  refine lv_aload_n hx hb dX6_thing_46 rfl (lv_at hl 0 rfl) ?_
  refine va_get (D := (dC, dI)) (ci := 8) (v := .ref rm) (C := RX6) (T := TX6) (N := 3) hx hb hts zi_X6_thing_X6 hown hK (zo_R hR0 hS hAr) 0 rfl rfl 0 (by decide) (hts (.fieldLink RX6 12 "LockRooms" "room" "LLockRooms$Room;") (by decide +kernel)) (fun _ h9 => h9) rfl dX6_thing_47 ?_
  refine va_get (D := (dC, dI)) (ci := 5) (v := .int 4) (C := RX3) (T := TX3) (N := 12) hx hb hts zi_X6_thing_X3 hown hK hP 0 rfl rfl 5 (by decide) (hts (.fieldLink RX6 71 "LockRooms$Room" "thingCount" "I") (by decide +kernel)) (fun _ h9 => h9) rfl dX6_thing_50 ?_
  refine lv_bipush (v := 12) hx hb dX6_thing_53 (by decide) ?_
  refine lv_icmp_ge (tgt := 71) hx hb dX6_thing_55 (by decide) (fun h => absurd h (by decide)) (fun _ => ?_)
  refine lv_aload_n hx hb dX6_thing_58 rfl (lv_at hl 0 rfl) ?_
  refine va_get (D := (dC, dI)) (ci := 8) (v := .ref rm) (C := RX6) (T := TX6) (N := 3) hx hb hts zi_X6_thing_X6 hown hK (zo_R hR0 hS hAr) 0 rfl rfl 0 (by decide) (hts (.fieldLink RX6 12 "LockRooms" "room" "LLockRooms$Room;") (by decide +kernel)) (fun _ h9 => h9) rfl dX6_thing_59 ?_
  refine va_get (D := (dC, dI)) (ci := 5) (v := .ref gm) (C := RX3) (T := TX3) (N := 12) hx hb hts zi_X6_thing_X3 hown hK hP 0 rfl rfl 3 (by decide) (hts (.fieldLink RX6 41 "LockRooms$Room" "games" "LLockRooms$Games;") (by decide +kernel)) (fun _ h9 => h9) rfl dX6_thing_62 ?_
  refine va_get (D := (dC, dI)) (ci := 2) (v := .int 0) (C := RX0) (T := TX0) (N := 7) hx hb hts zi_X6_thing_X0 hown hK (zo_R hR0 hS hAr) 1 rfl rfl 0 (by decide) (hts (.fieldLink RX6 45 "LockRooms$Games" "isRunning" "Z") (by decide +kernel)) (fun _ h9 => h9) rfl dX6_thing_65 ?_
  refine lv_if_eq (tgt := 81) hx hb dX6_thing_68 (by decide) (fun _ => ?_) (fun h => absurd h (by decide))
  refine lv_aload_n hx hb dX6_thing_81 rfl (lv_at hl 0 rfl) ?_
  refine va_get (D := (dC, dI)) (ci := 8) (v := .ref rm) (C := RX6) (T := TX6) (N := 3) hx hb hts zi_X6_thing_X6 hown hK (zo_R hR0 hS hAr) 0 rfl rfl 0 (by decide) (hts (.fieldLink RX6 12 "LockRooms" "room" "LLockRooms$Room;") (by decide +kernel)) (fun _ h9 => h9) rfl dX6_thing_82 ?_
  refine lv_iload_n hx hb dX6_thing_85 rfl (lv_at hl 1 rfl) ?_
  refine lv_iload_n hx hb dX6_thing_86 rfl (lv_at hl 2 rfl) ?_
  have hPr := ((zo_R hR0 hS hAr)).sub (ws' := [(th, .inl (cT, 12, .inr (.inr (.inr (.inr ft)))))]) [2] rfl
  have hPc := hP.sub (ws' := [(rm, .inr (5, [.ref lk, .ref th, .ref pl, .ref gm, .int 2, .int 4, .int 0, .int 0, .int 1, .int 0, .int 0, .int 0])), (t4, .inr (7, [.int 0, .int 0, .int 0, .int 0, .int 0]))]) [0, 1] rfl
  have hDc := hD.sub (ws' := [(rm, .inr (5, [.ref lk, .ref th, .ref pl, .ref gm, .int 2, .int 4, .int 0, .int 0, .int 1, .int 0, .int 0, .int 0])), (t4, .inr (7, [.int 0, .int 0, .int 0, .int 0, .int 0]))]) [0, 1] (by decide) rfl
  have hKc := hK.sub (tys' := [(cT, .object "LockRooms$Thing")]) [0] rfl
  have hFc := va_free (wc := [(rm, .inr (5, [.ref lk, .ref th, .ref pl, .ref gm, .int 2, .int 4, .int 0, .int 0, .int 1, .int 0, .int 0, .int 0])), (t4, .inr (7, [.int 0, .int 0, .int 0, .int 0, .int 0]))]) hD hS hA [0, 1] rfl
  refine va_calli (va_runV (As := [.int (-1), .int 0]) (rest := []) ⟨hx, hb, hml, hown, hts⟩ (cz_QaddThing_4 l dC dI ed H1.size th cT ft t4 rm lk pl gm hkt4) (cwV 2 hts gX6_thing_X3_addThing rfl rfl rfl (by decide +kernel) ⟨Nat.le_of_ble_eq_true rfl, Nat.le_of_ble_eq_true rfl⟩) ⟨zb_blind, va_recv hK hP (ci := 5) (q0 := 0) rfl rfl, fun U hU hW => ⟨rfl, zb_mk hU hW hPr hPc hKc hDc hN hH hS hFc (zx_cons (zx_r (hAr _ (List.mem_of_getElem? (i := 2) rfl)) hDc) zx_nil)⟩⟩ rfl rfl hl.1 rfl (lv_room (Nat.le_of_ble_eq_true rfl)) dX6_thing_87 ⟨Nat.le_of_ble_eq_true rfl, Nat.le_of_ble_eq_true rfl⟩) hS (fun q _ h => hFc q h) hFc (fun r4 u t H3 locs ht hvm hw hB hz1 hk1 hS => ?_)
  obtain rfl : r4 = 4 := hw
  obtain ⟨hP1, hD1, hK1⟩ := hB
  rw [ht] at hP1
  obtain ⟨hP, hD⟩ := va_join (wr := []) (w1 := [(rm, .inr (5, [.ref lk, .ref th, .ref pl, .ref gm, .int 2, .int 5, .int 0, .int 0, .int 1, .int 0, .int 0, .int 0])), (t4, .inr (7, [.int (-1), .int 0, .int 0, .int 0, .int 0]))]) hP hD [0, 1] [] rfl rfl (by decide) (by decide) hk1 hFc hP1 hD1
  have hP : va_P (dC, dI) vwCl [(rm, .inr (5, [.ref lk, .ref th, .ref pl, .ref gm, .int 2, .int 5, .int 0, .int 0, .int 1, .int 0, .int 0, .int 0])), (t4, .inr (7, [.int (-1), .int 0, .int 0, .int 0, .int 0]))] H3 := hP
  have hD : va_D A [(rm, .inr (5, [.ref lk, .ref th, .ref pl, .ref gm, .int 2, .int 5, .int 0, .int 0, .int 1, .int 0, .int 0, .int 0])), (t4, .inr (7, [.int (-1), .int 0, .int 0, .int 0, .int 0]))] := hD
  refine W.widen (k := 0) (n := 0) (Nat.le_of_ble_eq_true rfl) (Nat.le_of_ble_eq_true rfl) ?_
  have hP9 := hP.sub (ws' := [(rm, .inr (5, [.ref lk, .ref th, .ref pl, .ref gm, .int 2, .int 5, .int 0, .int 0, .int 1, .int 0, .int 0, .int 0])), (t4, .inr (7, [.int (-1), .int 0, .int 0, .int 0, .int 0]))]) [0, 1] rfl
  have hD9 := hD.sub (ws' := [(rm, .inr (5, [.ref lk, .ref th, .ref pl, .ref gm, .int 2, .int 5, .int 0, .int 0, .int 1, .int 0, .int 0, .int 0])), (t4, .inr (7, [.int (-1), .int 0, .int 0, .int 0, .int 0]))]) [0, 1] (by decide) rfl
  have hK9 := hK.sub (tys' := []) [] rfl
  exact W.iret hx hb hr (fun t ht hW => ⟨⟨4, (), rfl, rfl, ⟨by rw [ht]; exact hP9, hD9, va_K.moved hW.alike hK9⟩⟩, hS.F ht⟩) hS.2.2 dX6_thing_90
set_option maxHeartbeats 4000000 in
set_option maxRecDepth 100000 in
theorem cz_QL_thing_4 (l : Launch) (dC : Nat → ClassId) (dI : Nat → Nat → Nat) (ed sz : Nat) (x : Nat) (rm : Nat) (tr : Nat) (st : Nat) (gm : Nat) (th : Nat) (cT : ClassId) (ft : Nat → Option Nat) (t4 : Nat) (lk : Nat) (pl : Nat) (ou : Nat) (cQ : ClassId) (fo9 : Nat → Int64) (htr : l.stackTraces = false) (hkt4 : ft 4 = some t4) : vx_Met l yL_thing zwsL_thing ({ frames := 2, cells := 0, slots := 0, locals := 46 } : Jvm.Room) (va_Pc [.ref x, .int (-1), .int 0, .ref ou] (zB dC dI ed sz [(x, .inr (8, [.ref rm, .ref tr, .ref st])), (gm, .inr (2, [.int 0, .int 0, .int 0, .int 0, .int 0, .int (-1), .long 0])), (th, .inl (cT, 12, .inr (.inr (.inr (.inr ft)))))] [(rm, .inr (5, [.ref lk, .ref th, .ref pl, .ref gm, .int 2, .int 4, .int 0, .int 0, .int 1, .int 0, .int 0, .int 0])), (t4, .inr (7, [.int 0, .int 0, .int 0, .int 0, .int 0])), (ou, .inl (cQ, 1, .inr (.inl fo9)))] [(cT, .object "LockRooms$Thing"), (cQ, .long)])) (va_Qi (fun (r : Int32) (_ : Unit) => r = 0) (fun (_ : Unit) (t : State) => ∃ (fo8 : Nat → Int64), (fo8 0 = 4) ∧ va_P (dC, dI) vwCl [(rm, .inr (5, [.ref lk, .ref th, .ref pl, .ref gm, .int 2, .int 5, .int 0, .int 0, .int 1, .int 0, .int 0, .int 0])), (t4, .inr (7, [.int (-1), .int 0, .int 0, .int 0, .int 0])), (ou, .inl (cQ, 1, .inr (.inl fo8)))] t.heap ∧ va_D (va_A [(rm, .inr (5, [.ref lk, .ref th, .ref pl, .ref gm, .int 2, .int 4, .int 0, .int 0, .int 1, .int 0, .int 0, .int 0])), (t4, .inr (7, [.int 0, .int 0, .int 0, .int 0, .int 0])), (ou, .inl (cQ, 1, .inr (.inl fo9)))] sz) [(rm, .inr (5, [.ref lk, .ref th, .ref pl, .ref gm, .int 2, .int 5, .int 0, .int 0, .int 1, .int 0, .int 0, .int 0])), (t4, .inr (7, [.int (-1), .int 0, .int 0, .int 0, .int 0])), (ou, .inl (cQ, 1, .inr (.inl fo8)))] ∧ va_K (dC, dI) vwCl [(cQ, .long)] t) (va_A [(rm, .inr (5, [.ref lk, .ref th, .ref pl, .ref gm, .int 2, .int 4, .int 0, .int 0, .int 1, .int 0, .int 0, .int 0])), (t4, .inr (7, [.int 0, .int 0, .int 0, .int 0, .int 0])), (ou, .inl (cQ, 1, .inr (.inl fo9)))] sz)) (vx_X (fun (_ : Unit) => False) (fun (_ : String) (_ : Unit) (_ : State) => True) (va_A [(rm, .inr (5, [.ref lk, .ref th, .ref pl, .ref gm, .int 2, .int 4, .int 0, .int 0, .int 1, .int 0, .int 0, .int 0])), (t4, .inr (7, [.int 0, .int 0, .int 0, .int 0, .int 0])), (ou, .inl (cQ, 1, .inr (.inl fo9)))] sz)) 0 0 (va_A [(rm, .inr (5, [.ref lk, .ref th, .ref pl, .ref gm, .int 2, .int 4, .int 0, .int 0, .int 1, .int 0, .int 0, .int 0])), (t4, .inr (7, [.int 0, .int 0, .int 0, .int 0, .int 0])), (ou, .inl (cQ, 1, .inr (.inl fo9)))] sz) := by
  refine vx_ofWH (cc := cL_thing) (maxL := 5) (ret := (some .int)) (by decide) rfl ?_
  intro p e s m args below meth c s₁ B hml hv
  obtain ⟨rfl, hsz, hR0, hP, hK, hD0, hN, hH, hX0⟩ := hv
  have hx := B.exec
  have hb := B.bytes
  have hr := B.returns
  have hts := atoms_spec (ws := zwsL_thing) B.pre
  have hown : s.vm.findClass RL = some m.cls := findClass_of_methodNamed B.named
  have hlocks := B.notSynchronized
  have hex : c.exceptionTable.toList = tableOf [(0, 10, 13, 21), (0, 10, 17, 13), (0, 10, 21, 15)] := vx_table (x := yL_thing) B (hts _ List.mem_cons_self)
  subst hsz
  have hD := hD0.self (sz := s.heap.size)
  have hAr := zx_A hX0 hR0
  generalize hAe : va_A [(rm, .inr (5, [.ref lk, .ref th, .ref pl, .ref gm, .int 2, .int 4, .int 0, .int 0, .int 1, .int 0, .int 0, .int 0])), (t4, .inr (7, [.int 0, .int 0, .int 0, .int 0, .int 0])), (ou, .inl (cQ, 1, .inr (.inl fo9)))] s.heap.size = A at hD hAr hH ⊢
  have hA : ∀ q : Nat, s.heap.size ≤ q → A q := fun q h => by rw [← hAe]; exact Or.inr h
  have hS : va_S A s.heap s.heap [] := va_S.rf
  have hl := lv_entry ([.ref x, .int (-1), .int 0, .ref ou]) (n := 5) (Nat.le_of_ble_eq_true rfl)
  rw [lg_entry_eq]
  generalize (lg_sl ([.ref x, .int (-1), .int 0, .ref ou]) ++ List.replicate (5 - (lg_sl ([.ref x, .int (-1), .int 0, .ref ou])).length) Slot.unset).toArray = ls at hl ⊢
  have hl : lv_has ls 5 [(0, .ref x), (1, .int (-1)), (2, .int 0), (3, .ref ou)] := hl
  refine lv_aload_n hx hb dL_thing_0 rfl (lv_at hl 3 rfl) ?_
  refine lv_iconst (v := 0) hx hb dL_thing_1 (by decide) ?_
  refine lv_aload_n hx hb dL_thing_2 rfl (lv_at hl 0 rfl) ?_
  refine lv_iload_n hx hb dL_thing_3 rfl (lv_at hl 1 rfl) ?_
  refine lv_iload_n hx hb dL_thing_4 rfl (lv_at hl 2 rfl) ?_
  have hPr := (hR0).sub (ws' := [(x, .inr (8, [.ref rm, .ref tr, .ref st])), (gm, .inr (2, [.int 0, .int 0, .int 0, .int 0, .int 0, .int (-1), .long 0])), (th, .inl (cT, 12, .inr (.inr (.inr (.inr ft)))))]) [0, 1, 2] rfl
  have hPc := hP.sub (ws' := [(rm, .inr (5, [.ref lk, .ref th, .ref pl, .ref gm, .int 2, .int 4, .int 0, .int 0, .int 1, .int 0, .int 0, .int 0])), (t4, .inr (7, [.int 0, .int 0, .int 0, .int 0, .int 0]))]) [0, 1] rfl
  have hDc := hD.sub (ws' := [(rm, .inr (5, [.ref lk, .ref th, .ref pl, .ref gm, .int 2, .int 4, .int 0, .int 0, .int 1, .int 0, .int 0, .int 0])), (t4, .inr (7, [.int 0, .int 0, .int 0, .int 0, .int 0]))]) [0, 1] (by decide) rfl
  have hKc := hK.sub (tys' := [(cT, .object "LockRooms$Thing")]) [0] rfl
  have hFc := va_free (wc := [(rm, .inr (5, [.ref lk, .ref th, .ref pl, .ref gm, .int 2, .int 4, .int 0, .int 0, .int 1, .int 0, .int 0, .int 0])), (t4, .inr (7, [.int 0, .int 0, .int 0, .int 0, .int 0]))]) hD hS hA [0, 1] rfl
  refine va_calli (va_runV (As := [.int (-1), .int 0]) (rest := [.int 0, .ref ou]) ⟨hx, hb, hml, hown, hts⟩ (cz_QX6_thing_4 l dC dI ed s.heap.size x rm tr st gm th cT ft t4 lk pl hkt4) (cwV 2 hts zgL_thing_X6_thing rfl rfl rfl (by decide +kernel) ⟨Nat.le_of_ble_eq_true rfl, Nat.le_of_ble_eq_true rfl⟩) ⟨zb_blind, va_recv hK hR0 (ci := 8) (q0 := 0) rfl rfl, fun U hU hW => ⟨rfl, zb_mk hU hW hPr hPc hKc hDc hN hH hS hFc (zx_cons (zx_r (hAr _ (List.mem_of_getElem? (i := 0) rfl)) hDc) (zx_cons (zx_r (hAr _ (List.mem_of_getElem? (i := 1) rfl)) hDc) (zx_cons (zx_r (hAr _ (List.mem_of_getElem? (i := 2) rfl)) hDc) zx_nil)))⟩⟩ rfl rfl hl.1 rfl (lv_room (Nat.le_of_ble_eq_true rfl)) dL_thing_5 ⟨Nat.le_of_ble_eq_true rfl, Nat.le_of_ble_eq_true rfl⟩) hS (fun q _ h => hFc q h) hFc (fun r2 u t H1 locs ht hvm hw hB hz1 hk1 hS => ?_)
  obtain rfl : r2 = 4 := hw
  obtain ⟨hP1, hD1, hK1⟩ := hB
  rw [ht] at hP1
  obtain ⟨hP, hD⟩ := va_join (wr := [(ou, .inl (cQ, 1, .inr (.inl fo9)))]) (w1 := [(rm, .inr (5, [.ref lk, .ref th, .ref pl, .ref gm, .int 2, .int 5, .int 0, .int 0, .int 1, .int 0, .int 0, .int 0])), (t4, .inr (7, [.int (-1), .int 0, .int 0, .int 0, .int 0]))]) hP hD [0, 1] [2] rfl rfl (by decide) (by decide) hk1 hFc hP1 hD1
  have hP : va_P (dC, dI) vwCl [(ou, .inl (cQ, 1, .inr (.inl fo9))), (rm, .inr (5, [.ref lk, .ref th, .ref pl, .ref gm, .int 2, .int 5, .int 0, .int 0, .int 1, .int 0, .int 0, .int 0])), (t4, .inr (7, [.int (-1), .int 0, .int 0, .int 0, .int 0]))] H1 := hP
  have hD : va_D A [(ou, .inl (cQ, 1, .inr (.inl fo9))), (rm, .inr (5, [.ref lk, .ref th, .ref pl, .ref gm, .int 2, .int 5, .int 0, .int 0, .int 1, .int 0, .int 0, .int 0])), (t4, .inr (7, [.int (-1), .int 0, .int 0, .int 0, .int 0]))] := hD
  refine lv_i2l (v := 4) hx hb dL_thing_8 (by decide) ?_
  refine va_last hx hb hK hP hD hS 0 1 rfl rfl (by unfold vp_in; decide) dL_thing_9 (fun H4 locs hP hD hS => ?_)
  obtain ⟨f5, ef5⟩ : ∃ z : Nat → Int64, z = vp_updL fo9 0 4 := ⟨_, rfl⟩
  have k6 : f5 0 = 4 := by rw [ef5]; exact pk_uLs
  have hP : va_P (dC, dI) vwCl [(ou, .inl (cQ, 1, .inr (.inl f5))), (rm, .inr (5, [.ref lk, .ref th, .ref pl, .ref gm, .int 2, .int 5, .int 0, .int 0, .int 1, .int 0, .int 0, .int 0])), (t4, .inr (7, [.int (-1), .int 0, .int 0, .int 0, .int 0]))] H4 := by rw [ef5]; exact hP
  have hD : va_D A [(ou, .inl (cQ, 1, .inr (.inl f5))), (rm, .inr (5, [.ref lk, .ref th, .ref pl, .ref gm, .int 2, .int 5, .int 0, .int 0, .int 1, .int 0, .int 0, .int 0])), (t4, .inr (7, [.int (-1), .int 0, .int 0, .int 0, .int 0]))] := by rw [ef5]; exact hD
  refine lv_goto (tgt := 25) hx hb dL_thing_10 (by decide) ?_
  refine lv_iconst (v := 0) hx hb dL_thing_25 (by decide) ?_
  refine vx_ret ?_
  refine W.widen (k := 0) (n := 0) (Nat.le_of_ble_eq_true rfl) (Nat.le_of_ble_eq_true rfl) ?_
  have hP9 := hP.sub (ws' := [(rm, .inr (5, [.ref lk, .ref th, .ref pl, .ref gm, .int 2, .int 5, .int 0, .int 0, .int 1, .int 0, .int 0, .int 0])), (t4, .inr (7, [.int (-1), .int 0, .int 0, .int 0, .int 0])), (ou, .inl (cQ, 1, .inr (.inl f5)))]) [1, 2, 0] rfl
  have hD9 := hD.sub (ws' := [(rm, .inr (5, [.ref lk, .ref th, .ref pl, .ref gm, .int 2, .int 5, .int 0, .int 0, .int 1, .int 0, .int 0, .int 0])), (t4, .inr (7, [.int (-1), .int 0, .int 0, .int 0, .int 0])), (ou, .inl (cQ, 1, .inr (.inl f5)))]) [1, 2, 0] (by decide) rfl
  have hK9 := hK.sub (tys' := [(cQ, .long)]) [1] rfl
  exact W.iret hx hb hr (fun t ht hW => ⟨⟨0, (), rfl, rfl, ⟨f5, k6, by rw [ht]; exact hP9, hD9, va_K.moved hW.alike hK9⟩⟩, hS.F ht⟩) hS.2.2 dL_thing_26
set_option maxHeartbeats 4000000 in
set_option maxRecDepth 100000 in
theorem cz_QX8_thing_4 (l : Launch) (dC : Nat → ClassId) (dI : Nat → Nat → Nat) (ed sz : Nat) (mr : Nat) (ll : Nat) (lt : Nat) (lp : Nat) (mo : Nat) (x9 : Int32) (s9 : Int64) (ota : Nat) (cOt : ClassId) (fot : Nat → Option Nat) (ta0 : Nat) (ta1 : Nat) (ta2 : Nat) (ta3 : Nat) (hot0 : fot 0 = some ta0) (hot1 : fot 1 = some ta1) (hot2 : fot 2 = some ta2) (hot3 : fot 3 = some ta3) : Met l yX8_thing wsX8_thing ({ frames := 2, cells := 1, slots := 5, locals := 44 } : Jvm.Room) (va_Pc [.ref mo, .int (-1), .int 0] (zB dC dI ed sz [(mr, .inr (9, [.ref ll, .ref lt, .ref lp, .int 0, .int 0, .int 0, .int 0, .int 0, .int 0, .int 0, .int (-1), .int 0, .int 0, .int 0]))] [(mo, .inr (10, [.int x9, .ref mr, .int 1, .long s9])), (lt, .inr (1, [.int 4, .ref ota, .int 4])), (ota, .inl (cOt, 10, .inr (.inr (.inr (.inr fot)))))] [(cOt, .object "java/lang/Object")])) (va_Qi (fun (r : Int32) (_ : Unit) => r = 4) (fun (_ : Unit) (t : State) => ∃ (go : Nat → Option Nat), ∃ (ta4 : Nat), ∃ (cB4 : ClassId), ∃ (fb4 : Nat → Int32), (go 0 = some ta0 ∧ go 1 = some ta1 ∧ go 2 = some ta2 ∧ go 3 = some ta3 ∧ go 4 = some ta4 ∧ fb4 0 = (-1) ∧ fb4 1 = 0 ∧ fb4 2 = 0 ∧ fb4 3 = 0 ∧ fb4 4 = 0) ∧ va_P (dC, dI) vwCl [(mo, .inr (10, [.int 0, .ref mr, .int 1, .long s9])), (lt, .inr (1, [.int 5, .ref ota, .int 5])), (ota, .inl (cOt, 10, .inr (.inr (.inr (.inr go))))), (ta4, .inl (cB4, 5, .inl fb4))] t.heap ∧ va_D (va_A [(mo, .inr (10, [.int x9, .ref mr, .int 1, .long s9])), (lt, .inr (1, [.int 4, .ref ota, .int 4])), (ota, .inl (cOt, 10, .inr (.inr (.inr (.inr fot)))))] sz) [(mo, .inr (10, [.int 0, .ref mr, .int 1, .long s9])), (lt, .inr (1, [.int 5, .ref ota, .int 5])), (ota, .inl (cOt, 10, .inr (.inr (.inr (.inr go))))), (ta4, .inl (cB4, 5, .inl fb4))] ∧ va_K (dC, dI) vwCl [(cOt, .object "java/lang/Object"), (cB4, .int)] t) (va_A [(mo, .inr (10, [.int x9, .ref mr, .int 1, .long s9])), (lt, .inr (1, [.int 4, .ref ota, .int 4])), (ota, .inl (cOt, 10, .inr (.inr (.inr (.inr fot)))))] sz)) 1 5 (va_A [(mo, .inr (10, [.int x9, .ref mr, .int 1, .long s9])), (lt, .inr (1, [.int 4, .ref ota, .int 4])), (ota, .inl (cOt, 10, .inr (.inr (.inr (.inr fot)))))] sz) := by
  refine Met.ofW (cc := cX8_thing) (maxL := 4) (ret := (some .int)) (by decide) rfl ?_
  intro p e s m args below meth c s₁ B hml hv
  obtain ⟨rfl, hsz, hR0, hP, hK, hD0, hN, hH, hX0⟩ := hv
  have hx := B.exec
  have hb := B.bytes
  have hr := B.returns
  have hts := atoms_spec (ws := wsX8_thing) B.pre
  have hown : s.vm.findClass RX8 = some m.cls := findClass_of_methodNamed B.named
  have hlocks := B.notSynchronized
  subst hsz
  have hD := hD0.self (sz := s.heap.size)
  have hAr := zx_A hX0 hR0
  generalize hAe : va_A [(mo, .inr (10, [.int x9, .ref mr, .int 1, .long s9])), (lt, .inr (1, [.int 4, .ref ota, .int 4])), (ota, .inl (cOt, 10, .inr (.inr (.inr (.inr fot)))))] s.heap.size = A at hD hAr hH ⊢
  have hA : ∀ q : Nat, s.heap.size ≤ q → A q := fun q h => by rw [← hAe]; exact Or.inr h
  have hS : va_S A s.heap s.heap [] := va_S.rf
  have hl := lv_entry ([.ref mo, .int (-1), .int 0]) (n := 4) (Nat.le_of_ble_eq_true rfl)
  rw [lg_entry_eq]
  generalize (lg_sl ([.ref mo, .int (-1), .int 0]) ++ List.replicate (4 - (lg_sl ([.ref mo, .int (-1), .int 0])).length) Slot.unset).toArray = ls at hl ⊢
  have hl : lv_has ls 4 [(0, .ref mo), (1, .int (-1)), (2, .int 0)] := hl
  refine lv_aload_n hx hb dX8_thing_0 rfl (lv_at hl 0 rfl) ?_
  refine lv_iconst (v := 0) hx hb dX8_thing_1 (by decide) ?_
  refine va_put (D := (dC, dI)) (ci := 10) (v := .int 0) (ty := .int) (C := RX8) (T := TX8) (N := 4) hx hb hts zi_X8_thing_X8 tyX8 tyX8_ok nmX8 hown hK hP hD hS 0 rfl rfl 0 (by decide) (hts (.fieldLink RX8 20 "LockRoomsModel" "thrown" "I") (by decide +kernel)) (fun _ h9 => h9) rfl (by decide +kernel) rfl rfl (Nat.le_of_ble_eq_true rfl) dX8_thing_2 (fun H1 locs hP hD hS => ?_)
  have hP : va_P (dC, dI) vwCl [(mo, .inr (10, [.int 0, .ref mr, .int 1, .long s9])), (lt, .inr (1, [.int 4, .ref ota, .int 4])), (ota, .inl (cOt, 10, .inr (.inr (.inr (.inr fot)))))] H1 := hP
  have hD : va_D A [(mo, .inr (10, [.int 0, .ref mr, .int 1, .long s9])), (lt, .inr (1, [.int 4, .ref ota, .int 4])), (ota, .inl (cOt, 10, .inr (.inr (.inr (.inr fot)))))] := hD
  refine lv_iload_n hx hb dX8_thing_5 rfl (lv_at hl 1 rfl) ?_
  refine lv_iconst (v := (-1)) hx hb dX8_thing_6 (by decide) ?_
  refine lv_icmp_eq (tgt := 24) hx hb dX8_thing_7 (by decide) (fun _ => ?_) (fun h => absurd h (by decide))
  refine lv_iload_n hx hb dX8_thing_24 rfl (lv_at hl 2 rfl) ?_
  refine lv_iconst (v := 0) hx hb dX8_thing_25 (by decide) ?_
  refine lv_bipush (v := 9) hx hb dX8_thing_26 (by decide) ?_
  have hPr := (zo_nil : va_P (dC, dI) vwCl [] H1)
  have hPc := hP.sub (ws' := []) [] rfl
  have hDc := hD.sub (ws' := []) [] (by decide) rfl
  have hKc := hK.sub (tys' := []) [] rfl
  have hFc := va_free (wc := []) hD hS hA [] rfl
  refine va_calli (va_runS (As := [.int 0, .int 0, .int 9]) (rest := []) ⟨hx, hb, hml, hown, hts⟩ (cz_QX8_is_0_9 l dC dI ed H1.size ) (va_cwS 3 hts gX8_thing_X8_is rfl rfl rfl (by decide +kernel) ⟨Nat.le_of_ble_eq_true rfl, Nat.le_of_ble_eq_true rfl⟩) ⟨zb_blind, fun U hU hW => ⟨rfl, zb_mk hU hW hPr hPc hKc hDc hN hH hS hFc zx_e⟩⟩ rfl rfl hl.1 rfl (lv_room (Nat.le_of_ble_eq_true rfl)) dX8_thing_28 ⟨Nat.le_of_ble_eq_true rfl, Nat.le_of_ble_eq_true rfl⟩) hS (fun q _ h => hFc q h) hFc (fun r3 u t H2 locs ht hvm hw hB hz1 hk1 hS => ?_)
  obtain rfl : r3 = 1 := hw
  have hP := zo_K hP hk1
  refine lv_if_ne (tgt := 40) hx hb dX8_thing_31 (by decide) (fun _ => ?_) (fun h => absurd h (by decide))
  refine lv_aload_n hx hb dX8_thing_40 rfl (lv_at hl 0 rfl) ?_
  refine va_get (D := (dC, dI)) (ci := 10) (v := .ref mr) (C := RX8) (T := TX8) (N := 4) hx hb hts zi_X8_thing_X8 hown hK hP 0 rfl rfl 1 (by decide) (hts (.fieldLink RX8 10 "LockRoomsModel" "room" "LLockRoomsModel$Room;") (by decide +kernel)) (fun _ h9 => h9) rfl dX8_thing_41 ?_
  refine va_getN (D := (dC, dI)) (ci := 9) (v := .ref lt) (C := RX7) (T := TX7) (N := 14) hx hb hts zi_X8_thing_X7 hown hK (zo_R hR0 hS hAr) 0 rfl rfl 1 (by decide) (va_Nw.use rfl (hN.1 ("LockRoomsModel", 38, "LockRoomsModel$Room", "things", "Ljava/util/ArrayList;", "LockRoomsModel") (List.mem_of_getElem? (i := 2) rfl))) (fun _ h9 => h9) rfl dX8_thing_44 ?_
  have hPr := (hP).sub (ws' := [(lt, .inr (1, [.int 4, .ref ota, .int 4]))]) [1] rfl
  have hPc := hP.sub (ws' := []) [] rfl
  have hDc := hD.sub (ws' := []) [] (by decide) rfl
  have hKc := hK.sub (tys' := []) [] rfl
  have hFc := va_free (wc := []) hD hS hA [] rfl
  refine va_calli (va_runV (As := []) (rest := []) ⟨hx, hb, hml, hown, hts⟩ (cz_Qsize l dC dI ed H2.size lt 4 ota 4) (cwV 0 hts gX8_thing_Jx4a65c_size_8abf5 rfl rfl rfl (by decide +kernel) ⟨Nat.le_of_ble_eq_true rfl, Nat.le_of_ble_eq_true rfl⟩) ⟨zb_blind, va_recv hK hP (ci := 1) (q0 := 1) rfl rfl, fun U hU hW => ⟨rfl, zb_mk hU hW hPr hPc hKc hDc hN hH hS hFc zx_e⟩⟩ rfl rfl hl.1 rfl (lv_room (Nat.le_of_ble_eq_true rfl)) dX8_thing_47 ⟨Nat.le_of_ble_eq_true rfl, Nat.le_of_ble_eq_true rfl⟩) hS (fun q _ h => hFc q h) hFc (fun r5 u t H4 locs ht hvm hw hB hz1 hk1 hS => ?_)
  obtain rfl : r5 = 4 := hw.trans (by decide +kernel)
  have hP := zo_K hP hk1
  refine lv_bipush (v := 12) hx hb dX8_thing_50 (by decide) ?_
  refine lv_icmp_eq (tgt := 65) hx hb dX8_thing_52 (by decide) (fun h => absurd h (by decide)) (fun _ => ?_)
  refine lv_aload_n hx hb dX8_thing_55 rfl (lv_at hl 0 rfl) ?_
  refine va_get (D := (dC, dI)) (ci := 10) (v := .ref mr) (C := RX8) (T := TX8) (N := 4) hx hb hts zi_X8_thing_X8 hown hK hP 0 rfl rfl 1 (by decide) (hts (.fieldLink RX8 10 "LockRoomsModel" "room" "LLockRoomsModel$Room;") (by decide +kernel)) (fun _ h9 => h9) rfl dX8_thing_56 ?_
  refine va_getN (D := (dC, dI)) (ci := 9) (v := .int 0) (C := RX7) (T := TX7) (N := 14) hx hb hts zi_X8_thing_X7 hown hK (zo_R hR0 hS hAr) 0 rfl rfl 5 (by decide) (va_Nw.use rfl (hN.1 ("LockRoomsModel", 45, "LockRoomsModel$Room", "isRunning", "Z", "LockRoomsModel") (List.mem_of_getElem? (i := 6) rfl))) (fun _ h9 => h9) rfl dX8_thing_59 ?_
  refine lv_if_eq (tgt := 71) hx hb dX8_thing_62 (by decide) (fun _ => ?_) (fun h => absurd h (by decide))
  refine lv_iconst (v := 5) hx hb dX8_thing_71 (by decide) ?_
  refine va_newa (atype := .int) (a0 := (5, .inl (fun _ => 0))) hx hb (hts (.arrayClass .int) (by decide +kernel)) rfl hK hP hD hS hA (fun cA => rfl) (by decide) (N' := 5) (by decide) (by decide) (Nat.le_of_ble_eq_true rfl) (Nat.le_of_ble_eq_true rfl) dX8_thing_72 (fun q6 cA8 H7 hK hP hD hS => ?_)
  have hP : va_P (dC, dI) vwCl [(mo, .inr (10, [.int 0, .ref mr, .int 1, .long s9])), (lt, .inr (1, [.int 4, .ref ota, .int 4])), (ota, .inl (cOt, 10, .inr (.inr (.inr (.inr fot))))), (q6, .inl (cA8, 5, .inl (fun _ => 0)))] H7 := hP
  have hD : va_D A [(mo, .inr (10, [.int 0, .ref mr, .int 1, .long s9])), (lt, .inr (1, [.int 4, .ref ota, .int 4])), (ota, .inl (cOt, 10, .inr (.inr (.inr (.inr fot))))), (q6, .inl (cA8, 5, .inl (fun _ => 0)))] := hD
  refine lv_astore_n (lv' := [(3, .ref q6), (0, .ref mo), (1, .int (-1)), (2, .int 0)]) hx hb dX8_thing_74 rfl hl (by decide) rfl (fun ls hl => ?_)
  refine lv_aload_n hx hb dX8_thing_75 rfl (lv_at hl 0 rfl) ?_
  refine lv_iconst (v := 0) hx hb dX8_thing_76 (by decide) ?_
  refine lv_iload_n hx hb dX8_thing_77 rfl (lv_at hl 2 rfl) ?_
  refine va_iast hx hb hK hP hD hS 3 1 rfl rfl (by unfold vp_in; decide) dX8_thing_78 (fun H10 locs hP hD hS => ?_)
  obtain ⟨f11, ef11⟩ : ∃ z : Nat → Int32, z = upd (fun _ => 0) 0 (-1) := ⟨_, rfl⟩
  have k12 : f11 1 = 0 := by rw [ef11]; exact (pk_un (by decide)).trans (rfl)
  have k13 : f11 2 = 0 := by rw [ef11]; exact (pk_un (by decide)).trans (rfl)
  have k14 : f11 3 = 0 := by rw [ef11]; exact (pk_un (by decide)).trans (rfl)
  have k15 : f11 4 = 0 := by rw [ef11]; exact (pk_un (by decide)).trans (rfl)
  have k16 : f11 0 = (-1) := by rw [ef11]; exact pk_us
  have hP : va_P (dC, dI) vwCl [(mo, .inr (10, [.int 0, .ref mr, .int 1, .long s9])), (lt, .inr (1, [.int 4, .ref ota, .int 4])), (ota, .inl (cOt, 10, .inr (.inr (.inr (.inr fot))))), (q6, .inl (cA8, 5, .inl f11))] H10 := by rw [ef11]; exact hP
  have hD : va_D A [(mo, .inr (10, [.int 0, .ref mr, .int 1, .long s9])), (lt, .inr (1, [.int 4, .ref ota, .int 4])), (ota, .inl (cOt, 10, .inr (.inr (.inr (.inr fot))))), (q6, .inl (cA8, 5, .inl f11))] := by rw [ef11]; exact hD
  refine lv_aload_n hx hb dX8_thing_79 rfl (lv_at hl 0 rfl) ?_
  refine lv_iconst (v := 1) hx hb dX8_thing_80 (by decide) ?_
  refine lv_iload_n hx hb dX8_thing_81 rfl (lv_at hl 3 rfl) ?_
  refine va_iast hx hb hK hP hD hS 3 1 rfl rfl (by unfold vp_in; decide) dX8_thing_82 (fun H17 locs hP hD hS => ?_)
  obtain ⟨f18, ef18⟩ : ∃ z : Nat → Int32, z = upd f11 1 0 := ⟨_, rfl⟩
  have k19 : f18 2 = 0 := by rw [ef18]; exact (pk_un (by decide)).trans (k13)
  have k20 : f18 3 = 0 := by rw [ef18]; exact (pk_un (by decide)).trans (k14)
  have k21 : f18 4 = 0 := by rw [ef18]; exact (pk_un (by decide)).trans (k15)
  have k22 : f18 0 = (-1) := by rw [ef18]; exact (pk_un (by decide)).trans (k16)
  have k23 : f18 1 = 0 := by rw [ef18]; exact pk_us
  have hP : va_P (dC, dI) vwCl [(mo, .inr (10, [.int 0, .ref mr, .int 1, .long s9])), (lt, .inr (1, [.int 4, .ref ota, .int 4])), (ota, .inl (cOt, 10, .inr (.inr (.inr (.inr fot))))), (q6, .inl (cA8, 5, .inl f18))] H17 := by rw [ef18]; exact hP
  have hD : va_D A [(mo, .inr (10, [.int 0, .ref mr, .int 1, .long s9])), (lt, .inr (1, [.int 4, .ref ota, .int 4])), (ota, .inl (cOt, 10, .inr (.inr (.inr (.inr fot))))), (q6, .inl (cA8, 5, .inl f18))] := by rw [ef18]; exact hD
  refine lv_aload_n hx hb dX8_thing_83 rfl (lv_at hl 1 rfl) ?_
  refine va_get (D := (dC, dI)) (ci := 10) (v := .ref mr) (C := RX8) (T := TX8) (N := 4) hx hb hts zi_X8_thing_X8 hown hK hP 0 rfl rfl 1 (by decide) (hts (.fieldLink RX8 10 "LockRoomsModel" "room" "LLockRoomsModel$Room;") (by decide +kernel)) (fun _ h9 => h9) rfl dX8_thing_84 ?_
  refine va_getN (D := (dC, dI)) (ci := 9) (v := .ref lt) (C := RX7) (T := TX7) (N := 14) hx hb hts zi_X8_thing_X7 hown hK (zo_R hR0 hS hAr) 0 rfl rfl 1 (by decide) (va_Nw.use rfl (hN.1 ("LockRoomsModel", 38, "LockRoomsModel$Room", "things", "Ljava/util/ArrayList;", "LockRoomsModel") (List.mem_of_getElem? (i := 2) rfl))) (fun _ h9 => h9) rfl dX8_thing_87 ?_
  refine lv_aload_n hx hb dX8_thing_90 rfl (lv_at hl 0 rfl) ?_
  have hPr := (hP).sub (ws' := [(q6, .inl (cA8, 5, .inl f18))]) [3] rfl
  have hPc := hP.sub (ws' := [(lt, .inr (1, [.int 4, .ref ota, .int 4])), (ota, .inl (cOt, 10, .inr (.inr (.inr (.inr fot)))))]) [1, 2] rfl
  have hDc := hD.sub (ws' := [(lt, .inr (1, [.int 4, .ref ota, .int 4])), (ota, .inl (cOt, 10, .inr (.inr (.inr (.inr fot)))))]) [1, 2] (by decide) rfl
  have hKc := hK.sub (tys' := [(cA8, .int), (cOt, .object "java/lang/Object")]) [1, 0] rfl
  have hFc := va_free (wc := [(lt, .inr (1, [.int 4, .ref ota, .int 4])), (ota, .inl (cOt, 10, .inr (.inr (.inr (.inr fot)))))]) hD hS hA [1, 2] rfl
  refine va_calli (va_runV (As := [.ref q6]) (rest := []) ⟨hx, hb, hml, hown, hts⟩ (cz_Qadd_4 l dC dI ed H17.size q6 cA8 5 f18 lt ota cOt fot ta0 ta1 ta2 ta3 hot0 hot1 hot2 hot3) (cwV 1 hts gX8_thing_Jx4a65c_add_9ea2d rfl rfl rfl (by decide +kernel) ⟨Nat.le_of_ble_eq_true rfl, Nat.le_of_ble_eq_true rfl⟩) ⟨zb_blind, va_recv hK hP (ci := 1) (q0 := 1) rfl rfl, fun U hU hW => ⟨rfl, zb_mk hU hW hPr hPc hKc hDc hN hH hS hFc (zx_cons (zx_o hD 3 [1, 2] rfl rfl (by decide)) zx_nil)⟩⟩ rfl rfl hl.1 rfl (lv_room (Nat.le_of_ble_eq_true rfl)) dX8_thing_91 ⟨Nat.le_of_ble_eq_true rfl, Nat.le_of_ble_eq_true rfl⟩) hS (fun q _ h => hFc q h) hFc (fun r25 u t H24 locs ht hvm hw hB hz1 hk1 hS => ?_)
  obtain rfl : r25 = 1 := hw
  obtain ⟨go_26, ⟨k26_0, k26_1, k26_2, k26_3, k26_4⟩, hP1, hD1, hK1⟩ := hB
  rw [ht] at hP1
  obtain ⟨hP, hD⟩ := va_join (wr := [(mo, .inr (10, [.int 0, .ref mr, .int 1, .long s9])), (q6, .inl (cA8, 5, .inl f18))]) (w1 := [(lt, .inr (1, [.int 5, .ref ota, .int 5])), (ota, .inl (cOt, 10, .inr (.inr (.inr (.inr go_26)))))]) hP hD [1, 2] [0, 3] rfl rfl (by decide) (by decide) hk1 hFc hP1 hD1
  have hP : va_P (dC, dI) vwCl [(mo, .inr (10, [.int 0, .ref mr, .int 1, .long s9])), (q6, .inl (cA8, 5, .inl f18)), (lt, .inr (1, [.int 5, .ref ota, .int 5])), (ota, .inl (cOt, 10, .inr (.inr (.inr (.inr go_26)))))] H24 := hP
  have hD : va_D A [(mo, .inr (10, [.int 0, .ref mr, .int 1, .long s9])), (q6, .inl (cA8, 5, .inl f18)), (lt, .inr (1, [.int 5, .ref ota, .int 5])), (ota, .inl (cOt, 10, .inr (.inr (.inr (.inr go_26)))))] := hD
  refine lv_pop hx hb dX8_thing_94 rfl ?_
  refine lv_aload_n hx hb dX8_thing_95 rfl (lv_at hl 1 rfl) ?_
  refine va_get (D := (dC, dI)) (ci := 10) (v := .ref mr) (C := RX8) (T := TX8) (N := 4) hx hb hts zi_X8_thing_X8 hown hK hP 0 rfl rfl 1 (by decide) (hts (.fieldLink RX8 10 "LockRoomsModel" "room" "LLockRoomsModel$Room;") (by decide +kernel)) (fun _ h9 => h9) rfl dX8_thing_96 ?_
  refine va_getN (D := (dC, dI)) (ci := 9) (v := .ref lt) (C := RX7) (T := TX7) (N := 14) hx hb hts zi_X8_thing_X7 hown hK (zo_R hR0 hS hAr) 0 rfl rfl 1 (by decide) (va_Nw.use rfl (hN.1 ("LockRoomsModel", 38, "LockRoomsModel$Room", "things", "Ljava/util/ArrayList;", "LockRoomsModel") (List.mem_of_getElem? (i := 2) rfl))) (fun _ h9 => h9) rfl dX8_thing_99 ?_
  have hPr := (hP).sub (ws' := [(lt, .inr (1, [.int 5, .ref ota, .int 5]))]) [2] rfl
  have hPc := hP.sub (ws' := []) [] rfl
  have hDc := hD.sub (ws' := []) [] (by decide) rfl
  have hKc := hK.sub (tys' := []) [] rfl
  have hFc := va_free (wc := []) hD hS hA [] rfl
  refine va_calli (va_runV (As := []) (rest := []) ⟨hx, hb, hml, hown, hts⟩ (cz_Qsize l dC dI ed H24.size lt 5 ota 5) (cwV 0 hts gX8_thing_Jx4a65c_size_8abf5 rfl rfl rfl (by decide +kernel) ⟨Nat.le_of_ble_eq_true rfl, Nat.le_of_ble_eq_true rfl⟩) ⟨zb_blind, va_recv hK hP (ci := 1) (q0 := 2) rfl rfl, fun U hU hW => ⟨rfl, zb_mk hU hW hPr hPc hKc hDc hN hH hS hFc zx_e⟩⟩ rfl rfl hl.1 rfl (lv_room (Nat.le_of_ble_eq_true rfl)) dX8_thing_102 ⟨Nat.le_of_ble_eq_true rfl, Nat.le_of_ble_eq_true rfl⟩) hS (fun q _ h => hFc q h) hFc (fun r28 u t H27 locs ht hvm hw hB hz1 hk1 hS => ?_)
  obtain rfl : r28 = 5 := hw.trans (by decide +kernel)
  have hP := zo_K hP hk1
  refine lv_iconst (v := 1) hx hb dX8_thing_105 (by decide) ?_
  refine lv_isub hx hb dX8_thing_106 ?_
  refine zo_i (v := 4) (by decide) ?_
  refine W.widen (k := 1) (n := 5) (Nat.le_of_ble_eq_true rfl) (Nat.le_of_ble_eq_true rfl) ?_
  have hP9 := hP.sub (ws' := [(mo, .inr (10, [.int 0, .ref mr, .int 1, .long s9])), (lt, .inr (1, [.int 5, .ref ota, .int 5])), (ota, .inl (cOt, 10, .inr (.inr (.inr (.inr go_26))))), (q6, .inl (cA8, 5, .inl f18))]) [0, 2, 3, 1] rfl
  have hD9 := hD.sub (ws' := [(mo, .inr (10, [.int 0, .ref mr, .int 1, .long s9])), (lt, .inr (1, [.int 5, .ref ota, .int 5])), (ota, .inl (cOt, 10, .inr (.inr (.inr (.inr go_26))))), (q6, .inl (cA8, 5, .inl f18))]) [0, 2, 3, 1] (by decide) rfl
  have hK9 := hK.sub (tys' := [(cOt, .object "java/lang/Object"), (cA8, .int)]) [0, 1] rfl
  exact W.iret hx hb hr (fun t ht hW => ⟨⟨4, (), rfl, rfl, ⟨go_26, q6, cA8, f18, ⟨k26_0, k26_1, k26_2, k26_3, k26_4, k22, k23, k19, k20, k21⟩, by rw [ht]; exact hP9, hD9, va_K.moved hW.alike hK9⟩⟩, hS.F ht⟩) hS.2.2 dX8_thing_107
set_option maxHeartbeats 4000000 in
set_option maxRecDepth 100000 in
theorem cz_QaddThing_5 (l : Launch) (dC : Nat → ClassId) (dI : Nat → Nat → Nat) (ed sz : Nat) (th : Nat) (cT : ClassId) (ft : Nat → Option Nat) (t5 : Nat) (rm : Nat) (lk : Nat) (pl : Nat) (gm : Nat) (hkt5 : ft 5 = some t5) : Met l yX3_addThing wsX3_addThing ({ frames := 0, cells := 0, slots := 0, locals := 0 } : Jvm.Room) (va_Pc [.ref rm, .int (-1), .int 0] (zB dC dI ed sz [(th, .inl (cT, 12, .inr (.inr (.inr (.inr ft)))))] [(rm, .inr (5, [.ref lk, .ref th, .ref pl, .ref gm, .int 2, .int 5, .int 0, .int 0, .int 1, .int 0, .int 0, .int 0])), (t5, .inr (7, [.int 0, .int 0, .int 0, .int 0, .int 0]))] [(cT, .object "LockRooms$Thing")])) (va_Qi (fun (r : Int32) (_ : Unit) => r = 5) (fun (_ : Unit) (t : State) => va_P (dC, dI) vwCl [(rm, .inr (5, [.ref lk, .ref th, .ref pl, .ref gm, .int 2, .int 6, .int 0, .int 0, .int 1, .int 0, .int 0, .int 0])), (t5, .inr (7, [.int (-1), .int 0, .int 0, .int 0, .int 0]))] t.heap ∧ va_D (va_A [(rm, .inr (5, [.ref lk, .ref th, .ref pl, .ref gm, .int 2, .int 5, .int 0, .int 0, .int 1, .int 0, .int 0, .int 0])), (t5, .inr (7, [.int 0, .int 0, .int 0, .int 0, .int 0]))] sz) [(rm, .inr (5, [.ref lk, .ref th, .ref pl, .ref gm, .int 2, .int 6, .int 0, .int 0, .int 1, .int 0, .int 0, .int 0])), (t5, .inr (7, [.int (-1), .int 0, .int 0, .int 0, .int 0]))] ∧ va_K (dC, dI) vwCl [] t) (va_A [(rm, .inr (5, [.ref lk, .ref th, .ref pl, .ref gm, .int 2, .int 5, .int 0, .int 0, .int 1, .int 0, .int 0, .int 0])), (t5, .inr (7, [.int 0, .int 0, .int 0, .int 0, .int 0]))] sz)) 0 0 (va_A [(rm, .inr (5, [.ref lk, .ref th, .ref pl, .ref gm, .int 2, .int 5, .int 0, .int 0, .int 1, .int 0, .int 0, .int 0])), (t5, .inr (7, [.int 0, .int 0, .int 0, .int 0, .int 0]))] sz) := by
  refine Met.ofW (cc := cX3_addThing) (maxL := 5) (ret := (some .int)) (by decide) rfl ?_
  intro p e s m args below meth c s₁ B hml hv
  obtain ⟨rfl, hsz, hR0, hP, hK, hD0, hN, hH, hX0⟩ := hv
  have hx := B.exec
  have hb := B.bytes
  have hr := B.returns
  have hts := atoms_spec (ws := wsX3_addThing) B.pre
  have hown : s.vm.findClass RX3 = some m.cls := findClass_of_methodNamed B.named
  have hlocks := B.notSynchronized
  subst hsz
  have hD := hD0.self (sz := s.heap.size)
  have hAr := zx_A hX0 hR0
  generalize hAe : va_A [(rm, .inr (5, [.ref lk, .ref th, .ref pl, .ref gm, .int 2, .int 5, .int 0, .int 0, .int 1, .int 0, .int 0, .int 0])), (t5, .inr (7, [.int 0, .int 0, .int 0, .int 0, .int 0]))] s.heap.size = A at hD hAr hH ⊢
  have hA : ∀ q : Nat, s.heap.size ≤ q → A q := fun q h => by rw [← hAe]; exact Or.inr h
  have hS : va_S A s.heap s.heap [] := va_S.rf
  have hl := lv_entry ([.ref rm, .int (-1), .int 0]) (n := 5) (Nat.le_of_ble_eq_true rfl)
  rw [lg_entry_eq]
  generalize (lg_sl ([.ref rm, .int (-1), .int 0]) ++ List.replicate (5 - (lg_sl ([.ref rm, .int (-1), .int 0])).length) Slot.unset).toArray = ls at hl ⊢
  have hl : lv_has ls 5 [(0, .ref rm), (1, .int (-1)), (2, .int 0)] := hl
  refine lv_aload_n hx hb dX3_addThing_0 rfl (lv_at hl 0 rfl) ?_
  refine va_get (D := (dC, dI)) (ci := 5) (v := .int 5) (C := RX3) (T := TX3) (N := 12) hx hb hts zi_X3_addThing_X3 hown hK hP 0 rfl rfl 5 (by decide) (hts (.fieldLink RX3 54 "LockRooms$Room" "thingCount" "I") (by decide +kernel)) (fun _ h9 => h9) rfl dX3_addThing_1 ?_
  refine lv_istore_n (lv' := [(3, .int 5), (0, .ref rm), (1, .int (-1)), (2, .int 0)]) hx hb dX3_addThing_4 rfl hl (by decide) rfl (fun ls hl => ?_)
  refine lv_iload_n hx hb dX3_addThing_5 rfl (lv_at hl 0 rfl) ?_
  refine lv_bipush (v := 12) hx hb dX3_addThing_6 (by decide) ?_
  refine lv_icmp_lt (tgt := 13) hx hb dX3_addThing_8 (by decide) (fun _ => ?_) (fun h => absurd h (by decide))
  refine lv_aload_n hx hb dX3_addThing_13 rfl (lv_at hl 1 rfl) ?_
  refine va_get (D := (dC, dI)) (ci := 5) (v := .ref th) (C := RX3) (T := TX3) (N := 12) hx hb hts zi_X3_addThing_X3 hown hK hP 0 rfl rfl 1 (by decide) (hts (.fieldLink RX3 19 "LockRooms$Room" "things" "[LLockRooms$Thing;") (by decide +kernel)) (fun _ h9 => h9) rfl dX3_addThing_14 ?_
  refine lv_iload_n hx hb dX3_addThing_17 rfl (lv_at hl 0 rfl) ?_
  refine va_aldq hx hb hK hR0 0 0 rfl rfl (by unfold vp_in; decide) dX3_addThing_18 ?_
  refine zo_q (v := .ref t5) (by rw [show Int32.toNatClampNeg 5 = 5 from by decide, hkt5]; rfl) ?_
  refine lv_astore (lv' := [(4, .ref t5), (3, .int 5), (0, .ref rm), (1, .int (-1)), (2, .int 0)]) hx hb dX3_addThing_19 hl (by decide) rfl (fun ls hl => ?_)
  refine lv_aload hx hb dX3_addThing_21 (lv_at hl 0 rfl) ?_
  refine lv_iload_n hx hb dX3_addThing_23 rfl (lv_at hl 3 rfl) ?_
  refine va_put (D := (dC, dI)) (ci := 7) (v := .int (-1)) (ty := .int) (C := RX5) (T := TX5) (N := 5) hx hb hts zi_X3_addThing_X5 tyX5 tyX5_ok nmX5 hown hK hP hD hS 1 rfl rfl 0 (by decide) (hts (.fieldLink RX3 90 "LockRooms$Thing" "place" "I") (by decide +kernel)) (fun _ h9 => h9) rfl (by decide +kernel) rfl rfl (Nat.le_of_ble_eq_true rfl) dX3_addThing_24 (fun H1 locs hP hD hS => ?_)
  have hP : va_P (dC, dI) vwCl [(rm, .inr (5, [.ref lk, .ref th, .ref pl, .ref gm, .int 2, .int 5, .int 0, .int 0, .int 1, .int 0, .int 0, .int 0])), (t5, .inr (7, [.int (-1), .int 0, .int 0, .int 0, .int 0]))] H1 := hP
  have hD : va_D A [(rm, .inr (5, [.ref lk, .ref th, .ref pl, .ref gm, .int 2, .int 5, .int 0, .int 0, .int 1, .int 0, .int 0, .int 0])), (t5, .inr (7, [.int (-1), .int 0, .int 0, .int 0, .int 0]))] := hD
  refine lv_aload hx hb dX3_addThing_27 (lv_at hl 0 rfl) ?_
  refine lv_iload_n hx hb dX3_addThing_29 rfl (lv_at hl 4 rfl) ?_
  refine va_put (D := (dC, dI)) (ci := 7) (v := .int 0) (ty := .int) (C := RX5) (T := TX5) (N := 5) hx hb hts zi_X3_addThing_X5 tyX5 tyX5_ok nmX5 hown hK hP hD hS 1 rfl rfl 1 (by decide) (hts (.fieldLink RX3 93 "LockRooms$Thing" "hid" "I") (by decide +kernel)) (fun _ h9 => h9) rfl (by decide +kernel) rfl rfl (Nat.le_of_ble_eq_true rfl) dX3_addThing_30 (fun H2 locs hP hD hS => ?_)
  have hP : va_P (dC, dI) vwCl [(rm, .inr (5, [.ref lk, .ref th, .ref pl, .ref gm, .int 2, .int 5, .int 0, .int 0, .int 1, .int 0, .int 0, .int 0])), (t5, .inr (7, [.int (-1), .int 0, .int 0, .int 0, .int 0]))] H2 := hP
  have hD : va_D A [(rm, .inr (5, [.ref lk, .ref th, .ref pl, .ref gm, .int 2, .int 5, .int 0, .int 0, .int 1, .int 0, .int 0, .int 0])), (t5, .inr (7, [.int (-1), .int 0, .int 0, .int 0, .int 0]))] := hD
  refine lv_aload_n hx hb dX3_addThing_33 rfl (lv_at hl 2 rfl) ?_
  refine lv_dup hx hb dX3_addThing_34 rfl ?_
  refine va_get (D := (dC, dI)) (ci := 5) (v := .int 5) (C := RX3) (T := TX3) (N := 12) hx hb hts zi_X3_addThing_X3 hown hK hP 0 rfl rfl 5 (by decide) (hts (.fieldLink RX3 54 "LockRooms$Room" "thingCount" "I") (by decide +kernel)) (fun _ h9 => h9) rfl dX3_addThing_35 ?_
  refine lv_iconst (v := 1) hx hb dX3_addThing_38 (by decide) ?_
  refine lv_iadd hx hb dX3_addThing_39 ?_
  refine zo_i (v := 6) (by decide) ?_
  refine va_put (D := (dC, dI)) (ci := 5) (v := .int 6) (ty := .int) (C := RX3) (T := TX3) (N := 12) hx hb hts zi_X3_addThing_X3 tyX3 tyX3_ok nmX3 hown hK hP hD hS 0 rfl rfl 5 (by decide) (hts (.fieldLink RX3 54 "LockRooms$Room" "thingCount" "I") (by decide +kernel)) (fun _ h9 => h9) rfl (by decide +kernel) rfl rfl (Nat.le_of_ble_eq_true rfl) dX3_addThing_40 (fun H3 locs hP hD hS => ?_)
  have hP : va_P (dC, dI) vwCl [(rm, .inr (5, [.ref lk, .ref th, .ref pl, .ref gm, .int 2, .int 6, .int 0, .int 0, .int 1, .int 0, .int 0, .int 0])), (t5, .inr (7, [.int (-1), .int 0, .int 0, .int 0, .int 0]))] H3 := hP
  have hD : va_D A [(rm, .inr (5, [.ref lk, .ref th, .ref pl, .ref gm, .int 2, .int 6, .int 0, .int 0, .int 1, .int 0, .int 0, .int 0])), (t5, .inr (7, [.int (-1), .int 0, .int 0, .int 0, .int 0]))] := hD
  refine lv_iload_n hx hb dX3_addThing_43 rfl (lv_at hl 1 rfl) ?_
  refine W.widen (k := 0) (n := 0) (Nat.le_of_ble_eq_true rfl) (Nat.le_of_ble_eq_true rfl) ?_
  have hP9 := hP.sub (ws' := [(rm, .inr (5, [.ref lk, .ref th, .ref pl, .ref gm, .int 2, .int 6, .int 0, .int 0, .int 1, .int 0, .int 0, .int 0])), (t5, .inr (7, [.int (-1), .int 0, .int 0, .int 0, .int 0]))]) [0, 1] rfl
  have hD9 := hD.sub (ws' := [(rm, .inr (5, [.ref lk, .ref th, .ref pl, .ref gm, .int 2, .int 6, .int 0, .int 0, .int 1, .int 0, .int 0, .int 0])), (t5, .inr (7, [.int (-1), .int 0, .int 0, .int 0, .int 0]))]) [0, 1] (by decide) rfl
  have hK9 := hK.sub (tys' := []) [] rfl
  exact W.iret hx hb hr (fun t ht hW => ⟨⟨5, (), rfl, rfl, ⟨by rw [ht]; exact hP9, hD9, va_K.moved hW.alike hK9⟩⟩, hS.F ht⟩) hS.2.2 dX3_addThing_44
set_option maxHeartbeats 4000000 in
set_option maxRecDepth 100000 in
theorem cz_QX6_thing_5 (l : Launch) (dC : Nat → ClassId) (dI : Nat → Nat → Nat) (ed sz : Nat) (x : Nat) (rm : Nat) (tr : Nat) (st : Nat) (gm : Nat) (th : Nat) (cT : ClassId) (ft : Nat → Option Nat) (t5 : Nat) (lk : Nat) (pl : Nat) (hkt5 : ft 5 = some t5) : Met l yX6_thing wsX6_thing ({ frames := 1, cells := 0, slots := 0, locals := 24 } : Jvm.Room) (va_Pc [.ref x, .int (-1), .int 0] (zB dC dI ed sz [(x, .inr (8, [.ref rm, .ref tr, .ref st])), (gm, .inr (2, [.int 0, .int 0, .int 0, .int 0, .int 0, .int (-1), .long 0])), (th, .inl (cT, 12, .inr (.inr (.inr (.inr ft)))))] [(rm, .inr (5, [.ref lk, .ref th, .ref pl, .ref gm, .int 2, .int 5, .int 0, .int 0, .int 1, .int 0, .int 0, .int 0])), (t5, .inr (7, [.int 0, .int 0, .int 0, .int 0, .int 0]))] [(cT, .object "LockRooms$Thing")])) (va_Qi (fun (r : Int32) (_ : Unit) => r = 5) (fun (_ : Unit) (t : State) => va_P (dC, dI) vwCl [(rm, .inr (5, [.ref lk, .ref th, .ref pl, .ref gm, .int 2, .int 6, .int 0, .int 0, .int 1, .int 0, .int 0, .int 0])), (t5, .inr (7, [.int (-1), .int 0, .int 0, .int 0, .int 0]))] t.heap ∧ va_D (va_A [(rm, .inr (5, [.ref lk, .ref th, .ref pl, .ref gm, .int 2, .int 5, .int 0, .int 0, .int 1, .int 0, .int 0, .int 0])), (t5, .inr (7, [.int 0, .int 0, .int 0, .int 0, .int 0]))] sz) [(rm, .inr (5, [.ref lk, .ref th, .ref pl, .ref gm, .int 2, .int 6, .int 0, .int 0, .int 1, .int 0, .int 0, .int 0])), (t5, .inr (7, [.int (-1), .int 0, .int 0, .int 0, .int 0]))] ∧ va_K (dC, dI) vwCl [] t) (va_A [(rm, .inr (5, [.ref lk, .ref th, .ref pl, .ref gm, .int 2, .int 5, .int 0, .int 0, .int 1, .int 0, .int 0, .int 0])), (t5, .inr (7, [.int 0, .int 0, .int 0, .int 0, .int 0]))] sz)) 0 0 (va_A [(rm, .inr (5, [.ref lk, .ref th, .ref pl, .ref gm, .int 2, .int 5, .int 0, .int 0, .int 1, .int 0, .int 0, .int 0])), (t5, .inr (7, [.int 0, .int 0, .int 0, .int 0, .int 0]))] sz) := by
  refine Met.ofW (cc := cX6_thing) (maxL := 3) (ret := (some .int)) (by decide) rfl ?_
  intro p e s m args below meth c s₁ B hml hv
  obtain ⟨rfl, hsz, hR0, hP, hK, hD0, hN, hH, hX0⟩ := hv
  have hx := B.exec
  have hb := B.bytes
  have hr := B.returns
  have hts := atoms_spec (ws := wsX6_thing) B.pre
  have hown : s.vm.findClass RX6 = some m.cls := findClass_of_methodNamed B.named
  have hlocks := B.notSynchronized
  subst hsz
  have hD := hD0.self (sz := s.heap.size)
  have hAr := zx_A hX0 hR0
  generalize hAe : va_A [(rm, .inr (5, [.ref lk, .ref th, .ref pl, .ref gm, .int 2, .int 5, .int 0, .int 0, .int 1, .int 0, .int 0, .int 0])), (t5, .inr (7, [.int 0, .int 0, .int 0, .int 0, .int 0]))] s.heap.size = A at hD hAr hH ⊢
  have hA : ∀ q : Nat, s.heap.size ≤ q → A q := fun q h => by rw [← hAe]; exact Or.inr h
  have hS : va_S A s.heap s.heap [] := va_S.rf
  have hl := lv_entry ([.ref x, .int (-1), .int 0]) (n := 3) (Nat.le_of_ble_eq_true rfl)
  rw [lg_entry_eq]
  generalize (lg_sl ([.ref x, .int (-1), .int 0]) ++ List.replicate (3 - (lg_sl ([.ref x, .int (-1), .int 0])).length) Slot.unset).toArray = ls at hl ⊢
  have hl : lv_has ls 3 [(0, .ref x), (1, .int (-1)), (2, .int 0)] := hl
  refine lv_iload_n hx hb dX6_thing_0 rfl (lv_at hl 1 rfl) ?_
  refine lv_iconst (v := (-1)) hx hb dX6_thing_1 (by decide) ?_
  refine lv_icmp_eq (tgt := 26) hx hb dX6_thing_2 (by decide) (fun _ => ?_) (fun h => absurd h (by decide))
  refine lv_iload_n hx hb dX6_thing_26 rfl (lv_at hl 2 rfl) ?_
  refine lv_iconst (v := 0) hx hb dX6_thing_27 (by decide) ?_
  refine lv_bipush (v := 9) hx hb dX6_thing_28 (by decide) ?_
  have hPr := (zo_nil : va_P (dC, dI) vwCl [] s.heap)
  have hPc := hP.sub (ws' := []) [] rfl
  have hDc := hD.sub (ws' := []) [] (by decide) rfl
  have hKc := hK.sub (tys' := []) [] rfl
  have hFc := va_free (wc := []) hD hS hA [] rfl
  refine va_calli (va_runS (As := [.int 0, .int 0, .int 9]) (rest := []) ⟨hx, hb, hml, hown, hts⟩ (cz_QX6_isWithin_0_9 l dC dI ed s.heap.size ) (va_cwS 3 hts gX6_thing_X6_isWithin rfl rfl rfl (by decide +kernel) ⟨Nat.le_of_ble_eq_true rfl, Nat.le_of_ble_eq_true rfl⟩) ⟨zb_blind, fun U hU hW => ⟨rfl, zb_mk hU hW hPr hPc hKc hDc hN hH hS hFc zx_e⟩⟩ rfl rfl hl.1 rfl (lv_room (Nat.le_of_ble_eq_true rfl)) dX6_thing_30 ⟨Nat.le_of_ble_eq_true rfl, Nat.le_of_ble_eq_true rfl⟩) hS (fun q _ h => hFc q h) hFc (fun r2 u t H1 locs ht hvm hw hB hz1 hk1 hS => ?_)
  obtain rfl : r2 = 1 := hw
  have hP := zo_K hP hk1
  refine lv_if_ne (tgt := 46) hx hb dX6_thing_33 (by decide) (fun _ => ?_) (fun h => absurd h (by decide))
  refine lv_aload_n hx hb dX6_thing_46 rfl (lv_at hl 0 rfl) ?_
  refine va_get (D := (dC, dI)) (ci := 8) (v := .ref rm) (C := RX6) (T := TX6) (N := 3) hx hb hts zi_X6_thing_X6 hown hK (zo_R hR0 hS hAr) 0 rfl rfl 0 (by decide) (hts (.fieldLink RX6 12 "LockRooms" "room" "LLockRooms$Room;") (by decide +kernel)) (fun _ h9 => h9) rfl dX6_thing_47 ?_
  refine va_get (D := (dC, dI)) (ci := 5) (v := .int 5) (C := RX3) (T := TX3) (N := 12) hx hb hts zi_X6_thing_X3 hown hK hP 0 rfl rfl 5 (by decide) (hts (.fieldLink RX6 71 "LockRooms$Room" "thingCount" "I") (by decide +kernel)) (fun _ h9 => h9) rfl dX6_thing_50 ?_
  refine lv_bipush (v := 12) hx hb dX6_thing_53 (by decide) ?_
  refine lv_icmp_ge (tgt := 71) hx hb dX6_thing_55 (by decide) (fun h => absurd h (by decide)) (fun _ => ?_)
  refine lv_aload_n hx hb dX6_thing_58 rfl (lv_at hl 0 rfl) ?_
  refine va_get (D := (dC, dI)) (ci := 8) (v := .ref rm) (C := RX6) (T := TX6) (N := 3) hx hb hts zi_X6_thing_X6 hown hK (zo_R hR0 hS hAr) 0 rfl rfl 0 (by decide) (hts (.fieldLink RX6 12 "LockRooms" "room" "LLockRooms$Room;") (by decide +kernel)) (fun _ h9 => h9) rfl dX6_thing_59 ?_
  refine va_get (D := (dC, dI)) (ci := 5) (v := .ref gm) (C := RX3) (T := TX3) (N := 12) hx hb hts zi_X6_thing_X3 hown hK hP 0 rfl rfl 3 (by decide) (hts (.fieldLink RX6 41 "LockRooms$Room" "games" "LLockRooms$Games;") (by decide +kernel)) (fun _ h9 => h9) rfl dX6_thing_62 ?_
  refine va_get (D := (dC, dI)) (ci := 2) (v := .int 0) (C := RX0) (T := TX0) (N := 7) hx hb hts zi_X6_thing_X0 hown hK (zo_R hR0 hS hAr) 1 rfl rfl 0 (by decide) (hts (.fieldLink RX6 45 "LockRooms$Games" "isRunning" "Z") (by decide +kernel)) (fun _ h9 => h9) rfl dX6_thing_65 ?_
  refine lv_if_eq (tgt := 81) hx hb dX6_thing_68 (by decide) (fun _ => ?_) (fun h => absurd h (by decide))
  refine lv_aload_n hx hb dX6_thing_81 rfl (lv_at hl 0 rfl) ?_
  refine va_get (D := (dC, dI)) (ci := 8) (v := .ref rm) (C := RX6) (T := TX6) (N := 3) hx hb hts zi_X6_thing_X6 hown hK (zo_R hR0 hS hAr) 0 rfl rfl 0 (by decide) (hts (.fieldLink RX6 12 "LockRooms" "room" "LLockRooms$Room;") (by decide +kernel)) (fun _ h9 => h9) rfl dX6_thing_82 ?_
  refine lv_iload_n hx hb dX6_thing_85 rfl (lv_at hl 1 rfl) ?_
  refine lv_iload_n hx hb dX6_thing_86 rfl (lv_at hl 2 rfl) ?_
  have hPr := ((zo_R hR0 hS hAr)).sub (ws' := [(th, .inl (cT, 12, .inr (.inr (.inr (.inr ft)))))]) [2] rfl
  have hPc := hP.sub (ws' := [(rm, .inr (5, [.ref lk, .ref th, .ref pl, .ref gm, .int 2, .int 5, .int 0, .int 0, .int 1, .int 0, .int 0, .int 0])), (t5, .inr (7, [.int 0, .int 0, .int 0, .int 0, .int 0]))]) [0, 1] rfl
  have hDc := hD.sub (ws' := [(rm, .inr (5, [.ref lk, .ref th, .ref pl, .ref gm, .int 2, .int 5, .int 0, .int 0, .int 1, .int 0, .int 0, .int 0])), (t5, .inr (7, [.int 0, .int 0, .int 0, .int 0, .int 0]))]) [0, 1] (by decide) rfl
  have hKc := hK.sub (tys' := [(cT, .object "LockRooms$Thing")]) [0] rfl
  have hFc := va_free (wc := [(rm, .inr (5, [.ref lk, .ref th, .ref pl, .ref gm, .int 2, .int 5, .int 0, .int 0, .int 1, .int 0, .int 0, .int 0])), (t5, .inr (7, [.int 0, .int 0, .int 0, .int 0, .int 0]))]) hD hS hA [0, 1] rfl
  refine va_calli (va_runV (As := [.int (-1), .int 0]) (rest := []) ⟨hx, hb, hml, hown, hts⟩ (cz_QaddThing_5 l dC dI ed H1.size th cT ft t5 rm lk pl gm hkt5) (cwV 2 hts gX6_thing_X3_addThing rfl rfl rfl (by decide +kernel) ⟨Nat.le_of_ble_eq_true rfl, Nat.le_of_ble_eq_true rfl⟩) ⟨zb_blind, va_recv hK hP (ci := 5) (q0 := 0) rfl rfl, fun U hU hW => ⟨rfl, zb_mk hU hW hPr hPc hKc hDc hN hH hS hFc (zx_cons (zx_r (hAr _ (List.mem_of_getElem? (i := 2) rfl)) hDc) zx_nil)⟩⟩ rfl rfl hl.1 rfl (lv_room (Nat.le_of_ble_eq_true rfl)) dX6_thing_87 ⟨Nat.le_of_ble_eq_true rfl, Nat.le_of_ble_eq_true rfl⟩) hS (fun q _ h => hFc q h) hFc (fun r4 u t H3 locs ht hvm hw hB hz1 hk1 hS => ?_)
  obtain rfl : r4 = 5 := hw
  obtain ⟨hP1, hD1, hK1⟩ := hB
  rw [ht] at hP1
  obtain ⟨hP, hD⟩ := va_join (wr := []) (w1 := [(rm, .inr (5, [.ref lk, .ref th, .ref pl, .ref gm, .int 2, .int 6, .int 0, .int 0, .int 1, .int 0, .int 0, .int 0])), (t5, .inr (7, [.int (-1), .int 0, .int 0, .int 0, .int 0]))]) hP hD [0, 1] [] rfl rfl (by decide) (by decide) hk1 hFc hP1 hD1
  have hP : va_P (dC, dI) vwCl [(rm, .inr (5, [.ref lk, .ref th, .ref pl, .ref gm, .int 2, .int 6, .int 0, .int 0, .int 1, .int 0, .int 0, .int 0])), (t5, .inr (7, [.int (-1), .int 0, .int 0, .int 0, .int 0]))] H3 := hP
  have hD : va_D A [(rm, .inr (5, [.ref lk, .ref th, .ref pl, .ref gm, .int 2, .int 6, .int 0, .int 0, .int 1, .int 0, .int 0, .int 0])), (t5, .inr (7, [.int (-1), .int 0, .int 0, .int 0, .int 0]))] := hD
  refine W.widen (k := 0) (n := 0) (Nat.le_of_ble_eq_true rfl) (Nat.le_of_ble_eq_true rfl) ?_
  have hP9 := hP.sub (ws' := [(rm, .inr (5, [.ref lk, .ref th, .ref pl, .ref gm, .int 2, .int 6, .int 0, .int 0, .int 1, .int 0, .int 0, .int 0])), (t5, .inr (7, [.int (-1), .int 0, .int 0, .int 0, .int 0]))]) [0, 1] rfl
  have hD9 := hD.sub (ws' := [(rm, .inr (5, [.ref lk, .ref th, .ref pl, .ref gm, .int 2, .int 6, .int 0, .int 0, .int 1, .int 0, .int 0, .int 0])), (t5, .inr (7, [.int (-1), .int 0, .int 0, .int 0, .int 0]))]) [0, 1] (by decide) rfl
  have hK9 := hK.sub (tys' := []) [] rfl
  exact W.iret hx hb hr (fun t ht hW => ⟨⟨5, (), rfl, rfl, ⟨by rw [ht]; exact hP9, hD9, va_K.moved hW.alike hK9⟩⟩, hS.F ht⟩) hS.2.2 dX6_thing_90
set_option maxHeartbeats 4000000 in
set_option maxRecDepth 100000 in
theorem cz_QL_thing_5 (l : Launch) (dC : Nat → ClassId) (dI : Nat → Nat → Nat) (ed sz : Nat) (x : Nat) (rm : Nat) (tr : Nat) (st : Nat) (gm : Nat) (th : Nat) (cT : ClassId) (ft : Nat → Option Nat) (t5 : Nat) (lk : Nat) (pl : Nat) (ou : Nat) (cQ : ClassId) (fo9 : Nat → Int64) (htr : l.stackTraces = false) (hkt5 : ft 5 = some t5) : vx_Met l yL_thing zwsL_thing ({ frames := 2, cells := 0, slots := 0, locals := 46 } : Jvm.Room) (va_Pc [.ref x, .int (-1), .int 0, .ref ou] (zB dC dI ed sz [(x, .inr (8, [.ref rm, .ref tr, .ref st])), (gm, .inr (2, [.int 0, .int 0, .int 0, .int 0, .int 0, .int (-1), .long 0])), (th, .inl (cT, 12, .inr (.inr (.inr (.inr ft)))))] [(rm, .inr (5, [.ref lk, .ref th, .ref pl, .ref gm, .int 2, .int 5, .int 0, .int 0, .int 1, .int 0, .int 0, .int 0])), (t5, .inr (7, [.int 0, .int 0, .int 0, .int 0, .int 0])), (ou, .inl (cQ, 1, .inr (.inl fo9)))] [(cT, .object "LockRooms$Thing"), (cQ, .long)])) (va_Qi (fun (r : Int32) (_ : Unit) => r = 0) (fun (_ : Unit) (t : State) => ∃ (fo8 : Nat → Int64), (fo8 0 = 5) ∧ va_P (dC, dI) vwCl [(rm, .inr (5, [.ref lk, .ref th, .ref pl, .ref gm, .int 2, .int 6, .int 0, .int 0, .int 1, .int 0, .int 0, .int 0])), (t5, .inr (7, [.int (-1), .int 0, .int 0, .int 0, .int 0])), (ou, .inl (cQ, 1, .inr (.inl fo8)))] t.heap ∧ va_D (va_A [(rm, .inr (5, [.ref lk, .ref th, .ref pl, .ref gm, .int 2, .int 5, .int 0, .int 0, .int 1, .int 0, .int 0, .int 0])), (t5, .inr (7, [.int 0, .int 0, .int 0, .int 0, .int 0])), (ou, .inl (cQ, 1, .inr (.inl fo9)))] sz) [(rm, .inr (5, [.ref lk, .ref th, .ref pl, .ref gm, .int 2, .int 6, .int 0, .int 0, .int 1, .int 0, .int 0, .int 0])), (t5, .inr (7, [.int (-1), .int 0, .int 0, .int 0, .int 0])), (ou, .inl (cQ, 1, .inr (.inl fo8)))] ∧ va_K (dC, dI) vwCl [(cQ, .long)] t) (va_A [(rm, .inr (5, [.ref lk, .ref th, .ref pl, .ref gm, .int 2, .int 5, .int 0, .int 0, .int 1, .int 0, .int 0, .int 0])), (t5, .inr (7, [.int 0, .int 0, .int 0, .int 0, .int 0])), (ou, .inl (cQ, 1, .inr (.inl fo9)))] sz)) (vx_X (fun (_ : Unit) => False) (fun (_ : String) (_ : Unit) (_ : State) => True) (va_A [(rm, .inr (5, [.ref lk, .ref th, .ref pl, .ref gm, .int 2, .int 5, .int 0, .int 0, .int 1, .int 0, .int 0, .int 0])), (t5, .inr (7, [.int 0, .int 0, .int 0, .int 0, .int 0])), (ou, .inl (cQ, 1, .inr (.inl fo9)))] sz)) 0 0 (va_A [(rm, .inr (5, [.ref lk, .ref th, .ref pl, .ref gm, .int 2, .int 5, .int 0, .int 0, .int 1, .int 0, .int 0, .int 0])), (t5, .inr (7, [.int 0, .int 0, .int 0, .int 0, .int 0])), (ou, .inl (cQ, 1, .inr (.inl fo9)))] sz) := by
  refine vx_ofWH (cc := cL_thing) (maxL := 5) (ret := (some .int)) (by decide) rfl ?_
  intro p e s m args below meth c s₁ B hml hv
  obtain ⟨rfl, hsz, hR0, hP, hK, hD0, hN, hH, hX0⟩ := hv
  have hx := B.exec
  have hb := B.bytes
  have hr := B.returns
  have hts := atoms_spec (ws := zwsL_thing) B.pre
  have hown : s.vm.findClass RL = some m.cls := findClass_of_methodNamed B.named
  have hlocks := B.notSynchronized
  have hex : c.exceptionTable.toList = tableOf [(0, 10, 13, 21), (0, 10, 17, 13), (0, 10, 21, 15)] := vx_table (x := yL_thing) B (hts _ List.mem_cons_self)
  subst hsz
  have hD := hD0.self (sz := s.heap.size)
  have hAr := zx_A hX0 hR0
  generalize hAe : va_A [(rm, .inr (5, [.ref lk, .ref th, .ref pl, .ref gm, .int 2, .int 5, .int 0, .int 0, .int 1, .int 0, .int 0, .int 0])), (t5, .inr (7, [.int 0, .int 0, .int 0, .int 0, .int 0])), (ou, .inl (cQ, 1, .inr (.inl fo9)))] s.heap.size = A at hD hAr hH ⊢
  have hA : ∀ q : Nat, s.heap.size ≤ q → A q := fun q h => by rw [← hAe]; exact Or.inr h
  have hS : va_S A s.heap s.heap [] := va_S.rf
  have hl := lv_entry ([.ref x, .int (-1), .int 0, .ref ou]) (n := 5) (Nat.le_of_ble_eq_true rfl)
  rw [lg_entry_eq]
  generalize (lg_sl ([.ref x, .int (-1), .int 0, .ref ou]) ++ List.replicate (5 - (lg_sl ([.ref x, .int (-1), .int 0, .ref ou])).length) Slot.unset).toArray = ls at hl ⊢
  have hl : lv_has ls 5 [(0, .ref x), (1, .int (-1)), (2, .int 0), (3, .ref ou)] := hl
  refine lv_aload_n hx hb dL_thing_0 rfl (lv_at hl 3 rfl) ?_
  refine lv_iconst (v := 0) hx hb dL_thing_1 (by decide) ?_
  refine lv_aload_n hx hb dL_thing_2 rfl (lv_at hl 0 rfl) ?_
  refine lv_iload_n hx hb dL_thing_3 rfl (lv_at hl 1 rfl) ?_
  refine lv_iload_n hx hb dL_thing_4 rfl (lv_at hl 2 rfl) ?_
  have hPr := (hR0).sub (ws' := [(x, .inr (8, [.ref rm, .ref tr, .ref st])), (gm, .inr (2, [.int 0, .int 0, .int 0, .int 0, .int 0, .int (-1), .long 0])), (th, .inl (cT, 12, .inr (.inr (.inr (.inr ft)))))]) [0, 1, 2] rfl
  have hPc := hP.sub (ws' := [(rm, .inr (5, [.ref lk, .ref th, .ref pl, .ref gm, .int 2, .int 5, .int 0, .int 0, .int 1, .int 0, .int 0, .int 0])), (t5, .inr (7, [.int 0, .int 0, .int 0, .int 0, .int 0]))]) [0, 1] rfl
  have hDc := hD.sub (ws' := [(rm, .inr (5, [.ref lk, .ref th, .ref pl, .ref gm, .int 2, .int 5, .int 0, .int 0, .int 1, .int 0, .int 0, .int 0])), (t5, .inr (7, [.int 0, .int 0, .int 0, .int 0, .int 0]))]) [0, 1] (by decide) rfl
  have hKc := hK.sub (tys' := [(cT, .object "LockRooms$Thing")]) [0] rfl
  have hFc := va_free (wc := [(rm, .inr (5, [.ref lk, .ref th, .ref pl, .ref gm, .int 2, .int 5, .int 0, .int 0, .int 1, .int 0, .int 0, .int 0])), (t5, .inr (7, [.int 0, .int 0, .int 0, .int 0, .int 0]))]) hD hS hA [0, 1] rfl
  refine va_calli (va_runV (As := [.int (-1), .int 0]) (rest := [.int 0, .ref ou]) ⟨hx, hb, hml, hown, hts⟩ (cz_QX6_thing_5 l dC dI ed s.heap.size x rm tr st gm th cT ft t5 lk pl hkt5) (cwV 2 hts zgL_thing_X6_thing rfl rfl rfl (by decide +kernel) ⟨Nat.le_of_ble_eq_true rfl, Nat.le_of_ble_eq_true rfl⟩) ⟨zb_blind, va_recv hK hR0 (ci := 8) (q0 := 0) rfl rfl, fun U hU hW => ⟨rfl, zb_mk hU hW hPr hPc hKc hDc hN hH hS hFc (zx_cons (zx_r (hAr _ (List.mem_of_getElem? (i := 0) rfl)) hDc) (zx_cons (zx_r (hAr _ (List.mem_of_getElem? (i := 1) rfl)) hDc) (zx_cons (zx_r (hAr _ (List.mem_of_getElem? (i := 2) rfl)) hDc) zx_nil)))⟩⟩ rfl rfl hl.1 rfl (lv_room (Nat.le_of_ble_eq_true rfl)) dL_thing_5 ⟨Nat.le_of_ble_eq_true rfl, Nat.le_of_ble_eq_true rfl⟩) hS (fun q _ h => hFc q h) hFc (fun r2 u t H1 locs ht hvm hw hB hz1 hk1 hS => ?_)
  obtain rfl : r2 = 5 := hw
  obtain ⟨hP1, hD1, hK1⟩ := hB
  rw [ht] at hP1
  obtain ⟨hP, hD⟩ := va_join (wr := [(ou, .inl (cQ, 1, .inr (.inl fo9)))]) (w1 := [(rm, .inr (5, [.ref lk, .ref th, .ref pl, .ref gm, .int 2, .int 6, .int 0, .int 0, .int 1, .int 0, .int 0, .int 0])), (t5, .inr (7, [.int (-1), .int 0, .int 0, .int 0, .int 0]))]) hP hD [0, 1] [2] rfl rfl (by decide) (by decide) hk1 hFc hP1 hD1
  have hP : va_P (dC, dI) vwCl [(ou, .inl (cQ, 1, .inr (.inl fo9))), (rm, .inr (5, [.ref lk, .ref th, .ref pl, .ref gm, .int 2, .int 6, .int 0, .int 0, .int 1, .int 0, .int 0, .int 0])), (t5, .inr (7, [.int (-1), .int 0, .int 0, .int 0, .int 0]))] H1 := hP
  have hD : va_D A [(ou, .inl (cQ, 1, .inr (.inl fo9))), (rm, .inr (5, [.ref lk, .ref th, .ref pl, .ref gm, .int 2, .int 6, .int 0, .int 0, .int 1, .int 0, .int 0, .int 0])), (t5, .inr (7, [.int (-1), .int 0, .int 0, .int 0, .int 0]))] := hD
  refine lv_i2l (v := 5) hx hb dL_thing_8 (by decide) ?_
  refine va_last hx hb hK hP hD hS 0 1 rfl rfl (by unfold vp_in; decide) dL_thing_9 (fun H4 locs hP hD hS => ?_)
  obtain ⟨f5, ef5⟩ : ∃ z : Nat → Int64, z = vp_updL fo9 0 5 := ⟨_, rfl⟩
  have k6 : f5 0 = 5 := by rw [ef5]; exact pk_uLs
  have hP : va_P (dC, dI) vwCl [(ou, .inl (cQ, 1, .inr (.inl f5))), (rm, .inr (5, [.ref lk, .ref th, .ref pl, .ref gm, .int 2, .int 6, .int 0, .int 0, .int 1, .int 0, .int 0, .int 0])), (t5, .inr (7, [.int (-1), .int 0, .int 0, .int 0, .int 0]))] H4 := by rw [ef5]; exact hP
  have hD : va_D A [(ou, .inl (cQ, 1, .inr (.inl f5))), (rm, .inr (5, [.ref lk, .ref th, .ref pl, .ref gm, .int 2, .int 6, .int 0, .int 0, .int 1, .int 0, .int 0, .int 0])), (t5, .inr (7, [.int (-1), .int 0, .int 0, .int 0, .int 0]))] := by rw [ef5]; exact hD
  refine lv_goto (tgt := 25) hx hb dL_thing_10 (by decide) ?_
  refine lv_iconst (v := 0) hx hb dL_thing_25 (by decide) ?_
  refine vx_ret ?_
  refine W.widen (k := 0) (n := 0) (Nat.le_of_ble_eq_true rfl) (Nat.le_of_ble_eq_true rfl) ?_
  have hP9 := hP.sub (ws' := [(rm, .inr (5, [.ref lk, .ref th, .ref pl, .ref gm, .int 2, .int 6, .int 0, .int 0, .int 1, .int 0, .int 0, .int 0])), (t5, .inr (7, [.int (-1), .int 0, .int 0, .int 0, .int 0])), (ou, .inl (cQ, 1, .inr (.inl f5)))]) [1, 2, 0] rfl
  have hD9 := hD.sub (ws' := [(rm, .inr (5, [.ref lk, .ref th, .ref pl, .ref gm, .int 2, .int 6, .int 0, .int 0, .int 1, .int 0, .int 0, .int 0])), (t5, .inr (7, [.int (-1), .int 0, .int 0, .int 0, .int 0])), (ou, .inl (cQ, 1, .inr (.inl f5)))]) [1, 2, 0] (by decide) rfl
  have hK9 := hK.sub (tys' := [(cQ, .long)]) [1] rfl
  exact W.iret hx hb hr (fun t ht hW => ⟨⟨0, (), rfl, rfl, ⟨f5, k6, by rw [ht]; exact hP9, hD9, va_K.moved hW.alike hK9⟩⟩, hS.F ht⟩) hS.2.2 dL_thing_26
set_option maxHeartbeats 4000000 in
set_option maxRecDepth 100000 in
theorem cz_QX8_thing_5 (l : Launch) (dC : Nat → ClassId) (dI : Nat → Nat → Nat) (ed sz : Nat) (mr : Nat) (ll : Nat) (lt : Nat) (lp : Nat) (mo : Nat) (x9 : Int32) (s9 : Int64) (ota : Nat) (cOt : ClassId) (fot : Nat → Option Nat) (ta0 : Nat) (ta1 : Nat) (ta2 : Nat) (ta3 : Nat) (ta4 : Nat) (hot0 : fot 0 = some ta0) (hot1 : fot 1 = some ta1) (hot2 : fot 2 = some ta2) (hot3 : fot 3 = some ta3) (hot4 : fot 4 = some ta4) : Met l yX8_thing wsX8_thing ({ frames := 2, cells := 1, slots := 5, locals := 44 } : Jvm.Room) (va_Pc [.ref mo, .int (-1), .int 0] (zB dC dI ed sz [(mr, .inr (9, [.ref ll, .ref lt, .ref lp, .int 0, .int 0, .int 0, .int 0, .int 0, .int 0, .int 0, .int (-1), .int 0, .int 0, .int 0]))] [(mo, .inr (10, [.int x9, .ref mr, .int 1, .long s9])), (lt, .inr (1, [.int 5, .ref ota, .int 5])), (ota, .inl (cOt, 10, .inr (.inr (.inr (.inr fot)))))] [(cOt, .object "java/lang/Object")])) (va_Qi (fun (r : Int32) (_ : Unit) => r = 5) (fun (_ : Unit) (t : State) => ∃ (go : Nat → Option Nat), ∃ (ta5 : Nat), ∃ (cB5 : ClassId), ∃ (fb5 : Nat → Int32), (go 0 = some ta0 ∧ go 1 = some ta1 ∧ go 2 = some ta2 ∧ go 3 = some ta3 ∧ go 4 = some ta4 ∧ go 5 = some ta5 ∧ fb5 0 = (-1) ∧ fb5 1 = 0 ∧ fb5 2 = 0 ∧ fb5 3 = 0 ∧ fb5 4 = 0) ∧ va_P (dC, dI) vwCl [(mo, .inr (10, [.int 0, .ref mr, .int 1, .long s9])), (lt, .inr (1, [.int 6, .ref ota, .int 6])), (ota, .inl (cOt, 10, .inr (.inr (.inr (.inr go))))), (ta5, .inl (cB5, 5, .inl fb5))] t.heap ∧ va_D (va_A [(mo, .inr (10, [.int x9, .ref mr, .int 1, .long s9])), (lt, .inr (1, [.int 5, .ref ota, .int 5])), (ota, .inl (cOt, 10, .inr (.inr (.inr (.inr fot)))))] sz) [(mo, .inr (10, [.int 0, .ref mr, .int 1, .long s9])), (lt, .inr (1, [.int 6, .ref ota, .int 6])), (ota, .inl (cOt, 10, .inr (.inr (.inr (.inr go))))), (ta5, .inl (cB5, 5, .inl fb5))] ∧ va_K (dC, dI) vwCl [(cOt, .object "java/lang/Object"), (cB5, .int)] t) (va_A [(mo, .inr (10, [.int x9, .ref mr, .int 1, .long s9])), (lt, .inr (1, [.int 5, .ref ota, .int 5])), (ota, .inl (cOt, 10, .inr (.inr (.inr (.inr fot)))))] sz)) 1 5 (va_A [(mo, .inr (10, [.int x9, .ref mr, .int 1, .long s9])), (lt, .inr (1, [.int 5, .ref ota, .int 5])), (ota, .inl (cOt, 10, .inr (.inr (.inr (.inr fot)))))] sz) := by
  refine Met.ofW (cc := cX8_thing) (maxL := 4) (ret := (some .int)) (by decide) rfl ?_
  intro p e s m args below meth c s₁ B hml hv
  obtain ⟨rfl, hsz, hR0, hP, hK, hD0, hN, hH, hX0⟩ := hv
  have hx := B.exec
  have hb := B.bytes
  have hr := B.returns
  have hts := atoms_spec (ws := wsX8_thing) B.pre
  have hown : s.vm.findClass RX8 = some m.cls := findClass_of_methodNamed B.named
  have hlocks := B.notSynchronized
  subst hsz
  have hD := hD0.self (sz := s.heap.size)
  have hAr := zx_A hX0 hR0
  generalize hAe : va_A [(mo, .inr (10, [.int x9, .ref mr, .int 1, .long s9])), (lt, .inr (1, [.int 5, .ref ota, .int 5])), (ota, .inl (cOt, 10, .inr (.inr (.inr (.inr fot)))))] s.heap.size = A at hD hAr hH ⊢
  have hA : ∀ q : Nat, s.heap.size ≤ q → A q := fun q h => by rw [← hAe]; exact Or.inr h
  have hS : va_S A s.heap s.heap [] := va_S.rf
  have hl := lv_entry ([.ref mo, .int (-1), .int 0]) (n := 4) (Nat.le_of_ble_eq_true rfl)
  rw [lg_entry_eq]
  generalize (lg_sl ([.ref mo, .int (-1), .int 0]) ++ List.replicate (4 - (lg_sl ([.ref mo, .int (-1), .int 0])).length) Slot.unset).toArray = ls at hl ⊢
  have hl : lv_has ls 4 [(0, .ref mo), (1, .int (-1)), (2, .int 0)] := hl
  refine lv_aload_n hx hb dX8_thing_0 rfl (lv_at hl 0 rfl) ?_
  refine lv_iconst (v := 0) hx hb dX8_thing_1 (by decide) ?_
  refine va_put (D := (dC, dI)) (ci := 10) (v := .int 0) (ty := .int) (C := RX8) (T := TX8) (N := 4) hx hb hts zi_X8_thing_X8 tyX8 tyX8_ok nmX8 hown hK hP hD hS 0 rfl rfl 0 (by decide) (hts (.fieldLink RX8 20 "LockRoomsModel" "thrown" "I") (by decide +kernel)) (fun _ h9 => h9) rfl (by decide +kernel) rfl rfl (Nat.le_of_ble_eq_true rfl) dX8_thing_2 (fun H1 locs hP hD hS => ?_)
  have hP : va_P (dC, dI) vwCl [(mo, .inr (10, [.int 0, .ref mr, .int 1, .long s9])), (lt, .inr (1, [.int 5, .ref ota, .int 5])), (ota, .inl (cOt, 10, .inr (.inr (.inr (.inr fot)))))] H1 := hP
  have hD : va_D A [(mo, .inr (10, [.int 0, .ref mr, .int 1, .long s9])), (lt, .inr (1, [.int 5, .ref ota, .int 5])), (ota, .inl (cOt, 10, .inr (.inr (.inr (.inr fot)))))] := hD
  refine lv_iload_n hx hb dX8_thing_5 rfl (lv_at hl 1 rfl) ?_
  refine lv_iconst (v := (-1)) hx hb dX8_thing_6 (by decide) ?_
  refine lv_icmp_eq (tgt := 24) hx hb dX8_thing_7 (by decide) (fun _ => ?_) (fun h => absurd h (by decide))
  refine lv_iload_n hx hb dX8_thing_24 rfl (lv_at hl 2 rfl) ?_
  refine lv_iconst (v := 0) hx hb dX8_thing_25 (by decide) ?_
  refine lv_bipush (v := 9) hx hb dX8_thing_26 (by decide) ?_
  have hPr := (zo_nil : va_P (dC, dI) vwCl [] H1)
  have hPc := hP.sub (ws' := []) [] rfl
  have hDc := hD.sub (ws' := []) [] (by decide) rfl
  have hKc := hK.sub (tys' := []) [] rfl
  have hFc := va_free (wc := []) hD hS hA [] rfl
  refine va_calli (va_runS (As := [.int 0, .int 0, .int 9]) (rest := []) ⟨hx, hb, hml, hown, hts⟩ (cz_QX8_is_0_9 l dC dI ed H1.size ) (va_cwS 3 hts gX8_thing_X8_is rfl rfl rfl (by decide +kernel) ⟨Nat.le_of_ble_eq_true rfl, Nat.le_of_ble_eq_true rfl⟩) ⟨zb_blind, fun U hU hW => ⟨rfl, zb_mk hU hW hPr hPc hKc hDc hN hH hS hFc zx_e⟩⟩ rfl rfl hl.1 rfl (lv_room (Nat.le_of_ble_eq_true rfl)) dX8_thing_28 ⟨Nat.le_of_ble_eq_true rfl, Nat.le_of_ble_eq_true rfl⟩) hS (fun q _ h => hFc q h) hFc (fun r3 u t H2 locs ht hvm hw hB hz1 hk1 hS => ?_)
  obtain rfl : r3 = 1 := hw
  have hP := zo_K hP hk1
  refine lv_if_ne (tgt := 40) hx hb dX8_thing_31 (by decide) (fun _ => ?_) (fun h => absurd h (by decide))
  refine lv_aload_n hx hb dX8_thing_40 rfl (lv_at hl 0 rfl) ?_
  refine va_get (D := (dC, dI)) (ci := 10) (v := .ref mr) (C := RX8) (T := TX8) (N := 4) hx hb hts zi_X8_thing_X8 hown hK hP 0 rfl rfl 1 (by decide) (hts (.fieldLink RX8 10 "LockRoomsModel" "room" "LLockRoomsModel$Room;") (by decide +kernel)) (fun _ h9 => h9) rfl dX8_thing_41 ?_
  refine va_getN (D := (dC, dI)) (ci := 9) (v := .ref lt) (C := RX7) (T := TX7) (N := 14) hx hb hts zi_X8_thing_X7 hown hK (zo_R hR0 hS hAr) 0 rfl rfl 1 (by decide) (va_Nw.use rfl (hN.1 ("LockRoomsModel", 38, "LockRoomsModel$Room", "things", "Ljava/util/ArrayList;", "LockRoomsModel") (List.mem_of_getElem? (i := 2) rfl))) (fun _ h9 => h9) rfl dX8_thing_44 ?_
  have hPr := (hP).sub (ws' := [(lt, .inr (1, [.int 5, .ref ota, .int 5]))]) [1] rfl
  have hPc := hP.sub (ws' := []) [] rfl
  have hDc := hD.sub (ws' := []) [] (by decide) rfl
  have hKc := hK.sub (tys' := []) [] rfl
  have hFc := va_free (wc := []) hD hS hA [] rfl
  refine va_calli (va_runV (As := []) (rest := []) ⟨hx, hb, hml, hown, hts⟩ (cz_Qsize l dC dI ed H2.size lt 5 ota 5) (cwV 0 hts gX8_thing_Jx4a65c_size_8abf5 rfl rfl rfl (by decide +kernel) ⟨Nat.le_of_ble_eq_true rfl, Nat.le_of_ble_eq_true rfl⟩) ⟨zb_blind, va_recv hK hP (ci := 1) (q0 := 1) rfl rfl, fun U hU hW => ⟨rfl, zb_mk hU hW hPr hPc hKc hDc hN hH hS hFc zx_e⟩⟩ rfl rfl hl.1 rfl (lv_room (Nat.le_of_ble_eq_true rfl)) dX8_thing_47 ⟨Nat.le_of_ble_eq_true rfl, Nat.le_of_ble_eq_true rfl⟩) hS (fun q _ h => hFc q h) hFc (fun r5 u t H4 locs ht hvm hw hB hz1 hk1 hS => ?_)
  obtain rfl : r5 = 5 := hw.trans (by decide +kernel)
  have hP := zo_K hP hk1
  refine lv_bipush (v := 12) hx hb dX8_thing_50 (by decide) ?_
  refine lv_icmp_eq (tgt := 65) hx hb dX8_thing_52 (by decide) (fun h => absurd h (by decide)) (fun _ => ?_)
  refine lv_aload_n hx hb dX8_thing_55 rfl (lv_at hl 0 rfl) ?_
  refine va_get (D := (dC, dI)) (ci := 10) (v := .ref mr) (C := RX8) (T := TX8) (N := 4) hx hb hts zi_X8_thing_X8 hown hK hP 0 rfl rfl 1 (by decide) (hts (.fieldLink RX8 10 "LockRoomsModel" "room" "LLockRoomsModel$Room;") (by decide +kernel)) (fun _ h9 => h9) rfl dX8_thing_56 ?_
  refine va_getN (D := (dC, dI)) (ci := 9) (v := .int 0) (C := RX7) (T := TX7) (N := 14) hx hb hts zi_X8_thing_X7 hown hK (zo_R hR0 hS hAr) 0 rfl rfl 5 (by decide) (va_Nw.use rfl (hN.1 ("LockRoomsModel", 45, "LockRoomsModel$Room", "isRunning", "Z", "LockRoomsModel") (List.mem_of_getElem? (i := 6) rfl))) (fun _ h9 => h9) rfl dX8_thing_59 ?_
  refine lv_if_eq (tgt := 71) hx hb dX8_thing_62 (by decide) (fun _ => ?_) (fun h => absurd h (by decide))
  refine lv_iconst (v := 5) hx hb dX8_thing_71 (by decide) ?_
  refine va_newa (atype := .int) (a0 := (5, .inl (fun _ => 0))) hx hb (hts (.arrayClass .int) (by decide +kernel)) rfl hK hP hD hS hA (fun cA => rfl) (by decide) (N' := 5) (by decide) (by decide) (Nat.le_of_ble_eq_true rfl) (Nat.le_of_ble_eq_true rfl) dX8_thing_72 (fun q6 cA8 H7 hK hP hD hS => ?_)
  have hP : va_P (dC, dI) vwCl [(mo, .inr (10, [.int 0, .ref mr, .int 1, .long s9])), (lt, .inr (1, [.int 5, .ref ota, .int 5])), (ota, .inl (cOt, 10, .inr (.inr (.inr (.inr fot))))), (q6, .inl (cA8, 5, .inl (fun _ => 0)))] H7 := hP
  have hD : va_D A [(mo, .inr (10, [.int 0, .ref mr, .int 1, .long s9])), (lt, .inr (1, [.int 5, .ref ota, .int 5])), (ota, .inl (cOt, 10, .inr (.inr (.inr (.inr fot))))), (q6, .inl (cA8, 5, .inl (fun _ => 0)))] := hD
  refine lv_astore_n (lv' := [(3, .ref q6), (0, .ref mo), (1, .int (-1)), (2, .int 0)]) hx hb dX8_thing_74 rfl hl (by decide) rfl (fun ls hl => ?_)
  refine lv_aload_n hx hb dX8_thing_75 rfl (lv_at hl 0 rfl) ?_
  refine lv_iconst (v := 0) hx hb dX8_thing_76 (by decide) ?_
  refine lv_iload_n hx hb dX8_thing_77 rfl (lv_at hl 2 rfl) ?_
  refine va_iast hx hb hK hP hD hS 3 1 rfl rfl (by unfold vp_in; decide) dX8_thing_78 (fun H10 locs hP hD hS => ?_)
  obtain ⟨f11, ef11⟩ : ∃ z : Nat → Int32, z = upd (fun _ => 0) 0 (-1) := ⟨_, rfl⟩
  have k12 : f11 1 = 0 := by rw [ef11]; exact (pk_un (by decide)).trans (rfl)
  have k13 : f11 2 = 0 := by rw [ef11]; exact (pk_un (by decide)).trans (rfl)
  have k14 : f11 3 = 0 := by rw [ef11]; exact (pk_un (by decide)).trans (rfl)
  have k15 : f11 4 = 0 := by rw [ef11]; exact (pk_un (by decide)).trans (rfl)
  have k16 : f11 0 = (-1) := by rw [ef11]; exact pk_us
  have hP : va_P (dC, dI) vwCl [(mo, .inr (10, [.int 0, .ref mr, .int 1, .long s9])), (lt, .inr (1, [.int 5, .ref ota, .int 5])), (ota, .inl (cOt, 10, .inr (.inr (.inr (.inr fot))))), (q6, .inl (cA8, 5, .inl f11))] H10 := by rw [ef11]; exact hP
  have hD : va_D A [(mo, .inr (10, [.int 0, .ref mr, .int 1, .long s9])), (lt, .inr (1, [.int 5, .ref ota, .int 5])), (ota, .inl (cOt, 10, .inr (.inr (.inr (.inr fot))))), (q6, .inl (cA8, 5, .inl f11))] := by rw [ef11]; exact hD
  refine lv_aload_n hx hb dX8_thing_79 rfl (lv_at hl 0 rfl) ?_
  refine lv_iconst (v := 1) hx hb dX8_thing_80 (by decide) ?_
  refine lv_iload_n hx hb dX8_thing_81 rfl (lv_at hl 3 rfl) ?_
  refine va_iast hx hb hK hP hD hS 3 1 rfl rfl (by unfold vp_in; decide) dX8_thing_82 (fun H17 locs hP hD hS => ?_)
  obtain ⟨f18, ef18⟩ : ∃ z : Nat → Int32, z = upd f11 1 0 := ⟨_, rfl⟩
  have k19 : f18 2 = 0 := by rw [ef18]; exact (pk_un (by decide)).trans (k13)
  have k20 : f18 3 = 0 := by rw [ef18]; exact (pk_un (by decide)).trans (k14)
  have k21 : f18 4 = 0 := by rw [ef18]; exact (pk_un (by decide)).trans (k15)
  have k22 : f18 0 = (-1) := by rw [ef18]; exact (pk_un (by decide)).trans (k16)
  have k23 : f18 1 = 0 := by rw [ef18]; exact pk_us
  have hP : va_P (dC, dI) vwCl [(mo, .inr (10, [.int 0, .ref mr, .int 1, .long s9])), (lt, .inr (1, [.int 5, .ref ota, .int 5])), (ota, .inl (cOt, 10, .inr (.inr (.inr (.inr fot))))), (q6, .inl (cA8, 5, .inl f18))] H17 := by rw [ef18]; exact hP
  have hD : va_D A [(mo, .inr (10, [.int 0, .ref mr, .int 1, .long s9])), (lt, .inr (1, [.int 5, .ref ota, .int 5])), (ota, .inl (cOt, 10, .inr (.inr (.inr (.inr fot))))), (q6, .inl (cA8, 5, .inl f18))] := by rw [ef18]; exact hD
  refine lv_aload_n hx hb dX8_thing_83 rfl (lv_at hl 1 rfl) ?_
  refine va_get (D := (dC, dI)) (ci := 10) (v := .ref mr) (C := RX8) (T := TX8) (N := 4) hx hb hts zi_X8_thing_X8 hown hK hP 0 rfl rfl 1 (by decide) (hts (.fieldLink RX8 10 "LockRoomsModel" "room" "LLockRoomsModel$Room;") (by decide +kernel)) (fun _ h9 => h9) rfl dX8_thing_84 ?_
  refine va_getN (D := (dC, dI)) (ci := 9) (v := .ref lt) (C := RX7) (T := TX7) (N := 14) hx hb hts zi_X8_thing_X7 hown hK (zo_R hR0 hS hAr) 0 rfl rfl 1 (by decide) (va_Nw.use rfl (hN.1 ("LockRoomsModel", 38, "LockRoomsModel$Room", "things", "Ljava/util/ArrayList;", "LockRoomsModel") (List.mem_of_getElem? (i := 2) rfl))) (fun _ h9 => h9) rfl dX8_thing_87 ?_
  refine lv_aload_n hx hb dX8_thing_90 rfl (lv_at hl 0 rfl) ?_
  have hPr := (hP).sub (ws' := [(q6, .inl (cA8, 5, .inl f18))]) [3] rfl
  have hPc := hP.sub (ws' := [(lt, .inr (1, [.int 5, .ref ota, .int 5])), (ota, .inl (cOt, 10, .inr (.inr (.inr (.inr fot)))))]) [1, 2] rfl
  have hDc := hD.sub (ws' := [(lt, .inr (1, [.int 5, .ref ota, .int 5])), (ota, .inl (cOt, 10, .inr (.inr (.inr (.inr fot)))))]) [1, 2] (by decide) rfl
  have hKc := hK.sub (tys' := [(cA8, .int), (cOt, .object "java/lang/Object")]) [1, 0] rfl
  have hFc := va_free (wc := [(lt, .inr (1, [.int 5, .ref ota, .int 5])), (ota, .inl (cOt, 10, .inr (.inr (.inr (.inr fot)))))]) hD hS hA [1, 2] rfl
  refine va_calli (va_runV (As := [.ref q6]) (rest := []) ⟨hx, hb, hml, hown, hts⟩ (cz_Qadd_5 l dC dI ed H17.size q6 cA8 5 f18 lt ota cOt fot ta0 ta1 ta2 ta3 ta4 hot0 hot1 hot2 hot3 hot4) (cwV 1 hts gX8_thing_Jx4a65c_add_9ea2d rfl rfl rfl (by decide +kernel) ⟨Nat.le_of_ble_eq_true rfl, Nat.le_of_ble_eq_true rfl⟩) ⟨zb_blind, va_recv hK hP (ci := 1) (q0 := 1) rfl rfl, fun U hU hW => ⟨rfl, zb_mk hU hW hPr hPc hKc hDc hN hH hS hFc (zx_cons (zx_o hD 3 [1, 2] rfl rfl (by decide)) zx_nil)⟩⟩ rfl rfl hl.1 rfl (lv_room (Nat.le_of_ble_eq_true rfl)) dX8_thing_91 ⟨Nat.le_of_ble_eq_true rfl, Nat.le_of_ble_eq_true rfl⟩) hS (fun q _ h => hFc q h) hFc (fun r25 u t H24 locs ht hvm hw hB hz1 hk1 hS => ?_)
  obtain rfl : r25 = 1 := hw
  obtain ⟨go_26, ⟨k26_0, k26_1, k26_2, k26_3, k26_4, k26_5⟩, hP1, hD1, hK1⟩ := hB
  rw [ht] at hP1
  obtain ⟨hP, hD⟩ := va_join (wr := [(mo, .inr (10, [.int 0, .ref mr, .int 1, .long s9])), (q6, .inl (cA8, 5, .inl f18))]) (w1 := [(lt, .inr (1, [.int 6, .ref ota, .int 6])), (ota, .inl (cOt, 10, .inr (.inr (.inr (.inr go_26)))))]) hP hD [1, 2] [0, 3] rfl rfl (by decide) (by decide) hk1 hFc hP1 hD1
  have hP : va_P (dC, dI) vwCl [(mo, .inr (10, [.int 0, .ref mr, .int 1, .long s9])), (q6, .inl (cA8, 5, .inl f18)), (lt, .inr (1, [.int 6, .ref ota, .int 6])), (ota, .inl (cOt, 10, .inr (.inr (.inr (.inr go_26)))))] H24 := hP
  have hD : va_D A [(mo, .inr (10, [.int 0, .ref mr, .int 1, .long s9])), (q6, .inl (cA8, 5, .inl f18)), (lt, .inr (1, [.int 6, .ref ota, .int 6])), (ota, .inl (cOt, 10, .inr (.inr (.inr (.inr go_26)))))] := hD
  refine lv_pop hx hb dX8_thing_94 rfl ?_
  refine lv_aload_n hx hb dX8_thing_95 rfl (lv_at hl 1 rfl) ?_
  refine va_get (D := (dC, dI)) (ci := 10) (v := .ref mr) (C := RX8) (T := TX8) (N := 4) hx hb hts zi_X8_thing_X8 hown hK hP 0 rfl rfl 1 (by decide) (hts (.fieldLink RX8 10 "LockRoomsModel" "room" "LLockRoomsModel$Room;") (by decide +kernel)) (fun _ h9 => h9) rfl dX8_thing_96 ?_
  refine va_getN (D := (dC, dI)) (ci := 9) (v := .ref lt) (C := RX7) (T := TX7) (N := 14) hx hb hts zi_X8_thing_X7 hown hK (zo_R hR0 hS hAr) 0 rfl rfl 1 (by decide) (va_Nw.use rfl (hN.1 ("LockRoomsModel", 38, "LockRoomsModel$Room", "things", "Ljava/util/ArrayList;", "LockRoomsModel") (List.mem_of_getElem? (i := 2) rfl))) (fun _ h9 => h9) rfl dX8_thing_99 ?_
  have hPr := (hP).sub (ws' := [(lt, .inr (1, [.int 6, .ref ota, .int 6]))]) [2] rfl
  have hPc := hP.sub (ws' := []) [] rfl
  have hDc := hD.sub (ws' := []) [] (by decide) rfl
  have hKc := hK.sub (tys' := []) [] rfl
  have hFc := va_free (wc := []) hD hS hA [] rfl
  refine va_calli (va_runV (As := []) (rest := []) ⟨hx, hb, hml, hown, hts⟩ (cz_Qsize l dC dI ed H24.size lt 6 ota 6) (cwV 0 hts gX8_thing_Jx4a65c_size_8abf5 rfl rfl rfl (by decide +kernel) ⟨Nat.le_of_ble_eq_true rfl, Nat.le_of_ble_eq_true rfl⟩) ⟨zb_blind, va_recv hK hP (ci := 1) (q0 := 2) rfl rfl, fun U hU hW => ⟨rfl, zb_mk hU hW hPr hPc hKc hDc hN hH hS hFc zx_e⟩⟩ rfl rfl hl.1 rfl (lv_room (Nat.le_of_ble_eq_true rfl)) dX8_thing_102 ⟨Nat.le_of_ble_eq_true rfl, Nat.le_of_ble_eq_true rfl⟩) hS (fun q _ h => hFc q h) hFc (fun r28 u t H27 locs ht hvm hw hB hz1 hk1 hS => ?_)
  obtain rfl : r28 = 6 := hw.trans (by decide +kernel)
  have hP := zo_K hP hk1
  refine lv_iconst (v := 1) hx hb dX8_thing_105 (by decide) ?_
  refine lv_isub hx hb dX8_thing_106 ?_
  refine zo_i (v := 5) (by decide) ?_
  refine W.widen (k := 1) (n := 5) (Nat.le_of_ble_eq_true rfl) (Nat.le_of_ble_eq_true rfl) ?_
  have hP9 := hP.sub (ws' := [(mo, .inr (10, [.int 0, .ref mr, .int 1, .long s9])), (lt, .inr (1, [.int 6, .ref ota, .int 6])), (ota, .inl (cOt, 10, .inr (.inr (.inr (.inr go_26))))), (q6, .inl (cA8, 5, .inl f18))]) [0, 2, 3, 1] rfl
  have hD9 := hD.sub (ws' := [(mo, .inr (10, [.int 0, .ref mr, .int 1, .long s9])), (lt, .inr (1, [.int 6, .ref ota, .int 6])), (ota, .inl (cOt, 10, .inr (.inr (.inr (.inr go_26))))), (q6, .inl (cA8, 5, .inl f18))]) [0, 2, 3, 1] (by decide) rfl
  have hK9 := hK.sub (tys' := [(cOt, .object "java/lang/Object"), (cA8, .int)]) [0, 1] rfl
  exact W.iret hx hb hr (fun t ht hW => ⟨⟨5, (), rfl, rfl, ⟨go_26, q6, cA8, f18, ⟨k26_0, k26_1, k26_2, k26_3, k26_4, k26_5, k22, k23, k19, k20, k21⟩, by rw [ht]; exact hP9, hD9, va_K.moved hW.alike hK9⟩⟩, hS.F ht⟩) hS.2.2 dX8_thing_107

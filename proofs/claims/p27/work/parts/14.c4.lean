set_option maxRecDepth 20000 in
theorem zi_X7_isOut_X7 : ∀ w ∈ u_ws RX7 TX7 14, w ∈ wsX7_isOut := by decide +kernel
set_option maxHeartbeats 4000000 in
set_option maxRecDepth 100000 in
theorem cz_RisOut (l : Launch) (dC : Nat → ClassId) (dI : Nat → Nat → Nat) (ed sz : Nat) (mr : Nat) (ll : Nat) (lt : Nat) (lp : Nat) (n0 : Int32) (n1 : Int32) (n2 : Int32) (n3 : Int32) (n4 : Int32) (n5 : Int32) : Met l yX7_isOut wsX7_isOut ({ frames := 0, cells := 0, slots := 0, locals := 0 } : Jvm.Room) (va_Pc [.ref mr] (zB dC dI ed sz [(mr, .inr (9, [.ref ll, .ref lt, .ref lp, .int (-1), .int n0, .int n1, .int n2, .int 0, .int 0, .int n3, .int (-1), .int n4, .int n5, .int 0]))] [] [])) (va_Qi (fun (r : Int32) (_ : Unit) => r = 0) (fun (_ : Unit) (_ : State) => True) (va_A [] sz)) 0 0 (va_A [] sz) := by
  refine Met.ofW (cc := cX7_isOut) (maxL := 1) (ret := (some .boolean)) (by decide) rfl ?_
  intro p e s m args below meth c s₁ B hml hv
  obtain ⟨rfl, hsz, hR0, hP, hK, hD0, hN, hH, hX0⟩ := hv
  have hx := B.exec
  have hb := B.bytes
  have hr := B.returns
  have hts := atoms_spec (ws := wsX7_isOut) B.pre
  have hown : s.vm.findClass RX7 = some m.cls := findClass_of_methodNamed B.named
  have hlocks := B.notSynchronized
  subst hsz
  have hD := hD0.self (sz := s.heap.size)
  have hAr := zx_A hX0 hR0
  generalize hAe : va_A [] s.heap.size = A at hD hAr hH ⊢
  have hA : ∀ q : Nat, s.heap.size ≤ q → A q := fun q h => by rw [← hAe]; exact Or.inr h
  have hS : va_S A s.heap s.heap [] := va_S.rf
  have hl := lv_entry ([.ref mr]) (n := 1) (Nat.le_of_ble_eq_true rfl)
  rw [lg_entry_eq]
  generalize (lg_sl ([.ref mr]) ++ List.replicate (1 - (lg_sl ([.ref mr])).length) Slot.unset).toArray = ls at hl ⊢
  have hl : lv_has ls 1 [(0, .ref mr)] := hl
  refine lv_aload_n hx hb dX7_isOut_0 rfl (lv_at hl 0 rfl) ?_
  refine va_get (D := (dC, dI)) (ci := 9) (v := .int (-1)) (C := RX7) (T := TX7) (N := 14) hx hb hts zi_X7_isOut_X7 hown hK hR0 0 rfl rfl 3 (by decide) (hts (.fieldLink RX7 24 "LockRoomsModel$Room" "exit" "I") (by decide +kernel)) (fun _ h9 => h9) rfl dX7_isOut_1 ?_
  refine lv_iconst (v := (-1)) hx hb dX7_isOut_4 (by decide) ?_
  refine lv_icmp_eq (tgt := 32) hx hb dX7_isOut_5 (by decide) (fun _ => ?_) (fun h => absurd h (by decide))
  refine lv_iconst (v := 0) hx hb dX7_isOut_32 (by decide) ?_
  refine W.widen (k := 0) (n := 0) (Nat.le_of_ble_eq_true rfl) (Nat.le_of_ble_eq_true rfl) ?_
  exact W.zret hx hb hr (by decide) (fun t ht hW => ⟨⟨0, (), rfl, rfl, trivial⟩, hS.F ht⟩) hS.2.2 dX7_isOut_33
set_option maxHeartbeats 4000000 in
set_option maxRecDepth 100000 in
theorem cz_RX8_begin (l : Launch) (dC : Nat → ClassId) (dI : Nat → Nat → Nat) (ed sz : Nat) (mo : Nat) (mr : Nat) (x9 : Int32) (s9 : Int64) (ll : Nat) (lt : Nat) (lp : Nat) (oa : Nat) : Met l yX8_begin wsX8_begin ({ frames := 1, cells := 0, slots := 0, locals := 20 } : Jvm.Room) (va_Pc [.ref mo] (zB dC dI ed sz [(lp, .inr (1, [.int 1, .ref oa, .int 1]))] [(mo, .inr (10, [.int x9, .ref mr, .int 1, .long s9])), (mr, .inr (9, [.ref ll, .ref lt, .ref lp, .int (-1), .int 0, .int 0, .int 0, .int 0, .int 0, .int 0, .int (-1), .int 0, .int 0, .int 0]))] [])) (va_Qi (fun (r : Int32) (_ : Unit) => r = 1) (fun (_ : Unit) (t : State) => va_P (dC, dI) vwCl [(mo, .inr (10, [.int 0, .ref mr, .int 1, .long s9])), (mr, .inr (9, [.ref ll, .ref lt, .ref lp, .int (-1), .int 0, .int 1, .int 0, .int 0, .int 0, .int 0, .int (-1), .int 18, .int 0, .int 0]))] t.heap ∧ va_D (va_A [(mo, .inr (10, [.int x9, .ref mr, .int 1, .long s9])), (mr, .inr (9, [.ref ll, .ref lt, .ref lp, .int (-1), .int 0, .int 0, .int 0, .int 0, .int 0, .int 0, .int (-1), .int 0, .int 0, .int 0]))] sz) [(mo, .inr (10, [.int 0, .ref mr, .int 1, .long s9])), (mr, .inr (9, [.ref ll, .ref lt, .ref lp, .int (-1), .int 0, .int 1, .int 0, .int 0, .int 0, .int 0, .int (-1), .int 18, .int 0, .int 0]))] ∧ va_K (dC, dI) vwCl [] t) (va_A [(mo, .inr (10, [.int x9, .ref mr, .int 1, .long s9])), (mr, .inr (9, [.ref ll, .ref lt, .ref lp, .int (-1), .int 0, .int 0, .int 0, .int 0, .int 0, .int 0, .int (-1), .int 0, .int 0, .int 0]))] sz)) 0 0 (va_A [(mo, .inr (10, [.int x9, .ref mr, .int 1, .long s9])), (mr, .inr (9, [.ref ll, .ref lt, .ref lp, .int (-1), .int 0, .int 0, .int 0, .int 0, .int 0, .int 0, .int (-1), .int 0, .int 0, .int 0]))] sz) := by
  refine Met.ofW (cc := cX8_begin) (maxL := 1) (ret := (some .int)) (by decide) rfl ?_
  intro p e s m args below meth c s₁ B hml hv
  obtain ⟨rfl, hsz, hR0, hP, hK, hD0, hN, hH, hX0⟩ := hv
  have hx := B.exec
  have hb := B.bytes
  have hr := B.returns
  have hts := atoms_spec (ws := wsX8_begin) B.pre
  have hown : s.vm.findClass RX8 = some m.cls := findClass_of_methodNamed B.named
  have hlocks := B.notSynchronized
  subst hsz
  have hD := hD0.self (sz := s.heap.size)
  have hAr := zx_A hX0 hR0
  generalize hAe : va_A [(mo, .inr (10, [.int x9, .ref mr, .int 1, .long s9])), (mr, .inr (9, [.ref ll, .ref lt, .ref lp, .int (-1), .int 0, .int 0, .int 0, .int 0, .int 0, .int 0, .int (-1), .int 0, .int 0, .int 0]))] s.heap.size = A at hD hAr hH ⊢
  have hA : ∀ q : Nat, s.heap.size ≤ q → A q := fun q h => by rw [← hAe]; exact Or.inr h
  have hS : va_S A s.heap s.heap [] := va_S.rf
  have hl := lv_entry ([.ref mo]) (n := 1) (Nat.le_of_ble_eq_true rfl)
  rw [lg_entry_eq]
  generalize (lg_sl ([.ref mo]) ++ List.replicate (1 - (lg_sl ([.ref mo])).length) Slot.unset).toArray = ls at hl ⊢
  have hl : lv_has ls 1 [(0, .ref mo)] := hl
  refine lv_aload_n hx hb dX8_begin_0 rfl (lv_at hl 0 rfl) ?_
  refine lv_iconst (v := 0) hx hb dX8_begin_1 (by decide) ?_
  refine va_put (D := (dC, dI)) (ci := 10) (v := .int 0) (ty := .int) (C := RX8) (T := TX8) (N := 4) hx hb hts zi_X8_begin_X8 tyX8 tyX8_ok nmX8 hown hK hP hD hS 0 rfl rfl 0 (by decide) (hts (.fieldLink RX8 20 "LockRoomsModel" "thrown" "I") (by decide +kernel)) (fun _ h9 => h9) rfl (by decide +kernel) rfl rfl (Nat.le_of_ble_eq_true rfl) dX8_begin_2 (fun H1 locs hP hD hS => ?_)
  have hP : va_P (dC, dI) vwCl [(mo, .inr (10, [.int 0, .ref mr, .int 1, .long s9])), (mr, .inr (9, [.ref ll, .ref lt, .ref lp, .int (-1), .int 0, .int 0, .int 0, .int 0, .int 0, .int 0, .int (-1), .int 0, .int 0, .int 0]))] H1 := hP
  have hD : va_D A [(mo, .inr (10, [.int 0, .ref mr, .int 1, .long s9])), (mr, .inr (9, [.ref ll, .ref lt, .ref lp, .int (-1), .int 0, .int 0, .int 0, .int 0, .int 0, .int 0, .int (-1), .int 0, .int 0, .int 0]))] := hD
  refine lv_aload_n hx hb dX8_begin_5 rfl (lv_at hl 0 rfl) ?_
  refine va_get (D := (dC, dI)) (ci := 10) (v := .ref mr) (C := RX8) (T := TX8) (N := 4) hx hb hts zi_X8_begin_X8 hown hK hP 0 rfl rfl 1 (by decide) (hts (.fieldLink RX8 10 "LockRoomsModel" "room" "LLockRoomsModel$Room;") (by decide +kernel)) (fun _ h9 => h9) rfl dX8_begin_6 ?_
  refine va_getN (D := (dC, dI)) (ci := 9) (v := .int 0) (C := RX7) (T := TX7) (N := 14) hx hb hts zi_X8_begin_X7 hown hK hP 1 rfl rfl 5 (by decide) (va_Nw.use rfl (hN.1 ("LockRoomsModel", 45, "LockRoomsModel$Room", "isRunning", "Z", "LockRoomsModel") (List.mem_of_getElem? (i := 6) rfl))) (fun _ h9 => h9) rfl dX8_begin_9 ?_
  refine lv_if_ne (tgt := 38) hx hb dX8_begin_12 (by decide) (fun h => absurd h (by decide)) (fun _ => ?_)
  refine lv_aload_n hx hb dX8_begin_15 rfl (lv_at hl 0 rfl) ?_
  refine va_get (D := (dC, dI)) (ci := 10) (v := .ref mr) (C := RX8) (T := TX8) (N := 4) hx hb hts zi_X8_begin_X8 hown hK hP 0 rfl rfl 1 (by decide) (hts (.fieldLink RX8 10 "LockRoomsModel" "room" "LLockRoomsModel$Room;") (by decide +kernel)) (fun _ h9 => h9) rfl dX8_begin_16 ?_
  refine va_getN (D := (dC, dI)) (ci := 9) (v := .ref lp) (C := RX7) (T := TX7) (N := 14) hx hb hts zi_X8_begin_X7 hown hK hP 1 rfl rfl 2 (by decide) (va_Nw.use rfl (hN.1 ("LockRoomsModel", 59, "LockRoomsModel$Room", "players", "Ljava/util/ArrayList;", "LockRoomsModel") (List.mem_of_getElem? (i := 3) rfl))) (fun _ h9 => h9) rfl dX8_begin_19 ?_
  have hPr := ((zo_R hR0 hS hAr)).sub (ws' := [(lp, .inr (1, [.int 1, .ref oa, .int 1]))]) [0] rfl
  have hPc := hP.sub (ws' := []) [] rfl
  have hDc := hD.sub (ws' := []) [] (by decide) rfl
  have hKc := hK.sub (tys' := []) [] rfl
  have hFc := va_free (wc := []) hD hS hA [] rfl
  refine va_calli (va_runV (As := []) (rest := []) ⟨hx, hb, hml, hown, hts⟩ (cz_RisEmpty l dC dI ed H1.size lp 1 oa) (cwV 0 hts gX8_begin_Jx4a65c_isEmpty_aae02 rfl rfl rfl (by decide +kernel) ⟨Nat.le_of_ble_eq_true rfl, Nat.le_of_ble_eq_true rfl⟩) ⟨zb_blind, va_recv hK (zo_R hR0 hS hAr) (ci := 1) (q0 := 0) rfl rfl, fun U hU hW => ⟨rfl, zb_mk hU hW hPr hPc hKc hDc hN hH hS hFc zx_e⟩⟩ rfl rfl hl.1 rfl (lv_room (Nat.le_of_ble_eq_true rfl)) dX8_begin_22 ⟨Nat.le_of_ble_eq_true rfl, Nat.le_of_ble_eq_true rfl⟩) hS (fun q _ h => hFc q h) hFc (fun r3 u t H2 locs ht hvm hw hB hz1 hk1 hS => ?_)
  obtain rfl : r3 = 0 := hw
  have hP := zo_K hP hk1
  refine lv_if_ne (tgt := 38) hx hb dX8_begin_25 (by decide) (fun h => absurd h (by decide)) (fun _ => ?_)
  refine lv_aload_n hx hb dX8_begin_28 rfl (lv_at hl 0 rfl) ?_
  refine va_get (D := (dC, dI)) (ci := 10) (v := .ref mr) (C := RX8) (T := TX8) (N := 4) hx hb hts zi_X8_begin_X8 hown hK hP 0 rfl rfl 1 (by decide) (hts (.fieldLink RX8 10 "LockRoomsModel" "room" "LLockRoomsModel$Room;") (by decide +kernel)) (fun _ h9 => h9) rfl dX8_begin_29 ?_
  have hPr := (hP).sub (ws' := [(mr, .inr (9, [.ref ll, .ref lt, .ref lp, .int (-1), .int 0, .int 0, .int 0, .int 0, .int 0, .int 0, .int (-1), .int 0, .int 0, .int 0]))]) [1] rfl
  have hPc := hP.sub (ws' := []) [] rfl
  have hDc := hD.sub (ws' := []) [] (by decide) rfl
  have hKc := hK.sub (tys' := []) [] rfl
  have hFc := va_free (wc := []) hD hS hA [] rfl
  refine va_calli (va_runV (As := []) (rest := []) ⟨hx, hb, hml, hown, hts⟩ (cz_RisOut l dC dI ed H2.size mr ll lt lp 0 0 0 0 0 0) (cwV 0 hts gX8_begin_X7_isOut rfl rfl rfl (by decide +kernel) ⟨Nat.le_of_ble_eq_true rfl, Nat.le_of_ble_eq_true rfl⟩) ⟨zb_blind, va_recv hK hP (ci := 9) (q0 := 1) rfl rfl, fun U hU hW => ⟨rfl, zb_mk hU hW hPr hPc hKc hDc hN hH hS hFc zx_e⟩⟩ rfl rfl hl.1 rfl (lv_room (Nat.le_of_ble_eq_true rfl)) dX8_begin_32 ⟨Nat.le_of_ble_eq_true rfl, Nat.le_of_ble_eq_true rfl⟩) hS (fun q _ h => hFc q h) hFc (fun r5 u t H4 locs ht hvm hw hB hz1 hk1 hS => ?_)
  obtain rfl : r5 = 0 := hw
  have hP := zo_K hP hk1
  refine lv_if_eq (tgt := 44) hx hb dX8_begin_35 (by decide) (fun _ => ?_) (fun h => absurd h (by decide))
  refine lv_aload_n hx hb dX8_begin_44 rfl (lv_at hl 0 rfl) ?_
  refine va_get (D := (dC, dI)) (ci := 10) (v := .ref mr) (C := RX8) (T := TX8) (N := 4) hx hb hts zi_X8_begin_X8 hown hK hP 0 rfl rfl 1 (by decide) (hts (.fieldLink RX8 10 "LockRoomsModel" "room" "LLockRoomsModel$Room;") (by decide +kernel)) (fun _ h9 => h9) rfl dX8_begin_45 ?_
  refine lv_iconst (v := 1) hx hb dX8_begin_48 (by decide) ?_
  refine va_putN (D := (dC, dI)) (ci := 9) (v := .int 1) (ty := .boolean) (C := RX7) (T := TX7) (N := 14) hx hb hts zi_X8_begin_X7 tyX7 tyX7_ok nmX7 hown hK hP hD hS 1 rfl rfl 5 (by decide) (va_Nw.use rfl (hN.1 ("LockRoomsModel", 45, "LockRoomsModel$Room", "isRunning", "Z", "LockRoomsModel") (List.mem_of_getElem? (i := 6) rfl))) (fun _ h9 => h9) rfl (by decide +kernel) (by decide) (by decide) (Nat.le_of_ble_eq_true rfl) dX8_begin_49 (fun H6 locs hP hD hS => ?_)
  have hP : va_P (dC, dI) vwCl [(mo, .inr (10, [.int 0, .ref mr, .int 1, .long s9])), (mr, .inr (9, [.ref ll, .ref lt, .ref lp, .int (-1), .int 0, .int 1, .int 0, .int 0, .int 0, .int 0, .int (-1), .int 0, .int 0, .int 0]))] H6 := hP
  have hD : va_D A [(mo, .inr (10, [.int 0, .ref mr, .int 1, .long s9])), (mr, .inr (9, [.ref ll, .ref lt, .ref lp, .int (-1), .int 0, .int 1, .int 0, .int 0, .int 0, .int 0, .int (-1), .int 0, .int 0, .int 0]))] := hD
  refine lv_aload_n hx hb dX8_begin_52 rfl (lv_at hl 0 rfl) ?_
  refine va_get (D := (dC, dI)) (ci := 10) (v := .ref mr) (C := RX8) (T := TX8) (N := 4) hx hb hts zi_X8_begin_X8 hown hK hP 0 rfl rfl 1 (by decide) (hts (.fieldLink RX8 10 "LockRoomsModel" "room" "LLockRoomsModel$Room;") (by decide +kernel)) (fun _ h9 => h9) rfl dX8_begin_53 ?_
  refine lv_iconst (v := 0) hx hb dX8_begin_56 (by decide) ?_
  refine va_putN (D := (dC, dI)) (ci := 9) (v := .int 0) (ty := .int) (C := RX7) (T := TX7) (N := 14) hx hb hts zi_X8_begin_X7 tyX7 tyX7_ok nmX7 hown hK hP hD hS 1 rfl rfl 6 (by decide) (va_Nw.use rfl (hN.1 ("LockRoomsModel", 69, "LockRoomsModel$Room", "time", "I", "LockRoomsModel") (List.mem_of_getElem? (i := 7) rfl))) (fun _ h9 => h9) rfl (by decide +kernel) rfl rfl (Nat.le_of_ble_eq_true rfl) dX8_begin_57 (fun H7 locs hP hD hS => ?_)
  have hP : va_P (dC, dI) vwCl [(mo, .inr (10, [.int 0, .ref mr, .int 1, .long s9])), (mr, .inr (9, [.ref ll, .ref lt, .ref lp, .int (-1), .int 0, .int 1, .int 0, .int 0, .int 0, .int 0, .int (-1), .int 0, .int 0, .int 0]))] H7 := hP
  have hD : va_D A [(mo, .inr (10, [.int 0, .ref mr, .int 1, .long s9])), (mr, .inr (9, [.ref ll, .ref lt, .ref lp, .int (-1), .int 0, .int 1, .int 0, .int 0, .int 0, .int 0, .int (-1), .int 0, .int 0, .int 0]))] := hD
  refine lv_aload_n hx hb dX8_begin_60 rfl (lv_at hl 0 rfl) ?_
  refine va_get (D := (dC, dI)) (ci := 10) (v := .ref mr) (C := RX8) (T := TX8) (N := 4) hx hb hts zi_X8_begin_X8 hown hK hP 0 rfl rfl 1 (by decide) (hts (.fieldLink RX8 10 "LockRoomsModel" "room" "LLockRoomsModel$Room;") (by decide +kernel)) (fun _ h9 => h9) rfl dX8_begin_61 ?_
  refine lv_iconst (v := 0) hx hb dX8_begin_64 (by decide) ?_
  refine va_putN (D := (dC, dI)) (ci := 9) (v := .int 0) (ty := .int) (C := RX7) (T := TX7) (N := 14) hx hb hts zi_X8_begin_X7 tyX7 tyX7_ok nmX7 hown hK hP hD hS 1 rfl rfl 7 (by decide) (va_Nw.use rfl (hN.1 ("LockRoomsModel", 72, "LockRoomsModel$Room", "hints", "I", "LockRoomsModel") (List.mem_of_getElem? (i := 8) rfl))) (fun _ h9 => h9) rfl (by decide +kernel) rfl rfl (Nat.le_of_ble_eq_true rfl) dX8_begin_65 (fun H8 locs hP hD hS => ?_)
  have hP : va_P (dC, dI) vwCl [(mo, .inr (10, [.int 0, .ref mr, .int 1, .long s9])), (mr, .inr (9, [.ref ll, .ref lt, .ref lp, .int (-1), .int 0, .int 1, .int 0, .int 0, .int 0, .int 0, .int (-1), .int 0, .int 0, .int 0]))] H8 := hP
  have hD : va_D A [(mo, .inr (10, [.int 0, .ref mr, .int 1, .long s9])), (mr, .inr (9, [.ref ll, .ref lt, .ref lp, .int (-1), .int 0, .int 1, .int 0, .int 0, .int 0, .int 0, .int (-1), .int 0, .int 0, .int 0]))] := hD
  refine lv_aload_n hx hb dX8_begin_68 rfl (lv_at hl 0 rfl) ?_
  refine va_get (D := (dC, dI)) (ci := 10) (v := .ref mr) (C := RX8) (T := TX8) (N := 4) hx hb hts zi_X8_begin_X8 hown hK hP 0 rfl rfl 1 (by decide) (hts (.fieldLink RX8 10 "LockRoomsModel" "room" "LLockRoomsModel$Room;") (by decide +kernel)) (fun _ h9 => h9) rfl dX8_begin_69 ?_
  refine lv_dup hx hb dX8_begin_72 rfl ?_
  refine va_getN (D := (dC, dI)) (ci := 9) (v := .int 0) (C := RX7) (T := TX7) (N := 14) hx hb hts zi_X8_begin_X7 hown hK hP 1 rfl rfl 11 (by decide) (va_Nw.use rfl (hN.1 ("LockRoomsModel", 75, "LockRoomsModel$Room", "coins", "I", "LockRoomsModel") (List.mem_of_getElem? (i := 12) rfl))) (fun _ h9 => h9) rfl dX8_begin_73 ?_
  refine lv_bipush (v := 18) hx hb dX8_begin_76 (by decide) ?_
  refine lv_aload_n hx hb dX8_begin_78 rfl (lv_at hl 0 rfl) ?_
  refine va_get (D := (dC, dI)) (ci := 10) (v := .ref mr) (C := RX8) (T := TX8) (N := 4) hx hb hts zi_X8_begin_X8 hown hK hP 0 rfl rfl 1 (by decide) (hts (.fieldLink RX8 10 "LockRoomsModel" "room" "LLockRoomsModel$Room;") (by decide +kernel)) (fun _ h9 => h9) rfl dX8_begin_79 ?_
  refine va_getN (D := (dC, dI)) (ci := 9) (v := .ref lp) (C := RX7) (T := TX7) (N := 14) hx hb hts zi_X8_begin_X7 hown hK hP 1 rfl rfl 2 (by decide) (va_Nw.use rfl (hN.1 ("LockRoomsModel", 59, "LockRoomsModel$Room", "players", "Ljava/util/ArrayList;", "LockRoomsModel") (List.mem_of_getElem? (i := 3) rfl))) (fun _ h9 => h9) rfl dX8_begin_82 ?_
  have hPr := ((zo_R hR0 hS hAr)).sub (ws' := [(lp, .inr (1, [.int 1, .ref oa, .int 1]))]) [0] rfl
  have hPc := hP.sub (ws' := []) [] rfl
  have hDc := hD.sub (ws' := []) [] (by decide) rfl
  have hKc := hK.sub (tys' := []) [] rfl
  have hFc := va_free (wc := []) hD hS hA [] rfl
  refine va_calli (va_runV (As := []) (rest := [.int 18, .int 0, .ref mr]) ⟨hx, hb, hml, hown, hts⟩ (cz_Rsize1 l dC dI ed H8.size lp 1 oa) (cwV 0 hts gX8_begin_Jx4a65c_size_8abf5 rfl rfl rfl (by decide +kernel) ⟨Nat.le_of_ble_eq_true rfl, Nat.le_of_ble_eq_true rfl⟩) ⟨zb_blind, va_recv hK (zo_R hR0 hS hAr) (ci := 1) (q0 := 0) rfl rfl, fun U hU hW => ⟨rfl, zb_mk hU hW hPr hPc hKc hDc hN hH hS hFc zx_e⟩⟩ rfl rfl hl.1 rfl (lv_room (Nat.le_of_ble_eq_true rfl)) dX8_begin_85 ⟨Nat.le_of_ble_eq_true rfl, Nat.le_of_ble_eq_true rfl⟩) hS (fun q _ h => hFc q h) hFc (fun r10 u t H9 locs ht hvm hw hB hz1 hk1 hS => ?_)
  obtain rfl : r10 = 1 := hw
  have hP := zo_K hP hk1
  refine lv_imul hx hb dX8_begin_88 ?_
  refine zo_i (v := 18) (by decide) ?_
  refine lv_iadd hx hb dX8_begin_89 ?_
  refine zo_i (v := 18) (by decide) ?_
  refine va_putN (D := (dC, dI)) (ci := 9) (v := .int 18) (ty := .int) (C := RX7) (T := TX7) (N := 14) hx hb hts zi_X8_begin_X7 tyX7 tyX7_ok nmX7 hown hK hP hD hS 1 rfl rfl 11 (by decide) (va_Nw.use rfl (hN.1 ("LockRoomsModel", 75, "LockRoomsModel$Room", "coins", "I", "LockRoomsModel") (List.mem_of_getElem? (i := 12) rfl))) (fun _ h9 => h9) rfl (by decide +kernel) rfl rfl (Nat.le_of_ble_eq_true rfl) dX8_begin_90 (fun H11 locs hP hD hS => ?_)
  have hP : va_P (dC, dI) vwCl [(mo, .inr (10, [.int 0, .ref mr, .int 1, .long s9])), (mr, .inr (9, [.ref ll, .ref lt, .ref lp, .int (-1), .int 0, .int 1, .int 0, .int 0, .int 0, .int 0, .int (-1), .int 18, .int 0, .int 0]))] H11 := hP
  have hD : va_D A [(mo, .inr (10, [.int 0, .ref mr, .int 1, .long s9])), (mr, .inr (9, [.ref ll, .ref lt, .ref lp, .int (-1), .int 0, .int 1, .int 0, .int 0, .int 0, .int 0, .int (-1), .int 18, .int 0, .int 0]))] := hD
  refine lv_aload_n hx hb dX8_begin_93 rfl (lv_at hl 0 rfl) ?_
  refine va_get (D := (dC, dI)) (ci := 10) (v := .ref mr) (C := RX8) (T := TX8) (N := 4) hx hb hts zi_X8_begin_X8 hown hK hP 0 rfl rfl 1 (by decide) (hts (.fieldLink RX8 10 "LockRoomsModel" "room" "LLockRoomsModel$Room;") (by decide +kernel)) (fun _ h9 => h9) rfl dX8_begin_94 ?_
  refine va_getN (D := (dC, dI)) (ci := 9) (v := .ref lp) (C := RX7) (T := TX7) (N := 14) hx hb hts zi_X8_begin_X7 hown hK hP 1 rfl rfl 2 (by decide) (va_Nw.use rfl (hN.1 ("LockRoomsModel", 59, "LockRoomsModel$Room", "players", "Ljava/util/ArrayList;", "LockRoomsModel") (List.mem_of_getElem? (i := 3) rfl))) (fun _ h9 => h9) rfl dX8_begin_97 ?_
  have hPr := ((zo_R hR0 hS hAr)).sub (ws' := [(lp, .inr (1, [.int 1, .ref oa, .int 1]))]) [0] rfl
  have hPc := hP.sub (ws' := []) [] rfl
  have hDc := hD.sub (ws' := []) [] (by decide) rfl
  have hKc := hK.sub (tys' := []) [] rfl
  have hFc := va_free (wc := []) hD hS hA [] rfl
  refine va_calli (va_runV (As := []) (rest := []) ⟨hx, hb, hml, hown, hts⟩ (cz_Rsize1 l dC dI ed H11.size lp 1 oa) (cwV 0 hts gX8_begin_Jx4a65c_size_8abf5 rfl rfl rfl (by decide +kernel) ⟨Nat.le_of_ble_eq_true rfl, Nat.le_of_ble_eq_true rfl⟩) ⟨zb_blind, va_recv hK (zo_R hR0 hS hAr) (ci := 1) (q0 := 0) rfl rfl, fun U hU hW => ⟨rfl, zb_mk hU hW hPr hPc hKc hDc hN hH hS hFc zx_e⟩⟩ rfl rfl hl.1 rfl (lv_room (Nat.le_of_ble_eq_true rfl)) dX8_begin_100 ⟨Nat.le_of_ble_eq_true rfl, Nat.le_of_ble_eq_true rfl⟩) hS (fun q _ h => hFc q h) hFc (fun r13 u t H12 locs ht hvm hw hB hz1 hk1 hS => ?_)
  obtain rfl : r13 = 1 := hw
  have hP := zo_K hP hk1
  refine W.widen (k := 0) (n := 0) (Nat.le_of_ble_eq_true rfl) (Nat.le_of_ble_eq_true rfl) ?_
  have hP9 := hP.sub (ws' := [(mo, .inr (10, [.int 0, .ref mr, .int 1, .long s9])), (mr, .inr (9, [.ref ll, .ref lt, .ref lp, .int (-1), .int 0, .int 1, .int 0, .int 0, .int 0, .int 0, .int (-1), .int 18, .int 0, .int 0]))]) [0, 1] rfl
  have hD9 := hD.sub (ws' := [(mo, .inr (10, [.int 0, .ref mr, .int 1, .long s9])), (mr, .inr (9, [.ref ll, .ref lt, .ref lp, .int (-1), .int 0, .int 1, .int 0, .int 0, .int 0, .int 0, .int (-1), .int 18, .int 0, .int 0]))]) [0, 1] (by decide) rfl
  have hK9 := hK.sub (tys' := []) [] rfl
  exact W.iret hx hb hr (fun t ht hW => ⟨⟨1, (), rfl, rfl, ⟨by rw [ht]; exact hP9, hD9, va_K.moved hW.alike hK9⟩⟩, hS.F ht⟩) hS.2.2 dX8_begin_103
set_option maxHeartbeats 4000000 in
set_option maxRecDepth 100000 in
theorem cz_Rcopy (l : Launch) (dC : Nat → ClassId) (dI : Nat → Nat → Nat) (ed sz : Nat) (mr : Nat) (ll : Nat) (lt : Nat) (lp : Nat) (oa : Nat) (cO : ClassId) (fo : Nat → Option Nat) (e1 : Nat) (cE : ClassId) (fe : Nat → Int32) (ho : fo 0 = some e1) (he0 : fe 0 = 1) (he1 : fe 1 = (-1)) (he2 : fe 2 = (-1)) (he3 : fe 3 = 0) : Met l yX7_copy wsX7_copy ({ frames := 5, cells := 9, slots := 49, locals := 101 } : Jvm.Room) (va_Pc [.ref mr] (zB dC dI ed sz [(ll, .inr (1, [.int 0, .ref ed, .int 0])), (lt, .inr (1, [.int 0, .ref ed, .int 0]))] [(mr, .inr (9, [.ref ll, .ref lt, .ref lp, .int (-1), .int 0, .int 1, .int 0, .int 0, .int 0, .int 0, .int (-1), .int 18, .int 0, .int 0])), (lp, .inr (1, [.int 1, .ref oa, .int 1])), (oa, .inl (cO, 10, .inr (.inr (.inr (.inr fo))))), (e1, .inl (cE, 4, .inl fe))] [(cO, .object "java/lang/Object"), (cE, .int)])) (va_Qr (fun (_ : Unit) => True) (fun (_ : Unit) (md : Nat) (t : State) => ∃ (tll : Nat), ∃ (tlt : Nat), ∃ (tlp : Nat), ∃ (toa : Nat), ∃ (tcO : ClassId), ∃ (tfo : Nat → Option Nat), ∃ (te1 : Nat), ∃ (tcE : ClassId), ∃ (tfe : Nat → Int32), (sz + 9 ≤ t.heap.size) ∧ (fo 0 = some e1 ∧ fe 0 = 1 ∧ fe 1 = (-1) ∧ fe 2 = (-1) ∧ fe 3 = 0 ∧ tfo 0 = some te1 ∧ tfe 0 = 1 ∧ tfe 1 = (-1) ∧ tfe 2 = (-1) ∧ tfe 3 = 0) ∧ va_P (dC, dI) vwCl [(mr, .inr (9, [.ref ll, .ref lt, .ref lp, .int (-1), .int 0, .int 1, .int 0, .int 0, .int 0, .int 0, .int (-1), .int 18, .int 0, .int 0])), (lp, .inr (1, [.int 1, .ref oa, .int 1])), (oa, .inl (cO, 10, .inr (.inr (.inr (.inr fo))))), (e1, .inl (cE, 4, .inl fe)), (md, .inr (9, [.ref tll, .ref tlt, .ref tlp, .int (-1), .int 0, .int 1, .int 0, .int 0, .int 0, .int 0, .int (-1), .int 0, .int 0, .int 0])), (tll, .inr (1, [.int 0, .ref ed, .int 0])), (tlt, .inr (1, [.int 0, .ref ed, .int 0])), (tlp, .inr (1, [.int 1, .ref toa, .int 1])), (toa, .inl (tcO, 10, .inr (.inr (.inr (.inr tfo))))), (te1, .inl (tcE, 4, .inl tfe))] t.heap ∧ va_D (va_A [(mr, .inr (9, [.ref ll, .ref lt, .ref lp, .int (-1), .int 0, .int 1, .int 0, .int 0, .int 0, .int 0, .int (-1), .int 18, .int 0, .int 0])), (lp, .inr (1, [.int 1, .ref oa, .int 1])), (oa, .inl (cO, 10, .inr (.inr (.inr (.inr fo))))), (e1, .inl (cE, 4, .inl fe))] sz) [(mr, .inr (9, [.ref ll, .ref lt, .ref lp, .int (-1), .int 0, .int 1, .int 0, .int 0, .int 0, .int 0, .int (-1), .int 18, .int 0, .int 0])), (lp, .inr (1, [.int 1, .ref oa, .int 1])), (oa, .inl (cO, 10, .inr (.inr (.inr (.inr fo))))), (e1, .inl (cE, 4, .inl fe)), (md, .inr (9, [.ref tll, .ref tlt, .ref tlp, .int (-1), .int 0, .int 1, .int 0, .int 0, .int 0, .int 0, .int (-1), .int 0, .int 0, .int 0])), (tll, .inr (1, [.int 0, .ref ed, .int 0])), (tlt, .inr (1, [.int 0, .ref ed, .int 0])), (tlp, .inr (1, [.int 1, .ref toa, .int 1])), (toa, .inl (tcO, 10, .inr (.inr (.inr (.inr tfo))))), (te1, .inl (tcE, 4, .inl tfe))] ∧ va_K (dC, dI) vwCl [(cO, .object "java/lang/Object"), (cE, .int), (tcO, .object "java/lang/Object"), (tcE, .int)] t) (va_A [(mr, .inr (9, [.ref ll, .ref lt, .ref lp, .int (-1), .int 0, .int 1, .int 0, .int 0, .int 0, .int 0, .int (-1), .int 18, .int 0, .int 0])), (lp, .inr (1, [.int 1, .ref oa, .int 1])), (oa, .inl (cO, 10, .inr (.inr (.inr (.inr fo))))), (e1, .inl (cE, 4, .inl fe))] sz)) 9 49 (va_A [(mr, .inr (9, [.ref ll, .ref lt, .ref lp, .int (-1), .int 0, .int 1, .int 0, .int 0, .int 0, .int 0, .int (-1), .int 18, .int 0, .int 0])), (lp, .inr (1, [.int 1, .ref oa, .int 1])), (oa, .inl (cO, 10, .inr (.inr (.inr (.inr fo))))), (e1, .inl (cE, 4, .inl fe))] sz) := by
  refine Met.ofW (cc := cX7_copy) (maxL := 4) (ret := (some (.object "LockRoomsModel$Room"))) (by decide) rfl ?_
  intro p e s m args below meth c s₁ B hml hv
  obtain ⟨rfl, hsz, hR0, hP, hK, hD0, hN, hH, hX0⟩ := hv
  have hx := B.exec
  have hb := B.bytes
  have hr := B.returns
  have hts := atoms_spec (ws := wsX7_copy) B.pre
  have hown : s.vm.findClass RX7 = some m.cls := findClass_of_methodNamed B.named
  have hlocks := B.notSynchronized
  subst hsz
  have hD := hD0.self (sz := s.heap.size)
  have hAr := zx_A hX0 hR0
  generalize hAe : va_A [(mr, .inr (9, [.ref ll, .ref lt, .ref lp, .int (-1), .int 0, .int 1, .int 0, .int 0, .int 0, .int 0, .int (-1), .int 18, .int 0, .int 0])), (lp, .inr (1, [.int 1, .ref oa, .int 1])), (oa, .inl (cO, 10, .inr (.inr (.inr (.inr fo))))), (e1, .inl (cE, 4, .inl fe))] s.heap.size = A at hD hAr hH ⊢
  have hA : ∀ q : Nat, s.heap.size ≤ q → A q := fun q h => by rw [← hAe]; exact Or.inr h
  have hS : va_S A s.heap s.heap [] := va_S.rf
  have hl := lv_entry ([.ref mr]) (n := 4) (Nat.le_of_ble_eq_true rfl)
  rw [lg_entry_eq]
  generalize (lg_sl ([.ref mr]) ++ List.replicate (4 - (lg_sl ([.ref mr])).length) Slot.unset).toArray = ls at hl ⊢
  have hl : lv_has ls 4 [(0, .ref mr)] := hl
  refine va_new (ci := 9) (fs := [.null, .null, .null, .int 0, .int 0, .int 0, .int 0, .int 0, .int 0, .int 0, .int 0, .int 0, .int 0, .int 0]) (C := RX7) (T := TX7) (N := 14) hx hb hts zi_X7_copy_X7 tyX7 tyX7_ok hown (hts (.classLink RX7 13 RX7) (by decide +kernel)) (hts (.instantiable RX7 14) (by decide +kernel)) (hts (.initialized RX7) (by decide +kernel)) hK hP hD hS hA rfl (fun j hj => by rcases (show j = 0 ∨ j = 1 ∨ j = 2 ∨ j = 3 ∨ j = 4 ∨ j = 5 ∨ j = 6 ∨ j = 7 ∨ j = 8 ∨ j = 9 ∨ j = 10 ∨ j = 11 ∨ j = 12 ∨ j = 13 by omega) with rfl | rfl | rfl | rfl | rfl | rfl | rfl | rfl | rfl | rfl | rfl | rfl | rfl | rfl <;> rfl) (Nat.le_of_ble_eq_true rfl) (Nat.le_of_ble_eq_true rfl) dX7_copy_0 (fun q1 H2 hP hD hS => ?_)
  have hP : va_P (dC, dI) vwCl [(mr, .inr (9, [.ref ll, .ref lt, .ref lp, .int (-1), .int 0, .int 1, .int 0, .int 0, .int 0, .int 0, .int (-1), .int 18, .int 0, .int 0])), (lp, .inr (1, [.int 1, .ref oa, .int 1])), (oa, .inl (cO, 10, .inr (.inr (.inr (.inr fo))))), (e1, .inl (cE, 4, .inl fe)), (q1, .inr (9, [.null, .null, .null, .int 0, .int 0, .int 0, .int 0, .int 0, .int 0, .int 0, .int 0, .int 0, .int 0, .int 0]))] H2 := hP
  have hD : va_D A [(mr, .inr (9, [.ref ll, .ref lt, .ref lp, .int (-1), .int 0, .int 1, .int 0, .int 0, .int 0, .int 0, .int (-1), .int 18, .int 0, .int 0])), (lp, .inr (1, [.int 1, .ref oa, .int 1])), (oa, .inl (cO, 10, .inr (.inr (.inr (.inr fo))))), (e1, .inl (cE, 4, .inl fe)), (q1, .inr (9, [.null, .null, .null, .int 0, .int 0, .int 0, .int 0, .int 0, .int 0, .int 0, .int 0, .int 0, .int 0, .int 0]))] := hD
  refine lv_dup hx hb dX7_copy_3 rfl ?_
  have huz3 : s.heap.size + 0 ≤ H2.size := hS.1
  have hPr := (zo_nil : va_P (dC, dI) vwCl [] H2)
  have hPc := hP.sub (ws' := [(q1, .inr (9, [.null, .null, .null, .int 0, .int 0, .int 0, .int 0, .int 0, .int 0, .int 0, .int 0, .int 0, .int 0, .int 0]))]) [4] rfl
  have hDc := hD.sub (ws' := [(q1, .inr (9, [.null, .null, .null, .int 0, .int 0, .int 0, .int 0, .int 0, .int 0, .int 0, .int 0, .int 0, .int 0, .int 0]))]) [4] (by decide) rfl
  have hKc := hK.sub (tys' := []) [] rfl
  have hFc := va_free (wc := [(q1, .inr (9, [.null, .null, .null, .int 0, .int 0, .int 0, .int 0, .int 0, .int 0, .int 0, .int 0, .int 0, .int 0, .int 0]))]) hD hS hA [4] rfl
  refine va_callv (va_runI (As := []) (rest := [.ref q1]) ⟨hx, hb, hml, hown, hts⟩ (cz_X7_init l dC dI ed H2.size q1) (cwI 0 hts gX7_copy_X7_init rfl rfl rfl (hts (.initialized RX7) (by decide +kernel)) (hts (.methodLink RX7 31 yX7_init) (by decide +kernel)) (hts (.instanceMethod yX7_init) (by decide +kernel)) rfl (by decide +kernel) ⟨Nat.le_of_ble_eq_true rfl, Nat.le_of_ble_eq_true rfl⟩) ⟨zb_blind, fun U hU hW => ⟨rfl, zb_mk hU hW hPr hPc hKc hDc hN hH hS hFc zx_nil⟩⟩ rfl rfl hl.1 rfl (lv_room (Nat.le_of_ble_eq_true rfl)) dX7_copy_4 ⟨Nat.le_of_ble_eq_true rfl, Nat.le_of_ble_eq_true rfl⟩) hS (fun q _ h => hFc q h) hFc (fun u t H4 locs ht hvm hw hB hz1 hk1 hS => ?_)
  obtain ⟨ll_6, lt_6, lp_6, hP1, hD1, hK1⟩ := hB
  rw [ht] at hP1
  obtain ⟨hP, hD⟩ := va_join (wr := [(mr, .inr (9, [.ref ll, .ref lt, .ref lp, .int (-1), .int 0, .int 1, .int 0, .int 0, .int 0, .int 0, .int (-1), .int 18, .int 0, .int 0])), (lp, .inr (1, [.int 1, .ref oa, .int 1])), (oa, .inl (cO, 10, .inr (.inr (.inr (.inr fo))))), (e1, .inl (cE, 4, .inl fe))]) (w1 := [(q1, .inr (9, [.ref ll_6, .ref lt_6, .ref lp_6, .int (-1), .int 0, .int 0, .int 0, .int 0, .int 0, .int 0, .int (-1), .int 0, .int 0, .int 0])), (ll_6, .inr (1, [.int 0, .ref ed, .int 0])), (lt_6, .inr (1, [.int 0, .ref ed, .int 0])), (lp_6, .inr (1, [.int 0, .ref ed, .int 0]))]) hP hD [4] [0, 1, 2, 3] rfl rfl (by decide) (by decide) hk1 hFc hP1 hD1
  have hP : va_P (dC, dI) vwCl [(mr, .inr (9, [.ref ll, .ref lt, .ref lp, .int (-1), .int 0, .int 1, .int 0, .int 0, .int 0, .int 0, .int (-1), .int 18, .int 0, .int 0])), (lp, .inr (1, [.int 1, .ref oa, .int 1])), (oa, .inl (cO, 10, .inr (.inr (.inr (.inr fo))))), (e1, .inl (cE, 4, .inl fe)), (q1, .inr (9, [.ref ll_6, .ref lt_6, .ref lp_6, .int (-1), .int 0, .int 0, .int 0, .int 0, .int 0, .int 0, .int (-1), .int 0, .int 0, .int 0])), (ll_6, .inr (1, [.int 0, .ref ed, .int 0])), (lt_6, .inr (1, [.int 0, .ref ed, .int 0])), (lp_6, .inr (1, [.int 0, .ref ed, .int 0]))] H4 := hP
  have hD : va_D A [(mr, .inr (9, [.ref ll, .ref lt, .ref lp, .int (-1), .int 0, .int 1, .int 0, .int 0, .int 0, .int 0, .int (-1), .int 18, .int 0, .int 0])), (lp, .inr (1, [.int 1, .ref oa, .int 1])), (oa, .inl (cO, 10, .inr (.inr (.inr (.inr fo))))), (e1, .inl (cE, 4, .inl fe)), (q1, .inr (9, [.ref ll_6, .ref lt_6, .ref lp_6, .int (-1), .int 0, .int 0, .int 0, .int 0, .int 0, .int 0, .int (-1), .int 0, .int 0, .int 0])), (ll_6, .inr (1, [.int 0, .ref ed, .int 0])), (lt_6, .inr (1, [.int 0, .ref ed, .int 0])), (lp_6, .inr (1, [.int 0, .ref ed, .int 0]))] := hD
  have hvz3 : s.heap.size + 0 ≤ H4.size := Nat.le_trans huz3 hz1
  refine lv_astore_n (lv' := [(1, .ref q1), (0, .ref mr)]) hx hb dX7_copy_7 rfl hl (by decide) rfl (fun ls hl => ?_)
  refine lv_aload_n hx hb dX7_copy_8 rfl (lv_at hl 1 rfl) ?_
  refine va_get (D := (dC, dI)) (ci := 9) (v := .ref ll) (C := RX7) (T := TX7) (N := 14) hx hb hts zi_X7_copy_X7 hown hK hP 0 rfl rfl 0 (by decide) (hts (.fieldLink RX7 12 "LockRoomsModel$Room" "locks" "Ljava/util/ArrayList;") (by decide +kernel)) (fun _ h9 => h9) rfl dX7_copy_9 ?_
  have huz7 : s.heap.size + 0 ≤ H4.size := hvz3
  have hPr := ((zo_R hR0 hS hAr)).sub (ws' := [(ll, .inr (1, [.int 0, .ref ed, .int 0]))]) [0] rfl
  have hPc := hP.sub (ws' := []) [] rfl
  have hDc := hD.sub (ws' := []) [] (by decide) rfl
  have hKc := hK.sub (tys' := []) [] rfl
  have hFc := va_free (wc := []) hD hS hA [] rfl
  refine va_callr (va_runV (As := []) (rest := []) ⟨hx, hb, hml, hown, hts⟩ (cz_Riterator l dC dI ed H4.size ll 0 ed 0) (cwV 0 hts gX7_copy_Jx4a65c_iterator_32c93 rfl rfl rfl (by decide +kernel) ⟨Nat.le_of_ble_eq_true rfl, Nat.le_of_ble_eq_true rfl⟩) ⟨zb_blind, va_recv hK (zo_R hR0 hS hAr) (ci := 1) (q0 := 0) rfl rfl, fun U hU hW => ⟨rfl, zb_mk hU hW hPr hPc hKc hDc hN hH hS hFc zx_e⟩⟩ rfl rfl hl.1 rfl (lv_room (Nat.le_of_ble_eq_true rfl)) dX7_copy_12 ⟨Nat.le_of_ble_eq_true rfl, Nat.le_of_ble_eq_true rfl⟩) hS (fun q _ h => hFc q h) hFc (fun u r9 t H8 locs ht hvm hw hB hz1 hk1 hS => ?_)
  obtain ⟨hq10_0, hP1, hD1, hK1⟩ := hB
  rw [ht] at hP1
  obtain ⟨hP, hD⟩ := va_join (wr := [(mr, .inr (9, [.ref ll, .ref lt, .ref lp, .int (-1), .int 0, .int 1, .int 0, .int 0, .int 0, .int 0, .int (-1), .int 18, .int 0, .int 0])), (lp, .inr (1, [.int 1, .ref oa, .int 1])), (oa, .inl (cO, 10, .inr (.inr (.inr (.inr fo))))), (e1, .inl (cE, 4, .inl fe)), (q1, .inr (9, [.ref ll_6, .ref lt_6, .ref lp_6, .int (-1), .int 0, .int 0, .int 0, .int 0, .int 0, .int 0, .int (-1), .int 0, .int 0, .int 0])), (ll_6, .inr (1, [.int 0, .ref ed, .int 0])), (lt_6, .inr (1, [.int 0, .ref ed, .int 0])), (lp_6, .inr (1, [.int 0, .ref ed, .int 0]))]) (w1 := [(r9, .inr (0, [.int 0, .int (-1), .int 0, .ref ll]))]) hP hD [] [0, 1, 2, 3, 4, 5, 6, 7] rfl rfl (by decide) (by decide) hk1 hFc hP1 hD1
  have hP : va_P (dC, dI) vwCl [(mr, .inr (9, [.ref ll, .ref lt, .ref lp, .int (-1), .int 0, .int 1, .int 0, .int 0, .int 0, .int 0, .int (-1), .int 18, .int 0, .int 0])), (lp, .inr (1, [.int 1, .ref oa, .int 1])), (oa, .inl (cO, 10, .inr (.inr (.inr (.inr fo))))), (e1, .inl (cE, 4, .inl fe)), (q1, .inr (9, [.ref ll_6, .ref lt_6, .ref lp_6, .int (-1), .int 0, .int 0, .int 0, .int 0, .int 0, .int 0, .int (-1), .int 0, .int 0, .int 0])), (ll_6, .inr (1, [.int 0, .ref ed, .int 0])), (lt_6, .inr (1, [.int 0, .ref ed, .int 0])), (lp_6, .inr (1, [.int 0, .ref ed, .int 0])), (r9, .inr (0, [.int 0, .int (-1), .int 0, .ref ll]))] H8 := hP
  have hD : va_D A [(mr, .inr (9, [.ref ll, .ref lt, .ref lp, .int (-1), .int 0, .int 1, .int 0, .int 0, .int 0, .int 0, .int (-1), .int 18, .int 0, .int 0])), (lp, .inr (1, [.int 1, .ref oa, .int 1])), (oa, .inl (cO, 10, .inr (.inr (.inr (.inr fo))))), (e1, .inl (cE, 4, .inl fe)), (q1, .inr (9, [.ref ll_6, .ref lt_6, .ref lp_6, .int (-1), .int 0, .int 0, .int 0, .int 0, .int 0, .int 0, .int (-1), .int 0, .int 0, .int 0])), (ll_6, .inr (1, [.int 0, .ref ed, .int 0])), (lt_6, .inr (1, [.int 0, .ref ed, .int 0])), (lp_6, .inr (1, [.int 0, .ref ed, .int 0])), (r9, .inr (0, [.int 0, .int (-1), .int 0, .ref ll]))] := hD
  have hvz7 : s.heap.size + 1 ≤ H8.size := by have h9 := hq10_0; rw [ht] at h9; omega
  refine lv_astore_n (lv' := [(2, .ref r9), (1, .ref q1), (0, .ref mr)]) hx hb dX7_copy_15 rfl hl (by decide) rfl (fun ls hl => ?_)
  refine lv_aload_n hx hb dX7_copy_16 rfl (lv_at hl 0 rfl) ?_
  have huz11 : s.heap.size + 1 ≤ H8.size := hvz7
  have hPr := (show va_P (dC, dI) vwCl [(r9, .inr (0, [.int 0, .int (-1), .int 0, .ref ll])), (ll, .inr (1, [.int 0, .ref ed, .int 0]))] H8 from (zo_cons ((hP) 8 _ rfl) (zo_cons (((zo_R hR0 hS hAr)) 0 _ rfl) (zo_nil : va_P (dC, dI) vwCl [] H8))))
  have hPc := hP.sub (ws' := []) [] rfl
  have hDc := hD.sub (ws' := []) [] (by decide) rfl
  have hKc := hK.sub (tys' := []) [] rfl
  have hFc := va_free (wc := []) hD hS hA [] rfl
  refine va_callFi (va_runF (As := []) (rest := []) (hK.1 0 _ rfl).2 ⟨hx, hb, hml, hown, hts⟩ (cz_RhasNext0 l dC dI ed H8.size r9 ll 0 ed) (va_cwF 0 hts gX7_copy_Jx35411_hasNext_aae02_f36Jx35411 rfl rfl rfl hN.2.2.2.2.2.2.2.1 (by decide +kernel) ⟨Nat.le_of_ble_eq_true rfl, Nat.le_of_ble_eq_true rfl⟩) ⟨zb_blind, va_recv hK hP (ci := 0) (q0 := 8) rfl rfl, fun U hU hW => ⟨rfl, zb_mk hU hW hPr hPc hKc hDc hN hH hS hFc zx_e⟩⟩ rfl rfl hl.1 rfl (lv_room (Nat.le_of_ble_eq_true rfl)) dX7_copy_17 ⟨Nat.le_of_ble_eq_true rfl, Nat.le_of_ble_eq_true rfl⟩) hS (fun q _ h => hFc q h) hFc (fun r13 u t H12 locs ht hvm hw hB hz1 hk1 hS => ?_)
  obtain rfl : r13 = 0 := hw
  have hP := zo_K hP hk1
  have hvz11 : s.heap.size + 1 ≤ H12.size := Nat.le_trans huz11 hz1
  refine lv_if_eq (tgt := 53) hx hb dX7_copy_22 (by decide) (fun _ => ?_) (fun h => absurd h (by decide))
  refine lv_aload_n hx hb dX7_copy_53 rfl (lv_at hl 2 rfl) ?_
  refine va_get (D := (dC, dI)) (ci := 9) (v := .ref lt) (C := RX7) (T := TX7) (N := 14) hx hb hts zi_X7_copy_X7 hown hK hP 0 rfl rfl 1 (by decide) (hts (.fieldLink RX7 18 "LockRoomsModel$Room" "things" "Ljava/util/ArrayList;") (by decide +kernel)) (fun _ h9 => h9) rfl dX7_copy_54 ?_
  have huz14 : s.heap.size + 1 ≤ H12.size := hvz11
  have hPr := ((zo_R hR0 hS hAr)).sub (ws' := [(lt, .inr (1, [.int 0, .ref ed, .int 0]))]) [1] rfl
  have hPc := hP.sub (ws' := []) [] rfl
  have hDc := hD.sub (ws' := []) [] (by decide) rfl
  have hKc := hK.sub (tys' := []) [] rfl
  have hFc := va_free (wc := []) hD hS hA [] rfl
  refine va_callr (va_runV (As := []) (rest := []) ⟨hx, hb, hml, hown, hts⟩ (cz_Riterator l dC dI ed H12.size lt 0 ed 0) (cwV 0 hts gX7_copy_Jx4a65c_iterator_32c93 rfl rfl rfl (by decide +kernel) ⟨Nat.le_of_ble_eq_true rfl, Nat.le_of_ble_eq_true rfl⟩) ⟨zb_blind, va_recv hK (zo_R hR0 hS hAr) (ci := 1) (q0 := 1) rfl rfl, fun U hU hW => ⟨rfl, zb_mk hU hW hPr hPc hKc hDc hN hH hS hFc zx_e⟩⟩ rfl rfl hl.1 rfl (lv_room (Nat.le_of_ble_eq_true rfl)) dX7_copy_57 ⟨Nat.le_of_ble_eq_true rfl, Nat.le_of_ble_eq_true rfl⟩) hS (fun q _ h => hFc q h) hFc (fun u r16 t H15 locs ht hvm hw hB hz1 hk1 hS => ?_)
  obtain ⟨hq17_0, hP1, hD1, hK1⟩ := hB
  rw [ht] at hP1
  obtain ⟨hP, hD⟩ := va_join (wr := [(mr, .inr (9, [.ref ll, .ref lt, .ref lp, .int (-1), .int 0, .int 1, .int 0, .int 0, .int 0, .int 0, .int (-1), .int 18, .int 0, .int 0])), (lp, .inr (1, [.int 1, .ref oa, .int 1])), (oa, .inl (cO, 10, .inr (.inr (.inr (.inr fo))))), (e1, .inl (cE, 4, .inl fe)), (q1, .inr (9, [.ref ll_6, .ref lt_6, .ref lp_6, .int (-1), .int 0, .int 0, .int 0, .int 0, .int 0, .int 0, .int (-1), .int 0, .int 0, .int 0])), (ll_6, .inr (1, [.int 0, .ref ed, .int 0])), (lt_6, .inr (1, [.int 0, .ref ed, .int 0])), (lp_6, .inr (1, [.int 0, .ref ed, .int 0])), (r9, .inr (0, [.int 0, .int (-1), .int 0, .ref ll]))]) (w1 := [(r16, .inr (0, [.int 0, .int (-1), .int 0, .ref lt]))]) hP hD [] [0, 1, 2, 3, 4, 5, 6, 7, 8] rfl rfl (by decide) (by decide) hk1 hFc hP1 hD1
  have hP : va_P (dC, dI) vwCl [(mr, .inr (9, [.ref ll, .ref lt, .ref lp, .int (-1), .int 0, .int 1, .int 0, .int 0, .int 0, .int 0, .int (-1), .int 18, .int 0, .int 0])), (lp, .inr (1, [.int 1, .ref oa, .int 1])), (oa, .inl (cO, 10, .inr (.inr (.inr (.inr fo))))), (e1, .inl (cE, 4, .inl fe)), (q1, .inr (9, [.ref ll_6, .ref lt_6, .ref lp_6, .int (-1), .int 0, .int 0, .int 0, .int 0, .int 0, .int 0, .int (-1), .int 0, .int 0, .int 0])), (ll_6, .inr (1, [.int 0, .ref ed, .int 0])), (lt_6, .inr (1, [.int 0, .ref ed, .int 0])), (lp_6, .inr (1, [.int 0, .ref ed, .int 0])), (r9, .inr (0, [.int 0, .int (-1), .int 0, .ref ll])), (r16, .inr (0, [.int 0, .int (-1), .int 0, .ref lt]))] H15 := hP
  have hD : va_D A [(mr, .inr (9, [.ref ll, .ref lt, .ref lp, .int (-1), .int 0, .int 1, .int 0, .int 0, .int 0, .int 0, .int (-1), .int 18, .int 0, .int 0])), (lp, .inr (1, [.int 1, .ref oa, .int 1])), (oa, .inl (cO, 10, .inr (.inr (.inr (.inr fo))))), (e1, .inl (cE, 4, .inl fe)), (q1, .inr (9, [.ref ll_6, .ref lt_6, .ref lp_6, .int (-1), .int 0, .int 0, .int 0, .int 0, .int 0, .int 0, .int (-1), .int 0, .int 0, .int 0])), (ll_6, .inr (1, [.int 0, .ref ed, .int 0])), (lt_6, .inr (1, [.int 0, .ref ed, .int 0])), (lp_6, .inr (1, [.int 0, .ref ed, .int 0])), (r9, .inr (0, [.int 0, .int (-1), .int 0, .ref ll])), (r16, .inr (0, [.int 0, .int (-1), .int 0, .ref lt]))] := hD
  have hvz14 : s.heap.size + 2 ≤ H15.size := by have h9 := hq17_0; rw [ht] at h9; omega
  refine lv_astore_n (lv' := [(2, .ref r16), (1, .ref q1), (0, .ref mr)]) hx hb dX7_copy_60 rfl hl (by decide) rfl (fun ls hl => ?_)
  refine lv_aload_n hx hb dX7_copy_61 rfl (lv_at hl 0 rfl) ?_
  have huz18 : s.heap.size + 2 ≤ H15.size := hvz14
  have hPr := (show va_P (dC, dI) vwCl [(r16, .inr (0, [.int 0, .int (-1), .int 0, .ref lt])), (lt, .inr (1, [.int 0, .ref ed, .int 0]))] H15 from (zo_cons ((hP) 9 _ rfl) (zo_cons (((zo_R hR0 hS hAr)) 1 _ rfl) (zo_nil : va_P (dC, dI) vwCl [] H15))))
  have hPc := hP.sub (ws' := []) [] rfl
  have hDc := hD.sub (ws' := []) [] (by decide) rfl
  have hKc := hK.sub (tys' := []) [] rfl
  have hFc := va_free (wc := []) hD hS hA [] rfl
  refine va_callFi (va_runF (As := []) (rest := []) (hK.1 0 _ rfl).2 ⟨hx, hb, hml, hown, hts⟩ (cz_RhasNext0 l dC dI ed H15.size r16 lt 0 ed) (va_cwF 0 hts gX7_copy_Jx35411_hasNext_aae02_f36Jx35411 rfl rfl rfl hN.2.2.2.2.2.2.2.1 (by decide +kernel) ⟨Nat.le_of_ble_eq_true rfl, Nat.le_of_ble_eq_true rfl⟩) ⟨zb_blind, va_recv hK hP (ci := 0) (q0 := 9) rfl rfl, fun U hU hW => ⟨rfl, zb_mk hU hW hPr hPc hKc hDc hN hH hS hFc zx_e⟩⟩ rfl rfl hl.1 rfl (lv_room (Nat.le_of_ble_eq_true rfl)) dX7_copy_62 ⟨Nat.le_of_ble_eq_true rfl, Nat.le_of_ble_eq_true rfl⟩) hS (fun q _ h => hFc q h) hFc (fun r20 u t H19 locs ht hvm hw hB hz1 hk1 hS => ?_)
  obtain rfl : r20 = 0 := hw
  have hP := zo_K hP hk1
  have hvz18 : s.heap.size + 2 ≤ H19.size := Nat.le_trans huz18 hz1
  refine lv_if_eq (tgt := 98) hx hb dX7_copy_67 (by decide) (fun _ => ?_) (fun h => absurd h (by decide))
  refine lv_aload_n hx hb dX7_copy_98 rfl (lv_at hl 2 rfl) ?_
  refine va_get (D := (dC, dI)) (ci := 9) (v := .ref lp) (C := RX7) (T := TX7) (N := 14) hx hb hts zi_X7_copy_X7 hown hK hP 0 rfl rfl 2 (by decide) (hts (.fieldLink RX7 21 "LockRoomsModel$Room" "players" "Ljava/util/ArrayList;") (by decide +kernel)) (fun _ h9 => h9) rfl dX7_copy_99 ?_
  have huz21 : s.heap.size + 2 ≤ H19.size := hvz18
  have hPr := (hP).sub (ws' := [(lp, .inr (1, [.int 1, .ref oa, .int 1]))]) [1] rfl
  have hPc := hP.sub (ws' := []) [] rfl
  have hDc := hD.sub (ws' := []) [] (by decide) rfl
  have hKc := hK.sub (tys' := []) [] rfl
  have hFc := va_free (wc := []) hD hS hA [] rfl
  refine va_callr (va_runV (As := []) (rest := []) ⟨hx, hb, hml, hown, hts⟩ (cz_Riterator l dC dI ed H19.size lp 1 oa 1) (cwV 0 hts gX7_copy_Jx4a65c_iterator_32c93 rfl rfl rfl (by decide +kernel) ⟨Nat.le_of_ble_eq_true rfl, Nat.le_of_ble_eq_true rfl⟩) ⟨zb_blind, va_recv hK hP (ci := 1) (q0 := 1) rfl rfl, fun U hU hW => ⟨rfl, zb_mk hU hW hPr hPc hKc hDc hN hH hS hFc zx_e⟩⟩ rfl rfl hl.1 rfl (lv_room (Nat.le_of_ble_eq_true rfl)) dX7_copy_102 ⟨Nat.le_of_ble_eq_true rfl, Nat.le_of_ble_eq_true rfl⟩) hS (fun q _ h => hFc q h) hFc (fun u r23 t H22 locs ht hvm hw hB hz1 hk1 hS => ?_)
  obtain ⟨hq24_0, hP1, hD1, hK1⟩ := hB
  rw [ht] at hP1
  obtain ⟨hP, hD⟩ := va_join (wr := [(mr, .inr (9, [.ref ll, .ref lt, .ref lp, .int (-1), .int 0, .int 1, .int 0, .int 0, .int 0, .int 0, .int (-1), .int 18, .int 0, .int 0])), (lp, .inr (1, [.int 1, .ref oa, .int 1])), (oa, .inl (cO, 10, .inr (.inr (.inr (.inr fo))))), (e1, .inl (cE, 4, .inl fe)), (q1, .inr (9, [.ref ll_6, .ref lt_6, .ref lp_6, .int (-1), .int 0, .int 0, .int 0, .int 0, .int 0, .int 0, .int (-1), .int 0, .int 0, .int 0])), (ll_6, .inr (1, [.int 0, .ref ed, .int 0])), (lt_6, .inr (1, [.int 0, .ref ed, .int 0])), (lp_6, .inr (1, [.int 0, .ref ed, .int 0])), (r9, .inr (0, [.int 0, .int (-1), .int 0, .ref ll])), (r16, .inr (0, [.int 0, .int (-1), .int 0, .ref lt]))]) (w1 := [(r23, .inr (0, [.int 0, .int (-1), .int 1, .ref lp]))]) hP hD [] [0, 1, 2, 3, 4, 5, 6, 7, 8, 9] rfl rfl (by decide) (by decide) hk1 hFc hP1 hD1
  have hP : va_P (dC, dI) vwCl [(mr, .inr (9, [.ref ll, .ref lt, .ref lp, .int (-1), .int 0, .int 1, .int 0, .int 0, .int 0, .int 0, .int (-1), .int 18, .int 0, .int 0])), (lp, .inr (1, [.int 1, .ref oa, .int 1])), (oa, .inl (cO, 10, .inr (.inr (.inr (.inr fo))))), (e1, .inl (cE, 4, .inl fe)), (q1, .inr (9, [.ref ll_6, .ref lt_6, .ref lp_6, .int (-1), .int 0, .int 0, .int 0, .int 0, .int 0, .int 0, .int (-1), .int 0, .int 0, .int 0])), (ll_6, .inr (1, [.int 0, .ref ed, .int 0])), (lt_6, .inr (1, [.int 0, .ref ed, .int 0])), (lp_6, .inr (1, [.int 0, .ref ed, .int 0])), (r9, .inr (0, [.int 0, .int (-1), .int 0, .ref ll])), (r16, .inr (0, [.int 0, .int (-1), .int 0, .ref lt])), (r23, .inr (0, [.int 0, .int (-1), .int 1, .ref lp]))] H22 := hP
  have hD : va_D A [(mr, .inr (9, [.ref ll, .ref lt, .ref lp, .int (-1), .int 0, .int 1, .int 0, .int 0, .int 0, .int 0, .int (-1), .int 18, .int 0, .int 0])), (lp, .inr (1, [.int 1, .ref oa, .int 1])), (oa, .inl (cO, 10, .inr (.inr (.inr (.inr fo))))), (e1, .inl (cE, 4, .inl fe)), (q1, .inr (9, [.ref ll_6, .ref lt_6, .ref lp_6, .int (-1), .int 0, .int 0, .int 0, .int 0, .int 0, .int 0, .int (-1), .int 0, .int 0, .int 0])), (ll_6, .inr (1, [.int 0, .ref ed, .int 0])), (lt_6, .inr (1, [.int 0, .ref ed, .int 0])), (lp_6, .inr (1, [.int 0, .ref ed, .int 0])), (r9, .inr (0, [.int 0, .int (-1), .int 0, .ref ll])), (r16, .inr (0, [.int 0, .int (-1), .int 0, .ref lt])), (r23, .inr (0, [.int 0, .int (-1), .int 1, .ref lp]))] := hD
  have hvz21 : s.heap.size + 3 ≤ H22.size := by have h9 := hq24_0; rw [ht] at h9; omega
  refine lv_astore_n (lv' := [(2, .ref r23), (1, .ref q1), (0, .ref mr)]) hx hb dX7_copy_105 rfl hl (by decide) rfl (fun ls hl => ?_)
  refine lv_aload_n hx hb dX7_copy_106 rfl (lv_at hl 0 rfl) ?_
  have huz25 : s.heap.size + 3 ≤ H22.size := hvz21
  have hPr := (hP).sub (ws' := [(r23, .inr (0, [.int 0, .int (-1), .int 1, .ref lp])), (lp, .inr (1, [.int 1, .ref oa, .int 1]))]) [10, 1] rfl
  have hPc := hP.sub (ws' := []) [] rfl
  have hDc := hD.sub (ws' := []) [] (by decide) rfl
  have hKc := hK.sub (tys' := []) [] rfl
  have hFc := va_free (wc := []) hD hS hA [] rfl
  refine va_callFi (va_runF (As := []) (rest := []) (hK.1 0 _ rfl).2 ⟨hx, hb, hml, hown, hts⟩ (cz_RhasNext1 l dC dI ed H22.size r23 lp 1 oa) (va_cwF 0 hts gX7_copy_Jx35411_hasNext_aae02_f36Jx35411 rfl rfl rfl hN.2.2.2.2.2.2.2.1 (by decide +kernel) ⟨Nat.le_of_ble_eq_true rfl, Nat.le_of_ble_eq_true rfl⟩) ⟨zb_blind, va_recv hK hP (ci := 0) (q0 := 10) rfl rfl, fun U hU hW => ⟨rfl, zb_mk hU hW hPr hPc hKc hDc hN hH hS hFc zx_e⟩⟩ rfl rfl hl.1 rfl (lv_room (Nat.le_of_ble_eq_true rfl)) dX7_copy_107 ⟨Nat.le_of_ble_eq_true rfl, Nat.le_of_ble_eq_true rfl⟩) hS (fun q _ h => hFc q h) hFc (fun r27 u t H26 locs ht hvm hw hB hz1 hk1 hS => ?_)
  obtain rfl : r27 = 1 := hw
  have hP := zo_K hP hk1
  have hvz25 : s.heap.size + 3 ≤ H26.size := Nat.le_trans huz25 hz1
  refine lv_if_eq (tgt := 143) hx hb dX7_copy_112 (by decide) (fun h => absurd h (by decide)) (fun _ => ?_)
  refine lv_aload_n hx hb dX7_copy_115 rfl (lv_at hl 0 rfl) ?_
  have huz28 : s.heap.size + 3 ≤ H26.size := hvz25
  have hPr := (hP).sub (ws' := [(lp, .inr (1, [.int 1, .ref oa, .int 1])), (oa, .inl (cO, 10, .inr (.inr (.inr (.inr fo)))))]) [1, 2] rfl
  have hPc := hP.sub (ws' := [(r23, .inr (0, [.int 0, .int (-1), .int 1, .ref lp]))]) [10] rfl
  have hDc := hD.sub (ws' := [(r23, .inr (0, [.int 0, .int (-1), .int 1, .ref lp]))]) [10] (by decide) rfl
  have hKc := hK.sub (tys' := [(cO, .object "java/lang/Object")]) [0] rfl
  have hFc := va_free (wc := [(r23, .inr (0, [.int 0, .int (-1), .int 1, .ref lp]))]) hD hS hA [10] rfl
  refine va_callFr (va_runF (As := []) (rest := []) (hK.1 0 _ rfl).2 ⟨hx, hb, hml, hown, hts⟩ (cz_Rnext l dC dI ed H26.size r23 lp 1 oa cO fo e1 ho) (va_cwF 0 hts gX7_copy_Jx35411_next_0502b_f42Jx35411 rfl rfl rfl hN.2.2.2.2.2.2.2.2 (by decide +kernel) ⟨Nat.le_of_ble_eq_true rfl, Nat.le_of_ble_eq_true rfl⟩) ⟨zb_blind, va_recv hK hP (ci := 0) (q0 := 10) rfl rfl, fun U hU hW => ⟨rfl, zb_mk hU hW hPr hPc hKc hDc hN hH hS hFc (zx_cons (zx_o hD 1 [10] rfl rfl (by decide)) (zx_cons (zx_o hD 2 [10] rfl rfl (by decide)) zx_nil))⟩⟩ rfl rfl hl.1 rfl (lv_room (Nat.le_of_ble_eq_true rfl)) dX7_copy_116 ⟨Nat.le_of_ble_eq_true rfl, Nat.le_of_ble_eq_true rfl⟩) hS (fun q _ h => hFc q h) hFc (fun u r30 t H29 locs ht hvm hw hB hz1 hk1 hS => ?_)
  obtain ⟨hq31_0, hP1, hD1, hK1⟩ := hB
  rw [ht] at hP1
  obtain ⟨hP, hD⟩ := va_join (wr := [(mr, .inr (9, [.ref ll, .ref lt, .ref lp, .int (-1), .int 0, .int 1, .int 0, .int 0, .int 0, .int 0, .int (-1), .int 18, .int 0, .int 0])), (lp, .inr (1, [.int 1, .ref oa, .int 1])), (oa, .inl (cO, 10, .inr (.inr (.inr (.inr fo))))), (e1, .inl (cE, 4, .inl fe)), (q1, .inr (9, [.ref ll_6, .ref lt_6, .ref lp_6, .int (-1), .int 0, .int 0, .int 0, .int 0, .int 0, .int 0, .int (-1), .int 0, .int 0, .int 0])), (ll_6, .inr (1, [.int 0, .ref ed, .int 0])), (lt_6, .inr (1, [.int 0, .ref ed, .int 0])), (lp_6, .inr (1, [.int 0, .ref ed, .int 0])), (r9, .inr (0, [.int 0, .int (-1), .int 0, .ref ll])), (r16, .inr (0, [.int 0, .int (-1), .int 0, .ref lt]))]) (w1 := [(r23, .inr (0, [.int 1, .int 0, .int 1, .ref lp]))]) hP hD [10] [0, 1, 2, 3, 4, 5, 6, 7, 8, 9] rfl rfl (by decide) (by decide) hk1 hFc hP1 hD1
  have hP : va_P (dC, dI) vwCl [(mr, .inr (9, [.ref ll, .ref lt, .ref lp, .int (-1), .int 0, .int 1, .int 0, .int 0, .int 0, .int 0, .int (-1), .int 18, .int 0, .int 0])), (lp, .inr (1, [.int 1, .ref oa, .int 1])), (oa, .inl (cO, 10, .inr (.inr (.inr (.inr fo))))), (e1, .inl (cE, 4, .inl fe)), (q1, .inr (9, [.ref ll_6, .ref lt_6, .ref lp_6, .int (-1), .int 0, .int 0, .int 0, .int 0, .int 0, .int 0, .int (-1), .int 0, .int 0, .int 0])), (ll_6, .inr (1, [.int 0, .ref ed, .int 0])), (lt_6, .inr (1, [.int 0, .ref ed, .int 0])), (lp_6, .inr (1, [.int 0, .ref ed, .int 0])), (r9, .inr (0, [.int 0, .int (-1), .int 0, .ref ll])), (r16, .inr (0, [.int 0, .int (-1), .int 0, .ref lt])), (r23, .inr (0, [.int 1, .int 0, .int 1, .ref lp]))] H29 := hP
  have hD : va_D A [(mr, .inr (9, [.ref ll, .ref lt, .ref lp, .int (-1), .int 0, .int 1, .int 0, .int 0, .int 0, .int 0, .int (-1), .int 18, .int 0, .int 0])), (lp, .inr (1, [.int 1, .ref oa, .int 1])), (oa, .inl (cO, 10, .inr (.inr (.inr (.inr fo))))), (e1, .inl (cE, 4, .inl fe)), (q1, .inr (9, [.ref ll_6, .ref lt_6, .ref lp_6, .int (-1), .int 0, .int 0, .int 0, .int 0, .int 0, .int 0, .int (-1), .int 0, .int 0, .int 0])), (ll_6, .inr (1, [.int 0, .ref ed, .int 0])), (lt_6, .inr (1, [.int 0, .ref ed, .int 0])), (lp_6, .inr (1, [.int 0, .ref ed, .int 0])), (r9, .inr (0, [.int 0, .int (-1), .int 0, .ref ll])), (r16, .inr (0, [.int 0, .int (-1), .int 0, .ref lt])), (r23, .inr (0, [.int 1, .int 0, .int 1, .ref lp]))] := hD
  obtain rfl : e1 = r30 := hq31_0.symm
  have hvz28 : s.heap.size + 3 ≤ H29.size := Nat.le_trans huz28 hz1
  refine va_castA (nm := "[I") hx hb hown (hts (.classLink RX7 46 "[I") (by decide +kernel)) hP 3 rfl (show s.vm.findClass "[I" = some cE from (hK.2 1 _ rfl).2) dX7_copy_121 ?_
  refine lv_astore_n (lv' := [(3, .ref e1), (2, .ref r23), (1, .ref q1), (0, .ref mr)]) hx hb dX7_copy_124 rfl hl (by decide) rfl (fun ls hl => ?_)
  refine lv_aload_n hx hb dX7_copy_125 rfl (lv_at hl 2 rfl) ?_
  refine va_get (D := (dC, dI)) (ci := 9) (v := .ref lp_6) (C := RX7) (T := TX7) (N := 14) hx hb hts zi_X7_copy_X7 hown hK hP 4 rfl rfl 2 (by decide) (hts (.fieldLink RX7 21 "LockRoomsModel$Room" "players" "Ljava/util/ArrayList;") (by decide +kernel)) (fun _ h9 => h9) rfl dX7_copy_126 ?_
  refine lv_aload_n hx hb dX7_copy_129 rfl (lv_at hl 0 rfl) ?_
  refine va_clone (ad := "[I") hx hb (hml.trans hl.1.symm) hown (hts (.methodLink RX7 48 ⟨"[I", "clone", "()Ljava/lang/Object;"⟩) (by decide +kernel)) (hts (.sameMethod "[I" "java/lang/Object" "clone" "()Ljava/lang/Object;") (by decide +kernel)) (hts (.native ⟨"java/lang/Object", "clone", "()Ljava/lang/Object;"⟩) (by decide +kernel)) (hts (.instanceMethod ⟨"java/lang/Object", "clone", "()Ljava/lang/Object;"⟩) (by decide +kernel)) (hts (.selects "[I" ⟨"[I", "clone", "()Ljava/lang/Object;"⟩ ⟨"java/lang/Object", "clone", "()Ljava/lang/Object;"⟩) (by decide +kernel)) (va_Nw.use rfl (hN.2.2.2.2.1 ("[I", "java/lang/Cloneable") (by decide))) hK hP hD hS hA 3 1 rfl rfl (show s.vm.findClass "[I" = some cE from (hK.2 1 _ rfl).2) (zo_fitI _ _ _) (Nat.le_of_ble_eq_true rfl) (Nat.le_of_ble_eq_true rfl) (Nat.le_of_ble_eq_true rfl) (Nat.le_of_ble_eq_true rfl) dX7_copy_130 (fun q32 H33 hK hP hD hS => ?_)
  have hK := hK.sub (tys' := [(cO, .object "java/lang/Object"), (cE, .int)]) [0, 1] rfl
  have hP : va_P (dC, dI) vwCl [(mr, .inr (9, [.ref ll, .ref lt, .ref lp, .int (-1), .int 0, .int 1, .int 0, .int 0, .int 0, .int 0, .int (-1), .int 18, .int 0, .int 0])), (lp, .inr (1, [.int 1, .ref oa, .int 1])), (oa, .inl (cO, 10, .inr (.inr (.inr (.inr fo))))), (e1, .inl (cE, 4, .inl fe)), (q1, .inr (9, [.ref ll_6, .ref lt_6, .ref lp_6, .int (-1), .int 0, .int 0, .int 0, .int 0, .int 0, .int 0, .int (-1), .int 0, .int 0, .int 0])), (ll_6, .inr (1, [.int 0, .ref ed, .int 0])), (lt_6, .inr (1, [.int 0, .ref ed, .int 0])), (lp_6, .inr (1, [.int 0, .ref ed, .int 0])), (r9, .inr (0, [.int 0, .int (-1), .int 0, .ref ll])), (r16, .inr (0, [.int 0, .int (-1), .int 0, .ref lt])), (r23, .inr (0, [.int 1, .int 0, .int 1, .ref lp])), (q32, .inl (cE, 4, .inl fe))] H33 := hP
  have hD : va_D A [(mr, .inr (9, [.ref ll, .ref lt, .ref lp, .int (-1), .int 0, .int 1, .int 0, .int 0, .int 0, .int 0, .int (-1), .int 18, .int 0, .int 0])), (lp, .inr (1, [.int 1, .ref oa, .int 1])), (oa, .inl (cO, 10, .inr (.inr (.inr (.inr fo))))), (e1, .inl (cE, 4, .inl fe)), (q1, .inr (9, [.ref ll_6, .ref lt_6, .ref lp_6, .int (-1), .int 0, .int 0, .int 0, .int 0, .int 0, .int 0, .int (-1), .int 0, .int 0, .int 0])), (ll_6, .inr (1, [.int 0, .ref ed, .int 0])), (lt_6, .inr (1, [.int 0, .ref ed, .int 0])), (lp_6, .inr (1, [.int 0, .ref ed, .int 0])), (r9, .inr (0, [.int 0, .int (-1), .int 0, .ref ll])), (r16, .inr (0, [.int 0, .int (-1), .int 0, .ref lt])), (r23, .inr (0, [.int 1, .int 0, .int 1, .ref lp])), (q32, .inl (cE, 4, .inl fe))] := hD
  refine va_castA (nm := "[I") hx hb hown (hts (.classLink RX7 46 "[I") (by decide +kernel)) hP 11 rfl (show s.vm.findClass "[I" = some cE from (hK.2 1 _ rfl).2) dX7_copy_133 ?_
  have huz34 : s.heap.size + 0 ≤ H33.size := hS.1
  have hPr := (hP).sub (ws' := [(q32, .inl (cE, 4, .inl fe))]) [11] rfl
  have hPc := hP.sub (ws' := [(lp_6, .inr (1, [.int 0, .ref ed, .int 0]))]) [7] rfl
  have hDc := hD.sub (ws' := [(lp_6, .inr (1, [.int 0, .ref ed, .int 0]))]) [7] (by decide) rfl
  have hKc := hK.sub (tys' := [(cE, .int)]) [1] rfl
  have hFc := va_free (wc := [(lp_6, .inr (1, [.int 0, .ref ed, .int 0]))]) hD hS hA [7] rfl
  refine va_calli (va_runV (As := [.ref q32]) (rest := []) ⟨hx, hb, hml, hown, hts⟩ (cz_Radd l dC dI ed H33.size lp_6 q32 cE fe) (cwV 1 hts gX7_copy_Jx4a65c_add_9ea2d rfl rfl rfl (by decide +kernel) ⟨Nat.le_of_ble_eq_true rfl, Nat.le_of_ble_eq_true rfl⟩) ⟨zb_blind, va_recv hK hP (ci := 1) (q0 := 7) rfl rfl, fun U hU hW => ⟨rfl, zb_mk hU hW hPr hPc hKc hDc hN hH hS hFc (zx_cons (zx_o hD 11 [7] rfl rfl (by decide)) zx_nil)⟩⟩ rfl rfl hl.1 rfl (lv_room (Nat.le_of_ble_eq_true rfl)) dX7_copy_136 ⟨Nat.le_of_ble_eq_true rfl, Nat.le_of_ble_eq_true rfl⟩) hS (fun q _ h => hFc q h) hFc (fun r36 u t H35 locs ht hvm hw hB hz1 hk1 hS => ?_)
  obtain rfl : r36 = 1 := hw
  obtain ⟨oa_37, cO_37, fo_37, k37_0, hP1, hD1, hK1⟩ := hB
  rw [ht] at hP1
  obtain ⟨hP, hD⟩ := va_join (wr := [(mr, .inr (9, [.ref ll, .ref lt, .ref lp, .int (-1), .int 0, .int 1, .int 0, .int 0, .int 0, .int 0, .int (-1), .int 18, .int 0, .int 0])), (lp, .inr (1, [.int 1, .ref oa, .int 1])), (oa, .inl (cO, 10, .inr (.inr (.inr (.inr fo))))), (e1, .inl (cE, 4, .inl fe)), (q1, .inr (9, [.ref ll_6, .ref lt_6, .ref lp_6, .int (-1), .int 0, .int 0, .int 0, .int 0, .int 0, .int 0, .int (-1), .int 0, .int 0, .int 0])), (ll_6, .inr (1, [.int 0, .ref ed, .int 0])), (lt_6, .inr (1, [.int 0, .ref ed, .int 0])), (r9, .inr (0, [.int 0, .int (-1), .int 0, .ref ll])), (r16, .inr (0, [.int 0, .int (-1), .int 0, .ref lt])), (r23, .inr (0, [.int 1, .int 0, .int 1, .ref lp])), (q32, .inl (cE, 4, .inl fe))]) (w1 := [(lp_6, .inr (1, [.int 1, .ref oa_37, .int 1])), (oa_37, .inl (cO_37, 10, .inr (.inr (.inr (.inr fo_37)))))]) hP hD [7] [0, 1, 2, 3, 4, 5, 6, 8, 9, 10, 11] rfl rfl (by decide) (by decide) hk1 hFc hP1 hD1
  have hP : va_P (dC, dI) vwCl [(mr, .inr (9, [.ref ll, .ref lt, .ref lp, .int (-1), .int 0, .int 1, .int 0, .int 0, .int 0, .int 0, .int (-1), .int 18, .int 0, .int 0])), (lp, .inr (1, [.int 1, .ref oa, .int 1])), (oa, .inl (cO, 10, .inr (.inr (.inr (.inr fo))))), (e1, .inl (cE, 4, .inl fe)), (q1, .inr (9, [.ref ll_6, .ref lt_6, .ref lp_6, .int (-1), .int 0, .int 0, .int 0, .int 0, .int 0, .int 0, .int (-1), .int 0, .int 0, .int 0])), (ll_6, .inr (1, [.int 0, .ref ed, .int 0])), (lt_6, .inr (1, [.int 0, .ref ed, .int 0])), (r9, .inr (0, [.int 0, .int (-1), .int 0, .ref ll])), (r16, .inr (0, [.int 0, .int (-1), .int 0, .ref lt])), (r23, .inr (0, [.int 1, .int 0, .int 1, .ref lp])), (q32, .inl (cE, 4, .inl fe)), (lp_6, .inr (1, [.int 1, .ref oa_37, .int 1])), (oa_37, .inl (cO_37, 10, .inr (.inr (.inr (.inr fo_37)))))] H35 := hP
  have hD : va_D A [(mr, .inr (9, [.ref ll, .ref lt, .ref lp, .int (-1), .int 0, .int 1, .int 0, .int 0, .int 0, .int 0, .int (-1), .int 18, .int 0, .int 0])), (lp, .inr (1, [.int 1, .ref oa, .int 1])), (oa, .inl (cO, 10, .inr (.inr (.inr (.inr fo))))), (e1, .inl (cE, 4, .inl fe)), (q1, .inr (9, [.ref ll_6, .ref lt_6, .ref lp_6, .int (-1), .int 0, .int 0, .int 0, .int 0, .int 0, .int 0, .int (-1), .int 0, .int 0, .int 0])), (ll_6, .inr (1, [.int 0, .ref ed, .int 0])), (lt_6, .inr (1, [.int 0, .ref ed, .int 0])), (r9, .inr (0, [.int 0, .int (-1), .int 0, .ref ll])), (r16, .inr (0, [.int 0, .int (-1), .int 0, .ref lt])), (r23, .inr (0, [.int 1, .int 0, .int 1, .ref lp])), (q32, .inl (cE, 4, .inl fe)), (lp_6, .inr (1, [.int 1, .ref oa_37, .int 1])), (oa_37, .inl (cO_37, 10, .inr (.inr (.inr (.inr fo_37)))))] := hD
  have hK := hK.app (va_K.moved hvm.symm hK1)
  have hK : va_K (dC, dI) vwCl [(cO, .object "java/lang/Object"), (cE, .int), (cO_37, .object "java/lang/Object")] s := hK
  have hvz34 : s.heap.size + 0 ≤ H35.size := Nat.le_trans huz34 hz1
  refine lv_pop hx hb dX7_copy_139 rfl ?_
  refine lv_goto (tgt := 106) hx hb dX7_copy_140 (by decide) ?_
  refine lv_aload_n hx hb dX7_copy_106 rfl (lv_at hl 1 rfl) ?_
  have huz38 : s.heap.size + 0 ≤ H35.size := hvz34
  have hPr := (hP).sub (ws' := [(r23, .inr (0, [.int 1, .int 0, .int 1, .ref lp])), (lp, .inr (1, [.int 1, .ref oa, .int 1]))]) [9, 1] rfl
  have hPc := hP.sub (ws' := []) [] rfl
  have hDc := hD.sub (ws' := []) [] (by decide) rfl
  have hKc := hK.sub (tys' := []) [] rfl
  have hFc := va_free (wc := []) hD hS hA [] rfl
  refine va_callFi (va_runF (As := []) (rest := []) (hK.1 0 _ rfl).2 ⟨hx, hb, hml, hown, hts⟩ (cz_RhasNext2 l dC dI ed H35.size r23 lp 1 oa) (va_cwF 0 hts gX7_copy_Jx35411_hasNext_aae02_f36Jx35411 rfl rfl rfl hN.2.2.2.2.2.2.2.1 (by decide +kernel) ⟨Nat.le_of_ble_eq_true rfl, Nat.le_of_ble_eq_true rfl⟩) ⟨zb_blind, va_recv hK hP (ci := 0) (q0 := 9) rfl rfl, fun U hU hW => ⟨rfl, zb_mk hU hW hPr hPc hKc hDc hN hH hS hFc zx_e⟩⟩ rfl rfl hl.1 rfl (lv_room (Nat.le_of_ble_eq_true rfl)) dX7_copy_107 ⟨Nat.le_of_ble_eq_true rfl, Nat.le_of_ble_eq_true rfl⟩) hS (fun q _ h => hFc q h) hFc (fun r40 u t H39 locs ht hvm hw hB hz1 hk1 hS => ?_)
  obtain rfl : r40 = 0 := hw
  have hP := zo_K hP hk1
  have hvz38 : s.heap.size + 0 ≤ H39.size := Nat.le_trans huz38 hz1
  refine lv_if_eq (tgt := 143) hx hb dX7_copy_112 (by decide) (fun _ => ?_) (fun h => absurd h (by decide))
  refine lv_aload_n hx hb dX7_copy_143 rfl (lv_at hl 2 rfl) ?_
  refine lv_aload_n hx hb dX7_copy_144 rfl (lv_at hl 3 rfl) ?_
  refine va_get (D := (dC, dI)) (ci := 9) (v := .int (-1)) (C := RX7) (T := TX7) (N := 14) hx hb hts zi_X7_copy_X7 hown hK hP 0 rfl rfl 3 (by decide) (hts (.fieldLink RX7 24 "LockRoomsModel$Room" "exit" "I") (by decide +kernel)) (fun _ h9 => h9) rfl dX7_copy_145 ?_
  refine va_put (D := (dC, dI)) (ci := 9) (v := .int (-1)) (ty := .int) (C := RX7) (T := TX7) (N := 14) hx hb hts zi_X7_copy_X7 tyX7 tyX7_ok nmX7 hown hK hP hD hS 4 rfl rfl 3 (by decide) (hts (.fieldLink RX7 24 "LockRoomsModel$Room" "exit" "I") (by decide +kernel)) (fun _ h9 => h9) rfl (by decide +kernel) rfl rfl (Nat.le_of_ble_eq_true rfl) dX7_copy_148 (fun H41 locs hP hD hS => ?_)
  have hP : va_P (dC, dI) vwCl [(mr, .inr (9, [.ref ll, .ref lt, .ref lp, .int (-1), .int 0, .int 1, .int 0, .int 0, .int 0, .int 0, .int (-1), .int 18, .int 0, .int 0])), (lp, .inr (1, [.int 1, .ref oa, .int 1])), (oa, .inl (cO, 10, .inr (.inr (.inr (.inr fo))))), (e1, .inl (cE, 4, .inl fe)), (q1, .inr (9, [.ref ll_6, .ref lt_6, .ref lp_6, .int (-1), .int 0, .int 0, .int 0, .int 0, .int 0, .int 0, .int (-1), .int 0, .int 0, .int 0])), (ll_6, .inr (1, [.int 0, .ref ed, .int 0])), (lt_6, .inr (1, [.int 0, .ref ed, .int 0])), (r9, .inr (0, [.int 0, .int (-1), .int 0, .ref ll])), (r16, .inr (0, [.int 0, .int (-1), .int 0, .ref lt])), (r23, .inr (0, [.int 1, .int 0, .int 1, .ref lp])), (q32, .inl (cE, 4, .inl fe)), (lp_6, .inr (1, [.int 1, .ref oa_37, .int 1])), (oa_37, .inl (cO_37, 10, .inr (.inr (.inr (.inr fo_37)))))] H41 := hP
  have hD : va_D A [(mr, .inr (9, [.ref ll, .ref lt, .ref lp, .int (-1), .int 0, .int 1, .int 0, .int 0, .int 0, .int 0, .int (-1), .int 18, .int 0, .int 0])), (lp, .inr (1, [.int 1, .ref oa, .int 1])), (oa, .inl (cO, 10, .inr (.inr (.inr (.inr fo))))), (e1, .inl (cE, 4, .inl fe)), (q1, .inr (9, [.ref ll_6, .ref lt_6, .ref lp_6, .int (-1), .int 0, .int 0, .int 0, .int 0, .int 0, .int 0, .int (-1), .int 0, .int 0, .int 0])), (ll_6, .inr (1, [.int 0, .ref ed, .int 0])), (lt_6, .inr (1, [.int 0, .ref ed, .int 0])), (r9, .inr (0, [.int 0, .int (-1), .int 0, .ref ll])), (r16, .inr (0, [.int 0, .int (-1), .int 0, .ref lt])), (r23, .inr (0, [.int 1, .int 0, .int 1, .ref lp])), (q32, .inl (cE, 4, .inl fe)), (lp_6, .inr (1, [.int 1, .ref oa_37, .int 1])), (oa_37, .inl (cO_37, 10, .inr (.inr (.inr (.inr fo_37)))))] := hD
  refine lv_aload_n hx hb dX7_copy_151 rfl (lv_at hl 2 rfl) ?_
  refine lv_aload_n hx hb dX7_copy_152 rfl (lv_at hl 3 rfl) ?_
  refine va_get (D := (dC, dI)) (ci := 9) (v := .int 1) (C := RX7) (T := TX7) (N := 14) hx hb hts zi_X7_copy_X7 hown hK hP 0 rfl rfl 5 (by decide) (hts (.fieldLink RX7 55 "LockRoomsModel$Room" "isRunning" "Z") (by decide +kernel)) (fun _ h9 => h9) rfl dX7_copy_153 ?_
  refine va_put (D := (dC, dI)) (ci := 9) (v := .int 1) (ty := .boolean) (C := RX7) (T := TX7) (N := 14) hx hb hts zi_X7_copy_X7 tyX7 tyX7_ok nmX7 hown hK hP hD hS 4 rfl rfl 5 (by decide) (hts (.fieldLink RX7 55 "LockRoomsModel$Room" "isRunning" "Z") (by decide +kernel)) (fun _ h9 => h9) rfl (by decide +kernel) (by decide) (by decide) (Nat.le_of_ble_eq_true rfl) dX7_copy_156 (fun H42 locs hP hD hS => ?_)
  have hP : va_P (dC, dI) vwCl [(mr, .inr (9, [.ref ll, .ref lt, .ref lp, .int (-1), .int 0, .int 1, .int 0, .int 0, .int 0, .int 0, .int (-1), .int 18, .int 0, .int 0])), (lp, .inr (1, [.int 1, .ref oa, .int 1])), (oa, .inl (cO, 10, .inr (.inr (.inr (.inr fo))))), (e1, .inl (cE, 4, .inl fe)), (q1, .inr (9, [.ref ll_6, .ref lt_6, .ref lp_6, .int (-1), .int 0, .int 1, .int 0, .int 0, .int 0, .int 0, .int (-1), .int 0, .int 0, .int 0])), (ll_6, .inr (1, [.int 0, .ref ed, .int 0])), (lt_6, .inr (1, [.int 0, .ref ed, .int 0])), (r9, .inr (0, [.int 0, .int (-1), .int 0, .ref ll])), (r16, .inr (0, [.int 0, .int (-1), .int 0, .ref lt])), (r23, .inr (0, [.int 1, .int 0, .int 1, .ref lp])), (q32, .inl (cE, 4, .inl fe)), (lp_6, .inr (1, [.int 1, .ref oa_37, .int 1])), (oa_37, .inl (cO_37, 10, .inr (.inr (.inr (.inr fo_37)))))] H42 := hP
  have hD : va_D A [(mr, .inr (9, [.ref ll, .ref lt, .ref lp, .int (-1), .int 0, .int 1, .int 0, .int 0, .int 0, .int 0, .int (-1), .int 18, .int 0, .int 0])), (lp, .inr (1, [.int 1, .ref oa, .int 1])), (oa, .inl (cO, 10, .inr (.inr (.inr (.inr fo))))), (e1, .inl (cE, 4, .inl fe)), (q1, .inr (9, [.ref ll_6, .ref lt_6, .ref lp_6, .int (-1), .int 0, .int 1, .int 0, .int 0, .int 0, .int 0, .int (-1), .int 0, .int 0, .int 0])), (ll_6, .inr (1, [.int 0, .ref ed, .int 0])), (lt_6, .inr (1, [.int 0, .ref ed, .int 0])), (r9, .inr (0, [.int 0, .int (-1), .int 0, .ref ll])), (r16, .inr (0, [.int 0, .int (-1), .int 0, .ref lt])), (r23, .inr (0, [.int 1, .int 0, .int 1, .ref lp])), (q32, .inl (cE, 4, .inl fe)), (lp_6, .inr (1, [.int 1, .ref oa_37, .int 1])), (oa_37, .inl (cO_37, 10, .inr (.inr (.inr (.inr fo_37)))))] := hD
  refine lv_aload_n hx hb dX7_copy_159 rfl (lv_at hl 2 rfl) ?_
  refine lv_aload_n hx hb dX7_copy_160 rfl (lv_at hl 3 rfl) ?_
  refine va_get (D := (dC, dI)) (ci := 9) (v := .int 0) (C := RX7) (T := TX7) (N := 14) hx hb hts zi_X7_copy_X7 hown hK hP 0 rfl rfl 6 (by decide) (hts (.fieldLink RX7 59 "LockRoomsModel$Room" "time" "I") (by decide +kernel)) (fun _ h9 => h9) rfl dX7_copy_161 ?_
  refine va_put (D := (dC, dI)) (ci := 9) (v := .int 0) (ty := .int) (C := RX7) (T := TX7) (N := 14) hx hb hts zi_X7_copy_X7 tyX7 tyX7_ok nmX7 hown hK hP hD hS 4 rfl rfl 6 (by decide) (hts (.fieldLink RX7 59 "LockRoomsModel$Room" "time" "I") (by decide +kernel)) (fun _ h9 => h9) rfl (by decide +kernel) rfl rfl (Nat.le_of_ble_eq_true rfl) dX7_copy_164 (fun H43 locs hP hD hS => ?_)
  have hP : va_P (dC, dI) vwCl [(mr, .inr (9, [.ref ll, .ref lt, .ref lp, .int (-1), .int 0, .int 1, .int 0, .int 0, .int 0, .int 0, .int (-1), .int 18, .int 0, .int 0])), (lp, .inr (1, [.int 1, .ref oa, .int 1])), (oa, .inl (cO, 10, .inr (.inr (.inr (.inr fo))))), (e1, .inl (cE, 4, .inl fe)), (q1, .inr (9, [.ref ll_6, .ref lt_6, .ref lp_6, .int (-1), .int 0, .int 1, .int 0, .int 0, .int 0, .int 0, .int (-1), .int 0, .int 0, .int 0])), (ll_6, .inr (1, [.int 0, .ref ed, .int 0])), (lt_6, .inr (1, [.int 0, .ref ed, .int 0])), (r9, .inr (0, [.int 0, .int (-1), .int 0, .ref ll])), (r16, .inr (0, [.int 0, .int (-1), .int 0, .ref lt])), (r23, .inr (0, [.int 1, .int 0, .int 1, .ref lp])), (q32, .inl (cE, 4, .inl fe)), (lp_6, .inr (1, [.int 1, .ref oa_37, .int 1])), (oa_37, .inl (cO_37, 10, .inr (.inr (.inr (.inr fo_37)))))] H43 := hP
  have hD : va_D A [(mr, .inr (9, [.ref ll, .ref lt, .ref lp, .int (-1), .int 0, .int 1, .int 0, .int 0, .int 0, .int 0, .int (-1), .int 18, .int 0, .int 0])), (lp, .inr (1, [.int 1, .ref oa, .int 1])), (oa, .inl (cO, 10, .inr (.inr (.inr (.inr fo))))), (e1, .inl (cE, 4, .inl fe)), (q1, .inr (9, [.ref ll_6, .ref lt_6, .ref lp_6, .int (-1), .int 0, .int 1, .int 0, .int 0, .int 0, .int 0, .int (-1), .int 0, .int 0, .int 0])), (ll_6, .inr (1, [.int 0, .ref ed, .int 0])), (lt_6, .inr (1, [.int 0, .ref ed, .int 0])), (r9, .inr (0, [.int 0, .int (-1), .int 0, .ref ll])), (r16, .inr (0, [.int 0, .int (-1), .int 0, .ref lt])), (r23, .inr (0, [.int 1, .int 0, .int 1, .ref lp])), (q32, .inl (cE, 4, .inl fe)), (lp_6, .inr (1, [.int 1, .ref oa_37, .int 1])), (oa_37, .inl (cO_37, 10, .inr (.inr (.inr (.inr fo_37)))))] := hD
  refine lv_aload_n hx hb dX7_copy_167 rfl (lv_at hl 2 rfl) ?_
  refine W.widen (k := 9) (n := 49) (Nat.le_of_ble_eq_true rfl) (Nat.le_of_ble_eq_true rfl) ?_
  have hP9 := hP.sub (ws' := [(mr, .inr (9, [.ref ll, .ref lt, .ref lp, .int (-1), .int 0, .int 1, .int 0, .int 0, .int 0, .int 0, .int (-1), .int 18, .int 0, .int 0])), (lp, .inr (1, [.int 1, .ref oa, .int 1])), (oa, .inl (cO, 10, .inr (.inr (.inr (.inr fo))))), (e1, .inl (cE, 4, .inl fe)), (q1, .inr (9, [.ref ll_6, .ref lt_6, .ref lp_6, .int (-1), .int 0, .int 1, .int 0, .int 0, .int 0, .int 0, .int (-1), .int 0, .int 0, .int 0])), (ll_6, .inr (1, [.int 0, .ref ed, .int 0])), (lt_6, .inr (1, [.int 0, .ref ed, .int 0])), (lp_6, .inr (1, [.int 1, .ref oa_37, .int 1])), (oa_37, .inl (cO_37, 10, .inr (.inr (.inr (.inr fo_37))))), (q32, .inl (cE, 4, .inl fe))]) [0, 1, 2, 3, 4, 5, 6, 11, 12, 10] rfl
  have hD9 := hD.sub (ws' := [(mr, .inr (9, [.ref ll, .ref lt, .ref lp, .int (-1), .int 0, .int 1, .int 0, .int 0, .int 0, .int 0, .int (-1), .int 18, .int 0, .int 0])), (lp, .inr (1, [.int 1, .ref oa, .int 1])), (oa, .inl (cO, 10, .inr (.inr (.inr (.inr fo))))), (e1, .inl (cE, 4, .inl fe)), (q1, .inr (9, [.ref ll_6, .ref lt_6, .ref lp_6, .int (-1), .int 0, .int 1, .int 0, .int 0, .int 0, .int 0, .int (-1), .int 0, .int 0, .int 0])), (ll_6, .inr (1, [.int 0, .ref ed, .int 0])), (lt_6, .inr (1, [.int 0, .ref ed, .int 0])), (lp_6, .inr (1, [.int 1, .ref oa_37, .int 1])), (oa_37, .inl (cO_37, 10, .inr (.inr (.inr (.inr fo_37))))), (q32, .inl (cE, 4, .inl fe))]) [0, 1, 2, 3, 4, 5, 6, 11, 12, 10] (by decide) rfl
  have hK9 := hK.sub (tys' := [(cO, .object "java/lang/Object"), (cE, .int), (cO_37, .object "java/lang/Object"), (cE, .int)]) [0, 1, 2, 1] rfl
  exact W.aret hx hb hr (Or.inl ⟨_, rfl⟩) (Or.inr ⟨_, rfl⟩) (fun t ht hW => ⟨⟨(), q1, rfl, trivial, ⟨ll_6, lt_6, lp_6, oa_37, cO_37, fo_37, q32, cE, fe, (by rw [ht]; exact zo_cnt2 (k := 9) (wc := [(mr, .inr (9, [.ref ll, .ref lt, .ref lp, .int (-1), .int 0, .int 1, .int 0, .int 0, .int 0, .int 0, .int (-1), .int 18, .int 0, .int 0])), (lp, .inr (1, [.int 1, .ref oa, .int 1])), (oa, .inl (cO, 10, .inr (.inr (.inr (.inr fo))))), (e1, .inl (cE, 4, .inl fe))]) (wc' := [(mr, .inr (9, [.ref ll, .ref lt, .ref lp, .int (-1), .int 0, .int 1, .int 0, .int 0, .int 0, .int 0, .int (-1), .int 18, .int 0, .int 0])), (lp, .inr (1, [.int 1, .ref oa, .int 1])), (oa, .inl (cO, 10, .inr (.inr (.inr (.inr fo))))), (e1, .inl (cE, 4, .inl fe))]) (ws := [(q1, .inr (9, [.ref ll_6, .ref lt_6, .ref lp_6, .int (-1), .int 0, .int 1, .int 0, .int 0, .int 0, .int 0, .int (-1), .int 0, .int 0, .int 0])), (ll_6, .inr (1, [.int 0, .ref ed, .int 0])), (lt_6, .inr (1, [.int 0, .ref ed, .int 0])), (r9, .inr (0, [.int 0, .int (-1), .int 0, .ref ll])), (r16, .inr (0, [.int 0, .int (-1), .int 0, .ref lt])), (r23, .inr (0, [.int 1, .int 0, .int 1, .ref lp])), (q32, .inl (cE, 4, .inl fe)), (lp_6, .inr (1, [.int 1, .ref oa_37, .int 1])), (oa_37, .inl (cO_37, 10, .inr (.inr (.inr (.inr fo_37)))))]) (hP.sub (ws' := [(mr, .inr (9, [.ref ll, .ref lt, .ref lp, .int (-1), .int 0, .int 1, .int 0, .int 0, .int 0, .int 0, .int (-1), .int 18, .int 0, .int 0])), (lp, .inr (1, [.int 1, .ref oa, .int 1])), (oa, .inl (cO, 10, .inr (.inr (.inr (.inr fo))))), (e1, .inl (cE, 4, .inl fe)), (q1, .inr (9, [.ref ll_6, .ref lt_6, .ref lp_6, .int (-1), .int 0, .int 1, .int 0, .int 0, .int 0, .int 0, .int (-1), .int 0, .int 0, .int 0])), (ll_6, .inr (1, [.int 0, .ref ed, .int 0])), (lt_6, .inr (1, [.int 0, .ref ed, .int 0])), (r9, .inr (0, [.int 0, .int (-1), .int 0, .ref ll])), (r16, .inr (0, [.int 0, .int (-1), .int 0, .ref lt])), (r23, .inr (0, [.int 1, .int 0, .int 1, .ref lp])), (q32, .inl (cE, 4, .inl fe)), (lp_6, .inr (1, [.int 1, .ref oa_37, .int 1])), (oa_37, .inl (cO_37, 10, .inr (.inr (.inr (.inr fo_37)))))]) [0, 1, 2, 3, 4, 5, 6, 7, 8, 9, 10, 11, 12] rfl) (by rw [hAe]; exact hD.sub (ws' := [(mr, .inr (9, [.ref ll, .ref lt, .ref lp, .int (-1), .int 0, .int 1, .int 0, .int 0, .int 0, .int 0, .int (-1), .int 18, .int 0, .int 0])), (lp, .inr (1, [.int 1, .ref oa, .int 1])), (oa, .inl (cO, 10, .inr (.inr (.inr (.inr fo))))), (e1, .inl (cE, 4, .inl fe)), (q1, .inr (9, [.ref ll_6, .ref lt_6, .ref lp_6, .int (-1), .int 0, .int 1, .int 0, .int 0, .int 0, .int 0, .int (-1), .int 0, .int 0, .int 0])), (ll_6, .inr (1, [.int 0, .ref ed, .int 0])), (lt_6, .inr (1, [.int 0, .ref ed, .int 0])), (r9, .inr (0, [.int 0, .int (-1), .int 0, .ref ll])), (r16, .inr (0, [.int 0, .int (-1), .int 0, .ref lt])), (r23, .inr (0, [.int 1, .int 0, .int 1, .ref lp])), (q32, .inl (cE, 4, .inl fe)), (lp_6, .inr (1, [.int 1, .ref oa_37, .int 1])), (oa_37, .inl (cO_37, 10, .inr (.inr (.inr (.inr fo_37)))))]) [0, 1, 2, 3, 4, 5, 6, 7, 8, 9, 10, 11, 12] (by decide) rfl) rfl (Nat.le_of_ble_eq_true rfl) (Nat.le_of_ble_eq_true rfl)), ⟨ho, he0, he1, he2, he3, k37_0, he0, he1, he2, he3⟩, by rw [ht]; exact hP9, hD9, va_K.moved hW.alike hK9⟩⟩, hS.F ht⟩) hS.2.2 dX7_copy_168
set_option maxRecDepth 20000 in
theorem zi_X7_act_X7 : ∀ w ∈ u_ws RX7 TX7 14, w ∈ wsX7_act := by decide +kernel
set_option maxHeartbeats 4000000 in
set_option maxRecDepth 100000 in
theorem cz_Ract (l : Launch) (dC : Nat → ClassId) (dI : Nat → Nat → Nat) (ed sz : Nat) (mr : Nat) (ll : Nat) (lt : Nat) (lp : Nat) (e1 : Nat) (cE : ClassId) (fe : Nat → Int32) (n0 : Int32) (n2 : Int32) (w : Int32) (he0 : fe 0 = 1) (he1 : fe 1 = (-1)) (he2 : fe 2 = (-1)) (he3 : fe 3 = w) : Met l yX7_act wsX7_act ({ frames := 1, cells := 0, slots := 0, locals := 20 } : Jvm.Room) (va_Pc [.ref mr, .ref e1] (zB dC dI ed sz [(ll, .inr (1, [.int 0, .ref ed, .int 0])), (lt, .inr (1, [.int 0, .ref ed, .int 0]))] [(mr, .inr (9, [.ref ll, .ref lt, .ref lp, .int (-1), .int n0, .int 1, .int n2, .int 0, .int 0, .int 0, .int (-1), .int 0, .int w, .int 0])), (e1, .inl (cE, 4, .inl fe))] [(cE, .int)])) (va_Qi (fun (r : Int32) (_ : Unit) => r = 0) (fun (_ : Unit) (t : State) => ∃ (w1 : Int32), ∃ (ge : Nat → Int32), (w1 = (w + 1)) ∧ (ge 0 = 1 ∧ ge 1 = (-1) ∧ ge 2 = (-1) ∧ ge 3 = w1) ∧ va_P (dC, dI) vwCl [(mr, .inr (9, [.ref ll, .ref lt, .ref lp, .int (-1), .int n0, .int 1, .int n2, .int 0, .int 0, .int 0, .int (-1), .int 0, .int w1, .int 0])), (e1, .inl (cE, 4, .inl ge))] t.heap ∧ va_D (va_A [(mr, .inr (9, [.ref ll, .ref lt, .ref lp, .int (-1), .int n0, .int 1, .int n2, .int 0, .int 0, .int 0, .int (-1), .int 0, .int w, .int 0])), (e1, .inl (cE, 4, .inl fe))] sz) [(mr, .inr (9, [.ref ll, .ref lt, .ref lp, .int (-1), .int n0, .int 1, .int n2, .int 0, .int 0, .int 0, .int (-1), .int 0, .int w1, .int 0])), (e1, .inl (cE, 4, .inl ge))] ∧ va_K (dC, dI) vwCl [(cE, .int)] t) (va_A [(mr, .inr (9, [.ref ll, .ref lt, .ref lp, .int (-1), .int n0, .int 1, .int n2, .int 0, .int 0, .int 0, .int (-1), .int 0, .int w, .int 0])), (e1, .inl (cE, 4, .inl fe))] sz)) 0 0 (va_A [(mr, .inr (9, [.ref ll, .ref lt, .ref lp, .int (-1), .int n0, .int 1, .int n2, .int 0, .int 0, .int 0, .int (-1), .int 0, .int w, .int 0])), (e1, .inl (cE, 4, .inl fe))] sz) := by
  refine Met.ofW (cc := cX7_act) (maxL := 4) (ret := (some .int)) (by decide) rfl ?_
  intro p e s m args below meth c s₁ B hml hv
  obtain ⟨rfl, hsz, hR0, hP, hK, hD0, hN, hH, hX0⟩ := hv
  have hx := B.exec
  have hb := B.bytes
  have hr := B.returns
  have hts := atoms_spec (ws := wsX7_act) B.pre
  have hown : s.vm.findClass RX7 = some m.cls := findClass_of_methodNamed B.named
  have hlocks := B.notSynchronized
  subst hsz
  have hD := hD0.self (sz := s.heap.size)
  have hAr := zx_A hX0 hR0
  generalize hAe : va_A [(mr, .inr (9, [.ref ll, .ref lt, .ref lp, .int (-1), .int n0, .int 1, .int n2, .int 0, .int 0, .int 0, .int (-1), .int 0, .int w, .int 0])), (e1, .inl (cE, 4, .inl fe))] s.heap.size = A at hD hAr hH ⊢
  have hA : ∀ q : Nat, s.heap.size ≤ q → A q := fun q h => by rw [← hAe]; exact Or.inr h
  have hS : va_S A s.heap s.heap [] := va_S.rf
  have hl := lv_entry ([.ref mr, .ref e1]) (n := 4) (Nat.le_of_ble_eq_true rfl)
  rw [lg_entry_eq]
  generalize (lg_sl ([.ref mr, .ref e1]) ++ List.replicate (4 - (lg_sl ([.ref mr, .ref e1])).length) Slot.unset).toArray = ls at hl ⊢
  have hl : lv_has ls 4 [(0, .ref mr), (1, .ref e1)] := hl
  refine lv_aload_n hx hb dX7_act_0 rfl (lv_at hl 1 rfl) ?_
  refine lv_iconst (v := 1) hx hb dX7_act_1 (by decide) ?_
  refine lv_iconst (v := (-1)) hx hb dX7_act_2 (by decide) ?_
  refine va_iast hx hb hK hP hD hS 1 0 rfl rfl (by unfold vp_in; decide) dX7_act_3 (fun H1 locs hP hD hS => ?_)
  obtain ⟨f2, ef2⟩ : ∃ z : Nat → Int32, z = upd fe 1 (-1) := ⟨_, rfl⟩
  have k3 : f2 0 = 1 := by rw [ef2]; exact (pk_un (by decide)).trans (he0)
  have k4 : f2 2 = (-1) := by rw [ef2]; exact (pk_un (by decide)).trans (he2)
  have k5 : f2 3 = w := by rw [ef2]; exact (pk_un (by decide)).trans (he3)
  have k6 : f2 1 = (-1) := by rw [ef2]; exact pk_us
  have hP : va_P (dC, dI) vwCl [(mr, .inr (9, [.ref ll, .ref lt, .ref lp, .int (-1), .int n0, .int 1, .int n2, .int 0, .int 0, .int 0, .int (-1), .int 0, .int w, .int 0])), (e1, .inl (cE, 4, .inl f2))] H1 := by rw [ef2]; exact hP
  have hD : va_D A [(mr, .inr (9, [.ref ll, .ref lt, .ref lp, .int (-1), .int n0, .int 1, .int n2, .int 0, .int 0, .int 0, .int (-1), .int 0, .int w, .int 0])), (e1, .inl (cE, 4, .inl f2))] := by rw [ef2]; exact hD
  refine lv_aload_n hx hb dX7_act_4 rfl (lv_at hl 1 rfl) ?_
  refine lv_iconst (v := 2) hx hb dX7_act_5 (by decide) ?_
  refine lv_iconst (v := (-1)) hx hb dX7_act_6 (by decide) ?_
  refine va_iast hx hb hK hP hD hS 1 0 rfl rfl (by unfold vp_in; decide) dX7_act_7 (fun H7 locs hP hD hS => ?_)
  obtain ⟨f8, ef8⟩ : ∃ z : Nat → Int32, z = upd f2 2 (-1) := ⟨_, rfl⟩
  have k9 : f8 0 = 1 := by rw [ef8]; exact (pk_un (by decide)).trans (k3)
  have k10 : f8 3 = w := by rw [ef8]; exact (pk_un (by decide)).trans (k5)
  have k11 : f8 1 = (-1) := by rw [ef8]; exact (pk_un (by decide)).trans (k6)
  have k12 : f8 2 = (-1) := by rw [ef8]; exact pk_us
  have hP : va_P (dC, dI) vwCl [(mr, .inr (9, [.ref ll, .ref lt, .ref lp, .int (-1), .int n0, .int 1, .int n2, .int 0, .int 0, .int 0, .int (-1), .int 0, .int w, .int 0])), (e1, .inl (cE, 4, .inl f8))] H7 := by rw [ef8]; exact hP
  have hD : va_D A [(mr, .inr (9, [.ref ll, .ref lt, .ref lp, .int (-1), .int n0, .int 1, .int n2, .int 0, .int 0, .int 0, .int (-1), .int 0, .int w, .int 0])), (e1, .inl (cE, 4, .inl f8))] := by rw [ef8]; exact hD
  refine lv_iconst (v := 0) hx hb dX7_act_8 (by decide) ?_
  refine lv_istore_n (lv' := [(2, .int 0), (0, .ref mr), (1, .ref e1)]) hx hb dX7_act_9 rfl hl (by decide) rfl (fun ls hl => ?_)
  refine lv_iload_n hx hb dX7_act_10 rfl (lv_at hl 0 rfl) ?_
  refine lv_aload_n hx hb dX7_act_11 rfl (lv_at hl 1 rfl) ?_
  refine va_get (D := (dC, dI)) (ci := 9) (v := .ref ll) (C := RX7) (T := TX7) (N := 14) hx hb hts zi_X7_act_X7 hown hK hP 0 rfl rfl 0 (by decide) (hts (.fieldLink RX7 12 "LockRoomsModel$Room" "locks" "Ljava/util/ArrayList;") (by decide +kernel)) (fun _ h9 => h9) rfl dX7_act_12 ?_
  have hPr := ((zo_R hR0 hS hAr)).sub (ws' := [(ll, .inr (1, [.int 0, .ref ed, .int 0]))]) [0] rfl
  have hPc := hP.sub (ws' := []) [] rfl
  have hDc := hD.sub (ws' := []) [] (by decide) rfl
  have hKc := hK.sub (tys' := []) [] rfl
  have hFc := va_free (wc := []) hD hS hA [] rfl
  refine va_calli (va_runV (As := []) (rest := [.int 0]) ⟨hx, hb, hml, hown, hts⟩ (cz_Rsize0 l dC dI ed H7.size ll 0 ed) (cwV 0 hts gX7_act_Jx4a65c_size_8abf5 rfl rfl rfl (by decide +kernel) ⟨Nat.le_of_ble_eq_true rfl, Nat.le_of_ble_eq_true rfl⟩) ⟨zb_blind, va_recv hK (zo_R hR0 hS hAr) (ci := 1) (q0 := 0) rfl rfl, fun U hU hW => ⟨rfl, zb_mk hU hW hPr hPc hKc hDc hN hH hS hFc zx_e⟩⟩ rfl rfl hl.1 rfl (lv_room (Nat.le_of_ble_eq_true rfl)) dX7_act_15 ⟨Nat.le_of_ble_eq_true rfl, Nat.le_of_ble_eq_true rfl⟩) hS (fun q _ h => hFc q h) hFc (fun r14 u t H13 locs ht hvm hw hB hz1 hk1 hS => ?_)
  obtain rfl : r14 = 0 := hw
  have hP := zo_K hP hk1
  refine lv_icmp_ge (tgt := 97) hx hb dX7_act_18 (by decide) (fun _ => ?_) (fun h => absurd h (by decide))
  refine lv_iconst (v := 0) hx hb dX7_act_97 (by decide) ?_
  refine lv_istore_n (lv' := [(2, .int 0), (0, .ref mr), (1, .ref e1)]) hx hb dX7_act_98 rfl hl (by decide) rfl (fun ls hl => ?_)
  refine lv_iload_n hx hb dX7_act_99 rfl (lv_at hl 0 rfl) ?_
  refine lv_aload_n hx hb dX7_act_100 rfl (lv_at hl 1 rfl) ?_
  refine va_get (D := (dC, dI)) (ci := 9) (v := .ref lt) (C := RX7) (T := TX7) (N := 14) hx hb hts zi_X7_act_X7 hown hK hP 0 rfl rfl 1 (by decide) (hts (.fieldLink RX7 18 "LockRoomsModel$Room" "things" "Ljava/util/ArrayList;") (by decide +kernel)) (fun _ h9 => h9) rfl dX7_act_101 ?_
  have hPr := ((zo_R hR0 hS hAr)).sub (ws' := [(lt, .inr (1, [.int 0, .ref ed, .int 0]))]) [1] rfl
  have hPc := hP.sub (ws' := []) [] rfl
  have hDc := hD.sub (ws' := []) [] (by decide) rfl
  have hKc := hK.sub (tys' := []) [] rfl
  have hFc := va_free (wc := []) hD hS hA [] rfl
  refine va_calli (va_runV (As := []) (rest := [.int 0]) ⟨hx, hb, hml, hown, hts⟩ (cz_Rsize0 l dC dI ed H13.size lt 0 ed) (cwV 0 hts gX7_act_Jx4a65c_size_8abf5 rfl rfl rfl (by decide +kernel) ⟨Nat.le_of_ble_eq_true rfl, Nat.le_of_ble_eq_true rfl⟩) ⟨zb_blind, va_recv hK (zo_R hR0 hS hAr) (ci := 1) (q0 := 1) rfl rfl, fun U hU hW => ⟨rfl, zb_mk hU hW hPr hPc hKc hDc hN hH hS hFc zx_e⟩⟩ rfl rfl hl.1 rfl (lv_room (Nat.le_of_ble_eq_true rfl)) dX7_act_104 ⟨Nat.le_of_ble_eq_true rfl, Nat.le_of_ble_eq_true rfl⟩) hS (fun q _ h => hFc q h) hFc (fun r16 u t H15 locs ht hvm hw hB hz1 hk1 hS => ?_)
  obtain rfl : r16 = 0 := hw
  have hP := zo_K hP hk1
  refine lv_icmp_ge (tgt := 178) hx hb dX7_act_107 (by decide) (fun _ => ?_) (fun h => absurd h (by decide))
  refine lv_aload_n hx hb dX7_act_178 rfl (lv_at hl 2 rfl) ?_
  refine lv_iconst (v := 3) hx hb dX7_act_179 (by decide) ?_
  refine lv_dup2_11 hx hb dX7_act_180 rfl rfl ?_
  refine va_iald hx hb hK hP 1 0 rfl rfl (by unfold vp_in; decide) dX7_act_181 ?_
  refine zo_i (v := w) (by rw [show Int32.toNatClampNeg 3 = 3 from by decide]; exact k10) ?_
  refine lv_iconst (v := 1) hx hb dX7_act_182 (by decide) ?_
  refine lv_iadd hx hb dX7_act_183 ?_
  refine va_iast hx hb hK hP hD hS 1 0 rfl rfl (by unfold vp_in; decide) dX7_act_184 (fun H17 locs hP hD hS => ?_)
  obtain ⟨f18, ef18⟩ : ∃ z : Nat → Int32, z = upd f8 3 (w + 1) := ⟨_, rfl⟩
  have k19 : f18 0 = 1 := by rw [ef18]; exact (pk_un (by decide)).trans (k9)
  have k20 : f18 1 = (-1) := by rw [ef18]; exact (pk_un (by decide)).trans (k11)
  have k21 : f18 2 = (-1) := by rw [ef18]; exact (pk_un (by decide)).trans (k12)
  have k22 : f18 3 = (w + 1) := by rw [ef18]; exact pk_us
  have hP : va_P (dC, dI) vwCl [(mr, .inr (9, [.ref ll, .ref lt, .ref lp, .int (-1), .int n0, .int 1, .int n2, .int 0, .int 0, .int 0, .int (-1), .int 0, .int w, .int 0])), (e1, .inl (cE, 4, .inl f18))] H17 := by rw [ef18]; exact hP
  have hD : va_D A [(mr, .inr (9, [.ref ll, .ref lt, .ref lp, .int (-1), .int n0, .int 1, .int n2, .int 0, .int 0, .int 0, .int (-1), .int 0, .int w, .int 0])), (e1, .inl (cE, 4, .inl f18))] := by rw [ef18]; exact hD
  refine lv_aload_n hx hb dX7_act_185 rfl (lv_at hl 1 rfl) ?_
  refine lv_dup hx hb dX7_act_186 rfl ?_
  refine va_get (D := (dC, dI)) (ci := 9) (v := .int w) (C := RX7) (T := TX7) (N := 14) hx hb hts zi_X7_act_X7 hown hK hP 0 rfl rfl 12 (by decide) (hts (.fieldLink RX7 120 "LockRoomsModel$Room" "idled" "I") (by decide +kernel)) (fun _ h9 => h9) rfl dX7_act_187 ?_
  refine lv_iconst (v := 1) hx hb dX7_act_190 (by decide) ?_
  refine lv_iadd hx hb dX7_act_191 ?_
  refine va_put (D := (dC, dI)) (ci := 9) (v := .int (w + 1)) (ty := .int) (C := RX7) (T := TX7) (N := 14) hx hb hts zi_X7_act_X7 tyX7 tyX7_ok nmX7 hown hK hP hD hS 0 rfl rfl 12 (by decide) (hts (.fieldLink RX7 120 "LockRoomsModel$Room" "idled" "I") (by decide +kernel)) (fun _ h9 => h9) rfl (by decide +kernel) rfl rfl (Nat.le_of_ble_eq_true rfl) dX7_act_192 (fun H23 locs hP hD hS => ?_)
  have hP : va_P (dC, dI) vwCl [(mr, .inr (9, [.ref ll, .ref lt, .ref lp, .int (-1), .int n0, .int 1, .int n2, .int 0, .int 0, .int 0, .int (-1), .int 0, .int (w + 1), .int 0])), (e1, .inl (cE, 4, .inl f18))] H23 := hP
  have hD : va_D A [(mr, .inr (9, [.ref ll, .ref lt, .ref lp, .int (-1), .int n0, .int 1, .int n2, .int 0, .int 0, .int 0, .int (-1), .int 0, .int (w + 1), .int 0])), (e1, .inl (cE, 4, .inl f18))] := hD
  refine lv_iconst (v := 0) hx hb dX7_act_195 (by decide) ?_
  refine W.widen (k := 0) (n := 0) (Nat.le_of_ble_eq_true rfl) (Nat.le_of_ble_eq_true rfl) ?_
  have hP9 := hP.sub (ws' := [(mr, .inr (9, [.ref ll, .ref lt, .ref lp, .int (-1), .int n0, .int 1, .int n2, .int 0, .int 0, .int 0, .int (-1), .int 0, .int (w + 1), .int 0])), (e1, .inl (cE, 4, .inl f18))]) [0, 1] rfl
  have hD9 := hD.sub (ws' := [(mr, .inr (9, [.ref ll, .ref lt, .ref lp, .int (-1), .int n0, .int 1, .int n2, .int 0, .int 0, .int 0, .int (-1), .int 0, .int (w + 1), .int 0])), (e1, .inl (cE, 4, .inl f18))]) [0, 1] (by decide) rfl
  have hK9 := hK.sub (tys' := [(cE, .int)]) [0] rfl
  exact W.iret hx hb hr (fun t ht hW => ⟨⟨0, (), rfl, rfl, ⟨(w + 1), f18, rfl, ⟨k19, k20, k21, k22⟩, by rw [ht]; exact hP9, hD9, va_K.moved hW.alike hK9⟩⟩, hS.F ht⟩) hS.2.2 dX7_act_196
set_option maxRecDepth 20000 in
theorem zi_Jx4a65c_clear_da8c8_Jx4a65c : ∀ w ∈ u_ws RJx4a65c TJx4a65c 3, w ∈ wsJx4a65c_clear_da8c8 := by decide +kernel
set_option maxHeartbeats 4000000 in
set_option maxRecDepth 100000 in
theorem cz_Rclear (l : Launch) (dC : Nat → ClassId) (dI : Nat → Nat → Nat) (ed sz : Nat) (h0 : Nat) (oa : Nat) (cO : ClassId) (fo : Nat → Option Nat) : Met l yJx4a65c_clear_da8c8 wsJx4a65c_clear_da8c8 ({ frames := 0, cells := 0, slots := 0, locals := 0 } : Jvm.Room) (va_Pc [.ref h0] (zB dC dI ed sz [] [(h0, .inr (1, [.int 1, .ref oa, .int 1])), (oa, .inl (cO, 10, .inr (.inr (.inr (.inr fo)))))] [(cO, .object "java/lang/Object")])) (va_Qv (fun (_ : Unit) => True) (fun (_ : Unit) (t : State) => ∃ (go : Nat → Option Nat), va_P (dC, dI) vwCl [(h0, .inr (1, [.int 2, .ref oa, .int 0])), (oa, .inl (cO, 10, .inr (.inr (.inr (.inr go)))))] t.heap ∧ va_D (va_A [(h0, .inr (1, [.int 1, .ref oa, .int 1])), (oa, .inl (cO, 10, .inr (.inr (.inr (.inr fo)))))] sz) [(h0, .inr (1, [.int 2, .ref oa, .int 0])), (oa, .inl (cO, 10, .inr (.inr (.inr (.inr go)))))] ∧ va_K (dC, dI) vwCl [(cO, .object "java/lang/Object")] t) (va_A [(h0, .inr (1, [.int 1, .ref oa, .int 1])), (oa, .inl (cO, 10, .inr (.inr (.inr (.inr fo)))))] sz)) 0 0 (va_A [(h0, .inr (1, [.int 1, .ref oa, .int 1])), (oa, .inl (cO, 10, .inr (.inr (.inr (.inr fo)))))] sz) := by
  refine Met.ofW (cc := cJx4a65c_clear_da8c8) (maxL := 4) (ret := none) (by decide) rfl ?_
  intro p e s m args below meth c s₁ B hml hv
  obtain ⟨rfl, hsz, hR0, hP, hK, hD0, hN, hH, hX0⟩ := hv
  have hx := B.exec
  have hb := B.bytes
  have hr := B.returns
  have hts := atoms_spec (ws := wsJx4a65c_clear_da8c8) B.pre
  have hown : s.vm.findClass RJx4a65c = some m.cls := findClass_of_methodNamed B.named
  have hlocks := B.notSynchronized
  subst hsz
  have hD := hD0.self (sz := s.heap.size)
  have hAr := zx_A hX0 hR0
  generalize hAe : va_A [(h0, .inr (1, [.int 1, .ref oa, .int 1])), (oa, .inl (cO, 10, .inr (.inr (.inr (.inr fo)))))] s.heap.size = A at hD hAr hH ⊢
  have hA : ∀ q : Nat, s.heap.size ≤ q → A q := fun q h => by rw [← hAe]; exact Or.inr h
  have hS : va_S A s.heap s.heap [] := va_S.rf
  have hl := lv_entry ([.ref h0]) (n := 4) (Nat.le_of_ble_eq_true rfl)
  rw [lg_entry_eq]
  generalize (lg_sl ([.ref h0]) ++ List.replicate (4 - (lg_sl ([.ref h0])).length) Slot.unset).toArray = ls at hl ⊢
  have hl : lv_has ls 4 [(0, .ref h0)] := hl
  refine lv_aload_n hx hb dJx4a65c_clear_da8c8_0 rfl (lv_at hl 0 rfl) ?_
  refine lv_dup hx hb dJx4a65c_clear_da8c8_1 rfl ?_
  refine va_get (D := (dC, dI)) (ci := 1) (v := .int 1) (C := RJx4a65c) (T := TJx4a65c) (N := 3) hx hb hts zi_Jx4a65c_clear_da8c8_Jx4a65c hown hK hP 0 rfl rfl 0 (by decide) (hts (.fieldLink RJx4a65c 63 "java/util/ArrayList" "modCount" "I") (by decide +kernel)) (fun x9 h9 => u_same (hts (.sameField "java/util/ArrayList" "java/util/AbstractList" "modCount" "I") (by decide +kernel)) x9 h9) rfl dJx4a65c_clear_da8c8_2 ?_
  refine lv_iconst (v := 1) hx hb dJx4a65c_clear_da8c8_5 (by decide) ?_
  refine lv_iadd hx hb dJx4a65c_clear_da8c8_6 ?_
  refine zo_i (v := 2) (by decide) ?_
  refine va_put (D := (dC, dI)) (ci := 1) (v := .int 2) (ty := .int) (C := RJx4a65c) (T := TJx4a65c) (N := 3) hx hb hts zi_Jx4a65c_clear_da8c8_Jx4a65c tyJx4a65c tyJx4a65c_ok nmJx4a65c hown hK hP hD hS 0 rfl rfl 0 (by decide) (hts (.fieldLink RJx4a65c 63 "java/util/ArrayList" "modCount" "I") (by decide +kernel)) (fun x9 h9 => u_same (hts (.sameField "java/util/ArrayList" "java/util/AbstractList" "modCount" "I") (by decide +kernel)) x9 h9) rfl (by decide +kernel) rfl rfl (Nat.le_of_ble_eq_true rfl) dJx4a65c_clear_da8c8_7 (fun H1 locs hP hD hS => ?_)
  have hP : va_P (dC, dI) vwCl [(h0, .inr (1, [.int 2, .ref oa, .int 1])), (oa, .inl (cO, 10, .inr (.inr (.inr (.inr fo)))))] H1 := hP
  have hD : va_D A [(h0, .inr (1, [.int 2, .ref oa, .int 1])), (oa, .inl (cO, 10, .inr (.inr (.inr (.inr fo)))))] := hD
  refine lv_aload_n hx hb dJx4a65c_clear_da8c8_10 rfl (lv_at hl 0 rfl) ?_
  refine va_get (D := (dC, dI)) (ci := 1) (v := .ref oa) (C := RJx4a65c) (T := TJx4a65c) (N := 3) hx hb hts zi_Jx4a65c_clear_da8c8_Jx4a65c hown hK hP 0 rfl rfl 1 (by decide) (hts (.fieldLink RJx4a65c 9 "java/util/ArrayList" "elementData" "[Ljava/lang/Object;") (by decide +kernel)) (fun _ h9 => h9) rfl dJx4a65c_clear_da8c8_11 ?_
  refine lv_astore_n (lv' := [(1, .ref oa), (0, .ref h0)]) hx hb dJx4a65c_clear_da8c8_14 rfl hl (by decide) rfl (fun ls hl => ?_)
  refine lv_aload_n hx hb dJx4a65c_clear_da8c8_15 rfl (lv_at hl 1 rfl) ?_
  refine va_get (D := (dC, dI)) (ci := 1) (v := .int 1) (C := RJx4a65c) (T := TJx4a65c) (N := 3) hx hb hts zi_Jx4a65c_clear_da8c8_Jx4a65c hown hK hP 0 rfl rfl 2 (by decide) (hts (.fieldLink RJx4a65c 48 "java/util/ArrayList" "size" "I") (by decide +kernel)) (fun _ h9 => h9) rfl dJx4a65c_clear_da8c8_16 ?_
  refine lv_istore_n (lv' := [(2, .int 1), (1, .ref oa), (0, .ref h0)]) hx hb dJx4a65c_clear_da8c8_19 rfl hl (by decide) rfl (fun ls hl => ?_)
  refine lv_aload_n hx hb dJx4a65c_clear_da8c8_20 rfl (lv_at hl 2 rfl) ?_
  refine lv_iconst (v := 0) hx hb dJx4a65c_clear_da8c8_21 (by decide) ?_
  refine lv_dup_x1 hx hb dJx4a65c_clear_da8c8_22 rfl rfl ?_
  refine va_put (D := (dC, dI)) (ci := 1) (v := .int 0) (ty := .int) (C := RJx4a65c) (T := TJx4a65c) (N := 3) hx hb hts zi_Jx4a65c_clear_da8c8_Jx4a65c tyJx4a65c tyJx4a65c_ok nmJx4a65c hown hK hP hD hS 0 rfl rfl 2 (by decide) (hts (.fieldLink RJx4a65c 48 "java/util/ArrayList" "size" "I") (by decide +kernel)) (fun _ h9 => h9) rfl (by decide +kernel) rfl rfl (Nat.le_of_ble_eq_true rfl) dJx4a65c_clear_da8c8_23 (fun H2 locs hP hD hS => ?_)
  have hP : va_P (dC, dI) vwCl [(h0, .inr (1, [.int 2, .ref oa, .int 0])), (oa, .inl (cO, 10, .inr (.inr (.inr (.inr fo)))))] H2 := hP
  have hD : va_D A [(h0, .inr (1, [.int 2, .ref oa, .int 0])), (oa, .inl (cO, 10, .inr (.inr (.inr (.inr fo)))))] := hD
  refine lv_istore_n (lv' := [(3, .int 0), (2, .int 1), (1, .ref oa), (0, .ref h0)]) hx hb dJx4a65c_clear_da8c8_26 rfl hl (by decide) rfl (fun ls hl => ?_)
  refine lv_iload_n hx hb dJx4a65c_clear_da8c8_27 rfl (lv_at hl 0 rfl) ?_
  refine lv_iload_n hx hb dJx4a65c_clear_da8c8_28 rfl (lv_at hl 1 rfl) ?_
  refine lv_icmp_ge (tgt := 42) hx hb dJx4a65c_clear_da8c8_29 (by decide) (fun h => absurd h (by decide)) (fun _ => ?_)
  refine lv_aload_n hx hb dJx4a65c_clear_da8c8_32 rfl (lv_at hl 2 rfl) ?_
  refine lv_iload_n hx hb dJx4a65c_clear_da8c8_33 rfl (lv_at hl 0 rfl) ?_
  refine lv_null hx hb dJx4a65c_clear_da8c8_34 ?_
  refine va_astqN hx hb hK hP hD hS 1 0 rfl rfl (by unfold vp_in; decide) dJx4a65c_clear_da8c8_35 (fun H3 locs hP hD hS => ?_)
  obtain ⟨f4, ef4⟩ : ∃ z : Nat → Option Nat, z = va_up fo 0 none := ⟨_, rfl⟩
  have hP : va_P (dC, dI) vwCl [(h0, .inr (1, [.int 2, .ref oa, .int 0])), (oa, .inl (cO, 10, .inr (.inr (.inr (.inr f4)))))] H3 := by rw [ef4]; exact hP
  have hD : va_D A [(h0, .inr (1, [.int 2, .ref oa, .int 0])), (oa, .inl (cO, 10, .inr (.inr (.inr (.inr f4)))))] := by rw [ef4]; exact hD
  refine lv_iinc (v := 1) (lv' := [(3, .int 1), (2, .int 1), (1, .ref oa), (0, .ref h0)]) hx hb dJx4a65c_clear_da8c8_36 hl (k := 0) rfl (by decide) (by decide) rfl (fun ls hl => ?_)
  refine lv_goto (tgt := 27) hx hb dJx4a65c_clear_da8c8_39 (by decide) ?_
  refine lv_iload_n hx hb dJx4a65c_clear_da8c8_27 rfl (lv_at hl 0 rfl) ?_
  refine lv_iload_n hx hb dJx4a65c_clear_da8c8_28 rfl (lv_at hl 1 rfl) ?_
  refine lv_icmp_ge (tgt := 42) hx hb dJx4a65c_clear_da8c8_29 (by decide) (fun _ => ?_) (fun h => absurd h (by decide))
  refine W.widen (k := 0) (n := 0) (Nat.le_of_ble_eq_true rfl) (Nat.le_of_ble_eq_true rfl) ?_
  have hP9 := hP.sub (ws' := [(h0, .inr (1, [.int 2, .ref oa, .int 0])), (oa, .inl (cO, 10, .inr (.inr (.inr (.inr f4)))))]) [0, 1] rfl
  have hD9 := hD.sub (ws' := [(h0, .inr (1, [.int 2, .ref oa, .int 0])), (oa, .inl (cO, 10, .inr (.inr (.inr (.inr f4)))))]) [0, 1] (by decide) rfl
  have hK9 := hK.sub (tys' := [(cO, .object "java/lang/Object")]) [0] rfl
  exact W.vret hx hb hr (fun t ht hW => ⟨⟨(), rfl, trivial, ⟨f4, by rw [ht]; exact hP9, hD9, va_K.moved hW.alike hK9⟩⟩, hS.F ht⟩) hS.2.2 dJx4a65c_clear_da8c8_42
set_option maxRecDepth 20000 in
theorem zi_X7_end_X7 : ∀ w ∈ u_ws RX7 TX7 14, w ∈ wsX7_end := by decide +kernel
set_option maxHeartbeats 4000000 in
set_option maxRecDepth 100000 in
theorem cz_Rend (l : Launch) (dC : Nat → ClassId) (dI : Nat → Nat → Nat) (ed sz : Nat) (mr : Nat) (ll : Nat) (lt : Nat) (lp : Nat) (oa : Nat) (cO : ClassId) (fo : Nat → Option Nat) : Met l yX7_end wsX7_end ({ frames := 1, cells := 0, slots := 0, locals := 23 } : Jvm.Room) (va_Pc [.ref mr, .int 0] (zB dC dI ed sz [] [(mr, .inr (9, [.ref ll, .ref lt, .ref lp, .int (-1), .int 60, .int 1, .int 60, .int 0, .int 0, .int 0, .int (-1), .int 0, .int 60, .int 0])), (lp, .inr (1, [.int 1, .ref oa, .int 1])), (oa, .inl (cO, 10, .inr (.inr (.inr (.inr fo)))))] [(cO, .object "java/lang/Object")])) (va_Qv (fun (_ : Unit) => True) (fun (_ : Unit) (t : State) => ∃ (go : Nat → Option Nat), va_P (dC, dI) vwCl [(mr, .inr (9, [.ref ll, .ref lt, .ref lp, .int (-1), .int 60, .int 0, .int 60, .int 0, .int 0, .int 1, .int (-1), .int 0, .int 60, .int 0])), (lp, .inr (1, [.int 2, .ref oa, .int 0])), (oa, .inl (cO, 10, .inr (.inr (.inr (.inr go)))))] t.heap ∧ va_D (va_A [(mr, .inr (9, [.ref ll, .ref lt, .ref lp, .int (-1), .int 60, .int 1, .int 60, .int 0, .int 0, .int 0, .int (-1), .int 0, .int 60, .int 0])), (lp, .inr (1, [.int 1, .ref oa, .int 1])), (oa, .inl (cO, 10, .inr (.inr (.inr (.inr fo)))))] sz) [(mr, .inr (9, [.ref ll, .ref lt, .ref lp, .int (-1), .int 60, .int 0, .int 60, .int 0, .int 0, .int 1, .int (-1), .int 0, .int 60, .int 0])), (lp, .inr (1, [.int 2, .ref oa, .int 0])), (oa, .inl (cO, 10, .inr (.inr (.inr (.inr go)))))] ∧ va_K (dC, dI) vwCl [(cO, .object "java/lang/Object")] t) (va_A [(mr, .inr (9, [.ref ll, .ref lt, .ref lp, .int (-1), .int 60, .int 1, .int 60, .int 0, .int 0, .int 0, .int (-1), .int 0, .int 60, .int 0])), (lp, .inr (1, [.int 1, .ref oa, .int 1])), (oa, .inl (cO, 10, .inr (.inr (.inr (.inr fo)))))] sz)) 0 0 (va_A [(mr, .inr (9, [.ref ll, .ref lt, .ref lp, .int (-1), .int 60, .int 1, .int 60, .int 0, .int 0, .int 0, .int (-1), .int 0, .int 60, .int 0])), (lp, .inr (1, [.int 1, .ref oa, .int 1])), (oa, .inl (cO, 10, .inr (.inr (.inr (.inr fo)))))] sz) := by
  refine Met.ofW (cc := cX7_end) (maxL := 3) (ret := none) (by decide) rfl ?_
  intro p e s m args below meth c s₁ B hml hv
  obtain ⟨rfl, hsz, hR0, hP, hK, hD0, hN, hH, hX0⟩ := hv
  have hx := B.exec
  have hb := B.bytes
  have hr := B.returns
  have hts := atoms_spec (ws := wsX7_end) B.pre
  have hown : s.vm.findClass RX7 = some m.cls := findClass_of_methodNamed B.named
  have hlocks := B.notSynchronized
  subst hsz
  have hD := hD0.self (sz := s.heap.size)
  have hAr := zx_A hX0 hR0
  generalize hAe : va_A [(mr, .inr (9, [.ref ll, .ref lt, .ref lp, .int (-1), .int 60, .int 1, .int 60, .int 0, .int 0, .int 0, .int (-1), .int 0, .int 60, .int 0])), (lp, .inr (1, [.int 1, .ref oa, .int 1])), (oa, .inl (cO, 10, .inr (.inr (.inr (.inr fo)))))] s.heap.size = A at hD hAr hH ⊢
  have hA : ∀ q : Nat, s.heap.size ≤ q → A q := fun q h => by rw [← hAe]; exact Or.inr h
  have hS : va_S A s.heap s.heap [] := va_S.rf
  have hl := lv_entry ([.ref mr, .int 0]) (n := 3) (Nat.le_of_ble_eq_true rfl)
  rw [lg_entry_eq]
  generalize (lg_sl ([.ref mr, .int 0]) ++ List.replicate (3 - (lg_sl ([.ref mr, .int 0])).length) Slot.unset).toArray = ls at hl ⊢
  have hl : lv_has ls 3 [(0, .ref mr), (1, .int 0)] := hl
  refine lv_aload_n hx hb dX7_end_0 rfl (lv_at hl 0 rfl) ?_
  refine lv_iconst (v := 0) hx hb dX7_end_1 (by decide) ?_
  refine va_put (D := (dC, dI)) (ci := 9) (v := .int 0) (ty := .boolean) (C := RX7) (T := TX7) (N := 14) hx hb hts zi_X7_end_X7 tyX7 tyX7_ok nmX7 hown hK hP hD hS 0 rfl rfl 5 (by decide) (hts (.fieldLink RX7 55 "LockRoomsModel$Room" "isRunning" "Z") (by decide +kernel)) (fun _ h9 => h9) rfl (by decide +kernel) (by decide) (by decide) (Nat.le_of_ble_eq_true rfl) dX7_end_2 (fun H1 locs hP hD hS => ?_)
  have hP : va_P (dC, dI) vwCl [(mr, .inr (9, [.ref ll, .ref lt, .ref lp, .int (-1), .int 60, .int 0, .int 60, .int 0, .int 0, .int 0, .int (-1), .int 0, .int 60, .int 0])), (lp, .inr (1, [.int 1, .ref oa, .int 1])), (oa, .inl (cO, 10, .inr (.inr (.inr (.inr fo)))))] H1 := hP
  have hD : va_D A [(mr, .inr (9, [.ref ll, .ref lt, .ref lp, .int (-1), .int 60, .int 0, .int 60, .int 0, .int 0, .int 0, .int (-1), .int 0, .int 60, .int 0])), (lp, .inr (1, [.int 1, .ref oa, .int 1])), (oa, .inl (cO, 10, .inr (.inr (.inr (.inr fo)))))] := hD
  refine lv_aload_n hx hb dX7_end_5 rfl (lv_at hl 0 rfl) ?_
  refine va_get (D := (dC, dI)) (ci := 9) (v := .ref lp) (C := RX7) (T := TX7) (N := 14) hx hb hts zi_X7_end_X7 hown hK hP 0 rfl rfl 2 (by decide) (hts (.fieldLink RX7 21 "LockRoomsModel$Room" "players" "Ljava/util/ArrayList;") (by decide +kernel)) (fun _ h9 => h9) rfl dX7_end_6 ?_
  have hPr := (zo_nil : va_P (dC, dI) vwCl [] H1)
  have hPc := hP.sub (ws' := [(lp, .inr (1, [.int 1, .ref oa, .int 1])), (oa, .inl (cO, 10, .inr (.inr (.inr (.inr fo)))))]) [1, 2] rfl
  have hDc := hD.sub (ws' := [(lp, .inr (1, [.int 1, .ref oa, .int 1])), (oa, .inl (cO, 10, .inr (.inr (.inr (.inr fo)))))]) [1, 2] (by decide) rfl
  have hKc := hK.sub (tys' := [(cO, .object "java/lang/Object")]) [0] rfl
  have hFc := va_free (wc := [(lp, .inr (1, [.int 1, .ref oa, .int 1])), (oa, .inl (cO, 10, .inr (.inr (.inr (.inr fo)))))]) hD hS hA [1, 2] rfl
  refine va_callv (va_runV (As := []) (rest := []) ⟨hx, hb, hml, hown, hts⟩ (cz_Rclear l dC dI ed H1.size lp oa cO fo) (cwV 0 hts gX7_end_Jx4a65c_clear_da8c8 rfl rfl rfl (by decide +kernel) ⟨Nat.le_of_ble_eq_true rfl, Nat.le_of_ble_eq_true rfl⟩) ⟨zb_blind, va_recv hK hP (ci := 1) (q0 := 1) rfl rfl, fun U hU hW => ⟨rfl, zb_mk hU hW hPr hPc hKc hDc hN hH hS hFc zx_nil⟩⟩ rfl rfl hl.1 rfl (lv_room (Nat.le_of_ble_eq_true rfl)) dX7_end_9 ⟨Nat.le_of_ble_eq_true rfl, Nat.le_of_ble_eq_true rfl⟩) hS (fun q _ h => hFc q h) hFc (fun u t H2 locs ht hvm hw hB hz1 hk1 hS => ?_)
  obtain ⟨go_4, hP1, hD1, hK1⟩ := hB
  rw [ht] at hP1
  obtain ⟨hP, hD⟩ := va_join (wr := [(mr, .inr (9, [.ref ll, .ref lt, .ref lp, .int (-1), .int 60, .int 0, .int 60, .int 0, .int 0, .int 0, .int (-1), .int 0, .int 60, .int 0]))]) (w1 := [(lp, .inr (1, [.int 2, .ref oa, .int 0])), (oa, .inl (cO, 10, .inr (.inr (.inr (.inr go_4)))))]) hP hD [1, 2] [0] rfl rfl (by decide) (by decide) hk1 hFc hP1 hD1
  have hP : va_P (dC, dI) vwCl [(mr, .inr (9, [.ref ll, .ref lt, .ref lp, .int (-1), .int 60, .int 0, .int 60, .int 0, .int 0, .int 0, .int (-1), .int 0, .int 60, .int 0])), (lp, .inr (1, [.int 2, .ref oa, .int 0])), (oa, .inl (cO, 10, .inr (.inr (.inr (.inr go_4)))))] H2 := hP
  have hD : va_D A [(mr, .inr (9, [.ref ll, .ref lt, .ref lp, .int (-1), .int 60, .int 0, .int 60, .int 0, .int 0, .int 0, .int (-1), .int 0, .int 60, .int 0])), (lp, .inr (1, [.int 2, .ref oa, .int 0])), (oa, .inl (cO, 10, .inr (.inr (.inr (.inr go_4)))))] := hD
  refine lv_iload_n hx hb dX7_end_12 rfl (lv_at hl 1 rfl) ?_
  refine lv_if_ne (tgt := 27) hx hb dX7_end_13 (by decide) (fun h => absurd h (by decide)) (fun _ => ?_)
  refine lv_aload_n hx hb dX7_end_16 rfl (lv_at hl 0 rfl) ?_
  refine lv_dup hx hb dX7_end_17 rfl ?_
  refine va_get (D := (dC, dI)) (ci := 9) (v := .int 0) (C := RX7) (T := TX7) (N := 14) hx hb hts zi_X7_end_X7 hown hK hP 0 rfl rfl 9 (by decide) (hts (.fieldLink RX7 81 "LockRoomsModel$Room" "lost" "I") (by decide +kernel)) (fun _ h9 => h9) rfl dX7_end_18 ?_
  refine lv_iconst (v := 1) hx hb dX7_end_21 (by decide) ?_
  refine lv_iadd hx hb dX7_end_22 ?_
  refine zo_i (v := 1) (by decide) ?_
  refine va_put (D := (dC, dI)) (ci := 9) (v := .int 1) (ty := .int) (C := RX7) (T := TX7) (N := 14) hx hb hts zi_X7_end_X7 tyX7 tyX7_ok nmX7 hown hK hP hD hS 0 rfl rfl 9 (by decide) (hts (.fieldLink RX7 81 "LockRoomsModel$Room" "lost" "I") (by decide +kernel)) (fun _ h9 => h9) rfl (by decide +kernel) rfl rfl (Nat.le_of_ble_eq_true rfl) dX7_end_23 (fun H5 locs hP hD hS => ?_)
  have hP : va_P (dC, dI) vwCl [(mr, .inr (9, [.ref ll, .ref lt, .ref lp, .int (-1), .int 60, .int 0, .int 60, .int 0, .int 0, .int 1, .int (-1), .int 0, .int 60, .int 0])), (lp, .inr (1, [.int 2, .ref oa, .int 0])), (oa, .inl (cO, 10, .inr (.inr (.inr (.inr go_4)))))] H5 := hP
  have hD : va_D A [(mr, .inr (9, [.ref ll, .ref lt, .ref lp, .int (-1), .int 60, .int 0, .int 60, .int 0, .int 0, .int 1, .int (-1), .int 0, .int 60, .int 0])), (lp, .inr (1, [.int 2, .ref oa, .int 0])), (oa, .inl (cO, 10, .inr (.inr (.inr (.inr go_4)))))] := hD
  refine W.widen (k := 0) (n := 0) (Nat.le_of_ble_eq_true rfl) (Nat.le_of_ble_eq_true rfl) ?_
  have hP9 := hP.sub (ws' := [(mr, .inr (9, [.ref ll, .ref lt, .ref lp, .int (-1), .int 60, .int 0, .int 60, .int 0, .int 0, .int 1, .int (-1), .int 0, .int 60, .int 0])), (lp, .inr (1, [.int 2, .ref oa, .int 0])), (oa, .inl (cO, 10, .inr (.inr (.inr (.inr go_4)))))]) [0, 1, 2] rfl
  have hD9 := hD.sub (ws' := [(mr, .inr (9, [.ref ll, .ref lt, .ref lp, .int (-1), .int 60, .int 0, .int 60, .int 0, .int 0, .int 1, .int (-1), .int 0, .int 60, .int 0])), (lp, .inr (1, [.int 2, .ref oa, .int 0])), (oa, .inl (cO, 10, .inr (.inr (.inr (.inr go_4)))))]) [0, 1, 2] (by decide) rfl
  have hK9 := hK.sub (tys' := [(cO, .object "java/lang/Object")]) [0] rfl
  exact W.vret hx hb hr (fun t ht hW => ⟨⟨(), rfl, trivial, ⟨go_4, by rw [ht]; exact hP9, hD9, va_K.moved hW.alike hK9⟩⟩, hS.F ht⟩) hS.2.2 dX7_end_26
set_option maxHeartbeats 4000000 in
set_option maxRecDepth 100000 in
theorem cz_RlastPass (l : Launch) (dC : Nat → ClassId) (dI : Nat → Nat → Nat) (ed sz : Nat) (mr : Nat) (ll : Nat) (lt : Nat) (lp : Nat) (oa : Nat) (cO : ClassId) (fo : Nat → Option Nat) (e1 : Nat) (cE : ClassId) (fe : Nat → Int32) (ho : fo 0 = some e1) (he0 : fe 0 = 1) (he1 : fe 1 = (-1)) (he2 : fe 2 = (-1)) (he3 : fe 3 = 59) : Met l yX7_pass wsX7_pass ({ frames := 3, cells := 2, slots := 8, locals := 64 } : Jvm.Room) (va_Pc [.ref mr] (zB dC dI ed sz [(ll, .inr (1, [.int 0, .ref ed, .int 0])), (lt, .inr (1, [.int 0, .ref ed, .int 0]))] [(mr, .inr (9, [.ref ll, .ref lt, .ref lp, .int (-1), .int 59, .int 1, .int 59, .int 0, .int 0, .int 0, .int (-1), .int 0, .int 59, .int 0])), (lp, .inr (1, [.int 1, .ref oa, .int 1])), (oa, .inl (cO, 10, .inr (.inr (.inr (.inr fo))))), (e1, .inl (cE, 4, .inl fe))] [(cO, .object "java/lang/Object"), (cE, .int)])) (va_Qi (fun (r : Int32) (_ : Unit) => r = 0) (fun (_ : Unit) (t : State) => ∃ (go : Nat → Option Nat), ∃ (ge : Nat → Int32), (sz + 2 ≤ t.heap.size) ∧ va_P (dC, dI) vwCl [(mr, .inr (9, [.ref ll, .ref lt, .ref lp, .int (-1), .int 60, .int 0, .int 60, .int 0, .int 0, .int 1, .int (-1), .int 0, .int 60, .int 0])), (lp, .inr (1, [.int 2, .ref oa, .int 0])), (oa, .inl (cO, 10, .inr (.inr (.inr (.inr go))))), (e1, .inl (cE, 4, .inl ge))] t.heap ∧ va_D (va_A [(mr, .inr (9, [.ref ll, .ref lt, .ref lp, .int (-1), .int 59, .int 1, .int 59, .int 0, .int 0, .int 0, .int (-1), .int 0, .int 59, .int 0])), (lp, .inr (1, [.int 1, .ref oa, .int 1])), (oa, .inl (cO, 10, .inr (.inr (.inr (.inr fo))))), (e1, .inl (cE, 4, .inl fe))] sz) [(mr, .inr (9, [.ref ll, .ref lt, .ref lp, .int (-1), .int 60, .int 0, .int 60, .int 0, .int 0, .int 1, .int (-1), .int 0, .int 60, .int 0])), (lp, .inr (1, [.int 2, .ref oa, .int 0])), (oa, .inl (cO, 10, .inr (.inr (.inr (.inr go))))), (e1, .inl (cE, 4, .inl ge))] ∧ va_K (dC, dI) vwCl [(cO, .object "java/lang/Object"), (cE, .int)] t) (va_A [(mr, .inr (9, [.ref ll, .ref lt, .ref lp, .int (-1), .int 59, .int 1, .int 59, .int 0, .int 0, .int 0, .int (-1), .int 0, .int 59, .int 0])), (lp, .inr (1, [.int 1, .ref oa, .int 1])), (oa, .inl (cO, 10, .inr (.inr (.inr (.inr fo))))), (e1, .inl (cE, 4, .inl fe))] sz)) 2 8 (va_A [(mr, .inr (9, [.ref ll, .ref lt, .ref lp, .int (-1), .int 59, .int 1, .int 59, .int 0, .int 0, .int 0, .int (-1), .int 0, .int 59, .int 0])), (lp, .inr (1, [.int 1, .ref oa, .int 1])), (oa, .inl (cO, 10, .inr (.inr (.inr (.inr fo))))), (e1, .inl (cE, 4, .inl fe))] sz) := by
  refine Met.ofW (cc := cX7_pass) (maxL := 3) (ret := (some .int)) (by decide) rfl ?_
  intro p e s m args below meth c s₁ B hml hv
  obtain ⟨rfl, hsz, hR0, hP, hK, hD0, hN, hH, hX0⟩ := hv
  have hx := B.exec
  have hb := B.bytes
  have hr := B.returns
  have hts := atoms_spec (ws := wsX7_pass) B.pre
  have hown : s.vm.findClass RX7 = some m.cls := findClass_of_methodNamed B.named
  have hlocks := B.notSynchronized
  subst hsz
  have hD := hD0.self (sz := s.heap.size)
  have hAr := zx_A hX0 hR0
  generalize hAe : va_A [(mr, .inr (9, [.ref ll, .ref lt, .ref lp, .int (-1), .int 59, .int 1, .int 59, .int 0, .int 0, .int 0, .int (-1), .int 0, .int 59, .int 0])), (lp, .inr (1, [.int 1, .ref oa, .int 1])), (oa, .inl (cO, 10, .inr (.inr (.inr (.inr fo))))), (e1, .inl (cE, 4, .inl fe))] s.heap.size = A at hD hAr hH ⊢
  have hA : ∀ q : Nat, s.heap.size ≤ q → A q := fun q h => by rw [← hAe]; exact Or.inr h
  have hS : va_S A s.heap s.heap [] := va_S.rf
  have hl := lv_entry ([.ref mr]) (n := 3) (Nat.le_of_ble_eq_true rfl)
  rw [lg_entry_eq]
  generalize (lg_sl ([.ref mr]) ++ List.replicate (3 - (lg_sl ([.ref mr])).length) Slot.unset).toArray = ls at hl ⊢
  have hl : lv_has ls 3 [(0, .ref mr)] := hl
  refine lv_aload_n hx hb dX7_pass_0 rfl (lv_at hl 0 rfl) ?_
  refine lv_dup hx hb dX7_pass_1 rfl ?_
  refine va_get (D := (dC, dI)) (ci := 9) (v := .int 59) (C := RX7) (T := TX7) (N := 14) hx hb hts zi_X7_pass_X7 hown hK hP 0 rfl rfl 4 (by decide) (hts (.fieldLink RX7 99 "LockRoomsModel$Room" "now" "I") (by decide +kernel)) (fun _ h9 => h9) rfl dX7_pass_2 ?_
  refine lv_iconst (v := 1) hx hb dX7_pass_5 (by decide) ?_
  refine lv_iadd hx hb dX7_pass_6 ?_
  refine zo_i (v := 60) (by decide) ?_
  refine va_put (D := (dC, dI)) (ci := 9) (v := .int 60) (ty := .int) (C := RX7) (T := TX7) (N := 14) hx hb hts zi_X7_pass_X7 tyX7 tyX7_ok nmX7 hown hK hP hD hS 0 rfl rfl 4 (by decide) (hts (.fieldLink RX7 99 "LockRoomsModel$Room" "now" "I") (by decide +kernel)) (fun _ h9 => h9) rfl (by decide +kernel) rfl rfl (Nat.le_of_ble_eq_true rfl) dX7_pass_7 (fun H1 locs hP hD hS => ?_)
  have hP : va_P (dC, dI) vwCl [(mr, .inr (9, [.ref ll, .ref lt, .ref lp, .int (-1), .int 60, .int 1, .int 59, .int 0, .int 0, .int 0, .int (-1), .int 0, .int 59, .int 0])), (lp, .inr (1, [.int 1, .ref oa, .int 1])), (oa, .inl (cO, 10, .inr (.inr (.inr (.inr fo))))), (e1, .inl (cE, 4, .inl fe))] H1 := hP
  have hD : va_D A [(mr, .inr (9, [.ref ll, .ref lt, .ref lp, .int (-1), .int 60, .int 1, .int 59, .int 0, .int 0, .int 0, .int (-1), .int 0, .int 59, .int 0])), (lp, .inr (1, [.int 1, .ref oa, .int 1])), (oa, .inl (cO, 10, .inr (.inr (.inr (.inr fo))))), (e1, .inl (cE, 4, .inl fe))] := hD
  refine lv_aload_n hx hb dX7_pass_10 rfl (lv_at hl 0 rfl) ?_
  refine va_get (D := (dC, dI)) (ci := 9) (v := .int 1) (C := RX7) (T := TX7) (N := 14) hx hb hts zi_X7_pass_X7 hown hK hP 0 rfl rfl 5 (by decide) (hts (.fieldLink RX7 55 "LockRoomsModel$Room" "isRunning" "Z") (by decide +kernel)) (fun _ h9 => h9) rfl dX7_pass_11 ?_
  refine lv_if_ne (tgt := 19) hx hb dX7_pass_14 (by decide) (fun _ => ?_) (fun h => absurd h (by decide))
  refine lv_aload_n hx hb dX7_pass_19 rfl (lv_at hl 0 rfl) ?_
  refine lv_dup hx hb dX7_pass_20 rfl ?_
  refine va_get (D := (dC, dI)) (ci := 9) (v := .int 59) (C := RX7) (T := TX7) (N := 14) hx hb hts zi_X7_pass_X7 hown hK hP 0 rfl rfl 6 (by decide) (hts (.fieldLink RX7 59 "LockRoomsModel$Room" "time" "I") (by decide +kernel)) (fun _ h9 => h9) rfl dX7_pass_21 ?_
  refine lv_iconst (v := 1) hx hb dX7_pass_24 (by decide) ?_
  refine lv_iadd hx hb dX7_pass_25 ?_
  refine zo_i (v := 60) (by decide) ?_
  refine va_put (D := (dC, dI)) (ci := 9) (v := .int 60) (ty := .int) (C := RX7) (T := TX7) (N := 14) hx hb hts zi_X7_pass_X7 tyX7 tyX7_ok nmX7 hown hK hP hD hS 0 rfl rfl 6 (by decide) (hts (.fieldLink RX7 59 "LockRoomsModel$Room" "time" "I") (by decide +kernel)) (fun _ h9 => h9) rfl (by decide +kernel) rfl rfl (Nat.le_of_ble_eq_true rfl) dX7_pass_26 (fun H2 locs hP hD hS => ?_)
  have hP : va_P (dC, dI) vwCl [(mr, .inr (9, [.ref ll, .ref lt, .ref lp, .int (-1), .int 60, .int 1, .int 60, .int 0, .int 0, .int 0, .int (-1), .int 0, .int 59, .int 0])), (lp, .inr (1, [.int 1, .ref oa, .int 1])), (oa, .inl (cO, 10, .inr (.inr (.inr (.inr fo))))), (e1, .inl (cE, 4, .inl fe))] H2 := hP
  have hD : va_D A [(mr, .inr (9, [.ref ll, .ref lt, .ref lp, .int (-1), .int 60, .int 1, .int 60, .int 0, .int 0, .int 0, .int (-1), .int 0, .int 59, .int 0])), (lp, .inr (1, [.int 1, .ref oa, .int 1])), (oa, .inl (cO, 10, .inr (.inr (.inr (.inr fo))))), (e1, .inl (cE, 4, .inl fe))] := hD
  refine lv_aload_n hx hb dX7_pass_29 rfl (lv_at hl 0 rfl) ?_
  refine va_get (D := (dC, dI)) (ci := 9) (v := .ref ll) (C := RX7) (T := TX7) (N := 14) hx hb hts zi_X7_pass_X7 hown hK hP 0 rfl rfl 0 (by decide) (hts (.fieldLink RX7 12 "LockRoomsModel$Room" "locks" "Ljava/util/ArrayList;") (by decide +kernel)) (fun _ h9 => h9) rfl dX7_pass_30 ?_
  have huz3 : s.heap.size + 0 ≤ H2.size := hS.1
  have hPr := ((zo_R hR0 hS hAr)).sub (ws' := [(ll, .inr (1, [.int 0, .ref ed, .int 0]))]) [0] rfl
  have hPc := hP.sub (ws' := []) [] rfl
  have hDc := hD.sub (ws' := []) [] (by decide) rfl
  have hKc := hK.sub (tys' := []) [] rfl
  have hFc := va_free (wc := []) hD hS hA [] rfl
  refine va_callr (va_runV (As := []) (rest := []) ⟨hx, hb, hml, hown, hts⟩ (cz_Riterator l dC dI ed H2.size ll 0 ed 0) (cwV 0 hts gX7_pass_Jx4a65c_iterator_32c93 rfl rfl rfl (by decide +kernel) ⟨Nat.le_of_ble_eq_true rfl, Nat.le_of_ble_eq_true rfl⟩) ⟨zb_blind, va_recv hK (zo_R hR0 hS hAr) (ci := 1) (q0 := 0) rfl rfl, fun U hU hW => ⟨rfl, zb_mk hU hW hPr hPc hKc hDc hN hH hS hFc zx_e⟩⟩ rfl rfl hl.1 rfl (lv_room (Nat.le_of_ble_eq_true rfl)) dX7_pass_33 ⟨Nat.le_of_ble_eq_true rfl, Nat.le_of_ble_eq_true rfl⟩) hS (fun q _ h => hFc q h) hFc (fun u r5 t H4 locs ht hvm hw hB hz1 hk1 hS => ?_)
  obtain ⟨hq6_0, hP1, hD1, hK1⟩ := hB
  rw [ht] at hP1
  obtain ⟨hP, hD⟩ := va_join (wr := [(mr, .inr (9, [.ref ll, .ref lt, .ref lp, .int (-1), .int 60, .int 1, .int 60, .int 0, .int 0, .int 0, .int (-1), .int 0, .int 59, .int 0])), (lp, .inr (1, [.int 1, .ref oa, .int 1])), (oa, .inl (cO, 10, .inr (.inr (.inr (.inr fo))))), (e1, .inl (cE, 4, .inl fe))]) (w1 := [(r5, .inr (0, [.int 0, .int (-1), .int 0, .ref ll]))]) hP hD [] [0, 1, 2, 3] rfl rfl (by decide) (by decide) hk1 hFc hP1 hD1
  have hP : va_P (dC, dI) vwCl [(mr, .inr (9, [.ref ll, .ref lt, .ref lp, .int (-1), .int 60, .int 1, .int 60, .int 0, .int 0, .int 0, .int (-1), .int 0, .int 59, .int 0])), (lp, .inr (1, [.int 1, .ref oa, .int 1])), (oa, .inl (cO, 10, .inr (.inr (.inr (.inr fo))))), (e1, .inl (cE, 4, .inl fe)), (r5, .inr (0, [.int 0, .int (-1), .int 0, .ref ll]))] H4 := hP
  have hD : va_D A [(mr, .inr (9, [.ref ll, .ref lt, .ref lp, .int (-1), .int 60, .int 1, .int 60, .int 0, .int 0, .int 0, .int (-1), .int 0, .int 59, .int 0])), (lp, .inr (1, [.int 1, .ref oa, .int 1])), (oa, .inl (cO, 10, .inr (.inr (.inr (.inr fo))))), (e1, .inl (cE, 4, .inl fe)), (r5, .inr (0, [.int 0, .int (-1), .int 0, .ref ll]))] := hD
  have hvz3 : s.heap.size + 1 ≤ H4.size := by have h9 := hq6_0; rw [ht] at h9; omega
  refine lv_astore_n (lv' := [(1, .ref r5), (0, .ref mr)]) hx hb dX7_pass_36 rfl hl (by decide) rfl (fun ls hl => ?_)
  refine lv_aload_n hx hb dX7_pass_37 rfl (lv_at hl 0 rfl) ?_
  have huz7 : s.heap.size + 1 ≤ H4.size := hvz3
  have hPr := (show va_P (dC, dI) vwCl [(r5, .inr (0, [.int 0, .int (-1), .int 0, .ref ll])), (ll, .inr (1, [.int 0, .ref ed, .int 0]))] H4 from (zo_cons ((hP) 4 _ rfl) (zo_cons (((zo_R hR0 hS hAr)) 0 _ rfl) (zo_nil : va_P (dC, dI) vwCl [] H4))))
  have hPc := hP.sub (ws' := []) [] rfl
  have hDc := hD.sub (ws' := []) [] (by decide) rfl
  have hKc := hK.sub (tys' := []) [] rfl
  have hFc := va_free (wc := []) hD hS hA [] rfl
  refine va_callFi (va_runF (As := []) (rest := []) (hK.1 0 _ rfl).2 ⟨hx, hb, hml, hown, hts⟩ (cz_RhasNext0 l dC dI ed H4.size r5 ll 0 ed) (va_cwF 0 hts gX7_pass_Jx35411_hasNext_aae02_f36Jx35411 rfl rfl rfl hN.2.2.2.2.2.2.2.1 (by decide +kernel) ⟨Nat.le_of_ble_eq_true rfl, Nat.le_of_ble_eq_true rfl⟩) ⟨zb_blind, va_recv hK hP (ci := 0) (q0 := 4) rfl rfl, fun U hU hW => ⟨rfl, zb_mk hU hW hPr hPc hKc hDc hN hH hS hFc zx_e⟩⟩ rfl rfl hl.1 rfl (lv_room (Nat.le_of_ble_eq_true rfl)) dX7_pass_38 ⟨Nat.le_of_ble_eq_true rfl, Nat.le_of_ble_eq_true rfl⟩) hS (fun q _ h => hFc q h) hFc (fun r9 u t H8 locs ht hvm hw hB hz1 hk1 hS => ?_)
  obtain rfl : r9 = 0 := hw
  have hP := zo_K hP hk1
  have hvz7 : s.heap.size + 1 ≤ H8.size := Nat.le_trans huz7 hz1
  refine lv_if_eq (tgt := 64) hx hb dX7_pass_43 (by decide) (fun _ => ?_) (fun h => absurd h (by decide))
  refine lv_aload_n hx hb dX7_pass_64 rfl (lv_at hl 1 rfl) ?_
  refine va_get (D := (dC, dI)) (ci := 9) (v := .ref lt) (C := RX7) (T := TX7) (N := 14) hx hb hts zi_X7_pass_X7 hown hK hP 0 rfl rfl 1 (by decide) (hts (.fieldLink RX7 18 "LockRoomsModel$Room" "things" "Ljava/util/ArrayList;") (by decide +kernel)) (fun _ h9 => h9) rfl dX7_pass_65 ?_
  have huz10 : s.heap.size + 1 ≤ H8.size := hvz7
  have hPr := ((zo_R hR0 hS hAr)).sub (ws' := [(lt, .inr (1, [.int 0, .ref ed, .int 0]))]) [1] rfl
  have hPc := hP.sub (ws' := []) [] rfl
  have hDc := hD.sub (ws' := []) [] (by decide) rfl
  have hKc := hK.sub (tys' := []) [] rfl
  have hFc := va_free (wc := []) hD hS hA [] rfl
  refine va_callr (va_runV (As := []) (rest := []) ⟨hx, hb, hml, hown, hts⟩ (cz_Riterator l dC dI ed H8.size lt 0 ed 0) (cwV 0 hts gX7_pass_Jx4a65c_iterator_32c93 rfl rfl rfl (by decide +kernel) ⟨Nat.le_of_ble_eq_true rfl, Nat.le_of_ble_eq_true rfl⟩) ⟨zb_blind, va_recv hK (zo_R hR0 hS hAr) (ci := 1) (q0 := 1) rfl rfl, fun U hU hW => ⟨rfl, zb_mk hU hW hPr hPc hKc hDc hN hH hS hFc zx_e⟩⟩ rfl rfl hl.1 rfl (lv_room (Nat.le_of_ble_eq_true rfl)) dX7_pass_68 ⟨Nat.le_of_ble_eq_true rfl, Nat.le_of_ble_eq_true rfl⟩) hS (fun q _ h => hFc q h) hFc (fun u r12 t H11 locs ht hvm hw hB hz1 hk1 hS => ?_)
  obtain ⟨hq13_0, hP1, hD1, hK1⟩ := hB
  rw [ht] at hP1
  obtain ⟨hP, hD⟩ := va_join (wr := [(mr, .inr (9, [.ref ll, .ref lt, .ref lp, .int (-1), .int 60, .int 1, .int 60, .int 0, .int 0, .int 0, .int (-1), .int 0, .int 59, .int 0])), (lp, .inr (1, [.int 1, .ref oa, .int 1])), (oa, .inl (cO, 10, .inr (.inr (.inr (.inr fo))))), (e1, .inl (cE, 4, .inl fe)), (r5, .inr (0, [.int 0, .int (-1), .int 0, .ref ll]))]) (w1 := [(r12, .inr (0, [.int 0, .int (-1), .int 0, .ref lt]))]) hP hD [] [0, 1, 2, 3, 4] rfl rfl (by decide) (by decide) hk1 hFc hP1 hD1
  have hP : va_P (dC, dI) vwCl [(mr, .inr (9, [.ref ll, .ref lt, .ref lp, .int (-1), .int 60, .int 1, .int 60, .int 0, .int 0, .int 0, .int (-1), .int 0, .int 59, .int 0])), (lp, .inr (1, [.int 1, .ref oa, .int 1])), (oa, .inl (cO, 10, .inr (.inr (.inr (.inr fo))))), (e1, .inl (cE, 4, .inl fe)), (r5, .inr (0, [.int 0, .int (-1), .int 0, .ref ll])), (r12, .inr (0, [.int 0, .int (-1), .int 0, .ref lt]))] H11 := hP
  have hD : va_D A [(mr, .inr (9, [.ref ll, .ref lt, .ref lp, .int (-1), .int 60, .int 1, .int 60, .int 0, .int 0, .int 0, .int (-1), .int 0, .int 59, .int 0])), (lp, .inr (1, [.int 1, .ref oa, .int 1])), (oa, .inl (cO, 10, .inr (.inr (.inr (.inr fo))))), (e1, .inl (cE, 4, .inl fe)), (r5, .inr (0, [.int 0, .int (-1), .int 0, .ref ll])), (r12, .inr (0, [.int 0, .int (-1), .int 0, .ref lt]))] := hD
  have hvz10 : s.heap.size + 2 ≤ H11.size := by have h9 := hq13_0; rw [ht] at h9; omega
  refine lv_astore_n (lv' := [(1, .ref r12), (0, .ref mr)]) hx hb dX7_pass_71 rfl hl (by decide) rfl (fun ls hl => ?_)
  refine lv_aload_n hx hb dX7_pass_72 rfl (lv_at hl 0 rfl) ?_
  have huz14 : s.heap.size + 2 ≤ H11.size := hvz10
  have hPr := (show va_P (dC, dI) vwCl [(r12, .inr (0, [.int 0, .int (-1), .int 0, .ref lt])), (lt, .inr (1, [.int 0, .ref ed, .int 0]))] H11 from (zo_cons ((hP) 5 _ rfl) (zo_cons (((zo_R hR0 hS hAr)) 1 _ rfl) (zo_nil : va_P (dC, dI) vwCl [] H11))))
  have hPc := hP.sub (ws' := []) [] rfl
  have hDc := hD.sub (ws' := []) [] (by decide) rfl
  have hKc := hK.sub (tys' := []) [] rfl
  have hFc := va_free (wc := []) hD hS hA [] rfl
  refine va_callFi (va_runF (As := []) (rest := []) (hK.1 0 _ rfl).2 ⟨hx, hb, hml, hown, hts⟩ (cz_RhasNext0 l dC dI ed H11.size r12 lt 0 ed) (va_cwF 0 hts gX7_pass_Jx35411_hasNext_aae02_f36Jx35411 rfl rfl rfl hN.2.2.2.2.2.2.2.1 (by decide +kernel) ⟨Nat.le_of_ble_eq_true rfl, Nat.le_of_ble_eq_true rfl⟩) ⟨zb_blind, va_recv hK hP (ci := 0) (q0 := 5) rfl rfl, fun U hU hW => ⟨rfl, zb_mk hU hW hPr hPc hKc hDc hN hH hS hFc zx_e⟩⟩ rfl rfl hl.1 rfl (lv_room (Nat.le_of_ble_eq_true rfl)) dX7_pass_73 ⟨Nat.le_of_ble_eq_true rfl, Nat.le_of_ble_eq_true rfl⟩) hS (fun q _ h => hFc q h) hFc (fun r16 u t H15 locs ht hvm hw hB hz1 hk1 hS => ?_)
  obtain rfl : r16 = 0 := hw
  have hP := zo_K hP hk1
  have hvz14 : s.heap.size + 2 ≤ H15.size := Nat.le_trans huz14 hz1
  refine lv_if_eq (tgt := 98) hx hb dX7_pass_78 (by decide) (fun _ => ?_) (fun h => absurd h (by decide))
  refine lv_iconst (v := 0) hx hb dX7_pass_98 (by decide) ?_
  refine lv_istore_n (lv' := [(1, .int 0), (0, .ref mr)]) hx hb dX7_pass_99 rfl hl (by decide) rfl (fun ls hl => ?_)
  refine lv_iconst (v := 0) hx hb dX7_pass_100 (by decide) ?_
  refine lv_istore_n (lv' := [(2, .int 0), (1, .int 0), (0, .ref mr)]) hx hb dX7_pass_101 rfl hl (by decide) rfl (fun ls hl => ?_)
  refine lv_aload_n hx hb dX7_pass_102 rfl (lv_at hl 2 rfl) ?_
  refine va_get (D := (dC, dI)) (ci := 9) (v := .int 1) (C := RX7) (T := TX7) (N := 14) hx hb hts zi_X7_pass_X7 hown hK hP 0 rfl rfl 5 (by decide) (hts (.fieldLink RX7 55 "LockRoomsModel$Room" "isRunning" "Z") (by decide +kernel)) (fun _ h9 => h9) rfl dX7_pass_103 ?_
  refine lv_if_eq (tgt := 156) hx hb dX7_pass_106 (by decide) (fun h => absurd h (by decide)) (fun _ => ?_)
  refine lv_iload_n hx hb dX7_pass_109 rfl (lv_at hl 0 rfl) ?_
  refine lv_aload_n hx hb dX7_pass_110 rfl (lv_at hl 2 rfl) ?_
  refine va_get (D := (dC, dI)) (ci := 9) (v := .ref lp) (C := RX7) (T := TX7) (N := 14) hx hb hts zi_X7_pass_X7 hown hK hP 0 rfl rfl 2 (by decide) (hts (.fieldLink RX7 21 "LockRoomsModel$Room" "players" "Ljava/util/ArrayList;") (by decide +kernel)) (fun _ h9 => h9) rfl dX7_pass_111 ?_
  have huz17 : s.heap.size + 2 ≤ H15.size := hvz14
  have hPr := (hP).sub (ws' := [(lp, .inr (1, [.int 1, .ref oa, .int 1]))]) [1] rfl
  have hPc := hP.sub (ws' := []) [] rfl
  have hDc := hD.sub (ws' := []) [] (by decide) rfl
  have hKc := hK.sub (tys' := []) [] rfl
  have hFc := va_free (wc := []) hD hS hA [] rfl
  refine va_calli (va_runV (As := []) (rest := [.int 0]) ⟨hx, hb, hml, hown, hts⟩ (cz_Rsize1 l dC dI ed H15.size lp 1 oa) (cwV 0 hts gX7_pass_Jx4a65c_size_8abf5 rfl rfl rfl (by decide +kernel) ⟨Nat.le_of_ble_eq_true rfl, Nat.le_of_ble_eq_true rfl⟩) ⟨zb_blind, va_recv hK hP (ci := 1) (q0 := 1) rfl rfl, fun U hU hW => ⟨rfl, zb_mk hU hW hPr hPc hKc hDc hN hH hS hFc zx_e⟩⟩ rfl rfl hl.1 rfl (lv_room (Nat.le_of_ble_eq_true rfl)) dX7_pass_114 ⟨Nat.le_of_ble_eq_true rfl, Nat.le_of_ble_eq_true rfl⟩) hS (fun q _ h => hFc q h) hFc (fun r19 u t H18 locs ht hvm hw hB hz1 hk1 hS => ?_)
  obtain rfl : r19 = 1 := hw
  have hP := zo_K hP hk1
  have hvz17 : s.heap.size + 2 ≤ H18.size := Nat.le_trans huz17 hz1
  refine lv_icmp_ge (tgt := 156) hx hb dX7_pass_117 (by decide) (fun h => absurd h (by decide)) (fun _ => ?_)
  refine lv_iload_n hx hb dX7_pass_120 rfl (lv_at hl 1 rfl) ?_
  refine lv_aload_n hx hb dX7_pass_121 rfl (lv_at hl 2 rfl) ?_
  refine lv_aload_n hx hb dX7_pass_122 rfl (lv_at hl 2 rfl) ?_
  refine va_get (D := (dC, dI)) (ci := 9) (v := .ref lp) (C := RX7) (T := TX7) (N := 14) hx hb hts zi_X7_pass_X7 hown hK hP 0 rfl rfl 2 (by decide) (hts (.fieldLink RX7 21 "LockRoomsModel$Room" "players" "Ljava/util/ArrayList;") (by decide +kernel)) (fun _ h9 => h9) rfl dX7_pass_123 ?_
  refine lv_iload_n hx hb dX7_pass_126 rfl (lv_at hl 0 rfl) ?_
  have huz20 : s.heap.size + 2 ≤ H18.size := hvz17
  have hPr := (hP).sub (ws' := [(lp, .inr (1, [.int 1, .ref oa, .int 1])), (oa, .inl (cO, 10, .inr (.inr (.inr (.inr fo)))))]) [1, 2] rfl
  have hPc := hP.sub (ws' := []) [] rfl
  have hDc := hD.sub (ws' := []) [] (by decide) rfl
  have hKc := hK.sub (tys' := [(cO, .object "java/lang/Object")]) [0] rfl
  have hFc := va_free (wc := []) hD hS hA [] rfl
  refine va_callr (va_runV (As := [.int 0]) (rest := [.ref mr, .int 0]) ⟨hx, hb, hml, hown, hts⟩ (cz_Rget l dC dI ed H18.size lp 1 oa cO fo e1 ho) (cwV 1 hts gX7_pass_Jx4a65c_get_915e3 rfl rfl rfl (by decide +kernel) ⟨Nat.le_of_ble_eq_true rfl, Nat.le_of_ble_eq_true rfl⟩) ⟨zb_blind, va_recv hK hP (ci := 1) (q0 := 1) rfl rfl, fun U hU hW => ⟨rfl, zb_mk hU hW hPr hPc hKc hDc hN hH hS hFc zx_e⟩⟩ rfl rfl hl.1 rfl (lv_room (Nat.le_of_ble_eq_true rfl)) dX7_pass_127 ⟨Nat.le_of_ble_eq_true rfl, Nat.le_of_ble_eq_true rfl⟩) hS (fun q _ h => hFc q h) hFc (fun u r22 t H21 locs ht hvm hw hB hz1 hk1 hS => ?_)
  obtain ⟨hq23_0, hP1, hD1, hK1⟩ := hB
  rw [ht] at hP1
  obtain ⟨hP, hD⟩ := va_join (wr := [(mr, .inr (9, [.ref ll, .ref lt, .ref lp, .int (-1), .int 60, .int 1, .int 60, .int 0, .int 0, .int 0, .int (-1), .int 0, .int 59, .int 0])), (lp, .inr (1, [.int 1, .ref oa, .int 1])), (oa, .inl (cO, 10, .inr (.inr (.inr (.inr fo))))), (e1, .inl (cE, 4, .inl fe)), (r5, .inr (0, [.int 0, .int (-1), .int 0, .ref ll])), (r12, .inr (0, [.int 0, .int (-1), .int 0, .ref lt]))]) (w1 := []) hP hD [] [0, 1, 2, 3, 4, 5] rfl rfl (by decide) (by decide) hk1 hFc hP1 hD1
  have hP : va_P (dC, dI) vwCl [(mr, .inr (9, [.ref ll, .ref lt, .ref lp, .int (-1), .int 60, .int 1, .int 60, .int 0, .int 0, .int 0, .int (-1), .int 0, .int 59, .int 0])), (lp, .inr (1, [.int 1, .ref oa, .int 1])), (oa, .inl (cO, 10, .inr (.inr (.inr (.inr fo))))), (e1, .inl (cE, 4, .inl fe)), (r5, .inr (0, [.int 0, .int (-1), .int 0, .ref ll])), (r12, .inr (0, [.int 0, .int (-1), .int 0, .ref lt]))] H21 := hP
  have hD : va_D A [(mr, .inr (9, [.ref ll, .ref lt, .ref lp, .int (-1), .int 60, .int 1, .int 60, .int 0, .int 0, .int 0, .int (-1), .int 0, .int 59, .int 0])), (lp, .inr (1, [.int 1, .ref oa, .int 1])), (oa, .inl (cO, 10, .inr (.inr (.inr (.inr fo))))), (e1, .inl (cE, 4, .inl fe)), (r5, .inr (0, [.int 0, .int (-1), .int 0, .ref ll])), (r12, .inr (0, [.int 0, .int (-1), .int 0, .ref lt]))] := hD
  obtain rfl : e1 = r22 := hq23_0.symm
  have hvz20 : s.heap.size + 2 ≤ H21.size := Nat.le_trans huz20 hz1
  refine va_castA (nm := "[I") hx hb hown (hts (.classLink RX7 46 "[I") (by decide +kernel)) hP 3 rfl (show s.vm.findClass "[I" = some cE from (hK.2 1 _ rfl).2) dX7_pass_130 ?_
  have huz24 : s.heap.size + 2 ≤ H21.size := hvz20
  have hPr := ((zo_R hR0 hS hAr)).sub (ws' := [(ll, .inr (1, [.int 0, .ref ed, .int 0])), (lt, .inr (1, [.int 0, .ref ed, .int 0]))]) [0, 1] rfl
  have hPc := hP.sub (ws' := [(mr, .inr (9, [.ref ll, .ref lt, .ref lp, .int (-1), .int 60, .int 1, .int 60, .int 0, .int 0, .int 0, .int (-1), .int 0, .int 59, .int 0])), (e1, .inl (cE, 4, .inl fe))]) [0, 3] rfl
  have hDc := hD.sub (ws' := [(mr, .inr (9, [.ref ll, .ref lt, .ref lp, .int (-1), .int 60, .int 1, .int 60, .int 0, .int 0, .int 0, .int (-1), .int 0, .int 59, .int 0])), (e1, .inl (cE, 4, .inl fe))]) [0, 3] (by decide) rfl
  have hKc := hK.sub (tys' := [(cE, .int)]) [1] rfl
  have hFc := va_free (wc := [(mr, .inr (9, [.ref ll, .ref lt, .ref lp, .int (-1), .int 60, .int 1, .int 60, .int 0, .int 0, .int 0, .int (-1), .int 0, .int 59, .int 0])), (e1, .inl (cE, 4, .inl fe))]) hD hS hA [0, 3] rfl
  refine va_calli (va_runV (As := [.ref e1]) (rest := [.int 0]) ⟨hx, hb, hml, hown, hts⟩ (cz_Ract l dC dI ed H21.size mr ll lt lp e1 cE fe 60 60 59 he0 he1 he2 he3) (cwV 1 hts gX7_pass_X7_act rfl rfl rfl (by decide +kernel) ⟨Nat.le_of_ble_eq_true rfl, Nat.le_of_ble_eq_true rfl⟩) ⟨zb_blind, va_recv hK hP (ci := 9) (q0 := 0) rfl rfl, fun U hU hW => ⟨rfl, zb_mk hU hW hPr hPc hKc hDc hN hH hS hFc (zx_cons (zx_r (hAr _ (List.mem_of_getElem? (i := 0) rfl)) hDc) (zx_cons (zx_r (hAr _ (List.mem_of_getElem? (i := 1) rfl)) hDc) zx_nil))⟩⟩ rfl rfl hl.1 rfl (lv_room (Nat.le_of_ble_eq_true rfl)) dX7_pass_133 ⟨Nat.le_of_ble_eq_true rfl, Nat.le_of_ble_eq_true rfl⟩) hS (fun q _ h => hFc q h) hFc (fun r26 u t H25 locs ht hvm hw hB hz1 hk1 hS => ?_)
  obtain rfl : r26 = 0 := hw
  obtain ⟨w1_27, ge_27, hf27_0, ⟨k27_0, k27_1, k27_2, k27_3⟩, hP1, hD1, hK1⟩ := hB
  obtain rfl : w1_27 = 60 := hf27_0.trans (by first | rfl | decide +kernel)
  rw [ht] at hP1
  obtain ⟨hP, hD⟩ := va_join (wr := [(lp, .inr (1, [.int 1, .ref oa, .int 1])), (oa, .inl (cO, 10, .inr (.inr (.inr (.inr fo))))), (r5, .inr (0, [.int 0, .int (-1), .int 0, .ref ll])), (r12, .inr (0, [.int 0, .int (-1), .int 0, .ref lt]))]) (w1 := [(mr, .inr (9, [.ref ll, .ref lt, .ref lp, .int (-1), .int 60, .int 1, .int 60, .int 0, .int 0, .int 0, .int (-1), .int 0, .int 60, .int 0])), (e1, .inl (cE, 4, .inl ge_27))]) hP hD [0, 3] [1, 2, 4, 5] rfl rfl (by decide) (by decide) hk1 hFc hP1 hD1
  have hP : va_P (dC, dI) vwCl [(lp, .inr (1, [.int 1, .ref oa, .int 1])), (oa, .inl (cO, 10, .inr (.inr (.inr (.inr fo))))), (r5, .inr (0, [.int 0, .int (-1), .int 0, .ref ll])), (r12, .inr (0, [.int 0, .int (-1), .int 0, .ref lt])), (mr, .inr (9, [.ref ll, .ref lt, .ref lp, .int (-1), .int 60, .int 1, .int 60, .int 0, .int 0, .int 0, .int (-1), .int 0, .int 60, .int 0])), (e1, .inl (cE, 4, .inl ge_27))] H25 := hP
  have hD : va_D A [(lp, .inr (1, [.int 1, .ref oa, .int 1])), (oa, .inl (cO, 10, .inr (.inr (.inr (.inr fo))))), (r5, .inr (0, [.int 0, .int (-1), .int 0, .ref ll])), (r12, .inr (0, [.int 0, .int (-1), .int 0, .ref lt])), (mr, .inr (9, [.ref ll, .ref lt, .ref lp, .int (-1), .int 60, .int 1, .int 60, .int 0, .int 0, .int 0, .int (-1), .int 0, .int 60, .int 0])), (e1, .inl (cE, 4, .inl ge_27))] := hD
  have hvz24 : s.heap.size + 2 ≤ H25.size := Nat.le_trans huz24 hz1
  refine lv_iadd hx hb dX7_pass_136 ?_
  refine zo_i (v := 0) (by decide) ?_
  refine lv_istore_n (lv' := [(1, .int 0), (2, .int 0), (0, .ref mr)]) hx hb dX7_pass_137 rfl hl (by decide) rfl (fun ls hl => ?_)
  refine lv_aload_n hx hb dX7_pass_138 rfl (lv_at hl 2 rfl) ?_
  have huz28 : s.heap.size + 2 ≤ H25.size := hvz24
  have hPr := (hP).sub (ws' := [(mr, .inr (9, [.ref ll, .ref lt, .ref lp, .int (-1), .int 60, .int 1, .int 60, .int 0, .int 0, .int 0, .int (-1), .int 0, .int 60, .int 0]))]) [4] rfl
  have hPc := hP.sub (ws' := []) [] rfl
  have hDc := hD.sub (ws' := []) [] (by decide) rfl
  have hKc := hK.sub (tys' := []) [] rfl
  have hFc := va_free (wc := []) hD hS hA [] rfl
  refine va_calli (va_runV (As := []) (rest := []) ⟨hx, hb, hml, hown, hts⟩ (cz_RisOut l dC dI ed H25.size mr ll lt lp 60 1 60 0 0 60) (cwV 0 hts gX7_pass_X7_isOut rfl rfl rfl (by decide +kernel) ⟨Nat.le_of_ble_eq_true rfl, Nat.le_of_ble_eq_true rfl⟩) ⟨zb_blind, va_recv hK hP (ci := 9) (q0 := 4) rfl rfl, fun U hU hW => ⟨rfl, zb_mk hU hW hPr hPc hKc hDc hN hH hS hFc zx_e⟩⟩ rfl rfl hl.1 rfl (lv_room (Nat.le_of_ble_eq_true rfl)) dX7_pass_139 ⟨Nat.le_of_ble_eq_true rfl, Nat.le_of_ble_eq_true rfl⟩) hS (fun q _ h => hFc q h) hFc (fun r30 u t H29 locs ht hvm hw hB hz1 hk1 hS => ?_)
  obtain rfl : r30 = 0 := hw
  have hP := zo_K hP hk1
  have hvz28 : s.heap.size + 2 ≤ H29.size := Nat.le_trans huz28 hz1
  refine lv_if_eq (tgt := 150) hx hb dX7_pass_142 (by decide) (fun _ => ?_) (fun h => absurd h (by decide))
  refine lv_iinc (v := 1) (lv' := [(2, .int 1), (1, .int 0), (0, .ref mr)]) hx hb dX7_pass_150 hl (k := 1) rfl (by decide) (by decide) rfl (fun ls hl => ?_)
  refine lv_goto (tgt := 102) hx hb dX7_pass_153 (by decide) ?_
  refine lv_aload_n hx hb dX7_pass_102 rfl (lv_at hl 2 rfl) ?_
  refine va_get (D := (dC, dI)) (ci := 9) (v := .int 1) (C := RX7) (T := TX7) (N := 14) hx hb hts zi_X7_pass_X7 hown hK hP 4 rfl rfl 5 (by decide) (hts (.fieldLink RX7 55 "LockRoomsModel$Room" "isRunning" "Z") (by decide +kernel)) (fun _ h9 => h9) rfl dX7_pass_103 ?_
  refine lv_if_eq (tgt := 156) hx hb dX7_pass_106 (by decide) (fun h => absurd h (by decide)) (fun _ => ?_)
  refine lv_iload_n hx hb dX7_pass_109 rfl (lv_at hl 0 rfl) ?_
  refine lv_aload_n hx hb dX7_pass_110 rfl (lv_at hl 2 rfl) ?_
  refine va_get (D := (dC, dI)) (ci := 9) (v := .ref lp) (C := RX7) (T := TX7) (N := 14) hx hb hts zi_X7_pass_X7 hown hK hP 4 rfl rfl 2 (by decide) (hts (.fieldLink RX7 21 "LockRoomsModel$Room" "players" "Ljava/util/ArrayList;") (by decide +kernel)) (fun _ h9 => h9) rfl dX7_pass_111 ?_
  have huz31 : s.heap.size + 2 ≤ H29.size := hvz28
  have hPr := (hP).sub (ws' := [(lp, .inr (1, [.int 1, .ref oa, .int 1]))]) [0] rfl
  have hPc := hP.sub (ws' := []) [] rfl
  have hDc := hD.sub (ws' := []) [] (by decide) rfl
  have hKc := hK.sub (tys' := []) [] rfl
  have hFc := va_free (wc := []) hD hS hA [] rfl
  refine va_calli (va_runV (As := []) (rest := [.int 1]) ⟨hx, hb, hml, hown, hts⟩ (cz_Rsize1 l dC dI ed H29.size lp 1 oa) (cwV 0 hts gX7_pass_Jx4a65c_size_8abf5 rfl rfl rfl (by decide +kernel) ⟨Nat.le_of_ble_eq_true rfl, Nat.le_of_ble_eq_true rfl⟩) ⟨zb_blind, va_recv hK hP (ci := 1) (q0 := 0) rfl rfl, fun U hU hW => ⟨rfl, zb_mk hU hW hPr hPc hKc hDc hN hH hS hFc zx_e⟩⟩ rfl rfl hl.1 rfl (lv_room (Nat.le_of_ble_eq_true rfl)) dX7_pass_114 ⟨Nat.le_of_ble_eq_true rfl, Nat.le_of_ble_eq_true rfl⟩) hS (fun q _ h => hFc q h) hFc (fun r33 u t H32 locs ht hvm hw hB hz1 hk1 hS => ?_)
  obtain rfl : r33 = 1 := hw
  have hP := zo_K hP hk1
  have hvz31 : s.heap.size + 2 ≤ H32.size := Nat.le_trans huz31 hz1
  refine lv_icmp_ge (tgt := 156) hx hb dX7_pass_117 (by decide) (fun _ => ?_) (fun h => absurd h (by decide))
  refine lv_aload_n hx hb dX7_pass_156 rfl (lv_at hl 2 rfl) ?_
  refine va_get (D := (dC, dI)) (ci := 9) (v := .int 1) (C := RX7) (T := TX7) (N := 14) hx hb hts zi_X7_pass_X7 hown hK hP 4 rfl rfl 5 (by decide) (hts (.fieldLink RX7 55 "LockRoomsModel$Room" "isRunning" "Z") (by decide +kernel)) (fun _ h9 => h9) rfl dX7_pass_157 ?_
  refine lv_if_eq (tgt := 177) hx hb dX7_pass_160 (by decide) (fun h => absurd h (by decide)) (fun _ => ?_)
  refine lv_aload_n hx hb dX7_pass_163 rfl (lv_at hl 2 rfl) ?_
  refine va_get (D := (dC, dI)) (ci := 9) (v := .int 60) (C := RX7) (T := TX7) (N := 14) hx hb hts zi_X7_pass_X7 hown hK hP 4 rfl rfl 6 (by decide) (hts (.fieldLink RX7 59 "LockRoomsModel$Room" "time" "I") (by decide +kernel)) (fun _ h9 => h9) rfl dX7_pass_164 ?_
  refine lv_bipush (v := 60) hx hb dX7_pass_167 (by decide) ?_
  refine lv_icmp_ne (tgt := 177) hx hb dX7_pass_169 (by decide) (fun h => absurd h (by decide)) (fun _ => ?_)
  refine lv_aload_n hx hb dX7_pass_172 rfl (lv_at hl 2 rfl) ?_
  refine lv_iconst (v := 0) hx hb dX7_pass_173 (by decide) ?_
  have huz34 : s.heap.size + 2 ≤ H32.size := hvz31
  have hPr := (zo_nil : va_P (dC, dI) vwCl [] H32)
  have hPc := hP.sub (ws' := [(mr, .inr (9, [.ref ll, .ref lt, .ref lp, .int (-1), .int 60, .int 1, .int 60, .int 0, .int 0, .int 0, .int (-1), .int 0, .int 60, .int 0])), (lp, .inr (1, [.int 1, .ref oa, .int 1])), (oa, .inl (cO, 10, .inr (.inr (.inr (.inr fo)))))]) [4, 0, 1] rfl
  have hDc := hD.sub (ws' := [(mr, .inr (9, [.ref ll, .ref lt, .ref lp, .int (-1), .int 60, .int 1, .int 60, .int 0, .int 0, .int 0, .int (-1), .int 0, .int 60, .int 0])), (lp, .inr (1, [.int 1, .ref oa, .int 1])), (oa, .inl (cO, 10, .inr (.inr (.inr (.inr fo)))))]) [4, 0, 1] (by decide) rfl
  have hKc := hK.sub (tys' := [(cO, .object "java/lang/Object")]) [0] rfl
  have hFc := va_free (wc := [(mr, .inr (9, [.ref ll, .ref lt, .ref lp, .int (-1), .int 60, .int 1, .int 60, .int 0, .int 0, .int 0, .int (-1), .int 0, .int 60, .int 0])), (lp, .inr (1, [.int 1, .ref oa, .int 1])), (oa, .inl (cO, 10, .inr (.inr (.inr (.inr fo)))))]) hD hS hA [4, 0, 1] rfl
  refine va_callv (va_runV (As := [.int 0]) (rest := []) ⟨hx, hb, hml, hown, hts⟩ (cz_Rend l dC dI ed H32.size mr ll lt lp oa cO fo) (cwV 1 hts gX7_pass_X7_end rfl rfl rfl (by decide +kernel) ⟨Nat.le_of_ble_eq_true rfl, Nat.le_of_ble_eq_true rfl⟩) ⟨zb_blind, va_recv hK hP (ci := 9) (q0 := 4) rfl rfl, fun U hU hW => ⟨rfl, zb_mk hU hW hPr hPc hKc hDc hN hH hS hFc zx_nil⟩⟩ rfl rfl hl.1 rfl (lv_room (Nat.le_of_ble_eq_true rfl)) dX7_pass_174 ⟨Nat.le_of_ble_eq_true rfl, Nat.le_of_ble_eq_true rfl⟩) hS (fun q _ h => hFc q h) hFc (fun u t H35 locs ht hvm hw hB hz1 hk1 hS => ?_)
  obtain ⟨go_37, hP1, hD1, hK1⟩ := hB
  rw [ht] at hP1
  obtain ⟨hP, hD⟩ := va_join (wr := [(r5, .inr (0, [.int 0, .int (-1), .int 0, .ref ll])), (r12, .inr (0, [.int 0, .int (-1), .int 0, .ref lt])), (e1, .inl (cE, 4, .inl ge_27))]) (w1 := [(mr, .inr (9, [.ref ll, .ref lt, .ref lp, .int (-1), .int 60, .int 0, .int 60, .int 0, .int 0, .int 1, .int (-1), .int 0, .int 60, .int 0])), (lp, .inr (1, [.int 2, .ref oa, .int 0])), (oa, .inl (cO, 10, .inr (.inr (.inr (.inr go_37)))))]) hP hD [4, 0, 1] [2, 3, 5] rfl rfl (by decide) (by decide) hk1 hFc hP1 hD1
  have hP : va_P (dC, dI) vwCl [(r5, .inr (0, [.int 0, .int (-1), .int 0, .ref ll])), (r12, .inr (0, [.int 0, .int (-1), .int 0, .ref lt])), (e1, .inl (cE, 4, .inl ge_27)), (mr, .inr (9, [.ref ll, .ref lt, .ref lp, .int (-1), .int 60, .int 0, .int 60, .int 0, .int 0, .int 1, .int (-1), .int 0, .int 60, .int 0])), (lp, .inr (1, [.int 2, .ref oa, .int 0])), (oa, .inl (cO, 10, .inr (.inr (.inr (.inr go_37)))))] H35 := hP
  have hD : va_D A [(r5, .inr (0, [.int 0, .int (-1), .int 0, .ref ll])), (r12, .inr (0, [.int 0, .int (-1), .int 0, .ref lt])), (e1, .inl (cE, 4, .inl ge_27)), (mr, .inr (9, [.ref ll, .ref lt, .ref lp, .int (-1), .int 60, .int 0, .int 60, .int 0, .int 0, .int 1, .int (-1), .int 0, .int 60, .int 0])), (lp, .inr (1, [.int 2, .ref oa, .int 0])), (oa, .inl (cO, 10, .inr (.inr (.inr (.inr go_37)))))] := hD
  have hvz34 : s.heap.size + 2 ≤ H35.size := Nat.le_trans huz34 hz1
  refine lv_iload_n hx hb dX7_pass_177 rfl (lv_at hl 1 rfl) ?_
  refine W.widen (k := 2) (n := 8) (Nat.le_of_ble_eq_true rfl) (Nat.le_of_ble_eq_true rfl) ?_
  have hP9 := hP.sub (ws' := [(mr, .inr (9, [.ref ll, .ref lt, .ref lp, .int (-1), .int 60, .int 0, .int 60, .int 0, .int 0, .int 1, .int (-1), .int 0, .int 60, .int 0])), (lp, .inr (1, [.int 2, .ref oa, .int 0])), (oa, .inl (cO, 10, .inr (.inr (.inr (.inr go_37))))), (e1, .inl (cE, 4, .inl ge_27))]) [3, 4, 5, 2] rfl
  have hD9 := hD.sub (ws' := [(mr, .inr (9, [.ref ll, .ref lt, .ref lp, .int (-1), .int 60, .int 0, .int 60, .int 0, .int 0, .int 1, .int (-1), .int 0, .int 60, .int 0])), (lp, .inr (1, [.int 2, .ref oa, .int 0])), (oa, .inl (cO, 10, .inr (.inr (.inr (.inr go_37))))), (e1, .inl (cE, 4, .inl ge_27))]) [3, 4, 5, 2] (by decide) rfl
  have hK9 := hK.sub (tys' := [(cO, .object "java/lang/Object"), (cE, .int)]) [0, 1] rfl
  exact W.iret hx hb hr (fun t ht hW => ⟨⟨0, (), rfl, rfl, ⟨go_37, ge_27, (by rw [ht]; exact Nat.le_trans (Nat.add_le_add_left (Nat.le_of_ble_eq_true rfl) _) hvz34), by rw [ht]; exact hP9, hD9, va_K.moved hW.alike hK9⟩⟩, hS.F ht⟩) hS.2.2 dX7_pass_178
set_option maxHeartbeats 4000000 in
set_option maxRecDepth 100000 in
theorem cz_RmidPass (l : Launch) (dC : Nat → ClassId) (dI : Nat → Nat → Nat) (ed sz : Nat) (mr : Nat) (ll : Nat) (lt : Nat) (lp : Nat) (oa : Nat) (cO : ClassId) (fo : Nat → Option Nat) (e1 : Nat) (cE : ClassId) (fe : Nat → Int32) (w : Int32) (ho : fo 0 = some e1) (he0 : fe 0 = 1) (he1 : fe 1 = (-1)) (he2 : fe 2 = (-1)) (he3 : fe 3 = w) (hq60 : ¬ w + 1 = 60) : Met l yX7_pass wsX7_pass ({ frames := 3, cells := 2, slots := 8, locals := 64 } : Jvm.Room) (va_Pc [.ref mr] (zB dC dI ed sz [(ll, .inr (1, [.int 0, .ref ed, .int 0])), (lt, .inr (1, [.int 0, .ref ed, .int 0]))] [(mr, .inr (9, [.ref ll, .ref lt, .ref lp, .int (-1), .int w, .int 1, .int w, .int 0, .int 0, .int 0, .int (-1), .int 0, .int w, .int 0])), (lp, .inr (1, [.int 1, .ref oa, .int 1])), (oa, .inl (cO, 10, .inr (.inr (.inr (.inr fo))))), (e1, .inl (cE, 4, .inl fe))] [(cO, .object "java/lang/Object"), (cE, .int)])) (va_Qi (fun (r : Int32) (_ : Unit) => r = 0) (fun (_ : Unit) (t : State) => ∃ (w1 : Int32), ∃ (ge : Nat → Int32), (w1 = (w + 1)) ∧ (sz + 2 ≤ t.heap.size) ∧ (fo 0 = some e1 ∧ ge 0 = 1 ∧ ge 1 = (-1) ∧ ge 2 = (-1) ∧ ge 3 = w1) ∧ va_P (dC, dI) vwCl [(mr, .inr (9, [.ref ll, .ref lt, .ref lp, .int (-1), .int w1, .int 1, .int w1, .int 0, .int 0, .int 0, .int (-1), .int 0, .int w1, .int 0])), (lp, .inr (1, [.int 1, .ref oa, .int 1])), (oa, .inl (cO, 10, .inr (.inr (.inr (.inr fo))))), (e1, .inl (cE, 4, .inl ge))] t.heap ∧ va_D (va_A [(mr, .inr (9, [.ref ll, .ref lt, .ref lp, .int (-1), .int w, .int 1, .int w, .int 0, .int 0, .int 0, .int (-1), .int 0, .int w, .int 0])), (lp, .inr (1, [.int 1, .ref oa, .int 1])), (oa, .inl (cO, 10, .inr (.inr (.inr (.inr fo))))), (e1, .inl (cE, 4, .inl fe))] sz) [(mr, .inr (9, [.ref ll, .ref lt, .ref lp, .int (-1), .int w1, .int 1, .int w1, .int 0, .int 0, .int 0, .int (-1), .int 0, .int w1, .int 0])), (lp, .inr (1, [.int 1, .ref oa, .int 1])), (oa, .inl (cO, 10, .inr (.inr (.inr (.inr fo))))), (e1, .inl (cE, 4, .inl ge))] ∧ va_K (dC, dI) vwCl [(cO, .object "java/lang/Object"), (cE, .int)] t) (va_A [(mr, .inr (9, [.ref ll, .ref lt, .ref lp, .int (-1), .int w, .int 1, .int w, .int 0, .int 0, .int 0, .int (-1), .int 0, .int w, .int 0])), (lp, .inr (1, [.int 1, .ref oa, .int 1])), (oa, .inl (cO, 10, .inr (.inr (.inr (.inr fo))))), (e1, .inl (cE, 4, .inl fe))] sz)) 2 8 (va_A [(mr, .inr (9, [.ref ll, .ref lt, .ref lp, .int (-1), .int w, .int 1, .int w, .int 0, .int 0, .int 0, .int (-1), .int 0, .int w, .int 0])), (lp, .inr (1, [.int 1, .ref oa, .int 1])), (oa, .inl (cO, 10, .inr (.inr (.inr (.inr fo))))), (e1, .inl (cE, 4, .inl fe))] sz) := by
  refine Met.ofW (cc := cX7_pass) (maxL := 3) (ret := (some .int)) (by decide) rfl ?_
  intro p e s m args below meth c s₁ B hml hv
  obtain ⟨rfl, hsz, hR0, hP, hK, hD0, hN, hH, hX0⟩ := hv
  have hx := B.exec
  have hb := B.bytes
  have hr := B.returns
  have hts := atoms_spec (ws := wsX7_pass) B.pre
  have hown : s.vm.findClass RX7 = some m.cls := findClass_of_methodNamed B.named
  have hlocks := B.notSynchronized
  subst hsz
  have hD := hD0.self (sz := s.heap.size)
  have hAr := zx_A hX0 hR0
  generalize hAe : va_A [(mr, .inr (9, [.ref ll, .ref lt, .ref lp, .int (-1), .int w, .int 1, .int w, .int 0, .int 0, .int 0, .int (-1), .int 0, .int w, .int 0])), (lp, .inr (1, [.int 1, .ref oa, .int 1])), (oa, .inl (cO, 10, .inr (.inr (.inr (.inr fo))))), (e1, .inl (cE, 4, .inl fe))] s.heap.size = A at hD hAr hH ⊢
  have hA : ∀ q : Nat, s.heap.size ≤ q → A q := fun q h => by rw [← hAe]; exact Or.inr h
  have hS : va_S A s.heap s.heap [] := va_S.rf
  have hl := lv_entry ([.ref mr]) (n := 3) (Nat.le_of_ble_eq_true rfl)
  rw [lg_entry_eq]
  generalize (lg_sl ([.ref mr]) ++ List.replicate (3 - (lg_sl ([.ref mr])).length) Slot.unset).toArray = ls at hl ⊢
  have hl : lv_has ls 3 [(0, .ref mr)] := hl
  refine lv_aload_n hx hb dX7_pass_0 rfl (lv_at hl 0 rfl) ?_
  refine lv_dup hx hb dX7_pass_1 rfl ?_
  refine va_get (D := (dC, dI)) (ci := 9) (v := .int w) (C := RX7) (T := TX7) (N := 14) hx hb hts zi_X7_pass_X7 hown hK hP 0 rfl rfl 4 (by decide) (hts (.fieldLink RX7 99 "LockRoomsModel$Room" "now" "I") (by decide +kernel)) (fun _ h9 => h9) rfl dX7_pass_2 ?_
  refine lv_iconst (v := 1) hx hb dX7_pass_5 (by decide) ?_
  refine lv_iadd hx hb dX7_pass_6 ?_
  refine va_put (D := (dC, dI)) (ci := 9) (v := .int (w + 1)) (ty := .int) (C := RX7) (T := TX7) (N := 14) hx hb hts zi_X7_pass_X7 tyX7 tyX7_ok nmX7 hown hK hP hD hS 0 rfl rfl 4 (by decide) (hts (.fieldLink RX7 99 "LockRoomsModel$Room" "now" "I") (by decide +kernel)) (fun _ h9 => h9) rfl (by decide +kernel) rfl rfl (Nat.le_of_ble_eq_true rfl) dX7_pass_7 (fun H1 locs hP hD hS => ?_)
  have hP : va_P (dC, dI) vwCl [(mr, .inr (9, [.ref ll, .ref lt, .ref lp, .int (-1), .int (w + 1), .int 1, .int w, .int 0, .int 0, .int 0, .int (-1), .int 0, .int w, .int 0])), (lp, .inr (1, [.int 1, .ref oa, .int 1])), (oa, .inl (cO, 10, .inr (.inr (.inr (.inr fo))))), (e1, .inl (cE, 4, .inl fe))] H1 := hP
  have hD : va_D A [(mr, .inr (9, [.ref ll, .ref lt, .ref lp, .int (-1), .int (w + 1), .int 1, .int w, .int 0, .int 0, .int 0, .int (-1), .int 0, .int w, .int 0])), (lp, .inr (1, [.int 1, .ref oa, .int 1])), (oa, .inl (cO, 10, .inr (.inr (.inr (.inr fo))))), (e1, .inl (cE, 4, .inl fe))] := hD
  refine lv_aload_n hx hb dX7_pass_10 rfl (lv_at hl 0 rfl) ?_
  refine va_get (D := (dC, dI)) (ci := 9) (v := .int 1) (C := RX7) (T := TX7) (N := 14) hx hb hts zi_X7_pass_X7 hown hK hP 0 rfl rfl 5 (by decide) (hts (.fieldLink RX7 55 "LockRoomsModel$Room" "isRunning" "Z") (by decide +kernel)) (fun _ h9 => h9) rfl dX7_pass_11 ?_
  refine lv_if_ne (tgt := 19) hx hb dX7_pass_14 (by decide) (fun _ => ?_) (fun h => absurd h (by decide))
  refine lv_aload_n hx hb dX7_pass_19 rfl (lv_at hl 0 rfl) ?_
  refine lv_dup hx hb dX7_pass_20 rfl ?_
  refine va_get (D := (dC, dI)) (ci := 9) (v := .int w) (C := RX7) (T := TX7) (N := 14) hx hb hts zi_X7_pass_X7 hown hK hP 0 rfl rfl 6 (by decide) (hts (.fieldLink RX7 59 "LockRoomsModel$Room" "time" "I") (by decide +kernel)) (fun _ h9 => h9) rfl dX7_pass_21 ?_
  refine lv_iconst (v := 1) hx hb dX7_pass_24 (by decide) ?_
  refine lv_iadd hx hb dX7_pass_25 ?_
  refine va_put (D := (dC, dI)) (ci := 9) (v := .int (w + 1)) (ty := .int) (C := RX7) (T := TX7) (N := 14) hx hb hts zi_X7_pass_X7 tyX7 tyX7_ok nmX7 hown hK hP hD hS 0 rfl rfl 6 (by decide) (hts (.fieldLink RX7 59 "LockRoomsModel$Room" "time" "I") (by decide +kernel)) (fun _ h9 => h9) rfl (by decide +kernel) rfl rfl (Nat.le_of_ble_eq_true rfl) dX7_pass_26 (fun H2 locs hP hD hS => ?_)
  have hP : va_P (dC, dI) vwCl [(mr, .inr (9, [.ref ll, .ref lt, .ref lp, .int (-1), .int (w + 1), .int 1, .int (w + 1), .int 0, .int 0, .int 0, .int (-1), .int 0, .int w, .int 0])), (lp, .inr (1, [.int 1, .ref oa, .int 1])), (oa, .inl (cO, 10, .inr (.inr (.inr (.inr fo))))), (e1, .inl (cE, 4, .inl fe))] H2 := hP
  have hD : va_D A [(mr, .inr (9, [.ref ll, .ref lt, .ref lp, .int (-1), .int (w + 1), .int 1, .int (w + 1), .int 0, .int 0, .int 0, .int (-1), .int 0, .int w, .int 0])), (lp, .inr (1, [.int 1, .ref oa, .int 1])), (oa, .inl (cO, 10, .inr (.inr (.inr (.inr fo))))), (e1, .inl (cE, 4, .inl fe))] := hD
  refine lv_aload_n hx hb dX7_pass_29 rfl (lv_at hl 0 rfl) ?_
  refine va_get (D := (dC, dI)) (ci := 9) (v := .ref ll) (C := RX7) (T := TX7) (N := 14) hx hb hts zi_X7_pass_X7 hown hK hP 0 rfl rfl 0 (by decide) (hts (.fieldLink RX7 12 "LockRoomsModel$Room" "locks" "Ljava/util/ArrayList;") (by decide +kernel)) (fun _ h9 => h9) rfl dX7_pass_30 ?_
  have huz3 : s.heap.size + 0 ≤ H2.size := hS.1
  have hPr := ((zo_R hR0 hS hAr)).sub (ws' := [(ll, .inr (1, [.int 0, .ref ed, .int 0]))]) [0] rfl
  have hPc := hP.sub (ws' := []) [] rfl
  have hDc := hD.sub (ws' := []) [] (by decide) rfl
  have hKc := hK.sub (tys' := []) [] rfl
  have hFc := va_free (wc := []) hD hS hA [] rfl
  refine va_callr (va_runV (As := []) (rest := []) ⟨hx, hb, hml, hown, hts⟩ (cz_Riterator l dC dI ed H2.size ll 0 ed 0) (cwV 0 hts gX7_pass_Jx4a65c_iterator_32c93 rfl rfl rfl (by decide +kernel) ⟨Nat.le_of_ble_eq_true rfl, Nat.le_of_ble_eq_true rfl⟩) ⟨zb_blind, va_recv hK (zo_R hR0 hS hAr) (ci := 1) (q0 := 0) rfl rfl, fun U hU hW => ⟨rfl, zb_mk hU hW hPr hPc hKc hDc hN hH hS hFc zx_e⟩⟩ rfl rfl hl.1 rfl (lv_room (Nat.le_of_ble_eq_true rfl)) dX7_pass_33 ⟨Nat.le_of_ble_eq_true rfl, Nat.le_of_ble_eq_true rfl⟩) hS (fun q _ h => hFc q h) hFc (fun u r5 t H4 locs ht hvm hw hB hz1 hk1 hS => ?_)
  obtain ⟨hq6_0, hP1, hD1, hK1⟩ := hB
  rw [ht] at hP1
  obtain ⟨hP, hD⟩ := va_join (wr := [(mr, .inr (9, [.ref ll, .ref lt, .ref lp, .int (-1), .int (w + 1), .int 1, .int (w + 1), .int 0, .int 0, .int 0, .int (-1), .int 0, .int w, .int 0])), (lp, .inr (1, [.int 1, .ref oa, .int 1])), (oa, .inl (cO, 10, .inr (.inr (.inr (.inr fo))))), (e1, .inl (cE, 4, .inl fe))]) (w1 := [(r5, .inr (0, [.int 0, .int (-1), .int 0, .ref ll]))]) hP hD [] [0, 1, 2, 3] rfl rfl (by decide) (by decide) hk1 hFc hP1 hD1
  have hP : va_P (dC, dI) vwCl [(mr, .inr (9, [.ref ll, .ref lt, .ref lp, .int (-1), .int (w + 1), .int 1, .int (w + 1), .int 0, .int 0, .int 0, .int (-1), .int 0, .int w, .int 0])), (lp, .inr (1, [.int 1, .ref oa, .int 1])), (oa, .inl (cO, 10, .inr (.inr (.inr (.inr fo))))), (e1, .inl (cE, 4, .inl fe)), (r5, .inr (0, [.int 0, .int (-1), .int 0, .ref ll]))] H4 := hP
  have hD : va_D A [(mr, .inr (9, [.ref ll, .ref lt, .ref lp, .int (-1), .int (w + 1), .int 1, .int (w + 1), .int 0, .int 0, .int 0, .int (-1), .int 0, .int w, .int 0])), (lp, .inr (1, [.int 1, .ref oa, .int 1])), (oa, .inl (cO, 10, .inr (.inr (.inr (.inr fo))))), (e1, .inl (cE, 4, .inl fe)), (r5, .inr (0, [.int 0, .int (-1), .int 0, .ref ll]))] := hD
  have hvz3 : s.heap.size + 1 ≤ H4.size := by have h9 := hq6_0; rw [ht] at h9; omega
  refine lv_astore_n (lv' := [(1, .ref r5), (0, .ref mr)]) hx hb dX7_pass_36 rfl hl (by decide) rfl (fun ls hl => ?_)
  refine lv_aload_n hx hb dX7_pass_37 rfl (lv_at hl 0 rfl) ?_
  have huz7 : s.heap.size + 1 ≤ H4.size := hvz3
  have hPr := (show va_P (dC, dI) vwCl [(r5, .inr (0, [.int 0, .int (-1), .int 0, .ref ll])), (ll, .inr (1, [.int 0, .ref ed, .int 0]))] H4 from (zo_cons ((hP) 4 _ rfl) (zo_cons (((zo_R hR0 hS hAr)) 0 _ rfl) (zo_nil : va_P (dC, dI) vwCl [] H4))))
  have hPc := hP.sub (ws' := []) [] rfl
  have hDc := hD.sub (ws' := []) [] (by decide) rfl
  have hKc := hK.sub (tys' := []) [] rfl
  have hFc := va_free (wc := []) hD hS hA [] rfl
  refine va_callFi (va_runF (As := []) (rest := []) (hK.1 0 _ rfl).2 ⟨hx, hb, hml, hown, hts⟩ (cz_RhasNext0 l dC dI ed H4.size r5 ll 0 ed) (va_cwF 0 hts gX7_pass_Jx35411_hasNext_aae02_f36Jx35411 rfl rfl rfl hN.2.2.2.2.2.2.2.1 (by decide +kernel) ⟨Nat.le_of_ble_eq_true rfl, Nat.le_of_ble_eq_true rfl⟩) ⟨zb_blind, va_recv hK hP (ci := 0) (q0 := 4) rfl rfl, fun U hU hW => ⟨rfl, zb_mk hU hW hPr hPc hKc hDc hN hH hS hFc zx_e⟩⟩ rfl rfl hl.1 rfl (lv_room (Nat.le_of_ble_eq_true rfl)) dX7_pass_38 ⟨Nat.le_of_ble_eq_true rfl, Nat.le_of_ble_eq_true rfl⟩) hS (fun q _ h => hFc q h) hFc (fun r9 u t H8 locs ht hvm hw hB hz1 hk1 hS => ?_)
  obtain rfl : r9 = 0 := hw
  have hP := zo_K hP hk1
  have hvz7 : s.heap.size + 1 ≤ H8.size := Nat.le_trans huz7 hz1
  refine lv_if_eq (tgt := 64) hx hb dX7_pass_43 (by decide) (fun _ => ?_) (fun h => absurd h (by decide))
  refine lv_aload_n hx hb dX7_pass_64 rfl (lv_at hl 1 rfl) ?_
  refine va_get (D := (dC, dI)) (ci := 9) (v := .ref lt) (C := RX7) (T := TX7) (N := 14) hx hb hts zi_X7_pass_X7 hown hK hP 0 rfl rfl 1 (by decide) (hts (.fieldLink RX7 18 "LockRoomsModel$Room" "things" "Ljava/util/ArrayList;") (by decide +kernel)) (fun _ h9 => h9) rfl dX7_pass_65 ?_
  have huz10 : s.heap.size + 1 ≤ H8.size := hvz7
  have hPr := ((zo_R hR0 hS hAr)).sub (ws' := [(lt, .inr (1, [.int 0, .ref ed, .int 0]))]) [1] rfl
  have hPc := hP.sub (ws' := []) [] rfl
  have hDc := hD.sub (ws' := []) [] (by decide) rfl
  have hKc := hK.sub (tys' := []) [] rfl
  have hFc := va_free (wc := []) hD hS hA [] rfl
  refine va_callr (va_runV (As := []) (rest := []) ⟨hx, hb, hml, hown, hts⟩ (cz_Riterator l dC dI ed H8.size lt 0 ed 0) (cwV 0 hts gX7_pass_Jx4a65c_iterator_32c93 rfl rfl rfl (by decide +kernel) ⟨Nat.le_of_ble_eq_true rfl, Nat.le_of_ble_eq_true rfl⟩) ⟨zb_blind, va_recv hK (zo_R hR0 hS hAr) (ci := 1) (q0 := 1) rfl rfl, fun U hU hW => ⟨rfl, zb_mk hU hW hPr hPc hKc hDc hN hH hS hFc zx_e⟩⟩ rfl rfl hl.1 rfl (lv_room (Nat.le_of_ble_eq_true rfl)) dX7_pass_68 ⟨Nat.le_of_ble_eq_true rfl, Nat.le_of_ble_eq_true rfl⟩) hS (fun q _ h => hFc q h) hFc (fun u r12 t H11 locs ht hvm hw hB hz1 hk1 hS => ?_)
  obtain ⟨hq13_0, hP1, hD1, hK1⟩ := hB
  rw [ht] at hP1
  obtain ⟨hP, hD⟩ := va_join (wr := [(mr, .inr (9, [.ref ll, .ref lt, .ref lp, .int (-1), .int (w + 1), .int 1, .int (w + 1), .int 0, .int 0, .int 0, .int (-1), .int 0, .int w, .int 0])), (lp, .inr (1, [.int 1, .ref oa, .int 1])), (oa, .inl (cO, 10, .inr (.inr (.inr (.inr fo))))), (e1, .inl (cE, 4, .inl fe)), (r5, .inr (0, [.int 0, .int (-1), .int 0, .ref ll]))]) (w1 := [(r12, .inr (0, [.int 0, .int (-1), .int 0, .ref lt]))]) hP hD [] [0, 1, 2, 3, 4] rfl rfl (by decide) (by decide) hk1 hFc hP1 hD1
  have hP : va_P (dC, dI) vwCl [(mr, .inr (9, [.ref ll, .ref lt, .ref lp, .int (-1), .int (w + 1), .int 1, .int (w + 1), .int 0, .int 0, .int 0, .int (-1), .int 0, .int w, .int 0])), (lp, .inr (1, [.int 1, .ref oa, .int 1])), (oa, .inl (cO, 10, .inr (.inr (.inr (.inr fo))))), (e1, .inl (cE, 4, .inl fe)), (r5, .inr (0, [.int 0, .int (-1), .int 0, .ref ll])), (r12, .inr (0, [.int 0, .int (-1), .int 0, .ref lt]))] H11 := hP
  have hD : va_D A [(mr, .inr (9, [.ref ll, .ref lt, .ref lp, .int (-1), .int (w + 1), .int 1, .int (w + 1), .int 0, .int 0, .int 0, .int (-1), .int 0, .int w, .int 0])), (lp, .inr (1, [.int 1, .ref oa, .int 1])), (oa, .inl (cO, 10, .inr (.inr (.inr (.inr fo))))), (e1, .inl (cE, 4, .inl fe)), (r5, .inr (0, [.int 0, .int (-1), .int 0, .ref ll])), (r12, .inr (0, [.int 0, .int (-1), .int 0, .ref lt]))] := hD
  have hvz10 : s.heap.size + 2 ≤ H11.size := by have h9 := hq13_0; rw [ht] at h9; omega
  refine lv_astore_n (lv' := [(1, .ref r12), (0, .ref mr)]) hx hb dX7_pass_71 rfl hl (by decide) rfl (fun ls hl => ?_)
  refine lv_aload_n hx hb dX7_pass_72 rfl (lv_at hl 0 rfl) ?_
  have huz14 : s.heap.size + 2 ≤ H11.size := hvz10
  have hPr := (show va_P (dC, dI) vwCl [(r12, .inr (0, [.int 0, .int (-1), .int 0, .ref lt])), (lt, .inr (1, [.int 0, .ref ed, .int 0]))] H11 from (zo_cons ((hP) 5 _ rfl) (zo_cons (((zo_R hR0 hS hAr)) 1 _ rfl) (zo_nil : va_P (dC, dI) vwCl [] H11))))
  have hPc := hP.sub (ws' := []) [] rfl
  have hDc := hD.sub (ws' := []) [] (by decide) rfl
  have hKc := hK.sub (tys' := []) [] rfl
  have hFc := va_free (wc := []) hD hS hA [] rfl
  refine va_callFi (va_runF (As := []) (rest := []) (hK.1 0 _ rfl).2 ⟨hx, hb, hml, hown, hts⟩ (cz_RhasNext0 l dC dI ed H11.size r12 lt 0 ed) (va_cwF 0 hts gX7_pass_Jx35411_hasNext_aae02_f36Jx35411 rfl rfl rfl hN.2.2.2.2.2.2.2.1 (by decide +kernel) ⟨Nat.le_of_ble_eq_true rfl, Nat.le_of_ble_eq_true rfl⟩) ⟨zb_blind, va_recv hK hP (ci := 0) (q0 := 5) rfl rfl, fun U hU hW => ⟨rfl, zb_mk hU hW hPr hPc hKc hDc hN hH hS hFc zx_e⟩⟩ rfl rfl hl.1 rfl (lv_room (Nat.le_of_ble_eq_true rfl)) dX7_pass_73 ⟨Nat.le_of_ble_eq_true rfl, Nat.le_of_ble_eq_true rfl⟩) hS (fun q _ h => hFc q h) hFc (fun r16 u t H15 locs ht hvm hw hB hz1 hk1 hS => ?_)
  obtain rfl : r16 = 0 := hw
  have hP := zo_K hP hk1
  have hvz14 : s.heap.size + 2 ≤ H15.size := Nat.le_trans huz14 hz1
  refine lv_if_eq (tgt := 98) hx hb dX7_pass_78 (by decide) (fun _ => ?_) (fun h => absurd h (by decide))
  refine lv_iconst (v := 0) hx hb dX7_pass_98 (by decide) ?_
  refine lv_istore_n (lv' := [(1, .int 0), (0, .ref mr)]) hx hb dX7_pass_99 rfl hl (by decide) rfl (fun ls hl => ?_)
  refine lv_iconst (v := 0) hx hb dX7_pass_100 (by decide) ?_
  refine lv_istore_n (lv' := [(2, .int 0), (1, .int 0), (0, .ref mr)]) hx hb dX7_pass_101 rfl hl (by decide) rfl (fun ls hl => ?_)
  refine lv_aload_n hx hb dX7_pass_102 rfl (lv_at hl 2 rfl) ?_
  refine va_get (D := (dC, dI)) (ci := 9) (v := .int 1) (C := RX7) (T := TX7) (N := 14) hx hb hts zi_X7_pass_X7 hown hK hP 0 rfl rfl 5 (by decide) (hts (.fieldLink RX7 55 "LockRoomsModel$Room" "isRunning" "Z") (by decide +kernel)) (fun _ h9 => h9) rfl dX7_pass_103 ?_
  refine lv_if_eq (tgt := 156) hx hb dX7_pass_106 (by decide) (fun h => absurd h (by decide)) (fun _ => ?_)
  refine lv_iload_n hx hb dX7_pass_109 rfl (lv_at hl 0 rfl) ?_
  refine lv_aload_n hx hb dX7_pass_110 rfl (lv_at hl 2 rfl) ?_
  refine va_get (D := (dC, dI)) (ci := 9) (v := .ref lp) (C := RX7) (T := TX7) (N := 14) hx hb hts zi_X7_pass_X7 hown hK hP 0 rfl rfl 2 (by decide) (hts (.fieldLink RX7 21 "LockRoomsModel$Room" "players" "Ljava/util/ArrayList;") (by decide +kernel)) (fun _ h9 => h9) rfl dX7_pass_111 ?_
  have huz17 : s.heap.size + 2 ≤ H15.size := hvz14
  have hPr := (hP).sub (ws' := [(lp, .inr (1, [.int 1, .ref oa, .int 1]))]) [1] rfl
  have hPc := hP.sub (ws' := []) [] rfl
  have hDc := hD.sub (ws' := []) [] (by decide) rfl
  have hKc := hK.sub (tys' := []) [] rfl
  have hFc := va_free (wc := []) hD hS hA [] rfl
  refine va_calli (va_runV (As := []) (rest := [.int 0]) ⟨hx, hb, hml, hown, hts⟩ (cz_Rsize1 l dC dI ed H15.size lp 1 oa) (cwV 0 hts gX7_pass_Jx4a65c_size_8abf5 rfl rfl rfl (by decide +kernel) ⟨Nat.le_of_ble_eq_true rfl, Nat.le_of_ble_eq_true rfl⟩) ⟨zb_blind, va_recv hK hP (ci := 1) (q0 := 1) rfl rfl, fun U hU hW => ⟨rfl, zb_mk hU hW hPr hPc hKc hDc hN hH hS hFc zx_e⟩⟩ rfl rfl hl.1 rfl (lv_room (Nat.le_of_ble_eq_true rfl)) dX7_pass_114 ⟨Nat.le_of_ble_eq_true rfl, Nat.le_of_ble_eq_true rfl⟩) hS (fun q _ h => hFc q h) hFc (fun r19 u t H18 locs ht hvm hw hB hz1 hk1 hS => ?_)
  obtain rfl : r19 = 1 := hw
  have hP := zo_K hP hk1
  have hvz17 : s.heap.size + 2 ≤ H18.size := Nat.le_trans huz17 hz1
  refine lv_icmp_ge (tgt := 156) hx hb dX7_pass_117 (by decide) (fun h => absurd h (by decide)) (fun _ => ?_)
  refine lv_iload_n hx hb dX7_pass_120 rfl (lv_at hl 1 rfl) ?_
  refine lv_aload_n hx hb dX7_pass_121 rfl (lv_at hl 2 rfl) ?_
  refine lv_aload_n hx hb dX7_pass_122 rfl (lv_at hl 2 rfl) ?_
  refine va_get (D := (dC, dI)) (ci := 9) (v := .ref lp) (C := RX7) (T := TX7) (N := 14) hx hb hts zi_X7_pass_X7 hown hK hP 0 rfl rfl 2 (by decide) (hts (.fieldLink RX7 21 "LockRoomsModel$Room" "players" "Ljava/util/ArrayList;") (by decide +kernel)) (fun _ h9 => h9) rfl dX7_pass_123 ?_
  refine lv_iload_n hx hb dX7_pass_126 rfl (lv_at hl 0 rfl) ?_
  have huz20 : s.heap.size + 2 ≤ H18.size := hvz17
  have hPr := (hP).sub (ws' := [(lp, .inr (1, [.int 1, .ref oa, .int 1])), (oa, .inl (cO, 10, .inr (.inr (.inr (.inr fo)))))]) [1, 2] rfl
  have hPc := hP.sub (ws' := []) [] rfl
  have hDc := hD.sub (ws' := []) [] (by decide) rfl
  have hKc := hK.sub (tys' := [(cO, .object "java/lang/Object")]) [0] rfl
  have hFc := va_free (wc := []) hD hS hA [] rfl
  refine va_callr (va_runV (As := [.int 0]) (rest := [.ref mr, .int 0]) ⟨hx, hb, hml, hown, hts⟩ (cz_Rget l dC dI ed H18.size lp 1 oa cO fo e1 ho) (cwV 1 hts gX7_pass_Jx4a65c_get_915e3 rfl rfl rfl (by decide +kernel) ⟨Nat.le_of_ble_eq_true rfl, Nat.le_of_ble_eq_true rfl⟩) ⟨zb_blind, va_recv hK hP (ci := 1) (q0 := 1) rfl rfl, fun U hU hW => ⟨rfl, zb_mk hU hW hPr hPc hKc hDc hN hH hS hFc zx_e⟩⟩ rfl rfl hl.1 rfl (lv_room (Nat.le_of_ble_eq_true rfl)) dX7_pass_127 ⟨Nat.le_of_ble_eq_true rfl, Nat.le_of_ble_eq_true rfl⟩) hS (fun q _ h => hFc q h) hFc (fun u r22 t H21 locs ht hvm hw hB hz1 hk1 hS => ?_)
  obtain ⟨hq23_0, hP1, hD1, hK1⟩ := hB
  rw [ht] at hP1
  obtain ⟨hP, hD⟩ := va_join (wr := [(mr, .inr (9, [.ref ll, .ref lt, .ref lp, .int (-1), .int (w + 1), .int 1, .int (w + 1), .int 0, .int 0, .int 0, .int (-1), .int 0, .int w, .int 0])), (lp, .inr (1, [.int 1, .ref oa, .int 1])), (oa, .inl (cO, 10, .inr (.inr (.inr (.inr fo))))), (e1, .inl (cE, 4, .inl fe)), (r5, .inr (0, [.int 0, .int (-1), .int 0, .ref ll])), (r12, .inr (0, [.int 0, .int (-1), .int 0, .ref lt]))]) (w1 := []) hP hD [] [0, 1, 2, 3, 4, 5] rfl rfl (by decide) (by decide) hk1 hFc hP1 hD1
  have hP : va_P (dC, dI) vwCl [(mr, .inr (9, [.ref ll, .ref lt, .ref lp, .int (-1), .int (w + 1), .int 1, .int (w + 1), .int 0, .int 0, .int 0, .int (-1), .int 0, .int w, .int 0])), (lp, .inr (1, [.int 1, .ref oa, .int 1])), (oa, .inl (cO, 10, .inr (.inr (.inr (.inr fo))))), (e1, .inl (cE, 4, .inl fe)), (r5, .inr (0, [.int 0, .int (-1), .int 0, .ref ll])), (r12, .inr (0, [.int 0, .int (-1), .int 0, .ref lt]))] H21 := hP
  have hD : va_D A [(mr, .inr (9, [.ref ll, .ref lt, .ref lp, .int (-1), .int (w + 1), .int 1, .int (w + 1), .int 0, .int 0, .int 0, .int (-1), .int 0, .int w, .int 0])), (lp, .inr (1, [.int 1, .ref oa, .int 1])), (oa, .inl (cO, 10, .inr (.inr (.inr (.inr fo))))), (e1, .inl (cE, 4, .inl fe)), (r5, .inr (0, [.int 0, .int (-1), .int 0, .ref ll])), (r12, .inr (0, [.int 0, .int (-1), .int 0, .ref lt]))] := hD
  obtain rfl : e1 = r22 := hq23_0.symm
  have hvz20 : s.heap.size + 2 ≤ H21.size := Nat.le_trans huz20 hz1
  refine va_castA (nm := "[I") hx hb hown (hts (.classLink RX7 46 "[I") (by decide +kernel)) hP 3 rfl (show s.vm.findClass "[I" = some cE from (hK.2 1 _ rfl).2) dX7_pass_130 ?_
  have huz24 : s.heap.size + 2 ≤ H21.size := hvz20
  have hPr := ((zo_R hR0 hS hAr)).sub (ws' := [(ll, .inr (1, [.int 0, .ref ed, .int 0])), (lt, .inr (1, [.int 0, .ref ed, .int 0]))]) [0, 1] rfl
  have hPc := hP.sub (ws' := [(mr, .inr (9, [.ref ll, .ref lt, .ref lp, .int (-1), .int (w + 1), .int 1, .int (w + 1), .int 0, .int 0, .int 0, .int (-1), .int 0, .int w, .int 0])), (e1, .inl (cE, 4, .inl fe))]) [0, 3] rfl
  have hDc := hD.sub (ws' := [(mr, .inr (9, [.ref ll, .ref lt, .ref lp, .int (-1), .int (w + 1), .int 1, .int (w + 1), .int 0, .int 0, .int 0, .int (-1), .int 0, .int w, .int 0])), (e1, .inl (cE, 4, .inl fe))]) [0, 3] (by decide) rfl
  have hKc := hK.sub (tys' := [(cE, .int)]) [1] rfl
  have hFc := va_free (wc := [(mr, .inr (9, [.ref ll, .ref lt, .ref lp, .int (-1), .int (w + 1), .int 1, .int (w + 1), .int 0, .int 0, .int 0, .int (-1), .int 0, .int w, .int 0])), (e1, .inl (cE, 4, .inl fe))]) hD hS hA [0, 3] rfl
  refine va_calli (va_runV (As := [.ref e1]) (rest := [.int 0]) ⟨hx, hb, hml, hown, hts⟩ (cz_Ract l dC dI ed H21.size mr ll lt lp e1 cE fe (w + 1) (w + 1) w he0 he1 he2 he3) (cwV 1 hts gX7_pass_X7_act rfl rfl rfl (by decide +kernel) ⟨Nat.le_of_ble_eq_true rfl, Nat.le_of_ble_eq_true rfl⟩) ⟨zb_blind, va_recv hK hP (ci := 9) (q0 := 0) rfl rfl, fun U hU hW => ⟨rfl, zb_mk hU hW hPr hPc hKc hDc hN hH hS hFc (zx_cons (zx_r (hAr _ (List.mem_of_getElem? (i := 0) rfl)) hDc) (zx_cons (zx_r (hAr _ (List.mem_of_getElem? (i := 1) rfl)) hDc) zx_nil))⟩⟩ rfl rfl hl.1 rfl (lv_room (Nat.le_of_ble_eq_true rfl)) dX7_pass_133 ⟨Nat.le_of_ble_eq_true rfl, Nat.le_of_ble_eq_true rfl⟩) hS (fun q _ h => hFc q h) hFc (fun r26 u t H25 locs ht hvm hw hB hz1 hk1 hS => ?_)
  obtain rfl : r26 = 0 := hw
  obtain ⟨w1_27, ge_27, hf27_0, ⟨k27_0, k27_1, k27_2, k27_3⟩, hP1, hD1, hK1⟩ := hB
  obtain rfl : w1_27 = (w + 1) := hf27_0.trans (by first | rfl | decide +kernel)
  rw [ht] at hP1
  obtain ⟨hP, hD⟩ := va_join (wr := [(lp, .inr (1, [.int 1, .ref oa, .int 1])), (oa, .inl (cO, 10, .inr (.inr (.inr (.inr fo))))), (r5, .inr (0, [.int 0, .int (-1), .int 0, .ref ll])), (r12, .inr (0, [.int 0, .int (-1), .int 0, .ref lt]))]) (w1 := [(mr, .inr (9, [.ref ll, .ref lt, .ref lp, .int (-1), .int (w + 1), .int 1, .int (w + 1), .int 0, .int 0, .int 0, .int (-1), .int 0, .int (w + 1), .int 0])), (e1, .inl (cE, 4, .inl ge_27))]) hP hD [0, 3] [1, 2, 4, 5] rfl rfl (by decide) (by decide) hk1 hFc hP1 hD1
  have hP : va_P (dC, dI) vwCl [(lp, .inr (1, [.int 1, .ref oa, .int 1])), (oa, .inl (cO, 10, .inr (.inr (.inr (.inr fo))))), (r5, .inr (0, [.int 0, .int (-1), .int 0, .ref ll])), (r12, .inr (0, [.int 0, .int (-1), .int 0, .ref lt])), (mr, .inr (9, [.ref ll, .ref lt, .ref lp, .int (-1), .int (w + 1), .int 1, .int (w + 1), .int 0, .int 0, .int 0, .int (-1), .int 0, .int (w + 1), .int 0])), (e1, .inl (cE, 4, .inl ge_27))] H25 := hP
  have hD : va_D A [(lp, .inr (1, [.int 1, .ref oa, .int 1])), (oa, .inl (cO, 10, .inr (.inr (.inr (.inr fo))))), (r5, .inr (0, [.int 0, .int (-1), .int 0, .ref ll])), (r12, .inr (0, [.int 0, .int (-1), .int 0, .ref lt])), (mr, .inr (9, [.ref ll, .ref lt, .ref lp, .int (-1), .int (w + 1), .int 1, .int (w + 1), .int 0, .int 0, .int 0, .int (-1), .int 0, .int (w + 1), .int 0])), (e1, .inl (cE, 4, .inl ge_27))] := hD
  have hvz24 : s.heap.size + 2 ≤ H25.size := Nat.le_trans huz24 hz1
  refine lv_iadd hx hb dX7_pass_136 ?_
  refine zo_i (v := 0) (by decide) ?_
  refine lv_istore_n (lv' := [(1, .int 0), (2, .int 0), (0, .ref mr)]) hx hb dX7_pass_137 rfl hl (by decide) rfl (fun ls hl => ?_)
  refine lv_aload_n hx hb dX7_pass_138 rfl (lv_at hl 2 rfl) ?_
  have huz28 : s.heap.size + 2 ≤ H25.size := hvz24
  have hPr := (hP).sub (ws' := [(mr, .inr (9, [.ref ll, .ref lt, .ref lp, .int (-1), .int (w + 1), .int 1, .int (w + 1), .int 0, .int 0, .int 0, .int (-1), .int 0, .int (w + 1), .int 0]))]) [4] rfl
  have hPc := hP.sub (ws' := []) [] rfl
  have hDc := hD.sub (ws' := []) [] (by decide) rfl
  have hKc := hK.sub (tys' := []) [] rfl
  have hFc := va_free (wc := []) hD hS hA [] rfl
  refine va_calli (va_runV (As := []) (rest := []) ⟨hx, hb, hml, hown, hts⟩ (cz_RisOut l dC dI ed H25.size mr ll lt lp (w + 1) 1 (w + 1) 0 0 (w + 1)) (cwV 0 hts gX7_pass_X7_isOut rfl rfl rfl (by decide +kernel) ⟨Nat.le_of_ble_eq_true rfl, Nat.le_of_ble_eq_true rfl⟩) ⟨zb_blind, va_recv hK hP (ci := 9) (q0 := 4) rfl rfl, fun U hU hW => ⟨rfl, zb_mk hU hW hPr hPc hKc hDc hN hH hS hFc zx_e⟩⟩ rfl rfl hl.1 rfl (lv_room (Nat.le_of_ble_eq_true rfl)) dX7_pass_139 ⟨Nat.le_of_ble_eq_true rfl, Nat.le_of_ble_eq_true rfl⟩) hS (fun q _ h => hFc q h) hFc (fun r30 u t H29 locs ht hvm hw hB hz1 hk1 hS => ?_)
  obtain rfl : r30 = 0 := hw
  have hP := zo_K hP hk1
  have hvz28 : s.heap.size + 2 ≤ H29.size := Nat.le_trans huz28 hz1
  refine lv_if_eq (tgt := 150) hx hb dX7_pass_142 (by decide) (fun _ => ?_) (fun h => absurd h (by decide))
  refine lv_iinc (v := 1) (lv' := [(2, .int 1), (1, .int 0), (0, .ref mr)]) hx hb dX7_pass_150 hl (k := 1) rfl (by decide) (by decide) rfl (fun ls hl => ?_)
  refine lv_goto (tgt := 102) hx hb dX7_pass_153 (by decide) ?_
  refine lv_aload_n hx hb dX7_pass_102 rfl (lv_at hl 2 rfl) ?_
  refine va_get (D := (dC, dI)) (ci := 9) (v := .int 1) (C := RX7) (T := TX7) (N := 14) hx hb hts zi_X7_pass_X7 hown hK hP 4 rfl rfl 5 (by decide) (hts (.fieldLink RX7 55 "LockRoomsModel$Room" "isRunning" "Z") (by decide +kernel)) (fun _ h9 => h9) rfl dX7_pass_103 ?_
  refine lv_if_eq (tgt := 156) hx hb dX7_pass_106 (by decide) (fun h => absurd h (by decide)) (fun _ => ?_)
  refine lv_iload_n hx hb dX7_pass_109 rfl (lv_at hl 0 rfl) ?_
  refine lv_aload_n hx hb dX7_pass_110 rfl (lv_at hl 2 rfl) ?_
  refine va_get (D := (dC, dI)) (ci := 9) (v := .ref lp) (C := RX7) (T := TX7) (N := 14) hx hb hts zi_X7_pass_X7 hown hK hP 4 rfl rfl 2 (by decide) (hts (.fieldLink RX7 21 "LockRoomsModel$Room" "players" "Ljava/util/ArrayList;") (by decide +kernel)) (fun _ h9 => h9) rfl dX7_pass_111 ?_
  have huz31 : s.heap.size + 2 ≤ H29.size := hvz28
  have hPr := (hP).sub (ws' := [(lp, .inr (1, [.int 1, .ref oa, .int 1]))]) [0] rfl
  have hPc := hP.sub (ws' := []) [] rfl
  have hDc := hD.sub (ws' := []) [] (by decide) rfl
  have hKc := hK.sub (tys' := []) [] rfl
  have hFc := va_free (wc := []) hD hS hA [] rfl
  refine va_calli (va_runV (As := []) (rest := [.int 1]) ⟨hx, hb, hml, hown, hts⟩ (cz_Rsize1 l dC dI ed H29.size lp 1 oa) (cwV 0 hts gX7_pass_Jx4a65c_size_8abf5 rfl rfl rfl (by decide +kernel) ⟨Nat.le_of_ble_eq_true rfl, Nat.le_of_ble_eq_true rfl⟩) ⟨zb_blind, va_recv hK hP (ci := 1) (q0 := 0) rfl rfl, fun U hU hW => ⟨rfl, zb_mk hU hW hPr hPc hKc hDc hN hH hS hFc zx_e⟩⟩ rfl rfl hl.1 rfl (lv_room (Nat.le_of_ble_eq_true rfl)) dX7_pass_114 ⟨Nat.le_of_ble_eq_true rfl, Nat.le_of_ble_eq_true rfl⟩) hS (fun q _ h => hFc q h) hFc (fun r33 u t H32 locs ht hvm hw hB hz1 hk1 hS => ?_)
  obtain rfl : r33 = 1 := hw
  have hP := zo_K hP hk1
  have hvz31 : s.heap.size + 2 ≤ H32.size := Nat.le_trans huz31 hz1
  refine lv_icmp_ge (tgt := 156) hx hb dX7_pass_117 (by decide) (fun _ => ?_) (fun h => absurd h (by decide))
  refine lv_aload_n hx hb dX7_pass_156 rfl (lv_at hl 2 rfl) ?_
  refine va_get (D := (dC, dI)) (ci := 9) (v := .int 1) (C := RX7) (T := TX7) (N := 14) hx hb hts zi_X7_pass_X7 hown hK hP 4 rfl rfl 5 (by decide) (hts (.fieldLink RX7 55 "LockRoomsModel$Room" "isRunning" "Z") (by decide +kernel)) (fun _ h9 => h9) rfl dX7_pass_157 ?_
  refine lv_if_eq (tgt := 177) hx hb dX7_pass_160 (by decide) (fun h => absurd h (by decide)) (fun _ => ?_)
  refine lv_aload_n hx hb dX7_pass_163 rfl (lv_at hl 2 rfl) ?_
  refine va_get (D := (dC, dI)) (ci := 9) (v := .int (w + 1)) (C := RX7) (T := TX7) (N := 14) hx hb hts zi_X7_pass_X7 hown hK hP 4 rfl rfl 6 (by decide) (hts (.fieldLink RX7 59 "LockRoomsModel$Room" "time" "I") (by decide +kernel)) (fun _ h9 => h9) rfl dX7_pass_164 ?_
  refine lv_bipush (v := 60) hx hb dX7_pass_167 (by decide) ?_
  refine lv_icmp_ne (tgt := 177) hx hb dX7_pass_169 (by decide) (fun _ => ?_) (fun h => absurd h hq60)
  refine lv_iload_n hx hb dX7_pass_177 rfl (lv_at hl 1 rfl) ?_
  refine W.widen (k := 2) (n := 8) (Nat.le_of_ble_eq_true rfl) (Nat.le_of_ble_eq_true rfl) ?_
  have hP9 := hP.sub (ws' := [(mr, .inr (9, [.ref ll, .ref lt, .ref lp, .int (-1), .int (w + 1), .int 1, .int (w + 1), .int 0, .int 0, .int 0, .int (-1), .int 0, .int (w + 1), .int 0])), (lp, .inr (1, [.int 1, .ref oa, .int 1])), (oa, .inl (cO, 10, .inr (.inr (.inr (.inr fo))))), (e1, .inl (cE, 4, .inl ge_27))]) [4, 0, 1, 5] rfl
  have hD9 := hD.sub (ws' := [(mr, .inr (9, [.ref ll, .ref lt, .ref lp, .int (-1), .int (w + 1), .int 1, .int (w + 1), .int 0, .int 0, .int 0, .int (-1), .int 0, .int (w + 1), .int 0])), (lp, .inr (1, [.int 1, .ref oa, .int 1])), (oa, .inl (cO, 10, .inr (.inr (.inr (.inr fo))))), (e1, .inl (cE, 4, .inl ge_27))]) [4, 0, 1, 5] (by decide) rfl
  have hK9 := hK.sub (tys' := [(cO, .object "java/lang/Object"), (cE, .int)]) [0, 1] rfl
  exact W.iret hx hb hr (fun t ht hW => ⟨⟨0, (), rfl, rfl, ⟨(w + 1), ge_27, rfl, (by rw [ht]; exact Nat.le_trans (Nat.add_le_add_left (Nat.le_of_ble_eq_true rfl) _) hvz31), ⟨ho, k27_0, k27_1, k27_2, k27_3⟩, by rw [ht]; exact hP9, hD9, va_K.moved hW.alike hK9⟩⟩, hS.F ht⟩) hS.2.2 dX7_pass_178

set_option maxHeartbeats 4000000 in
set_option maxRecDepth 100000 in
theorem cz_QlocksThatNeed_9 (l : Launch) (dC : Nat → ClassId) (dI : Nat → Nat → Nat) (ed sz : Nat) (rm : Nat) (lk : Nat) (th : Nat) (pl : Nat) (gm : Nat) (cL : ClassId) (fl : Nat → Option Nat) (l0 : Nat) (l1 : Nat) (hkl0 : fl 0 = some l0) (hkl1 : fl 1 = some l1) : Met l yX3_locksThatNeed wsX3_locksThatNeed ({ frames := 1, cells := 0, slots := 0, locals := 21 } : Jvm.Room) (va_Pc [.ref rm, .int 9] (zB dC dI ed sz [(rm, .inr (5, [.ref lk, .ref th, .ref pl, .ref gm, .int 2, .int 10, .int 0, .int 0, .int 1, .int 0, .int 0, .int 0])), (lk, .inl (cL, 10, .inr (.inr (.inr (.inr fl))))), (l0, .inr (3, [.int 0, .int 0, .int 60, .int 0, .int 0, .int 0, .int 0, .int 0, .int 0, .int 0])), (l1, .inr (3, [.int 0, .int 0, .int 60, .int 0, .int 0, .int 0, .int 0, .int 0, .int 0, .int 0]))] [] [(cL, .object "LockRooms$Lock")])) (va_Qi (fun (r : Int32) (_ : Unit) => r = 0) (fun (_ : Unit) (_ : State) => True) (va_A [] sz)) 0 0 (va_A [] sz) := by
  refine Met.ofW (cc := cX3_locksThatNeed) (maxL := 4) (ret := (some .int)) (by decide) rfl ?_
  intro p e s m args below meth c s₁ B hml hv
  obtain ⟨rfl, hsz, hR0, hP, hK, hD0, hN, hH, hX0⟩ := hv
  have hx := B.exec
  have hb := B.bytes
  have hr := B.returns
  have hts := atoms_spec (ws := wsX3_locksThatNeed) B.pre
  have hown : s.vm.findClass RX3 = some m.cls := findClass_of_methodNamed B.named
  have hlocks := B.notSynchronized
  subst hsz
  have hD := hD0.self (sz := s.heap.size)
  have hAr := zx_A hX0 hR0
  generalize hAe : va_A [] s.heap.size = A at hD hAr hH ⊢
  have hA : ∀ q : Nat, s.heap.size ≤ q → A q := fun q h => by rw [← hAe]; exact Or.inr h
  have hS : va_S A s.heap s.heap [] := va_S.rf
  have hl := lv_entry ([.ref rm, .int 9]) (n := 4) (Nat.le_of_ble_eq_true rfl)
  rw [lg_entry_eq]
  generalize (lg_sl ([.ref rm, .int 9]) ++ List.replicate (4 - (lg_sl ([.ref rm, .int 9])).length) Slot.unset).toArray = ls at hl ⊢
  have hl : lv_has ls 4 [(0, .ref rm), (1, .int 9)] := hl
  refine lv_iconst (v := 0) hx hb dX3_locksThatNeed_0 (by decide) ?_
  refine lv_istore_n (lv' := [(2, .int 0), (0, .ref rm), (1, .int 9)]) hx hb dX3_locksThatNeed_1 rfl hl (by decide) rfl (fun ls hl => ?_)
  refine lv_iconst (v := 0) hx hb dX3_locksThatNeed_2 (by decide) ?_
  refine lv_istore_n (lv' := [(3, .int 0), (2, .int 0), (0, .ref rm), (1, .int 9)]) hx hb dX3_locksThatNeed_3 rfl hl (by decide) rfl (fun ls hl => ?_)
  refine lv_iload_n hx hb dX3_locksThatNeed_4 rfl (lv_at hl 0 rfl) ?_
  refine lv_aload_n hx hb dX3_locksThatNeed_5 rfl (lv_at hl 2 rfl) ?_
  refine va_get (D := (dC, dI)) (ci := 5) (v := .int 2) (C := RX3) (T := TX3) (N := 12) hx hb hts zi_X3_locksThatNeed_X3 hown hK hR0 0 rfl rfl 4 (by decide) (hts (.fieldLink RX3 47 "LockRooms$Room" "lockCount" "I") (by decide +kernel)) (fun _ h9 => h9) rfl dX3_locksThatNeed_6 ?_
  refine lv_icmp_ge (tgt := 40) hx hb dX3_locksThatNeed_9 (by decide) (fun h => absurd h (by decide)) (fun _ => ?_)
  refine lv_aload_n hx hb dX3_locksThatNeed_12 rfl (lv_at hl 2 rfl) ?_
  refine va_get (D := (dC, dI)) (ci := 5) (v := .ref lk) (C := RX3) (T := TX3) (N := 12) hx hb hts zi_X3_locksThatNeed_X3 hown hK hR0 0 rfl rfl 0 (by decide) (hts (.fieldLink RX3 11 "LockRooms$Room" "locks" "[LLockRooms$Lock;") (by decide +kernel)) (fun _ h9 => h9) rfl dX3_locksThatNeed_13 ?_
  refine lv_iload_n hx hb dX3_locksThatNeed_16 rfl (lv_at hl 0 rfl) ?_
  refine va_aldq hx hb hK hR0 1 0 rfl rfl (by unfold vp_in; decide) dX3_locksThatNeed_17 ?_
  refine zo_q (v := .ref l0) (by rw [show Int32.toNatClampNeg 0 = 0 from by decide, hkl0]; rfl) ?_
  refine va_get (D := (dC, dI)) (ci := 3) (v := .int 0) (C := RX1) (T := TX1) (N := 10) hx hb hts zi_X3_locksThatNeed_X1 hown hK hR0 2 rfl rfl 0 (by decide) (hts (.fieldLink RX3 78 "LockRooms$Lock" "needs" "I") (by decide +kernel)) (fun _ h9 => h9) rfl dX3_locksThatNeed_18 ?_
  refine lv_iload_n hx hb dX3_locksThatNeed_21 rfl (lv_at hl 3 rfl) ?_
  have hPr := (zo_nil : va_P (dC, dI) vwCl [] s.heap)
  have hPc := hP.sub (ws' := []) [] rfl
  have hDc := hD.sub (ws' := []) [] (by decide) rfl
  have hKc := hK.sub (tys' := []) [] rfl
  have hFc := va_free (wc := []) hD hS hA [] rfl
  refine va_calli (va_runSN (As := [.int 0, .int 9]) (rest := []) ⟨hx, hb, hml, hown, hts⟩ (cz_QisIn l dC dI ed s.heap.size 0 9) ⟨(va_cnB 2 hts gX3_locksThatNeed_X6_isIn_n111 rfl rfl rfl (hN.2.1 ("LockRooms$Room", 111, yX6_isIn, "LockRooms") (List.mem_of_getElem? (i := 5) rfl)) (hts (.initialized RX6) (by decide +kernel)) (by decide +kernel) ⟨Nat.le_of_ble_eq_true rfl, Nat.le_of_ble_eq_true rfl⟩), (hts (.static yX6_isIn) (by decide +kernel)), trivial⟩ ⟨zb_blind, fun U hU hW => ⟨rfl, zb_mk hU hW hPr hPc hKc hDc hN hH hS hFc zx_e⟩⟩ rfl rfl hl.1 rfl (lv_room (Nat.le_of_ble_eq_true rfl)) dX3_locksThatNeed_22 ⟨Nat.le_of_ble_eq_true rfl, Nat.le_of_ble_eq_true rfl⟩) hS (fun q _ h => hFc q h) hFc (fun r2 u t H1 locs ht hvm hw hB hz1 hk1 hS => ?_)
  obtain rfl : r2 = 0 := hw.trans (by decide +kernel)
  have hP := zo_K hP hk1
  refine lv_if_eq (tgt := 34) hx hb dX3_locksThatNeed_25 (by decide) (fun _ => ?_) (fun h => absurd h (by decide))
  refine lv_iinc (v := 1) (lv' := [(3, .int 1), (2, .int 0), (0, .ref rm), (1, .int 9)]) hx hb dX3_locksThatNeed_34 hl (k := 0) rfl (by decide) (by decide) rfl (fun ls hl => ?_)
  refine lv_goto (tgt := 4) hx hb dX3_locksThatNeed_37 (by decide) ?_
  refine lv_iload_n hx hb dX3_locksThatNeed_4 rfl (lv_at hl 0 rfl) ?_
  refine lv_aload_n hx hb dX3_locksThatNeed_5 rfl (lv_at hl 2 rfl) ?_
  refine va_get (D := (dC, dI)) (ci := 5) (v := .int 2) (C := RX3) (T := TX3) (N := 12) hx hb hts zi_X3_locksThatNeed_X3 hown hK (zo_R hR0 hS hAr) 0 rfl rfl 4 (by decide) (hts (.fieldLink RX3 47 "LockRooms$Room" "lockCount" "I") (by decide +kernel)) (fun _ h9 => h9) rfl dX3_locksThatNeed_6 ?_
  refine lv_icmp_ge (tgt := 40) hx hb dX3_locksThatNeed_9 (by decide) (fun h => absurd h (by decide)) (fun _ => ?_)
  refine lv_aload_n hx hb dX3_locksThatNeed_12 rfl (lv_at hl 2 rfl) ?_
  refine va_get (D := (dC, dI)) (ci := 5) (v := .ref lk) (C := RX3) (T := TX3) (N := 12) hx hb hts zi_X3_locksThatNeed_X3 hown hK (zo_R hR0 hS hAr) 0 rfl rfl 0 (by decide) (hts (.fieldLink RX3 11 "LockRooms$Room" "locks" "[LLockRooms$Lock;") (by decide +kernel)) (fun _ h9 => h9) rfl dX3_locksThatNeed_13 ?_
  refine lv_iload_n hx hb dX3_locksThatNeed_16 rfl (lv_at hl 0 rfl) ?_
  refine va_aldq hx hb hK (zo_R hR0 hS hAr) 1 0 rfl rfl (by unfold vp_in; decide) dX3_locksThatNeed_17 ?_
  refine zo_q (v := .ref l1) (by rw [show Int32.toNatClampNeg 1 = 1 from by decide, hkl1]; rfl) ?_
  refine va_get (D := (dC, dI)) (ci := 3) (v := .int 0) (C := RX1) (T := TX1) (N := 10) hx hb hts zi_X3_locksThatNeed_X1 hown hK (zo_R hR0 hS hAr) 3 rfl rfl 0 (by decide) (hts (.fieldLink RX3 78 "LockRooms$Lock" "needs" "I") (by decide +kernel)) (fun _ h9 => h9) rfl dX3_locksThatNeed_18 ?_
  refine lv_iload_n hx hb dX3_locksThatNeed_21 rfl (lv_at hl 3 rfl) ?_
  have hPr := (zo_nil : va_P (dC, dI) vwCl [] H1)
  have hPc := hP.sub (ws' := []) [] rfl
  have hDc := hD.sub (ws' := []) [] (by decide) rfl
  have hKc := hK.sub (tys' := []) [] rfl
  have hFc := va_free (wc := []) hD hS hA [] rfl
  refine va_calli (va_runSN (As := [.int 0, .int 9]) (rest := []) ⟨hx, hb, hml, hown, hts⟩ (cz_QisIn l dC dI ed H1.size 0 9) ⟨(va_cnB 2 hts gX3_locksThatNeed_X6_isIn_n111 rfl rfl rfl (hN.2.1 ("LockRooms$Room", 111, yX6_isIn, "LockRooms") (List.mem_of_getElem? (i := 5) rfl)) (hts (.initialized RX6) (by decide +kernel)) (by decide +kernel) ⟨Nat.le_of_ble_eq_true rfl, Nat.le_of_ble_eq_true rfl⟩), (hts (.static yX6_isIn) (by decide +kernel)), trivial⟩ ⟨zb_blind, fun U hU hW => ⟨rfl, zb_mk hU hW hPr hPc hKc hDc hN hH hS hFc zx_e⟩⟩ rfl rfl hl.1 rfl (lv_room (Nat.le_of_ble_eq_true rfl)) dX3_locksThatNeed_22 ⟨Nat.le_of_ble_eq_true rfl, Nat.le_of_ble_eq_true rfl⟩) hS (fun q _ h => hFc q h) hFc (fun r4 u t H3 locs ht hvm hw hB hz1 hk1 hS => ?_)
  obtain rfl : r4 = 0 := hw.trans (by decide +kernel)
  have hP := zo_K hP hk1
  refine lv_if_eq (tgt := 34) hx hb dX3_locksThatNeed_25 (by decide) (fun _ => ?_) (fun h => absurd h (by decide))
  refine lv_iinc (v := 2) (lv' := [(3, .int 2), (2, .int 0), (0, .ref rm), (1, .int 9)]) hx hb dX3_locksThatNeed_34 hl (k := 0) rfl (by decide) (by decide) rfl (fun ls hl => ?_)
  refine lv_goto (tgt := 4) hx hb dX3_locksThatNeed_37 (by decide) ?_
  refine lv_iload_n hx hb dX3_locksThatNeed_4 rfl (lv_at hl 0 rfl) ?_
  refine lv_aload_n hx hb dX3_locksThatNeed_5 rfl (lv_at hl 2 rfl) ?_
  refine va_get (D := (dC, dI)) (ci := 5) (v := .int 2) (C := RX3) (T := TX3) (N := 12) hx hb hts zi_X3_locksThatNeed_X3 hown hK (zo_R hR0 hS hAr) 0 rfl rfl 4 (by decide) (hts (.fieldLink RX3 47 "LockRooms$Room" "lockCount" "I") (by decide +kernel)) (fun _ h9 => h9) rfl dX3_locksThatNeed_6 ?_
  refine lv_icmp_ge (tgt := 40) hx hb dX3_locksThatNeed_9 (by decide) (fun _ => ?_) (fun h => absurd h (by decide))
  refine lv_iload_n hx hb dX3_locksThatNeed_40 rfl (lv_at hl 1 rfl) ?_
  refine W.widen (k := 0) (n := 0) (Nat.le_of_ble_eq_true rfl) (Nat.le_of_ble_eq_true rfl) ?_
  exact W.iret hx hb hr (fun t ht hW => ⟨⟨0, (), rfl, rfl, trivial⟩, hS.F ht⟩) hS.2.2 dX3_locksThatNeed_41
set_option maxRecDepth 20000 in
theorem zi_X5_canBeReached_X5 : ∀ w ∈ u_ws RX5 TX5 5, w ∈ wsX5_canBeReached := by decide +kernel
set_option maxHeartbeats 4000000 in
set_option maxRecDepth 100000 in
theorem cz_QcanBeReached (l : Launch) (dC : Nat → ClassId) (dI : Nat → Nat → Nat) (ed sz : Nat) (t0 : Nat) (x0 : Int32) : Met l yX5_canBeReached wsX5_canBeReached ({ frames := 0, cells := 0, slots := 0, locals := 0 } : Jvm.Room) (va_Pc [.ref t0, .int x0] (zB dC dI ed sz [(t0, .inr (7, [.int (-1), .int 0, .int 0, .int 0, .int 0]))] [] [])) (va_Qi (fun (r : Int32) (_ : Unit) => r = 1) (fun (_ : Unit) (_ : State) => True) (va_A [] sz)) 0 0 (va_A [] sz) := by
  refine Met.ofW (cc := cX5_canBeReached) (maxL := 2) (ret := (some .boolean)) (by decide) rfl ?_
  intro p e s m args below meth c s₁ B hml hv
  obtain ⟨rfl, hsz, hR0, hP, hK, hD0, hN, hH, hX0⟩ := hv
  have hx := B.exec
  have hb := B.bytes
  have hr := B.returns
  have hts := atoms_spec (ws := wsX5_canBeReached) B.pre
  have hown : s.vm.findClass RX5 = some m.cls := findClass_of_methodNamed B.named
  have hlocks := B.notSynchronized
  subst hsz
  have hD := hD0.self (sz := s.heap.size)
  have hAr := zx_A hX0 hR0
  generalize hAe : va_A [] s.heap.size = A at hD hAr hH ⊢
  have hA : ∀ q : Nat, s.heap.size ≤ q → A q := fun q h => by rw [← hAe]; exact Or.inr h
  have hS : va_S A s.heap s.heap [] := va_S.rf
  have hl := lv_entry ([.ref t0, .int x0]) (n := 2) (Nat.le_of_ble_eq_true rfl)
  rw [lg_entry_eq]
  generalize (lg_sl ([.ref t0, .int x0]) ++ List.replicate (2 - (lg_sl ([.ref t0, .int x0])).length) Slot.unset).toArray = ls at hl ⊢
  have hl : lv_has ls 2 [(0, .ref t0), (1, .int x0)] := hl
  refine lv_aload_n hx hb dX5_canBeReached_0 rfl (lv_at hl 0 rfl) ?_
  refine va_get (D := (dC, dI)) (ci := 7) (v := .int 0) (C := RX5) (T := TX5) (N := 5) hx hb hts zi_X5_canBeReached_X5 hown hK hR0 0 rfl rfl 3 (by decide) (hts (.fieldLink RX5 21 "LockRooms$Thing" "state" "I") (by decide +kernel)) (fun _ h9 => h9) rfl dX5_canBeReached_1 ?_
  refine lv_if_ne (tgt := 31) hx hb dX5_canBeReached_4 (by decide) (fun h => absurd h (by decide)) (fun _ => ?_)
  refine lv_aload_n hx hb dX5_canBeReached_7 rfl (lv_at hl 0 rfl) ?_
  refine va_get (D := (dC, dI)) (ci := 7) (v := .int (-1)) (C := RX5) (T := TX5) (N := 5) hx hb hts zi_X5_canBeReached_X5 hown hK hR0 0 rfl rfl 0 (by decide) (hts (.fieldLink RX5 9 "LockRooms$Thing" "place" "I") (by decide +kernel)) (fun _ h9 => h9) rfl dX5_canBeReached_8 ?_
  refine lv_iconst (v := (-1)) hx hb dX5_canBeReached_11 (by decide) ?_
  refine lv_icmp_eq (tgt := 27) hx hb dX5_canBeReached_12 (by decide) (fun _ => ?_) (fun h => absurd h (by decide))
  refine lv_iconst (v := 1) hx hb dX5_canBeReached_27 (by decide) ?_
  refine lv_goto (tgt := 32) hx hb dX5_canBeReached_28 (by decide) ?_
  refine W.widen (k := 0) (n := 0) (Nat.le_of_ble_eq_true rfl) (Nat.le_of_ble_eq_true rfl) ?_
  exact W.zret hx hb hr (by decide) (fun t ht hW => ⟨⟨1, (), rfl, rfl, trivial⟩, hS.F ht⟩) hS.2.2 dX5_canBeReached_32
set_option maxRecDepth 20000 in
theorem zi_X3_thingsAtHand_X1 : ∀ w ∈ u_ws RX1 TX1 10, w ∈ wsX3_thingsAtHand := by decide +kernel
set_option maxHeartbeats 4000000 in
set_option maxRecDepth 100000 in
theorem cz_QthingsAtHand (l : Launch) (dC : Nat → ClassId) (dI : Nat → Nat → Nat) (ed sz : Nat) (rm : Nat) (lk : Nat) (th : Nat) (pl : Nat) (gm : Nat) (cL : ClassId) (fl : Nat → Option Nat) (l0 : Nat) (l1 : Nat) (cT : ClassId) (ft : Nat → Option Nat) (t0 : Nat) (t1 : Nat) (t2 : Nat) (t3 : Nat) (t4 : Nat) (t5 : Nat) (t6 : Nat) (t7 : Nat) (t8 : Nat) (t9 : Nat) (x0 : Int32) (hkl0 : fl 0 = some l0) (hkl1 : fl 1 = some l1) (hkt0 : ft 0 = some t0) (hkt1 : ft 1 = some t1) (hkt2 : ft 2 = some t2) (hkt3 : ft 3 = some t3) (hkt4 : ft 4 = some t4) (hkt5 : ft 5 = some t5) (hkt6 : ft 6 = some t6) (hkt7 : ft 7 = some t7) (hkt8 : ft 8 = some t8) (hkt9 : ft 9 = some t9) : Met l yX3_thingsAtHand wsX3_thingsAtHand ({ frames := 1, cells := 0, slots := 0, locals := 23 } : Jvm.Room) (va_Pc [.ref rm, .int x0] (zB dC dI ed sz [(rm, .inr (5, [.ref lk, .ref th, .ref pl, .ref gm, .int 2, .int 10, .int 0, .int 0, .int 1, .int 0, .int 0, .int 0])), (lk, .inl (cL, 10, .inr (.inr (.inr (.inr fl))))), (th, .inl (cT, 12, .inr (.inr (.inr (.inr ft))))), (l0, .inr (3, [.int 0, .int 0, .int 60, .int 0, .int 0, .int 0, .int 0, .int 0, .int 0, .int 0])), (l1, .inr (3, [.int 0, .int 0, .int 60, .int 0, .int 0, .int 0, .int 0, .int 0, .int 0, .int 0])), (t0, .inr (7, [.int (-1), .int 0, .int 0, .int 0, .int 0])), (t1, .inr (7, [.int (-1), .int 0, .int 0, .int 0, .int 0])), (t2, .inr (7, [.int (-1), .int 0, .int 0, .int 0, .int 0])), (t3, .inr (7, [.int (-1), .int 0, .int 0, .int 0, .int 0])), (t4, .inr (7, [.int (-1), .int 0, .int 0, .int 0, .int 0])), (t5, .inr (7, [.int (-1), .int 0, .int 0, .int 0, .int 0])), (t6, .inr (7, [.int (-1), .int 0, .int 0, .int 0, .int 0])), (t7, .inr (7, [.int (-1), .int 0, .int 0, .int 0, .int 0])), (t8, .inr (7, [.int (-1), .int 0, .int 0, .int 0, .int 0])), (t9, .inr (7, [.int (-1), .int 0, .int 0, .int 0, .int 0]))] [] [(cL, .object "LockRooms$Lock"), (cT, .object "LockRooms$Thing")])) (va_Qi (fun (r : Int32) (_ : Unit) => r = 1023) (fun (_ : Unit) (_ : State) => True) (va_A [] sz)) 0 0 (va_A [] sz) := by
  refine Met.ofW (cc := cX3_thingsAtHand) (maxL := 4) (ret := (some .int)) (by decide) rfl ?_
  intro p e s m args below meth c s₁ B hml hv
  obtain ⟨rfl, hsz, hR0, hP, hK, hD0, hN, hH, hX0⟩ := hv
  have hx := B.exec
  have hb := B.bytes
  have hr := B.returns
  have hts := atoms_spec (ws := wsX3_thingsAtHand) B.pre
  have hown : s.vm.findClass RX3 = some m.cls := findClass_of_methodNamed B.named
  have hlocks := B.notSynchronized
  subst hsz
  have hD := hD0.self (sz := s.heap.size)
  have hAr := zx_A hX0 hR0
  generalize hAe : va_A [] s.heap.size = A at hD hAr hH ⊢
  have hA : ∀ q : Nat, s.heap.size ≤ q → A q := fun q h => by rw [← hAe]; exact Or.inr h
  have hS : va_S A s.heap s.heap [] := va_S.rf
  have hl := lv_entry ([.ref rm, .int x0]) (n := 4) (Nat.le_of_ble_eq_true rfl)
  rw [lg_entry_eq]
  generalize (lg_sl ([.ref rm, .int x0]) ++ List.replicate (4 - (lg_sl ([.ref rm, .int x0])).length) Slot.unset).toArray = ls at hl ⊢
  have hl : lv_has ls 4 [(0, .ref rm), (1, .int x0)] := hl
  refine lv_aload_n hx hb dX3_thingsAtHand_0 rfl (lv_at hl 0 rfl) ?_
  refine lv_iconst (v := 1) hx hb dX3_thingsAtHand_1 (by decide) ?_
  have hPr := (hR0).sub (ws' := [(rm, .inr (5, [.ref lk, .ref th, .ref pl, .ref gm, .int 2, .int 10, .int 0, .int 0, .int 1, .int 0, .int 0, .int 0])), (th, .inl (cT, 12, .inr (.inr (.inr (.inr ft))))), (t0, .inr (7, [.int (-1), .int 0, .int 0, .int 0, .int 0])), (t1, .inr (7, [.int (-1), .int 0, .int 0, .int 0, .int 0])), (t2, .inr (7, [.int (-1), .int 0, .int 0, .int 0, .int 0])), (t3, .inr (7, [.int (-1), .int 0, .int 0, .int 0, .int 0])), (t4, .inr (7, [.int (-1), .int 0, .int 0, .int 0, .int 0])), (t5, .inr (7, [.int (-1), .int 0, .int 0, .int 0, .int 0])), (t6, .inr (7, [.int (-1), .int 0, .int 0, .int 0, .int 0])), (t7, .inr (7, [.int (-1), .int 0, .int 0, .int 0, .int 0])), (t8, .inr (7, [.int (-1), .int 0, .int 0, .int 0, .int 0])), (t9, .inr (7, [.int (-1), .int 0, .int 0, .int 0, .int 0]))]) [0, 2, 5, 6, 7, 8, 9, 10, 11, 12, 13, 14] rfl
  have hPc := hP.sub (ws' := []) [] rfl
  have hDc := hD.sub (ws' := []) [] (by decide) rfl
  have hKc := hK.sub (tys' := [(cT, .object "LockRooms$Thing")]) [1] rfl
  have hFc := va_free (wc := []) hD hS hA [] rfl
  refine va_calli (va_runV (As := [.int 1]) (rest := []) ⟨hx, hb, hml, hown, hts⟩ (cz_QthingsIn_1 l dC dI ed s.heap.size rm lk th pl gm cT ft t0 t1 t2 t3 t4 t5 t6 t7 t8 t9 hkt0 hkt1 hkt2 hkt3 hkt4 hkt5 hkt6 hkt7 hkt8 hkt9) (cwV 1 hts gX3_thingsAtHand_X3_thingsIn rfl rfl rfl (by decide +kernel) ⟨Nat.le_of_ble_eq_true rfl, Nat.le_of_ble_eq_true rfl⟩) ⟨zb_blind, va_recv hK hR0 (ci := 5) (q0 := 0) rfl rfl, fun U hU hW => ⟨rfl, zb_mk hU hW hPr hPc hKc hDc hN hH hS hFc zx_e⟩⟩ rfl rfl hl.1 rfl (lv_room (Nat.le_of_ble_eq_true rfl)) dX3_thingsAtHand_2 ⟨Nat.le_of_ble_eq_true rfl, Nat.le_of_ble_eq_true rfl⟩) hS (fun q _ h => hFc q h) hFc (fun r2 u t H1 locs ht hvm hw hB hz1 hk1 hS => ?_)
  obtain rfl : r2 = 0 := hw
  have hP := zo_K hP hk1
  refine lv_istore_n (lv' := [(2, .int 0), (0, .ref rm), (1, .int x0)]) hx hb dX3_thingsAtHand_5 rfl hl (by decide) rfl (fun ls hl => ?_)
  refine lv_iconst (v := 0) hx hb dX3_thingsAtHand_6 (by decide) ?_
  refine lv_istore_n (lv' := [(3, .int 0), (2, .int 0), (0, .ref rm), (1, .int x0)]) hx hb dX3_thingsAtHand_7 rfl hl (by decide) rfl (fun ls hl => ?_)
  refine lv_iload_n hx hb dX3_thingsAtHand_8 rfl (lv_at hl 0 rfl) ?_
  refine lv_aload_n hx hb dX3_thingsAtHand_9 rfl (lv_at hl 2 rfl) ?_
  refine va_get (D := (dC, dI)) (ci := 5) (v := .int 10) (C := RX3) (T := TX3) (N := 12) hx hb hts zi_X3_thingsAtHand_X3 hown hK (zo_R hR0 hS hAr) 0 rfl rfl 5 (by decide) (hts (.fieldLink RX3 54 "LockRooms$Room" "thingCount" "I") (by decide +kernel)) (fun _ h9 => h9) rfl dX3_thingsAtHand_10 ?_
  refine lv_icmp_ge (tgt := 41) hx hb dX3_thingsAtHand_13 (by decide) (fun h => absurd h (by decide)) (fun _ => ?_)
  refine lv_aload_n hx hb dX3_thingsAtHand_16 rfl (lv_at hl 2 rfl) ?_
  refine va_get (D := (dC, dI)) (ci := 5) (v := .ref th) (C := RX3) (T := TX3) (N := 12) hx hb hts zi_X3_thingsAtHand_X3 hown hK (zo_R hR0 hS hAr) 0 rfl rfl 1 (by decide) (hts (.fieldLink RX3 19 "LockRooms$Room" "things" "[LLockRooms$Thing;") (by decide +kernel)) (fun _ h9 => h9) rfl dX3_thingsAtHand_17 ?_
  refine lv_iload_n hx hb dX3_thingsAtHand_20 rfl (lv_at hl 0 rfl) ?_
  refine va_aldq hx hb hK (zo_R hR0 hS hAr) 2 1 rfl rfl (by unfold vp_in; decide) dX3_thingsAtHand_21 ?_
  refine zo_q (v := .ref t0) (by rw [show Int32.toNatClampNeg 0 = 0 from by decide, hkt0]; rfl) ?_
  refine lv_iload_n hx hb dX3_thingsAtHand_22 rfl (lv_at hl 3 rfl) ?_
  have hPr := ((zo_R hR0 hS hAr)).sub (ws' := [(t0, .inr (7, [.int (-1), .int 0, .int 0, .int 0, .int 0]))]) [5] rfl
  have hPc := hP.sub (ws' := []) [] rfl
  have hDc := hD.sub (ws' := []) [] (by decide) rfl
  have hKc := hK.sub (tys' := []) [] rfl
  have hFc := va_free (wc := []) hD hS hA [] rfl
  refine va_calli (va_runV (As := [.int x0]) (rest := []) ⟨hx, hb, hml, hown, hts⟩ (cz_QcanBeReached l dC dI ed H1.size t0 x0) (cwV 1 hts gX3_thingsAtHand_X5_canBeReached rfl rfl rfl (by decide +kernel) ⟨Nat.le_of_ble_eq_true rfl, Nat.le_of_ble_eq_true rfl⟩) ⟨zb_blind, va_recv hK (zo_R hR0 hS hAr) (ci := 7) (q0 := 5) rfl rfl, fun U hU hW => ⟨rfl, zb_mk hU hW hPr hPc hKc hDc hN hH hS hFc zx_e⟩⟩ rfl rfl hl.1 rfl (lv_room (Nat.le_of_ble_eq_true rfl)) dX3_thingsAtHand_23 ⟨Nat.le_of_ble_eq_true rfl, Nat.le_of_ble_eq_true rfl⟩) hS (fun q _ h => hFc q h) hFc (fun r4 u t H3 locs ht hvm hw hB hz1 hk1 hS => ?_)
  obtain rfl : r4 = 1 := hw
  have hP := zo_K hP hk1
  refine lv_if_eq (tgt := 35) hx hb dX3_thingsAtHand_26 (by decide) (fun h => absurd h (by decide)) (fun _ => ?_)
  refine lv_iload_n hx hb dX3_thingsAtHand_29 rfl (lv_at hl 1 rfl) ?_
  refine lv_iconst (v := 1) hx hb dX3_thingsAtHand_30 (by decide) ?_
  refine lv_iload_n hx hb dX3_thingsAtHand_31 rfl (lv_at hl 0 rfl) ?_
  refine lv_ishl hx hb dX3_thingsAtHand_32 ?_
  refine zo_i (v := 1) (by decide) ?_
  refine lv_ior hx hb dX3_thingsAtHand_33 ?_
  refine zo_i (v := 1) (by decide) ?_
  refine lv_istore_n (lv' := [(2, .int 1), (3, .int 0), (0, .ref rm), (1, .int x0)]) hx hb dX3_thingsAtHand_34 rfl hl (by decide) rfl (fun ls hl => ?_)
  refine lv_iinc (v := 1) (lv' := [(3, .int 1), (2, .int 1), (0, .ref rm), (1, .int x0)]) hx hb dX3_thingsAtHand_35 hl (k := 1) rfl (by decide) (by decide) rfl (fun ls hl => ?_)
  refine lv_goto (tgt := 8) hx hb dX3_thingsAtHand_38 (by decide) ?_
  refine lv_iload_n hx hb dX3_thingsAtHand_8 rfl (lv_at hl 0 rfl) ?_
  refine lv_aload_n hx hb dX3_thingsAtHand_9 rfl (lv_at hl 2 rfl) ?_
  refine va_get (D := (dC, dI)) (ci := 5) (v := .int 10) (C := RX3) (T := TX3) (N := 12) hx hb hts zi_X3_thingsAtHand_X3 hown hK (zo_R hR0 hS hAr) 0 rfl rfl 5 (by decide) (hts (.fieldLink RX3 54 "LockRooms$Room" "thingCount" "I") (by decide +kernel)) (fun _ h9 => h9) rfl dX3_thingsAtHand_10 ?_
  refine lv_icmp_ge (tgt := 41) hx hb dX3_thingsAtHand_13 (by decide) (fun h => absurd h (by decide)) (fun _ => ?_)
  refine lv_aload_n hx hb dX3_thingsAtHand_16 rfl (lv_at hl 2 rfl) ?_
  refine va_get (D := (dC, dI)) (ci := 5) (v := .ref th) (C := RX3) (T := TX3) (N := 12) hx hb hts zi_X3_thingsAtHand_X3 hown hK (zo_R hR0 hS hAr) 0 rfl rfl 1 (by decide) (hts (.fieldLink RX3 19 "LockRooms$Room" "things" "[LLockRooms$Thing;") (by decide +kernel)) (fun _ h9 => h9) rfl dX3_thingsAtHand_17 ?_
  refine lv_iload_n hx hb dX3_thingsAtHand_20 rfl (lv_at hl 0 rfl) ?_
  refine va_aldq hx hb hK (zo_R hR0 hS hAr) 2 1 rfl rfl (by unfold vp_in; decide) dX3_thingsAtHand_21 ?_
  refine zo_q (v := .ref t1) (by rw [show Int32.toNatClampNeg 1 = 1 from by decide, hkt1]; rfl) ?_
  refine lv_iload_n hx hb dX3_thingsAtHand_22 rfl (lv_at hl 3 rfl) ?_
  have hPr := ((zo_R hR0 hS hAr)).sub (ws' := [(t1, .inr (7, [.int (-1), .int 0, .int 0, .int 0, .int 0]))]) [6] rfl
  have hPc := hP.sub (ws' := []) [] rfl
  have hDc := hD.sub (ws' := []) [] (by decide) rfl
  have hKc := hK.sub (tys' := []) [] rfl
  have hFc := va_free (wc := []) hD hS hA [] rfl
  refine va_calli (va_runV (As := [.int x0]) (rest := []) ⟨hx, hb, hml, hown, hts⟩ (cz_QcanBeReached l dC dI ed H3.size t1 x0) (cwV 1 hts gX3_thingsAtHand_X5_canBeReached rfl rfl rfl (by decide +kernel) ⟨Nat.le_of_ble_eq_true rfl, Nat.le_of_ble_eq_true rfl⟩) ⟨zb_blind, va_recv hK (zo_R hR0 hS hAr) (ci := 7) (q0 := 6) rfl rfl, fun U hU hW => ⟨rfl, zb_mk hU hW hPr hPc hKc hDc hN hH hS hFc zx_e⟩⟩ rfl rfl hl.1 rfl (lv_room (Nat.le_of_ble_eq_true rfl)) dX3_thingsAtHand_23 ⟨Nat.le_of_ble_eq_true rfl, Nat.le_of_ble_eq_true rfl⟩) hS (fun q _ h => hFc q h) hFc (fun r6 u t H5 locs ht hvm hw hB hz1 hk1 hS => ?_)
  obtain rfl : r6 = 1 := hw
  have hP := zo_K hP hk1
  refine lv_if_eq (tgt := 35) hx hb dX3_thingsAtHand_26 (by decide) (fun h => absurd h (by decide)) (fun _ => ?_)
  refine lv_iload_n hx hb dX3_thingsAtHand_29 rfl (lv_at hl 1 rfl) ?_
  refine lv_iconst (v := 1) hx hb dX3_thingsAtHand_30 (by decide) ?_
  refine lv_iload_n hx hb dX3_thingsAtHand_31 rfl (lv_at hl 0 rfl) ?_
  refine lv_ishl hx hb dX3_thingsAtHand_32 ?_
  refine zo_i (v := 2) (by decide) ?_
  refine lv_ior hx hb dX3_thingsAtHand_33 ?_
  refine zo_i (v := 3) (by decide) ?_
  refine lv_istore_n (lv' := [(2, .int 3), (3, .int 1), (0, .ref rm), (1, .int x0)]) hx hb dX3_thingsAtHand_34 rfl hl (by decide) rfl (fun ls hl => ?_)
  refine lv_iinc (v := 2) (lv' := [(3, .int 2), (2, .int 3), (0, .ref rm), (1, .int x0)]) hx hb dX3_thingsAtHand_35 hl (k := 1) rfl (by decide) (by decide) rfl (fun ls hl => ?_)
  refine lv_goto (tgt := 8) hx hb dX3_thingsAtHand_38 (by decide) ?_
  refine lv_iload_n hx hb dX3_thingsAtHand_8 rfl (lv_at hl 0 rfl) ?_
  refine lv_aload_n hx hb dX3_thingsAtHand_9 rfl (lv_at hl 2 rfl) ?_
  refine va_get (D := (dC, dI)) (ci := 5) (v := .int 10) (C := RX3) (T := TX3) (N := 12) hx hb hts zi_X3_thingsAtHand_X3 hown hK (zo_R hR0 hS hAr) 0 rfl rfl 5 (by decide) (hts (.fieldLink RX3 54 "LockRooms$Room" "thingCount" "I") (by decide +kernel)) (fun _ h9 => h9) rfl dX3_thingsAtHand_10 ?_
  refine lv_icmp_ge (tgt := 41) hx hb dX3_thingsAtHand_13 (by decide) (fun h => absurd h (by decide)) (fun _ => ?_)
  refine lv_aload_n hx hb dX3_thingsAtHand_16 rfl (lv_at hl 2 rfl) ?_
  refine va_get (D := (dC, dI)) (ci := 5) (v := .ref th) (C := RX3) (T := TX3) (N := 12) hx hb hts zi_X3_thingsAtHand_X3 hown hK (zo_R hR0 hS hAr) 0 rfl rfl 1 (by decide) (hts (.fieldLink RX3 19 "LockRooms$Room" "things" "[LLockRooms$Thing;") (by decide +kernel)) (fun _ h9 => h9) rfl dX3_thingsAtHand_17 ?_
  refine lv_iload_n hx hb dX3_thingsAtHand_20 rfl (lv_at hl 0 rfl) ?_
  refine va_aldq hx hb hK (zo_R hR0 hS hAr) 2 1 rfl rfl (by unfold vp_in; decide) dX3_thingsAtHand_21 ?_
  refine zo_q (v := .ref t2) (by rw [show Int32.toNatClampNeg 2 = 2 from by decide, hkt2]; rfl) ?_
  refine lv_iload_n hx hb dX3_thingsAtHand_22 rfl (lv_at hl 3 rfl) ?_
  have hPr := ((zo_R hR0 hS hAr)).sub (ws' := [(t2, .inr (7, [.int (-1), .int 0, .int 0, .int 0, .int 0]))]) [7] rfl
  have hPc := hP.sub (ws' := []) [] rfl
  have hDc := hD.sub (ws' := []) [] (by decide) rfl
  have hKc := hK.sub (tys' := []) [] rfl
  have hFc := va_free (wc := []) hD hS hA [] rfl
  refine va_calli (va_runV (As := [.int x0]) (rest := []) ⟨hx, hb, hml, hown, hts⟩ (cz_QcanBeReached l dC dI ed H5.size t2 x0) (cwV 1 hts gX3_thingsAtHand_X5_canBeReached rfl rfl rfl (by decide +kernel) ⟨Nat.le_of_ble_eq_true rfl, Nat.le_of_ble_eq_true rfl⟩) ⟨zb_blind, va_recv hK (zo_R hR0 hS hAr) (ci := 7) (q0 := 7) rfl rfl, fun U hU hW => ⟨rfl, zb_mk hU hW hPr hPc hKc hDc hN hH hS hFc zx_e⟩⟩ rfl rfl hl.1 rfl (lv_room (Nat.le_of_ble_eq_true rfl)) dX3_thingsAtHand_23 ⟨Nat.le_of_ble_eq_true rfl, Nat.le_of_ble_eq_true rfl⟩) hS (fun q _ h => hFc q h) hFc (fun r8 u t H7 locs ht hvm hw hB hz1 hk1 hS => ?_)
  obtain rfl : r8 = 1 := hw
  have hP := zo_K hP hk1
  refine lv_if_eq (tgt := 35) hx hb dX3_thingsAtHand_26 (by decide) (fun h => absurd h (by decide)) (fun _ => ?_)
  refine lv_iload_n hx hb dX3_thingsAtHand_29 rfl (lv_at hl 1 rfl) ?_
  refine lv_iconst (v := 1) hx hb dX3_thingsAtHand_30 (by decide) ?_
  refine lv_iload_n hx hb dX3_thingsAtHand_31 rfl (lv_at hl 0 rfl) ?_
  refine lv_ishl hx hb dX3_thingsAtHand_32 ?_
  refine zo_i (v := 4) (by decide) ?_
  refine lv_ior hx hb dX3_thingsAtHand_33 ?_
  refine zo_i (v := 7) (by decide) ?_
  refine lv_istore_n (lv' := [(2, .int 7), (3, .int 2), (0, .ref rm), (1, .int x0)]) hx hb dX3_thingsAtHand_34 rfl hl (by decide) rfl (fun ls hl => ?_)
  refine lv_iinc (v := 3) (lv' := [(3, .int 3), (2, .int 7), (0, .ref rm), (1, .int x0)]) hx hb dX3_thingsAtHand_35 hl (k := 1) rfl (by decide) (by decide) rfl (fun ls hl => ?_)
  refine lv_goto (tgt := 8) hx hb dX3_thingsAtHand_38 (by decide) ?_
  refine lv_iload_n hx hb dX3_thingsAtHand_8 rfl (lv_at hl 0 rfl) ?_
  refine lv_aload_n hx hb dX3_thingsAtHand_9 rfl (lv_at hl 2 rfl) ?_
  refine va_get (D := (dC, dI)) (ci := 5) (v := .int 10) (C := RX3) (T := TX3) (N := 12) hx hb hts zi_X3_thingsAtHand_X3 hown hK (zo_R hR0 hS hAr) 0 rfl rfl 5 (by decide) (hts (.fieldLink RX3 54 "LockRooms$Room" "thingCount" "I") (by decide +kernel)) (fun _ h9 => h9) rfl dX3_thingsAtHand_10 ?_
  refine lv_icmp_ge (tgt := 41) hx hb dX3_thingsAtHand_13 (by decide) (fun h => absurd h (by decide)) (fun _ => ?_)
  refine lv_aload_n hx hb dX3_thingsAtHand_16 rfl (lv_at hl 2 rfl) ?_
  refine va_get (D := (dC, dI)) (ci := 5) (v := .ref th) (C := RX3) (T := TX3) (N := 12) hx hb hts zi_X3_thingsAtHand_X3 hown hK (zo_R hR0 hS hAr) 0 rfl rfl 1 (by decide) (hts (.fieldLink RX3 19 "LockRooms$Room" "things" "[LLockRooms$Thing;") (by decide +kernel)) (fun _ h9 => h9) rfl dX3_thingsAtHand_17 ?_
  refine lv_iload_n hx hb dX3_thingsAtHand_20 rfl (lv_at hl 0 rfl) ?_
  refine va_aldq hx hb hK (zo_R hR0 hS hAr) 2 1 rfl rfl (by unfold vp_in; decide) dX3_thingsAtHand_21 ?_
  refine zo_q (v := .ref t3) (by rw [show Int32.toNatClampNeg 3 = 3 from by decide, hkt3]; rfl) ?_
  refine lv_iload_n hx hb dX3_thingsAtHand_22 rfl (lv_at hl 3 rfl) ?_
  have hPr := ((zo_R hR0 hS hAr)).sub (ws' := [(t3, .inr (7, [.int (-1), .int 0, .int 0, .int 0, .int 0]))]) [8] rfl
  have hPc := hP.sub (ws' := []) [] rfl
  have hDc := hD.sub (ws' := []) [] (by decide) rfl
  have hKc := hK.sub (tys' := []) [] rfl
  have hFc := va_free (wc := []) hD hS hA [] rfl
  refine va_calli (va_runV (As := [.int x0]) (rest := []) ⟨hx, hb, hml, hown, hts⟩ (cz_QcanBeReached l dC dI ed H7.size t3 x0) (cwV 1 hts gX3_thingsAtHand_X5_canBeReached rfl rfl rfl (by decide +kernel) ⟨Nat.le_of_ble_eq_true rfl, Nat.le_of_ble_eq_true rfl⟩) ⟨zb_blind, va_recv hK (zo_R hR0 hS hAr) (ci := 7) (q0 := 8) rfl rfl, fun U hU hW => ⟨rfl, zb_mk hU hW hPr hPc hKc hDc hN hH hS hFc zx_e⟩⟩ rfl rfl hl.1 rfl (lv_room (Nat.le_of_ble_eq_true rfl)) dX3_thingsAtHand_23 ⟨Nat.le_of_ble_eq_true rfl, Nat.le_of_ble_eq_true rfl⟩) hS (fun q _ h => hFc q h) hFc (fun r10 u t H9 locs ht hvm hw hB hz1 hk1 hS => ?_)
  obtain rfl : r10 = 1 := hw
  have hP := zo_K hP hk1
  refine lv_if_eq (tgt := 35) hx hb dX3_thingsAtHand_26 (by decide) (fun h => absurd h (by decide)) (fun _ => ?_)
  refine lv_iload_n hx hb dX3_thingsAtHand_29 rfl (lv_at hl 1 rfl) ?_
  refine lv_iconst (v := 1) hx hb dX3_thingsAtHand_30 (by decide) ?_
  refine lv_iload_n hx hb dX3_thingsAtHand_31 rfl (lv_at hl 0 rfl) ?_
  refine lv_ishl hx hb dX3_thingsAtHand_32 ?_
  refine zo_i (v := 8) (by decide) ?_
  refine lv_ior hx hb dX3_thingsAtHand_33 ?_
  refine zo_i (v := 15) (by decide) ?_
  refine lv_istore_n (lv' := [(2, .int 15), (3, .int 3), (0, .ref rm), (1, .int x0)]) hx hb dX3_thingsAtHand_34 rfl hl (by decide) rfl (fun ls hl => ?_)
  refine lv_iinc (v := 4) (lv' := [(3, .int 4), (2, .int 15), (0, .ref rm), (1, .int x0)]) hx hb dX3_thingsAtHand_35 hl (k := 1) rfl (by decide) (by decide) rfl (fun ls hl => ?_)
  refine lv_goto (tgt := 8) hx hb dX3_thingsAtHand_38 (by decide) ?_
  refine lv_iload_n hx hb dX3_thingsAtHand_8 rfl (lv_at hl 0 rfl) ?_
  refine lv_aload_n hx hb dX3_thingsAtHand_9 rfl (lv_at hl 2 rfl) ?_
  refine va_get (D := (dC, dI)) (ci := 5) (v := .int 10) (C := RX3) (T := TX3) (N := 12) hx hb hts zi_X3_thingsAtHand_X3 hown hK (zo_R hR0 hS hAr) 0 rfl rfl 5 (by decide) (hts (.fieldLink RX3 54 "LockRooms$Room" "thingCount" "I") (by decide +kernel)) (fun _ h9 => h9) rfl dX3_thingsAtHand_10 ?_
  refine lv_icmp_ge (tgt := 41) hx hb dX3_thingsAtHand_13 (by decide) (fun h => absurd h (by decide)) (fun _ => ?_)
  refine lv_aload_n hx hb dX3_thingsAtHand_16 rfl (lv_at hl 2 rfl) ?_
  refine va_get (D := (dC, dI)) (ci := 5) (v := .ref th) (C := RX3) (T := TX3) (N := 12) hx hb hts zi_X3_thingsAtHand_X3 hown hK (zo_R hR0 hS hAr) 0 rfl rfl 1 (by decide) (hts (.fieldLink RX3 19 "LockRooms$Room" "things" "[LLockRooms$Thing;") (by decide +kernel)) (fun _ h9 => h9) rfl dX3_thingsAtHand_17 ?_
  refine lv_iload_n hx hb dX3_thingsAtHand_20 rfl (lv_at hl 0 rfl) ?_
  refine va_aldq hx hb hK (zo_R hR0 hS hAr) 2 1 rfl rfl (by unfold vp_in; decide) dX3_thingsAtHand_21 ?_
  refine zo_q (v := .ref t4) (by rw [show Int32.toNatClampNeg 4 = 4 from by decide, hkt4]; rfl) ?_
  refine lv_iload_n hx hb dX3_thingsAtHand_22 rfl (lv_at hl 3 rfl) ?_
  have hPr := ((zo_R hR0 hS hAr)).sub (ws' := [(t4, .inr (7, [.int (-1), .int 0, .int 0, .int 0, .int 0]))]) [9] rfl
  have hPc := hP.sub (ws' := []) [] rfl
  have hDc := hD.sub (ws' := []) [] (by decide) rfl
  have hKc := hK.sub (tys' := []) [] rfl
  have hFc := va_free (wc := []) hD hS hA [] rfl
  refine va_calli (va_runV (As := [.int x0]) (rest := []) ⟨hx, hb, hml, hown, hts⟩ (cz_QcanBeReached l dC dI ed H9.size t4 x0) (cwV 1 hts gX3_thingsAtHand_X5_canBeReached rfl rfl rfl (by decide +kernel) ⟨Nat.le_of_ble_eq_true rfl, Nat.le_of_ble_eq_true rfl⟩) ⟨zb_blind, va_recv hK (zo_R hR0 hS hAr) (ci := 7) (q0 := 9) rfl rfl, fun U hU hW => ⟨rfl, zb_mk hU hW hPr hPc hKc hDc hN hH hS hFc zx_e⟩⟩ rfl rfl hl.1 rfl (lv_room (Nat.le_of_ble_eq_true rfl)) dX3_thingsAtHand_23 ⟨Nat.le_of_ble_eq_true rfl, Nat.le_of_ble_eq_true rfl⟩) hS (fun q _ h => hFc q h) hFc (fun r12 u t H11 locs ht hvm hw hB hz1 hk1 hS => ?_)
  obtain rfl : r12 = 1 := hw
  have hP := zo_K hP hk1
  refine lv_if_eq (tgt := 35) hx hb dX3_thingsAtHand_26 (by decide) (fun h => absurd h (by decide)) (fun _ => ?_)
  refine lv_iload_n hx hb dX3_thingsAtHand_29 rfl (lv_at hl 1 rfl) ?_
  refine lv_iconst (v := 1) hx hb dX3_thingsAtHand_30 (by decide) ?_
  refine lv_iload_n hx hb dX3_thingsAtHand_31 rfl (lv_at hl 0 rfl) ?_
  refine lv_ishl hx hb dX3_thingsAtHand_32 ?_
  refine zo_i (v := 16) (by decide) ?_
  refine lv_ior hx hb dX3_thingsAtHand_33 ?_
  refine zo_i (v := 31) (by decide) ?_
  refine lv_istore_n (lv' := [(2, .int 31), (3, .int 4), (0, .ref rm), (1, .int x0)]) hx hb dX3_thingsAtHand_34 rfl hl (by decide) rfl (fun ls hl => ?_)
  refine lv_iinc (v := 5) (lv' := [(3, .int 5), (2, .int 31), (0, .ref rm), (1, .int x0)]) hx hb dX3_thingsAtHand_35 hl (k := 1) rfl (by decide) (by decide) rfl (fun ls hl => ?_)
  refine lv_goto (tgt := 8) hx hb dX3_thingsAtHand_38 (by decide) ?_
  refine lv_iload_n hx hb dX3_thingsAtHand_8 rfl (lv_at hl 0 rfl) ?_
  refine lv_aload_n hx hb dX3_thingsAtHand_9 rfl (lv_at hl 2 rfl) ?_
  refine va_get (D := (dC, dI)) (ci := 5) (v := .int 10) (C := RX3) (T := TX3) (N := 12) hx hb hts zi_X3_thingsAtHand_X3 hown hK (zo_R hR0 hS hAr) 0 rfl rfl 5 (by decide) (hts (.fieldLink RX3 54 "LockRooms$Room" "thingCount" "I") (by decide +kernel)) (fun _ h9 => h9) rfl dX3_thingsAtHand_10 ?_
  refine lv_icmp_ge (tgt := 41) hx hb dX3_thingsAtHand_13 (by decide) (fun h => absurd h (by decide)) (fun _ => ?_)
  refine lv_aload_n hx hb dX3_thingsAtHand_16 rfl (lv_at hl 2 rfl) ?_
  refine va_get (D := (dC, dI)) (ci := 5) (v := .ref th) (C := RX3) (T := TX3) (N := 12) hx hb hts zi_X3_thingsAtHand_X3 hown hK (zo_R hR0 hS hAr) 0 rfl rfl 1 (by decide) (hts (.fieldLink RX3 19 "LockRooms$Room" "things" "[LLockRooms$Thing;") (by decide +kernel)) (fun _ h9 => h9) rfl dX3_thingsAtHand_17 ?_
  refine lv_iload_n hx hb dX3_thingsAtHand_20 rfl (lv_at hl 0 rfl) ?_
  refine va_aldq hx hb hK (zo_R hR0 hS hAr) 2 1 rfl rfl (by unfold vp_in; decide) dX3_thingsAtHand_21 ?_
  refine zo_q (v := .ref t5) (by rw [show Int32.toNatClampNeg 5 = 5 from by decide, hkt5]; rfl) ?_
  refine lv_iload_n hx hb dX3_thingsAtHand_22 rfl (lv_at hl 3 rfl) ?_
  have hPr := ((zo_R hR0 hS hAr)).sub (ws' := [(t5, .inr (7, [.int (-1), .int 0, .int 0, .int 0, .int 0]))]) [10] rfl
  have hPc := hP.sub (ws' := []) [] rfl
  have hDc := hD.sub (ws' := []) [] (by decide) rfl
  have hKc := hK.sub (tys' := []) [] rfl
  have hFc := va_free (wc := []) hD hS hA [] rfl
  refine va_calli (va_runV (As := [.int x0]) (rest := []) ⟨hx, hb, hml, hown, hts⟩ (cz_QcanBeReached l dC dI ed H11.size t5 x0) (cwV 1 hts gX3_thingsAtHand_X5_canBeReached rfl rfl rfl (by decide +kernel) ⟨Nat.le_of_ble_eq_true rfl, Nat.le_of_ble_eq_true rfl⟩) ⟨zb_blind, va_recv hK (zo_R hR0 hS hAr) (ci := 7) (q0 := 10) rfl rfl, fun U hU hW => ⟨rfl, zb_mk hU hW hPr hPc hKc hDc hN hH hS hFc zx_e⟩⟩ rfl rfl hl.1 rfl (lv_room (Nat.le_of_ble_eq_true rfl)) dX3_thingsAtHand_23 ⟨Nat.le_of_ble_eq_true rfl, Nat.le_of_ble_eq_true rfl⟩) hS (fun q _ h => hFc q h) hFc (fun r14 u t H13 locs ht hvm hw hB hz1 hk1 hS => ?_)
  obtain rfl : r14 = 1 := hw
  have hP := zo_K hP hk1
  refine lv_if_eq (tgt := 35) hx hb dX3_thingsAtHand_26 (by decide) (fun h => absurd h (by decide)) (fun _ => ?_)
  refine lv_iload_n hx hb dX3_thingsAtHand_29 rfl (lv_at hl 1 rfl) ?_
  refine lv_iconst (v := 1) hx hb dX3_thingsAtHand_30 (by decide) ?_
  refine lv_iload_n hx hb dX3_thingsAtHand_31 rfl (lv_at hl 0 rfl) ?_
  refine lv_ishl hx hb dX3_thingsAtHand_32 ?_
  refine zo_i (v := 32) (by decide) ?_
  refine lv_ior hx hb dX3_thingsAtHand_33 ?_
  refine zo_i (v := 63) (by decide) ?_
  refine lv_istore_n (lv' := [(2, .int 63), (3, .int 5), (0, .ref rm), (1, .int x0)]) hx hb dX3_thingsAtHand_34 rfl hl (by decide) rfl (fun ls hl => ?_)
  refine lv_iinc (v := 6) (lv' := [(3, .int 6), (2, .int 63), (0, .ref rm), (1, .int x0)]) hx hb dX3_thingsAtHand_35 hl (k := 1) rfl (by decide) (by decide) rfl (fun ls hl => ?_)
  refine lv_goto (tgt := 8) hx hb dX3_thingsAtHand_38 (by decide) ?_
  refine lv_iload_n hx hb dX3_thingsAtHand_8 rfl (lv_at hl 0 rfl) ?_
  refine lv_aload_n hx hb dX3_thingsAtHand_9 rfl (lv_at hl 2 rfl) ?_
  refine va_get (D := (dC, dI)) (ci := 5) (v := .int 10) (C := RX3) (T := TX3) (N := 12) hx hb hts zi_X3_thingsAtHand_X3 hown hK (zo_R hR0 hS hAr) 0 rfl rfl 5 (by decide) (hts (.fieldLink RX3 54 "LockRooms$Room" "thingCount" "I") (by decide +kernel)) (fun _ h9 => h9) rfl dX3_thingsAtHand_10 ?_
  refine lv_icmp_ge (tgt := 41) hx hb dX3_thingsAtHand_13 (by decide) (fun h => absurd h (by decide)) (fun _ => ?_)
  refine lv_aload_n hx hb dX3_thingsAtHand_16 rfl (lv_at hl 2 rfl) ?_
  refine va_get (D := (dC, dI)) (ci := 5) (v := .ref th) (C := RX3) (T := TX3) (N := 12) hx hb hts zi_X3_thingsAtHand_X3 hown hK (zo_R hR0 hS hAr) 0 rfl rfl 1 (by decide) (hts (.fieldLink RX3 19 "LockRooms$Room" "things" "[LLockRooms$Thing;") (by decide +kernel)) (fun _ h9 => h9) rfl dX3_thingsAtHand_17 ?_
  refine lv_iload_n hx hb dX3_thingsAtHand_20 rfl (lv_at hl 0 rfl) ?_
  refine va_aldq hx hb hK (zo_R hR0 hS hAr) 2 1 rfl rfl (by unfold vp_in; decide) dX3_thingsAtHand_21 ?_
  refine zo_q (v := .ref t6) (by rw [show Int32.toNatClampNeg 6 = 6 from by decide, hkt6]; rfl) ?_
  refine lv_iload_n hx hb dX3_thingsAtHand_22 rfl (lv_at hl 3 rfl) ?_
  have hPr := ((zo_R hR0 hS hAr)).sub (ws' := [(t6, .inr (7, [.int (-1), .int 0, .int 0, .int 0, .int 0]))]) [11] rfl
  have hPc := hP.sub (ws' := []) [] rfl
  have hDc := hD.sub (ws' := []) [] (by decide) rfl
  have hKc := hK.sub (tys' := []) [] rfl
  have hFc := va_free (wc := []) hD hS hA [] rfl
  refine va_calli (va_runV (As := [.int x0]) (rest := []) ⟨hx, hb, hml, hown, hts⟩ (cz_QcanBeReached l dC dI ed H13.size t6 x0) (cwV 1 hts gX3_thingsAtHand_X5_canBeReached rfl rfl rfl (by decide +kernel) ⟨Nat.le_of_ble_eq_true rfl, Nat.le_of_ble_eq_true rfl⟩) ⟨zb_blind, va_recv hK (zo_R hR0 hS hAr) (ci := 7) (q0 := 11) rfl rfl, fun U hU hW => ⟨rfl, zb_mk hU hW hPr hPc hKc hDc hN hH hS hFc zx_e⟩⟩ rfl rfl hl.1 rfl (lv_room (Nat.le_of_ble_eq_true rfl)) dX3_thingsAtHand_23 ⟨Nat.le_of_ble_eq_true rfl, Nat.le_of_ble_eq_true rfl⟩) hS (fun q _ h => hFc q h) hFc (fun r16 u t H15 locs ht hvm hw hB hz1 hk1 hS => ?_)
  obtain rfl : r16 = 1 := hw
  have hP := zo_K hP hk1
  refine lv_if_eq (tgt := 35) hx hb dX3_thingsAtHand_26 (by decide) (fun h => absurd h (by decide)) (fun _ => ?_)
  refine lv_iload_n hx hb dX3_thingsAtHand_29 rfl (lv_at hl 1 rfl) ?_
  refine lv_iconst (v := 1) hx hb dX3_thingsAtHand_30 (by decide) ?_
  refine lv_iload_n hx hb dX3_thingsAtHand_31 rfl (lv_at hl 0 rfl) ?_
  refine lv_ishl hx hb dX3_thingsAtHand_32 ?_
  refine zo_i (v := 64) (by decide) ?_
  refine lv_ior hx hb dX3_thingsAtHand_33 ?_
  refine zo_i (v := 127) (by decide) ?_
  refine lv_istore_n (lv' := [(2, .int 127), (3, .int 6), (0, .ref rm), (1, .int x0)]) hx hb dX3_thingsAtHand_34 rfl hl (by decide) rfl (fun ls hl => ?_)
  refine lv_iinc (v := 7) (lv' := [(3, .int 7), (2, .int 127), (0, .ref rm), (1, .int x0)]) hx hb dX3_thingsAtHand_35 hl (k := 1) rfl (by decide) (by decide) rfl (fun ls hl => ?_)
  refine lv_goto (tgt := 8) hx hb dX3_thingsAtHand_38 (by decide) ?_
  refine lv_iload_n hx hb dX3_thingsAtHand_8 rfl (lv_at hl 0 rfl) ?_
  refine lv_aload_n hx hb dX3_thingsAtHand_9 rfl (lv_at hl 2 rfl) ?_
  refine va_get (D := (dC, dI)) (ci := 5) (v := .int 10) (C := RX3) (T := TX3) (N := 12) hx hb hts zi_X3_thingsAtHand_X3 hown hK (zo_R hR0 hS hAr) 0 rfl rfl 5 (by decide) (hts (.fieldLink RX3 54 "LockRooms$Room" "thingCount" "I") (by decide +kernel)) (fun _ h9 => h9) rfl dX3_thingsAtHand_10 ?_
  refine lv_icmp_ge (tgt := 41) hx hb dX3_thingsAtHand_13 (by decide) (fun h => absurd h (by decide)) (fun _ => ?_)
  refine lv_aload_n hx hb dX3_thingsAtHand_16 rfl (lv_at hl 2 rfl) ?_
  refine va_get (D := (dC, dI)) (ci := 5) (v := .ref th) (C := RX3) (T := TX3) (N := 12) hx hb hts zi_X3_thingsAtHand_X3 hown hK (zo_R hR0 hS hAr) 0 rfl rfl 1 (by decide) (hts (.fieldLink RX3 19 "LockRooms$Room" "things" "[LLockRooms$Thing;") (by decide +kernel)) (fun _ h9 => h9) rfl dX3_thingsAtHand_17 ?_
  refine lv_iload_n hx hb dX3_thingsAtHand_20 rfl (lv_at hl 0 rfl) ?_
  refine va_aldq hx hb hK (zo_R hR0 hS hAr) 2 1 rfl rfl (by unfold vp_in; decide) dX3_thingsAtHand_21 ?_
  refine zo_q (v := .ref t7) (by rw [show Int32.toNatClampNeg 7 = 7 from by decide, hkt7]; rfl) ?_
  refine lv_iload_n hx hb dX3_thingsAtHand_22 rfl (lv_at hl 3 rfl) ?_
  have hPr := ((zo_R hR0 hS hAr)).sub (ws' := [(t7, .inr (7, [.int (-1), .int 0, .int 0, .int 0, .int 0]))]) [12] rfl
  have hPc := hP.sub (ws' := []) [] rfl
  have hDc := hD.sub (ws' := []) [] (by decide) rfl
  have hKc := hK.sub (tys' := []) [] rfl
  have hFc := va_free (wc := []) hD hS hA [] rfl
  refine va_calli (va_runV (As := [.int x0]) (rest := []) ⟨hx, hb, hml, hown, hts⟩ (cz_QcanBeReached l dC dI ed H15.size t7 x0) (cwV 1 hts gX3_thingsAtHand_X5_canBeReached rfl rfl rfl (by decide +kernel) ⟨Nat.le_of_ble_eq_true rfl, Nat.le_of_ble_eq_true rfl⟩) ⟨zb_blind, va_recv hK (zo_R hR0 hS hAr) (ci := 7) (q0 := 12) rfl rfl, fun U hU hW => ⟨rfl, zb_mk hU hW hPr hPc hKc hDc hN hH hS hFc zx_e⟩⟩ rfl rfl hl.1 rfl (lv_room (Nat.le_of_ble_eq_true rfl)) dX3_thingsAtHand_23 ⟨Nat.le_of_ble_eq_true rfl, Nat.le_of_ble_eq_true rfl⟩) hS (fun q _ h => hFc q h) hFc (fun r18 u t H17 locs ht hvm hw hB hz1 hk1 hS => ?_)
  obtain rfl : r18 = 1 := hw
  have hP := zo_K hP hk1
  refine lv_if_eq (tgt := 35) hx hb dX3_thingsAtHand_26 (by decide) (fun h => absurd h (by decide)) (fun _ => ?_)
  refine lv_iload_n hx hb dX3_thingsAtHand_29 rfl (lv_at hl 1 rfl) ?_
  refine lv_iconst (v := 1) hx hb dX3_thingsAtHand_30 (by decide) ?_
  refine lv_iload_n hx hb dX3_thingsAtHand_31 rfl (lv_at hl 0 rfl) ?_
  refine lv_ishl hx hb dX3_thingsAtHand_32 ?_
  refine zo_i (v := 128) (by decide) ?_
  refine lv_ior hx hb dX3_thingsAtHand_33 ?_
  refine zo_i (v := 255) (by decide) ?_
  refine lv_istore_n (lv' := [(2, .int 255), (3, .int 7), (0, .ref rm), (1, .int x0)]) hx hb dX3_thingsAtHand_34 rfl hl (by decide) rfl (fun ls hl => ?_)
  refine lv_iinc (v := 8) (lv' := [(3, .int 8), (2, .int 255), (0, .ref rm), (1, .int x0)]) hx hb dX3_thingsAtHand_35 hl (k := 1) rfl (by decide) (by decide) rfl (fun ls hl => ?_)
  refine lv_goto (tgt := 8) hx hb dX3_thingsAtHand_38 (by decide) ?_
  refine lv_iload_n hx hb dX3_thingsAtHand_8 rfl (lv_at hl 0 rfl) ?_
  refine lv_aload_n hx hb dX3_thingsAtHand_9 rfl (lv_at hl 2 rfl) ?_
  refine va_get (D := (dC, dI)) (ci := 5) (v := .int 10) (C := RX3) (T := TX3) (N := 12) hx hb hts zi_X3_thingsAtHand_X3 hown hK (zo_R hR0 hS hAr) 0 rfl rfl 5 (by decide) (hts (.fieldLink RX3 54 "LockRooms$Room" "thingCount" "I") (by decide +kernel)) (fun _ h9 => h9) rfl dX3_thingsAtHand_10 ?_
  refine lv_icmp_ge (tgt := 41) hx hb dX3_thingsAtHand_13 (by decide) (fun h => absurd h (by decide)) (fun _ => ?_)
  refine lv_aload_n hx hb dX3_thingsAtHand_16 rfl (lv_at hl 2 rfl) ?_
  refine va_get (D := (dC, dI)) (ci := 5) (v := .ref th) (C := RX3) (T := TX3) (N := 12) hx hb hts zi_X3_thingsAtHand_X3 hown hK (zo_R hR0 hS hAr) 0 rfl rfl 1 (by decide) (hts (.fieldLink RX3 19 "LockRooms$Room" "things" "[LLockRooms$Thing;") (by decide +kernel)) (fun _ h9 => h9) rfl dX3_thingsAtHand_17 ?_
  refine lv_iload_n hx hb dX3_thingsAtHand_20 rfl (lv_at hl 0 rfl) ?_
  refine va_aldq hx hb hK (zo_R hR0 hS hAr) 2 1 rfl rfl (by unfold vp_in; decide) dX3_thingsAtHand_21 ?_
  refine zo_q (v := .ref t8) (by rw [show Int32.toNatClampNeg 8 = 8 from by decide, hkt8]; rfl) ?_
  refine lv_iload_n hx hb dX3_thingsAtHand_22 rfl (lv_at hl 3 rfl) ?_
  have hPr := ((zo_R hR0 hS hAr)).sub (ws' := [(t8, .inr (7, [.int (-1), .int 0, .int 0, .int 0, .int 0]))]) [13] rfl
  have hPc := hP.sub (ws' := []) [] rfl
  have hDc := hD.sub (ws' := []) [] (by decide) rfl
  have hKc := hK.sub (tys' := []) [] rfl
  have hFc := va_free (wc := []) hD hS hA [] rfl
  refine va_calli (va_runV (As := [.int x0]) (rest := []) ⟨hx, hb, hml, hown, hts⟩ (cz_QcanBeReached l dC dI ed H17.size t8 x0) (cwV 1 hts gX3_thingsAtHand_X5_canBeReached rfl rfl rfl (by decide +kernel) ⟨Nat.le_of_ble_eq_true rfl, Nat.le_of_ble_eq_true rfl⟩) ⟨zb_blind, va_recv hK (zo_R hR0 hS hAr) (ci := 7) (q0 := 13) rfl rfl, fun U hU hW => ⟨rfl, zb_mk hU hW hPr hPc hKc hDc hN hH hS hFc zx_e⟩⟩ rfl rfl hl.1 rfl (lv_room (Nat.le_of_ble_eq_true rfl)) dX3_thingsAtHand_23 ⟨Nat.le_of_ble_eq_true rfl, Nat.le_of_ble_eq_true rfl⟩) hS (fun q _ h => hFc q h) hFc (fun r20 u t H19 locs ht hvm hw hB hz1 hk1 hS => ?_)
  obtain rfl : r20 = 1 := hw
  have hP := zo_K hP hk1
  refine lv_if_eq (tgt := 35) hx hb dX3_thingsAtHand_26 (by decide) (fun h => absurd h (by decide)) (fun _ => ?_)
  refine lv_iload_n hx hb dX3_thingsAtHand_29 rfl (lv_at hl 1 rfl) ?_
  refine lv_iconst (v := 1) hx hb dX3_thingsAtHand_30 (by decide) ?_
  refine lv_iload_n hx hb dX3_thingsAtHand_31 rfl (lv_at hl 0 rfl) ?_
  refine lv_ishl hx hb dX3_thingsAtHand_32 ?_
  refine zo_i (v := 256) (by decide) ?_
  refine lv_ior hx hb dX3_thingsAtHand_33 ?_
  refine zo_i (v := 511) (by decide) ?_
  refine lv_istore_n (lv' := [(2, .int 511), (3, .int 8), (0, .ref rm), (1, .int x0)]) hx hb dX3_thingsAtHand_34 rfl hl (by decide) rfl (fun ls hl => ?_)
  refine lv_iinc (v := 9) (lv' := [(3, .int 9), (2, .int 511), (0, .ref rm), (1, .int x0)]) hx hb dX3_thingsAtHand_35 hl (k := 1) rfl (by decide) (by decide) rfl (fun ls hl => ?_)
  refine lv_goto (tgt := 8) hx hb dX3_thingsAtHand_38 (by decide) ?_
  refine lv_iload_n hx hb dX3_thingsAtHand_8 rfl (lv_at hl 0 rfl) ?_
  refine lv_aload_n hx hb dX3_thingsAtHand_9 rfl (lv_at hl 2 rfl) ?_
  refine va_get (D := (dC, dI)) (ci := 5) (v := .int 10) (C := RX3) (T := TX3) (N := 12) hx hb hts zi_X3_thingsAtHand_X3 hown hK (zo_R hR0 hS hAr) 0 rfl rfl 5 (by decide) (hts (.fieldLink RX3 54 "LockRooms$Room" "thingCount" "I") (by decide +kernel)) (fun _ h9 => h9) rfl dX3_thingsAtHand_10 ?_
  refine lv_icmp_ge (tgt := 41) hx hb dX3_thingsAtHand_13 (by decide) (fun h => absurd h (by decide)) (fun _ => ?_)
  refine lv_aload_n hx hb dX3_thingsAtHand_16 rfl (lv_at hl 2 rfl) ?_
  refine va_get (D := (dC, dI)) (ci := 5) (v := .ref th) (C := RX3) (T := TX3) (N := 12) hx hb hts zi_X3_thingsAtHand_X3 hown hK (zo_R hR0 hS hAr) 0 rfl rfl 1 (by decide) (hts (.fieldLink RX3 19 "LockRooms$Room" "things" "[LLockRooms$Thing;") (by decide +kernel)) (fun _ h9 => h9) rfl dX3_thingsAtHand_17 ?_
  refine lv_iload_n hx hb dX3_thingsAtHand_20 rfl (lv_at hl 0 rfl) ?_
  refine va_aldq hx hb hK (zo_R hR0 hS hAr) 2 1 rfl rfl (by unfold vp_in; decide) dX3_thingsAtHand_21 ?_
  refine zo_q (v := .ref t9) (by rw [show Int32.toNatClampNeg 9 = 9 from by decide, hkt9]; rfl) ?_
  refine lv_iload_n hx hb dX3_thingsAtHand_22 rfl (lv_at hl 3 rfl) ?_
  have hPr := ((zo_R hR0 hS hAr)).sub (ws' := [(t9, .inr (7, [.int (-1), .int 0, .int 0, .int 0, .int 0]))]) [14] rfl
  have hPc := hP.sub (ws' := []) [] rfl
  have hDc := hD.sub (ws' := []) [] (by decide) rfl
  have hKc := hK.sub (tys' := []) [] rfl
  have hFc := va_free (wc := []) hD hS hA [] rfl
  refine va_calli (va_runV (As := [.int x0]) (rest := []) ⟨hx, hb, hml, hown, hts⟩ (cz_QcanBeReached l dC dI ed H19.size t9 x0) (cwV 1 hts gX3_thingsAtHand_X5_canBeReached rfl rfl rfl (by decide +kernel) ⟨Nat.le_of_ble_eq_true rfl, Nat.le_of_ble_eq_true rfl⟩) ⟨zb_blind, va_recv hK (zo_R hR0 hS hAr) (ci := 7) (q0 := 14) rfl rfl, fun U hU hW => ⟨rfl, zb_mk hU hW hPr hPc hKc hDc hN hH hS hFc zx_e⟩⟩ rfl rfl hl.1 rfl (lv_room (Nat.le_of_ble_eq_true rfl)) dX3_thingsAtHand_23 ⟨Nat.le_of_ble_eq_true rfl, Nat.le_of_ble_eq_true rfl⟩) hS (fun q _ h => hFc q h) hFc (fun r22 u t H21 locs ht hvm hw hB hz1 hk1 hS => ?_)
  obtain rfl : r22 = 1 := hw
  have hP := zo_K hP hk1
  refine lv_if_eq (tgt := 35) hx hb dX3_thingsAtHand_26 (by decide) (fun h => absurd h (by decide)) (fun _ => ?_)
  refine lv_iload_n hx hb dX3_thingsAtHand_29 rfl (lv_at hl 1 rfl) ?_
  refine lv_iconst (v := 1) hx hb dX3_thingsAtHand_30 (by decide) ?_
  refine lv_iload_n hx hb dX3_thingsAtHand_31 rfl (lv_at hl 0 rfl) ?_
  refine lv_ishl hx hb dX3_thingsAtHand_32 ?_
  refine zo_i (v := 512) (by decide) ?_
  refine lv_ior hx hb dX3_thingsAtHand_33 ?_
  refine zo_i (v := 1023) (by decide) ?_
  refine lv_istore_n (lv' := [(2, .int 1023), (3, .int 9), (0, .ref rm), (1, .int x0)]) hx hb dX3_thingsAtHand_34 rfl hl (by decide) rfl (fun ls hl => ?_)
  refine lv_iinc (v := 10) (lv' := [(3, .int 10), (2, .int 1023), (0, .ref rm), (1, .int x0)]) hx hb dX3_thingsAtHand_35 hl (k := 1) rfl (by decide) (by decide) rfl (fun ls hl => ?_)
  refine lv_goto (tgt := 8) hx hb dX3_thingsAtHand_38 (by decide) ?_
  refine lv_iload_n hx hb dX3_thingsAtHand_8 rfl (lv_at hl 0 rfl) ?_
  refine lv_aload_n hx hb dX3_thingsAtHand_9 rfl (lv_at hl 2 rfl) ?_
  refine va_get (D := (dC, dI)) (ci := 5) (v := .int 10) (C := RX3) (T := TX3) (N := 12) hx hb hts zi_X3_thingsAtHand_X3 hown hK (zo_R hR0 hS hAr) 0 rfl rfl 5 (by decide) (hts (.fieldLink RX3 54 "LockRooms$Room" "thingCount" "I") (by decide +kernel)) (fun _ h9 => h9) rfl dX3_thingsAtHand_10 ?_
  refine lv_icmp_ge (tgt := 41) hx hb dX3_thingsAtHand_13 (by decide) (fun _ => ?_) (fun h => absurd h (by decide))
  refine lv_iconst (v := 0) hx hb dX3_thingsAtHand_41 (by decide) ?_
  refine lv_istore_n (lv' := [(3, .int 0), (2, .int 1023), (0, .ref rm), (1, .int x0)]) hx hb dX3_thingsAtHand_42 rfl hl (by decide) rfl (fun ls hl => ?_)
  refine lv_iload_n hx hb dX3_thingsAtHand_43 rfl (lv_at hl 0 rfl) ?_
  refine lv_aload_n hx hb dX3_thingsAtHand_44 rfl (lv_at hl 2 rfl) ?_
  refine va_get (D := (dC, dI)) (ci := 5) (v := .int 2) (C := RX3) (T := TX3) (N := 12) hx hb hts zi_X3_thingsAtHand_X3 hown hK (zo_R hR0 hS hAr) 0 rfl rfl 4 (by decide) (hts (.fieldLink RX3 47 "LockRooms$Room" "lockCount" "I") (by decide +kernel)) (fun _ h9 => h9) rfl dX3_thingsAtHand_45 ?_
  refine lv_icmp_ge (tgt := 91) hx hb dX3_thingsAtHand_48 (by decide) (fun h => absurd h (by decide)) (fun _ => ?_)
  refine lv_iload_n hx hb dX3_thingsAtHand_51 rfl (lv_at hl 3 rfl) ?_
  refine lv_iload_n hx hb dX3_thingsAtHand_52 rfl (lv_at hl 0 rfl) ?_
  have hPr := (zo_nil : va_P (dC, dI) vwCl [] H21)
  have hPc := hP.sub (ws' := []) [] rfl
  have hDc := hD.sub (ws' := []) [] (by decide) rfl
  have hKc := hK.sub (tys' := []) [] rfl
  have hFc := va_free (wc := []) hD hS hA [] rfl
  refine va_calli (va_runSN (As := [.int x0, .int 0]) (rest := []) ⟨hx, hb, hml, hown, hts⟩ (cz_QisIn l dC dI ed H21.size x0 0) ⟨(va_cnB 2 hts gX3_thingsAtHand_X6_isIn_n111 rfl rfl rfl (hN.2.1 ("LockRooms$Room", 111, yX6_isIn, "LockRooms") (List.mem_of_getElem? (i := 5) rfl)) (hts (.initialized RX6) (by decide +kernel)) (by decide +kernel) ⟨Nat.le_of_ble_eq_true rfl, Nat.le_of_ble_eq_true rfl⟩), (hts (.static yX6_isIn) (by decide +kernel)), trivial⟩ ⟨zb_blind, fun U hU hW => ⟨rfl, zb_mk hU hW hPr hPc hKc hDc hN hH hS hFc zx_e⟩⟩ rfl rfl hl.1 rfl (lv_room (Nat.le_of_ble_eq_true rfl)) dX3_thingsAtHand_53 ⟨Nat.le_of_ble_eq_true rfl, Nat.le_of_ble_eq_true rfl⟩) hS (fun q _ h => hFc q h) hFc (fun r24 u t H23 locs ht hvm hw hB hz1 hk1 hS => ?_)
  obtain rfl : r24 = (zIsIn x0 0) := hw
  have hP := zo_K hP hk1
  refine lv_if_eq (tgt := 85) hx hb dX3_thingsAtHand_56 (by decide) (fun c25 => ?_) (fun c25 => ?_)
  · skip
    refine lv_iinc (v := 1) (lv' := [(3, .int 1), (2, .int 1023), (0, .ref rm), (1, .int x0)]) hx hb dX3_thingsAtHand_85 hl (k := 0) rfl (by decide) (by decide) rfl (fun ls hl => ?_)
    refine lv_goto (tgt := 43) hx hb dX3_thingsAtHand_88 (by decide) ?_
    refine lv_iload_n hx hb dX3_thingsAtHand_43 rfl (lv_at hl 0 rfl) ?_
    refine lv_aload_n hx hb dX3_thingsAtHand_44 rfl (lv_at hl 2 rfl) ?_
    refine va_get (D := (dC, dI)) (ci := 5) (v := .int 2) (C := RX3) (T := TX3) (N := 12) hx hb hts zi_X3_thingsAtHand_X3 hown hK (zo_R hR0 hS hAr) 0 rfl rfl 4 (by decide) (hts (.fieldLink RX3 47 "LockRooms$Room" "lockCount" "I") (by decide +kernel)) (fun _ h9 => h9) rfl dX3_thingsAtHand_45 ?_
    refine lv_icmp_ge (tgt := 91) hx hb dX3_thingsAtHand_48 (by decide) (fun h => absurd h (by decide)) (fun _ => ?_)
    refine lv_iload_n hx hb dX3_thingsAtHand_51 rfl (lv_at hl 3 rfl) ?_
    refine lv_iload_n hx hb dX3_thingsAtHand_52 rfl (lv_at hl 0 rfl) ?_
    have hPr := (zo_nil : va_P (dC, dI) vwCl [] H23)
    have hPc := hP.sub (ws' := []) [] rfl
    have hDc := hD.sub (ws' := []) [] (by decide) rfl
    have hKc := hK.sub (tys' := []) [] rfl
    have hFc := va_free (wc := []) hD hS hA [] rfl
    refine va_calli (va_runSN (As := [.int x0, .int 1]) (rest := []) ⟨hx, hb, hml, hown, hts⟩ (cz_QisIn l dC dI ed H23.size x0 1) ⟨(va_cnB 2 hts gX3_thingsAtHand_X6_isIn_n111 rfl rfl rfl (hN.2.1 ("LockRooms$Room", 111, yX6_isIn, "LockRooms") (List.mem_of_getElem? (i := 5) rfl)) (hts (.initialized RX6) (by decide +kernel)) (by decide +kernel) ⟨Nat.le_of_ble_eq_true rfl, Nat.le_of_ble_eq_true rfl⟩), (hts (.static yX6_isIn) (by decide +kernel)), trivial⟩ ⟨zb_blind, fun U hU hW => ⟨rfl, zb_mk hU hW hPr hPc hKc hDc hN hH hS hFc zx_e⟩⟩ rfl rfl hl.1 rfl (lv_room (Nat.le_of_ble_eq_true rfl)) dX3_thingsAtHand_53 ⟨Nat.le_of_ble_eq_true rfl, Nat.le_of_ble_eq_true rfl⟩) hS (fun q _ h => hFc q h) hFc (fun r27 u t H26 locs ht hvm hw hB hz1 hk1 hS => ?_)
    obtain rfl : r27 = (zIsIn x0 1) := hw
    have hP := zo_K hP hk1
    refine lv_if_eq (tgt := 85) hx hb dX3_thingsAtHand_56 (by decide) (fun c28 => ?_) (fun c28 => ?_)
    · skip
      refine lv_iinc (v := 2) (lv' := [(3, .int 2), (2, .int 1023), (0, .ref rm), (1, .int x0)]) hx hb dX3_thingsAtHand_85 hl (k := 0) rfl (by decide) (by decide) rfl (fun ls hl => ?_)
      refine lv_goto (tgt := 43) hx hb dX3_thingsAtHand_88 (by decide) ?_
      refine lv_iload_n hx hb dX3_thingsAtHand_43 rfl (lv_at hl 0 rfl) ?_
      refine lv_aload_n hx hb dX3_thingsAtHand_44 rfl (lv_at hl 2 rfl) ?_
      refine va_get (D := (dC, dI)) (ci := 5) (v := .int 2) (C := RX3) (T := TX3) (N := 12) hx hb hts zi_X3_thingsAtHand_X3 hown hK (zo_R hR0 hS hAr) 0 rfl rfl 4 (by decide) (hts (.fieldLink RX3 47 "LockRooms$Room" "lockCount" "I") (by decide +kernel)) (fun _ h9 => h9) rfl dX3_thingsAtHand_45 ?_
      refine lv_icmp_ge (tgt := 91) hx hb dX3_thingsAtHand_48 (by decide) (fun _ => ?_) (fun h => absurd h (by decide))
      refine lv_iload_n hx hb dX3_thingsAtHand_91 rfl (lv_at hl 1 rfl) ?_
      refine W.widen (k := 0) (n := 0) (Nat.le_of_ble_eq_true rfl) (Nat.le_of_ble_eq_true rfl) ?_
      exact W.iret hx hb hr (fun t ht hW => ⟨⟨1023, (), rfl, rfl, trivial⟩, hS.F ht⟩) hS.2.2 dX3_thingsAtHand_92
    · skip
      refine lv_aload_n hx hb dX3_thingsAtHand_59 rfl (lv_at hl 2 rfl) ?_
      refine va_get (D := (dC, dI)) (ci := 5) (v := .ref lk) (C := RX3) (T := TX3) (N := 12) hx hb hts zi_X3_thingsAtHand_X3 hown hK (zo_R hR0 hS hAr) 0 rfl rfl 0 (by decide) (hts (.fieldLink RX3 11 "LockRooms$Room" "locks" "[LLockRooms$Lock;") (by decide +kernel)) (fun _ h9 => h9) rfl dX3_thingsAtHand_60 ?_
      refine lv_iload_n hx hb dX3_thingsAtHand_63 rfl (lv_at hl 0 rfl) ?_
      refine va_aldq hx hb hK (zo_R hR0 hS hAr) 1 0 rfl rfl (by unfold vp_in; decide) dX3_thingsAtHand_64 ?_
      refine zo_q (v := .ref l1) (by rw [show Int32.toNatClampNeg 1 = 1 from by decide, hkl1]; rfl) ?_
      refine va_get (D := (dC, dI)) (ci := 3) (v := .int 0) (C := RX1) (T := TX1) (N := 10) hx hb hts zi_X3_thingsAtHand_X1 hown hK (zo_R hR0 hS hAr) 4 rfl rfl 4 (by decide) (hts (.fieldLink RX3 100 "LockRooms$Lock" "isOpen" "Z") (by decide +kernel)) (fun _ h9 => h9) rfl dX3_thingsAtHand_65 ?_
      refine lv_if_ne (tgt := 85) hx hb dX3_thingsAtHand_68 (by decide) (fun h => absurd h (by decide)) (fun _ => ?_)
      refine lv_iload_n hx hb dX3_thingsAtHand_71 rfl (lv_at hl 1 rfl) ?_
      refine lv_aload_n hx hb dX3_thingsAtHand_72 rfl (lv_at hl 2 rfl) ?_
      refine va_get (D := (dC, dI)) (ci := 5) (v := .ref lk) (C := RX3) (T := TX3) (N := 12) hx hb hts zi_X3_thingsAtHand_X3 hown hK (zo_R hR0 hS hAr) 0 rfl rfl 0 (by decide) (hts (.fieldLink RX3 11 "LockRooms$Room" "locks" "[LLockRooms$Lock;") (by decide +kernel)) (fun _ h9 => h9) rfl dX3_thingsAtHand_73 ?_
      refine lv_iload_n hx hb dX3_thingsAtHand_76 rfl (lv_at hl 0 rfl) ?_
      refine va_aldq hx hb hK (zo_R hR0 hS hAr) 1 0 rfl rfl (by unfold vp_in; decide) dX3_thingsAtHand_77 ?_
      refine zo_q (v := .ref l1) (by rw [show Int32.toNatClampNeg 1 = 1 from by decide, hkl1]; rfl) ?_
      refine va_get (D := (dC, dI)) (ci := 3) (v := .int 0) (C := RX1) (T := TX1) (N := 10) hx hb hts zi_X3_thingsAtHand_X1 hown hK (zo_R hR0 hS hAr) 4 rfl rfl 1 (by decide) (hts (.fieldLink RX3 81 "LockRooms$Lock" "keeps" "I") (by decide +kernel)) (fun _ h9 => h9) rfl dX3_thingsAtHand_78 ?_
      refine lv_iconst (v := (-1)) hx hb dX3_thingsAtHand_81 (by decide) ?_
      refine lv_ixor hx hb dX3_thingsAtHand_82 ?_
      refine zo_i (v := (-1)) (by decide) ?_
      refine lv_iand hx hb dX3_thingsAtHand_83 ?_
      refine zo_i (v := 1023) (by decide) ?_
      refine lv_istore_n (lv' := [(2, .int 1023), (3, .int 1), (0, .ref rm), (1, .int x0)]) hx hb dX3_thingsAtHand_84 rfl hl (by decide) rfl (fun ls hl => ?_)
      refine lv_iinc (v := 2) (lv' := [(3, .int 2), (2, .int 1023), (0, .ref rm), (1, .int x0)]) hx hb dX3_thingsAtHand_85 hl (k := 1) rfl (by decide) (by decide) rfl (fun ls hl => ?_)
      refine lv_goto (tgt := 43) hx hb dX3_thingsAtHand_88 (by decide) ?_
      refine lv_iload_n hx hb dX3_thingsAtHand_43 rfl (lv_at hl 0 rfl) ?_
      refine lv_aload_n hx hb dX3_thingsAtHand_44 rfl (lv_at hl 2 rfl) ?_
      refine va_get (D := (dC, dI)) (ci := 5) (v := .int 2) (C := RX3) (T := TX3) (N := 12) hx hb hts zi_X3_thingsAtHand_X3 hown hK (zo_R hR0 hS hAr) 0 rfl rfl 4 (by decide) (hts (.fieldLink RX3 47 "LockRooms$Room" "lockCount" "I") (by decide +kernel)) (fun _ h9 => h9) rfl dX3_thingsAtHand_45 ?_
      refine lv_icmp_ge (tgt := 91) hx hb dX3_thingsAtHand_48 (by decide) (fun _ => ?_) (fun h => absurd h (by decide))
      refine lv_iload_n hx hb dX3_thingsAtHand_91 rfl (lv_at hl 1 rfl) ?_
      refine W.widen (k := 0) (n := 0) (Nat.le_of_ble_eq_true rfl) (Nat.le_of_ble_eq_true rfl) ?_
      exact W.iret hx hb hr (fun t ht hW => ⟨⟨1023, (), rfl, rfl, trivial⟩, hS.F ht⟩) hS.2.2 dX3_thingsAtHand_92
  · skip
    refine lv_aload_n hx hb dX3_thingsAtHand_59 rfl (lv_at hl 2 rfl) ?_
    refine va_get (D := (dC, dI)) (ci := 5) (v := .ref lk) (C := RX3) (T := TX3) (N := 12) hx hb hts zi_X3_thingsAtHand_X3 hown hK (zo_R hR0 hS hAr) 0 rfl rfl 0 (by decide) (hts (.fieldLink RX3 11 "LockRooms$Room" "locks" "[LLockRooms$Lock;") (by decide +kernel)) (fun _ h9 => h9) rfl dX3_thingsAtHand_60 ?_
    refine lv_iload_n hx hb dX3_thingsAtHand_63 rfl (lv_at hl 0 rfl) ?_
    refine va_aldq hx hb hK (zo_R hR0 hS hAr) 1 0 rfl rfl (by unfold vp_in; decide) dX3_thingsAtHand_64 ?_
    refine zo_q (v := .ref l0) (by rw [show Int32.toNatClampNeg 0 = 0 from by decide, hkl0]; rfl) ?_
    refine va_get (D := (dC, dI)) (ci := 3) (v := .int 0) (C := RX1) (T := TX1) (N := 10) hx hb hts zi_X3_thingsAtHand_X1 hown hK (zo_R hR0 hS hAr) 3 rfl rfl 4 (by decide) (hts (.fieldLink RX3 100 "LockRooms$Lock" "isOpen" "Z") (by decide +kernel)) (fun _ h9 => h9) rfl dX3_thingsAtHand_65 ?_
    refine lv_if_ne (tgt := 85) hx hb dX3_thingsAtHand_68 (by decide) (fun h => absurd h (by decide)) (fun _ => ?_)
    refine lv_iload_n hx hb dX3_thingsAtHand_71 rfl (lv_at hl 1 rfl) ?_
    refine lv_aload_n hx hb dX3_thingsAtHand_72 rfl (lv_at hl 2 rfl) ?_
    refine va_get (D := (dC, dI)) (ci := 5) (v := .ref lk) (C := RX3) (T := TX3) (N := 12) hx hb hts zi_X3_thingsAtHand_X3 hown hK (zo_R hR0 hS hAr) 0 rfl rfl 0 (by decide) (hts (.fieldLink RX3 11 "LockRooms$Room" "locks" "[LLockRooms$Lock;") (by decide +kernel)) (fun _ h9 => h9) rfl dX3_thingsAtHand_73 ?_
    refine lv_iload_n hx hb dX3_thingsAtHand_76 rfl (lv_at hl 0 rfl) ?_
    refine va_aldq hx hb hK (zo_R hR0 hS hAr) 1 0 rfl rfl (by unfold vp_in; decide) dX3_thingsAtHand_77 ?_
    refine zo_q (v := .ref l0) (by rw [show Int32.toNatClampNeg 0 = 0 from by decide, hkl0]; rfl) ?_
    refine va_get (D := (dC, dI)) (ci := 3) (v := .int 0) (C := RX1) (T := TX1) (N := 10) hx hb hts zi_X3_thingsAtHand_X1 hown hK (zo_R hR0 hS hAr) 3 rfl rfl 1 (by decide) (hts (.fieldLink RX3 81 "LockRooms$Lock" "keeps" "I") (by decide +kernel)) (fun _ h9 => h9) rfl dX3_thingsAtHand_78 ?_
    refine lv_iconst (v := (-1)) hx hb dX3_thingsAtHand_81 (by decide) ?_
    refine lv_ixor hx hb dX3_thingsAtHand_82 ?_
    refine zo_i (v := (-1)) (by decide) ?_
    refine lv_iand hx hb dX3_thingsAtHand_83 ?_
    refine zo_i (v := 1023) (by decide) ?_
    refine lv_istore_n (lv' := [(2, .int 1023), (3, .int 0), (0, .ref rm), (1, .int x0)]) hx hb dX3_thingsAtHand_84 rfl hl (by decide) rfl (fun ls hl => ?_)
    refine lv_iinc (v := 1) (lv' := [(3, .int 1), (2, .int 1023), (0, .ref rm), (1, .int x0)]) hx hb dX3_thingsAtHand_85 hl (k := 1) rfl (by decide) (by decide) rfl (fun ls hl => ?_)
    refine lv_goto (tgt := 43) hx hb dX3_thingsAtHand_88 (by decide) ?_
    refine lv_iload_n hx hb dX3_thingsAtHand_43 rfl (lv_at hl 0 rfl) ?_
    refine lv_aload_n hx hb dX3_thingsAtHand_44 rfl (lv_at hl 2 rfl) ?_
    refine va_get (D := (dC, dI)) (ci := 5) (v := .int 2) (C := RX3) (T := TX3) (N := 12) hx hb hts zi_X3_thingsAtHand_X3 hown hK (zo_R hR0 hS hAr) 0 rfl rfl 4 (by decide) (hts (.fieldLink RX3 47 "LockRooms$Room" "lockCount" "I") (by decide +kernel)) (fun _ h9 => h9) rfl dX3_thingsAtHand_45 ?_
    refine lv_icmp_ge (tgt := 91) hx hb dX3_thingsAtHand_48 (by decide) (fun h => absurd h (by decide)) (fun _ => ?_)
    refine lv_iload_n hx hb dX3_thingsAtHand_51 rfl (lv_at hl 3 rfl) ?_
    refine lv_iload_n hx hb dX3_thingsAtHand_52 rfl (lv_at hl 0 rfl) ?_
    have hPr := (zo_nil : va_P (dC, dI) vwCl [] H23)
    have hPc := hP.sub (ws' := []) [] rfl
    have hDc := hD.sub (ws' := []) [] (by decide) rfl
    have hKc := hK.sub (tys' := []) [] rfl
    have hFc := va_free (wc := []) hD hS hA [] rfl
    refine va_calli (va_runSN (As := [.int x0, .int 1]) (rest := []) ⟨hx, hb, hml, hown, hts⟩ (cz_QisIn l dC dI ed H23.size x0 1) ⟨(va_cnB 2 hts gX3_thingsAtHand_X6_isIn_n111 rfl rfl rfl (hN.2.1 ("LockRooms$Room", 111, yX6_isIn, "LockRooms") (List.mem_of_getElem? (i := 5) rfl)) (hts (.initialized RX6) (by decide +kernel)) (by decide +kernel) ⟨Nat.le_of_ble_eq_true rfl, Nat.le_of_ble_eq_true rfl⟩), (hts (.static yX6_isIn) (by decide +kernel)), trivial⟩ ⟨zb_blind, fun U hU hW => ⟨rfl, zb_mk hU hW hPr hPc hKc hDc hN hH hS hFc zx_e⟩⟩ rfl rfl hl.1 rfl (lv_room (Nat.le_of_ble_eq_true rfl)) dX3_thingsAtHand_53 ⟨Nat.le_of_ble_eq_true rfl, Nat.le_of_ble_eq_true rfl⟩) hS (fun q _ h => hFc q h) hFc (fun r30 u t H29 locs ht hvm hw hB hz1 hk1 hS => ?_)
    obtain rfl : r30 = (zIsIn x0 1) := hw
    have hP := zo_K hP hk1
    refine lv_if_eq (tgt := 85) hx hb dX3_thingsAtHand_56 (by decide) (fun c31 => ?_) (fun c31 => ?_)
    · skip
      refine lv_iinc (v := 2) (lv' := [(3, .int 2), (2, .int 1023), (0, .ref rm), (1, .int x0)]) hx hb dX3_thingsAtHand_85 hl (k := 0) rfl (by decide) (by decide) rfl (fun ls hl => ?_)
      refine lv_goto (tgt := 43) hx hb dX3_thingsAtHand_88 (by decide) ?_
      refine lv_iload_n hx hb dX3_thingsAtHand_43 rfl (lv_at hl 0 rfl) ?_
      refine lv_aload_n hx hb dX3_thingsAtHand_44 rfl (lv_at hl 2 rfl) ?_
      refine va_get (D := (dC, dI)) (ci := 5) (v := .int 2) (C := RX3) (T := TX3) (N := 12) hx hb hts zi_X3_thingsAtHand_X3 hown hK (zo_R hR0 hS hAr) 0 rfl rfl 4 (by decide) (hts (.fieldLink RX3 47 "LockRooms$Room" "lockCount" "I") (by decide +kernel)) (fun _ h9 => h9) rfl dX3_thingsAtHand_45 ?_
      refine lv_icmp_ge (tgt := 91) hx hb dX3_thingsAtHand_48 (by decide) (fun _ => ?_) (fun h => absurd h (by decide))
      refine lv_iload_n hx hb dX3_thingsAtHand_91 rfl (lv_at hl 1 rfl) ?_
      refine W.widen (k := 0) (n := 0) (Nat.le_of_ble_eq_true rfl) (Nat.le_of_ble_eq_true rfl) ?_
      exact W.iret hx hb hr (fun t ht hW => ⟨⟨1023, (), rfl, rfl, trivial⟩, hS.F ht⟩) hS.2.2 dX3_thingsAtHand_92
    · skip
      refine lv_aload_n hx hb dX3_thingsAtHand_59 rfl (lv_at hl 2 rfl) ?_
      refine va_get (D := (dC, dI)) (ci := 5) (v := .ref lk) (C := RX3) (T := TX3) (N := 12) hx hb hts zi_X3_thingsAtHand_X3 hown hK (zo_R hR0 hS hAr) 0 rfl rfl 0 (by decide) (hts (.fieldLink RX3 11 "LockRooms$Room" "locks" "[LLockRooms$Lock;") (by decide +kernel)) (fun _ h9 => h9) rfl dX3_thingsAtHand_60 ?_
      refine lv_iload_n hx hb dX3_thingsAtHand_63 rfl (lv_at hl 0 rfl) ?_
      refine va_aldq hx hb hK (zo_R hR0 hS hAr) 1 0 rfl rfl (by unfold vp_in; decide) dX3_thingsAtHand_64 ?_
      refine zo_q (v := .ref l1) (by rw [show Int32.toNatClampNeg 1 = 1 from by decide, hkl1]; rfl) ?_
      refine va_get (D := (dC, dI)) (ci := 3) (v := .int 0) (C := RX1) (T := TX1) (N := 10) hx hb hts zi_X3_thingsAtHand_X1 hown hK (zo_R hR0 hS hAr) 4 rfl rfl 4 (by decide) (hts (.fieldLink RX3 100 "LockRooms$Lock" "isOpen" "Z") (by decide +kernel)) (fun _ h9 => h9) rfl dX3_thingsAtHand_65 ?_
      refine lv_if_ne (tgt := 85) hx hb dX3_thingsAtHand_68 (by decide) (fun h => absurd h (by decide)) (fun _ => ?_)
      refine lv_iload_n hx hb dX3_thingsAtHand_71 rfl (lv_at hl 1 rfl) ?_
      refine lv_aload_n hx hb dX3_thingsAtHand_72 rfl (lv_at hl 2 rfl) ?_
      refine va_get (D := (dC, dI)) (ci := 5) (v := .ref lk) (C := RX3) (T := TX3) (N := 12) hx hb hts zi_X3_thingsAtHand_X3 hown hK (zo_R hR0 hS hAr) 0 rfl rfl 0 (by decide) (hts (.fieldLink RX3 11 "LockRooms$Room" "locks" "[LLockRooms$Lock;") (by decide +kernel)) (fun _ h9 => h9) rfl dX3_thingsAtHand_73 ?_
      refine lv_iload_n hx hb dX3_thingsAtHand_76 rfl (lv_at hl 0 rfl) ?_
      refine va_aldq hx hb hK (zo_R hR0 hS hAr) 1 0 rfl rfl (by unfold vp_in; decide) dX3_thingsAtHand_77 ?_
      refine zo_q (v := .ref l1) (by rw [show Int32.toNatClampNeg 1 = 1 from by decide, hkl1]; rfl) ?_
      refine va_get (D := (dC, dI)) (ci := 3) (v := .int 0) (C := RX1) (T := TX1) (N := 10) hx hb hts zi_X3_thingsAtHand_X1 hown hK (zo_R hR0 hS hAr) 4 rfl rfl 1 (by decide) (hts (.fieldLink RX3 81 "LockRooms$Lock" "keeps" "I") (by decide +kernel)) (fun _ h9 => h9) rfl dX3_thingsAtHand_78 ?_
      refine lv_iconst (v := (-1)) hx hb dX3_thingsAtHand_81 (by decide) ?_
      refine lv_ixor hx hb dX3_thingsAtHand_82 ?_
      refine zo_i (v := (-1)) (by decide) ?_
      refine lv_iand hx hb dX3_thingsAtHand_83 ?_
      refine zo_i (v := 1023) (by decide) ?_
      refine lv_istore_n (lv' := [(2, .int 1023), (3, .int 1), (0, .ref rm), (1, .int x0)]) hx hb dX3_thingsAtHand_84 rfl hl (by decide) rfl (fun ls hl => ?_)
      refine lv_iinc (v := 2) (lv' := [(3, .int 2), (2, .int 1023), (0, .ref rm), (1, .int x0)]) hx hb dX3_thingsAtHand_85 hl (k := 1) rfl (by decide) (by decide) rfl (fun ls hl => ?_)
      refine lv_goto (tgt := 43) hx hb dX3_thingsAtHand_88 (by decide) ?_
      refine lv_iload_n hx hb dX3_thingsAtHand_43 rfl (lv_at hl 0 rfl) ?_
      refine lv_aload_n hx hb dX3_thingsAtHand_44 rfl (lv_at hl 2 rfl) ?_
      refine va_get (D := (dC, dI)) (ci := 5) (v := .int 2) (C := RX3) (T := TX3) (N := 12) hx hb hts zi_X3_thingsAtHand_X3 hown hK (zo_R hR0 hS hAr) 0 rfl rfl 4 (by decide) (hts (.fieldLink RX3 47 "LockRooms$Room" "lockCount" "I") (by decide +kernel)) (fun _ h9 => h9) rfl dX3_thingsAtHand_45 ?_
      refine lv_icmp_ge (tgt := 91) hx hb dX3_thingsAtHand_48 (by decide) (fun _ => ?_) (fun h => absurd h (by decide))
      refine lv_iload_n hx hb dX3_thingsAtHand_91 rfl (lv_at hl 1 rfl) ?_
      refine W.widen (k := 0) (n := 0) (Nat.le_of_ble_eq_true rfl) (Nat.le_of_ble_eq_true rfl) ?_
      exact W.iret hx hb hr (fun t ht hW => ⟨⟨1023, (), rfl, rfl, trivial⟩, hS.F ht⟩) hS.2.2 dX3_thingsAtHand_92
set_option maxHeartbeats 4000000 in
set_option maxRecDepth 100000 in
theorem cz_Qtell_0 (l : Launch) (dC : Nat → ClassId) (dI : Nat → Nat → Nat) (ed sz : Nat) (rm : Nat) (lk : Nat) (th : Nat) (pl : Nat) (gm : Nat) : Met l yX3_tell wsX3_tell ({ frames := 0, cells := 0, slots := 0, locals := 0 } : Jvm.Room) (va_Pc [.ref rm, .int 0] (zB dC dI ed sz [(rm, .inr (5, [.ref lk, .ref th, .ref pl, .ref gm, .int 2, .int 10, .int 0, .int 0, .int 1, .int 0, .int 0, .int 0])), (gm, .inr (2, [.int 0, .int 0, .int 0, .int 0, .int 0, .int (-1), .long 0]))] [] [])) (va_Qi (fun (r : Int32) (_ : Unit) => r = 0) (fun (_ : Unit) (_ : State) => True) (va_A [] sz)) 0 0 (va_A [] sz) := by
  refine Met.ofW (cc := cX3_tell) (maxL := 2) (ret := (some .int)) (by decide) rfl ?_
  intro p e s m args below meth c s₁ B hml hv
  obtain ⟨rfl, hsz, hR0, hP, hK, hD0, hN, hH, hX0⟩ := hv
  have hx := B.exec
  have hb := B.bytes
  have hr := B.returns
  have hts := atoms_spec (ws := wsX3_tell) B.pre
  have hown : s.vm.findClass RX3 = some m.cls := findClass_of_methodNamed B.named
  have hlocks := B.notSynchronized
  subst hsz
  have hD := hD0.self (sz := s.heap.size)
  have hAr := zx_A hX0 hR0
  generalize hAe : va_A [] s.heap.size = A at hD hAr hH ⊢
  have hA : ∀ q : Nat, s.heap.size ≤ q → A q := fun q h => by rw [← hAe]; exact Or.inr h
  have hS : va_S A s.heap s.heap [] := va_S.rf
  have hl := lv_entry ([.ref rm, .int 0]) (n := 2) (Nat.le_of_ble_eq_true rfl)
  rw [lg_entry_eq]
  generalize (lg_sl ([.ref rm, .int 0]) ++ List.replicate (2 - (lg_sl ([.ref rm, .int 0])).length) Slot.unset).toArray = ls at hl ⊢
  have hl : lv_has ls 2 [(0, .ref rm), (1, .int 0)] := hl
  refine lv_iload_n hx hb dX3_tell_0 rfl (lv_at hl 1 rfl) ?_
  refine lv_tableIn (off := 87) (tgt := 88) hx hb dX3_tell_1 (by decide) (by decide) rfl (by decide) ?_
  refine lv_aload_n hx hb dX3_tell_88 rfl (lv_at hl 0 rfl) ?_
  refine va_get (D := (dC, dI)) (ci := 5) (v := .int 0) (C := RX3) (T := TX3) (N := 12) hx hb hts zi_X3_tell_X3 hown hK hR0 0 rfl rfl 9 (by decide) (hts (.fieldLink RX3 69 "LockRooms$Room" "now" "I") (by decide +kernel)) (fun _ h9 => h9) rfl dX3_tell_89 ?_
  refine W.widen (k := 0) (n := 0) (Nat.le_of_ble_eq_true rfl) (Nat.le_of_ble_eq_true rfl) ?_
  exact W.iret hx hb hr (fun t ht hW => ⟨⟨0, (), rfl, rfl, trivial⟩, hS.F ht⟩) hS.2.2 dX3_tell_92
set_option maxHeartbeats 4000000 in
set_option maxRecDepth 100000 in
theorem cz_Qtell_1 (l : Launch) (dC : Nat → ClassId) (dI : Nat → Nat → Nat) (ed sz : Nat) (rm : Nat) (lk : Nat) (th : Nat) (pl : Nat) (gm : Nat) : Met l yX3_tell wsX3_tell ({ frames := 0, cells := 0, slots := 0, locals := 0 } : Jvm.Room) (va_Pc [.ref rm, .int 1] (zB dC dI ed sz [(rm, .inr (5, [.ref lk, .ref th, .ref pl, .ref gm, .int 2, .int 10, .int 0, .int 0, .int 1, .int 0, .int 0, .int 0])), (gm, .inr (2, [.int 0, .int 0, .int 0, .int 0, .int 0, .int (-1), .long 0]))] [] [])) (va_Qi (fun (r : Int32) (_ : Unit) => r = 2) (fun (_ : Unit) (_ : State) => True) (va_A [] sz)) 0 0 (va_A [] sz) := by
  refine Met.ofW (cc := cX3_tell) (maxL := 2) (ret := (some .int)) (by decide) rfl ?_
  intro p e s m args below meth c s₁ B hml hv
  obtain ⟨rfl, hsz, hR0, hP, hK, hD0, hN, hH, hX0⟩ := hv
  have hx := B.exec
  have hb := B.bytes
  have hr := B.returns
  have hts := atoms_spec (ws := wsX3_tell) B.pre
  have hown : s.vm.findClass RX3 = some m.cls := findClass_of_methodNamed B.named
  have hlocks := B.notSynchronized
  subst hsz
  have hD := hD0.self (sz := s.heap.size)
  have hAr := zx_A hX0 hR0
  generalize hAe : va_A [] s.heap.size = A at hD hAr hH ⊢
  have hA : ∀ q : Nat, s.heap.size ≤ q → A q := fun q h => by rw [← hAe]; exact Or.inr h
  have hS : va_S A s.heap s.heap [] := va_S.rf
  have hl := lv_entry ([.ref rm, .int 1]) (n := 2) (Nat.le_of_ble_eq_true rfl)
  rw [lg_entry_eq]
  generalize (lg_sl ([.ref rm, .int 1]) ++ List.replicate (2 - (lg_sl ([.ref rm, .int 1])).length) Slot.unset).toArray = ls at hl ⊢
  have hl : lv_has ls 2 [(0, .ref rm), (1, .int 1)] := hl
  refine lv_iload_n hx hb dX3_tell_0 rfl (lv_at hl 1 rfl) ?_
  refine lv_tableIn (off := 92) (tgt := 93) hx hb dX3_tell_1 (by decide) (by decide) rfl (by decide) ?_
  refine lv_aload_n hx hb dX3_tell_93 rfl (lv_at hl 0 rfl) ?_
  refine va_get (D := (dC, dI)) (ci := 5) (v := .int 2) (C := RX3) (T := TX3) (N := 12) hx hb hts zi_X3_tell_X3 hown hK hR0 0 rfl rfl 4 (by decide) (hts (.fieldLink RX3 47 "LockRooms$Room" "lockCount" "I") (by decide +kernel)) (fun _ h9 => h9) rfl dX3_tell_94 ?_
  refine W.widen (k := 0) (n := 0) (Nat.le_of_ble_eq_true rfl) (Nat.le_of_ble_eq_true rfl) ?_
  exact W.iret hx hb hr (fun t ht hW => ⟨⟨2, (), rfl, rfl, trivial⟩, hS.F ht⟩) hS.2.2 dX3_tell_97
set_option maxHeartbeats 4000000 in
set_option maxRecDepth 100000 in
theorem cz_Qtell_2 (l : Launch) (dC : Nat → ClassId) (dI : Nat → Nat → Nat) (ed sz : Nat) (rm : Nat) (lk : Nat) (th : Nat) (pl : Nat) (gm : Nat) : Met l yX3_tell wsX3_tell ({ frames := 0, cells := 0, slots := 0, locals := 0 } : Jvm.Room) (va_Pc [.ref rm, .int 2] (zB dC dI ed sz [(rm, .inr (5, [.ref lk, .ref th, .ref pl, .ref gm, .int 2, .int 10, .int 0, .int 0, .int 1, .int 0, .int 0, .int 0])), (gm, .inr (2, [.int 0, .int 0, .int 0, .int 0, .int 0, .int (-1), .long 0]))] [] [])) (va_Qi (fun (r : Int32) (_ : Unit) => r = 10) (fun (_ : Unit) (_ : State) => True) (va_A [] sz)) 0 0 (va_A [] sz) := by
  refine Met.ofW (cc := cX3_tell) (maxL := 2) (ret := (some .int)) (by decide) rfl ?_
  intro p e s m args below meth c s₁ B hml hv
  obtain ⟨rfl, hsz, hR0, hP, hK, hD0, hN, hH, hX0⟩ := hv
  have hx := B.exec
  have hb := B.bytes
  have hr := B.returns
  have hts := atoms_spec (ws := wsX3_tell) B.pre
  have hown : s.vm.findClass RX3 = some m.cls := findClass_of_methodNamed B.named
  have hlocks := B.notSynchronized
  subst hsz
  have hD := hD0.self (sz := s.heap.size)
  have hAr := zx_A hX0 hR0
  generalize hAe : va_A [] s.heap.size = A at hD hAr hH ⊢
  have hA : ∀ q : Nat, s.heap.size ≤ q → A q := fun q h => by rw [← hAe]; exact Or.inr h
  have hS : va_S A s.heap s.heap [] := va_S.rf
  have hl := lv_entry ([.ref rm, .int 2]) (n := 2) (Nat.le_of_ble_eq_true rfl)
  rw [lg_entry_eq]
  generalize (lg_sl ([.ref rm, .int 2]) ++ List.replicate (2 - (lg_sl ([.ref rm, .int 2])).length) Slot.unset).toArray = ls at hl ⊢
  have hl : lv_has ls 2 [(0, .ref rm), (1, .int 2)] := hl
  refine lv_iload_n hx hb dX3_tell_0 rfl (lv_at hl 1 rfl) ?_
  refine lv_tableIn (off := 97) (tgt := 98) hx hb dX3_tell_1 (by decide) (by decide) rfl (by decide) ?_
  refine lv_aload_n hx hb dX3_tell_98 rfl (lv_at hl 0 rfl) ?_
  refine va_get (D := (dC, dI)) (ci := 5) (v := .int 10) (C := RX3) (T := TX3) (N := 12) hx hb hts zi_X3_tell_X3 hown hK hR0 0 rfl rfl 5 (by decide) (hts (.fieldLink RX3 54 "LockRooms$Room" "thingCount" "I") (by decide +kernel)) (fun _ h9 => h9) rfl dX3_tell_99 ?_
  refine W.widen (k := 0) (n := 0) (Nat.le_of_ble_eq_true rfl) (Nat.le_of_ble_eq_true rfl) ?_
  exact W.iret hx hb hr (fun t ht hW => ⟨⟨10, (), rfl, rfl, trivial⟩, hS.F ht⟩) hS.2.2 dX3_tell_102
set_option maxHeartbeats 4000000 in
set_option maxRecDepth 100000 in
theorem cz_Qtell_3 (l : Launch) (dC : Nat → ClassId) (dI : Nat → Nat → Nat) (ed sz : Nat) (rm : Nat) (lk : Nat) (th : Nat) (pl : Nat) (gm : Nat) : Met l yX3_tell wsX3_tell ({ frames := 0, cells := 0, slots := 0, locals := 0 } : Jvm.Room) (va_Pc [.ref rm, .int 3] (zB dC dI ed sz [(rm, .inr (5, [.ref lk, .ref th, .ref pl, .ref gm, .int 2, .int 10, .int 0, .int 0, .int 1, .int 0, .int 0, .int 0])), (gm, .inr (2, [.int 0, .int 0, .int 0, .int 0, .int 0, .int (-1), .long 0]))] [] [])) (va_Qi (fun (r : Int32) (_ : Unit) => r = 0) (fun (_ : Unit) (_ : State) => True) (va_A [] sz)) 0 0 (va_A [] sz) := by
  refine Met.ofW (cc := cX3_tell) (maxL := 2) (ret := (some .int)) (by decide) rfl ?_
  intro p e s m args below meth c s₁ B hml hv
  obtain ⟨rfl, hsz, hR0, hP, hK, hD0, hN, hH, hX0⟩ := hv
  have hx := B.exec
  have hb := B.bytes
  have hr := B.returns
  have hts := atoms_spec (ws := wsX3_tell) B.pre
  have hown : s.vm.findClass RX3 = some m.cls := findClass_of_methodNamed B.named
  have hlocks := B.notSynchronized
  subst hsz
  have hD := hD0.self (sz := s.heap.size)
  have hAr := zx_A hX0 hR0
  generalize hAe : va_A [] s.heap.size = A at hD hAr hH ⊢
  have hA : ∀ q : Nat, s.heap.size ≤ q → A q := fun q h => by rw [← hAe]; exact Or.inr h
  have hS : va_S A s.heap s.heap [] := va_S.rf
  have hl := lv_entry ([.ref rm, .int 3]) (n := 2) (Nat.le_of_ble_eq_true rfl)
  rw [lg_entry_eq]
  generalize (lg_sl ([.ref rm, .int 3]) ++ List.replicate (2 - (lg_sl ([.ref rm, .int 3])).length) Slot.unset).toArray = ls at hl ⊢
  have hl : lv_has ls 2 [(0, .ref rm), (1, .int 3)] := hl
  refine lv_iload_n hx hb dX3_tell_0 rfl (lv_at hl 1 rfl) ?_
  refine lv_tableIn (off := 102) (tgt := 103) hx hb dX3_tell_1 (by decide) (by decide) rfl (by decide) ?_
  refine lv_aload_n hx hb dX3_tell_103 rfl (lv_at hl 0 rfl) ?_
  refine va_get (D := (dC, dI)) (ci := 5) (v := .int 0) (C := RX3) (T := TX3) (N := 12) hx hb hts zi_X3_tell_X3 hown hK hR0 0 rfl rfl 6 (by decide) (hts (.fieldLink RX3 60 "LockRooms$Room" "playerCount" "I") (by decide +kernel)) (fun _ h9 => h9) rfl dX3_tell_104 ?_
  refine W.widen (k := 0) (n := 0) (Nat.le_of_ble_eq_true rfl) (Nat.le_of_ble_eq_true rfl) ?_
  exact W.iret hx hb hr (fun t ht hW => ⟨⟨0, (), rfl, rfl, trivial⟩, hS.F ht⟩) hS.2.2 dX3_tell_107
set_option maxHeartbeats 4000000 in
set_option maxRecDepth 100000 in
theorem cz_Qtell_4 (l : Launch) (dC : Nat → ClassId) (dI : Nat → Nat → Nat) (ed sz : Nat) (rm : Nat) (lk : Nat) (th : Nat) (pl : Nat) (gm : Nat) : Met l yX3_tell wsX3_tell ({ frames := 1, cells := 0, slots := 0, locals := 20 } : Jvm.Room) (va_Pc [.ref rm, .int 4] (zB dC dI ed sz [(rm, .inr (5, [.ref lk, .ref th, .ref pl, .ref gm, .int 2, .int 10, .int 0, .int 0, .int 1, .int 0, .int 0, .int 0])), (gm, .inr (2, [.int 0, .int 0, .int 0, .int 0, .int 0, .int (-1), .long 0]))] [] [])) (va_Qi (fun (r : Int32) (_ : Unit) => r = 0) (fun (_ : Unit) (_ : State) => True) (va_A [] sz)) 0 0 (va_A [] sz) := by
  refine Met.ofW (cc := cX3_tell) (maxL := 2) (ret := (some .int)) (by decide) rfl ?_
  intro p e s m args below meth c s₁ B hml hv
  obtain ⟨rfl, hsz, hR0, hP, hK, hD0, hN, hH, hX0⟩ := hv
  have hx := B.exec
  have hb := B.bytes
  have hr := B.returns
  have hts := atoms_spec (ws := wsX3_tell) B.pre
  have hown : s.vm.findClass RX3 = some m.cls := findClass_of_methodNamed B.named
  have hlocks := B.notSynchronized
  subst hsz
  have hD := hD0.self (sz := s.heap.size)
  have hAr := zx_A hX0 hR0
  generalize hAe : va_A [] s.heap.size = A at hD hAr hH ⊢
  have hA : ∀ q : Nat, s.heap.size ≤ q → A q := fun q h => by rw [← hAe]; exact Or.inr h
  have hS : va_S A s.heap s.heap [] := va_S.rf
  have hl := lv_entry ([.ref rm, .int 4]) (n := 2) (Nat.le_of_ble_eq_true rfl)
  rw [lg_entry_eq]
  generalize (lg_sl ([.ref rm, .int 4]) ++ List.replicate (2 - (lg_sl ([.ref rm, .int 4])).length) Slot.unset).toArray = ls at hl ⊢
  have hl : lv_has ls 2 [(0, .ref rm), (1, .int 4)] := hl
  refine lv_iload_n hx hb dX3_tell_0 rfl (lv_at hl 1 rfl) ?_
  refine lv_tableIn (off := 107) (tgt := 108) hx hb dX3_tell_1 (by decide) (by decide) rfl (by decide) ?_
  refine lv_aload_n hx hb dX3_tell_108 rfl (lv_at hl 0 rfl) ?_
  refine va_get (D := (dC, dI)) (ci := 5) (v := .ref gm) (C := RX3) (T := TX3) (N := 12) hx hb hts zi_X3_tell_X3 hown hK hR0 0 rfl rfl 3 (by decide) (hts (.fieldLink RX3 32 "LockRooms$Room" "games" "LLockRooms$Games;") (by decide +kernel)) (fun _ h9 => h9) rfl dX3_tell_109 ?_
  refine va_get (D := (dC, dI)) (ci := 2) (v := .int 0) (C := RX0) (T := TX0) (N := 7) hx hb hts zi_X3_tell_X0 hown hK hR0 1 rfl rfl 0 (by decide) (hts (.fieldLink RX3 134 "LockRooms$Games" "isRunning" "Z") (by decide +kernel)) (fun _ h9 => h9) rfl dX3_tell_112 ?_
  have hPr := (zo_nil : va_P (dC, dI) vwCl [] s.heap)
  have hPc := hP.sub (ws' := []) [] rfl
  have hDc := hD.sub (ws' := []) [] (by decide) rfl
  have hKc := hK.sub (tys' := []) [] rfl
  have hFc := va_free (wc := []) hD hS hA [] rfl
  refine va_calli (va_runSN (As := [.int 0]) (rest := []) ⟨hx, hb, hml, hown, hts⟩ (cz_oneIf_0 l dC dI ed s.heap.size ) ⟨(va_cnB 1 hts gX3_tell_X6_oneIf_n147 rfl rfl rfl (hN.2.1 ("LockRooms$Room", 147, yX6_oneIf, "LockRooms") (List.mem_of_getElem? (i := 8) rfl)) (hts (.initialized RX6) (by decide +kernel)) (by decide +kernel) ⟨Nat.le_of_ble_eq_true rfl, Nat.le_of_ble_eq_true rfl⟩), (hts (.static yX6_oneIf) (by decide +kernel)), trivial⟩ ⟨zb_blind, fun U hU hW => ⟨rfl, zb_mk hU hW hPr hPc hKc hDc hN hH hS hFc zx_e⟩⟩ rfl rfl hl.1 rfl (lv_room (Nat.le_of_ble_eq_true rfl)) dX3_tell_115 ⟨Nat.le_of_ble_eq_true rfl, Nat.le_of_ble_eq_true rfl⟩) hS (fun q _ h => hFc q h) hFc (fun r2 u t H1 locs ht hvm hw hB hz1 hk1 hS => ?_)
  obtain rfl : r2 = 0 := hw
  have hP := zo_K hP hk1
  refine W.widen (k := 0) (n := 0) (Nat.le_of_ble_eq_true rfl) (Nat.le_of_ble_eq_true rfl) ?_
  exact W.iret hx hb hr (fun t ht hW => ⟨⟨0, (), rfl, rfl, trivial⟩, hS.F ht⟩) hS.2.2 dX3_tell_118
set_option maxHeartbeats 4000000 in
set_option maxRecDepth 100000 in
theorem cz_Qtell_5 (l : Launch) (dC : Nat → ClassId) (dI : Nat → Nat → Nat) (ed sz : Nat) (rm : Nat) (lk : Nat) (th : Nat) (pl : Nat) (gm : Nat) : Met l yX3_tell wsX3_tell ({ frames := 0, cells := 0, slots := 0, locals := 0 } : Jvm.Room) (va_Pc [.ref rm, .int 5] (zB dC dI ed sz [(rm, .inr (5, [.ref lk, .ref th, .ref pl, .ref gm, .int 2, .int 10, .int 0, .int 0, .int 1, .int 0, .int 0, .int 0])), (gm, .inr (2, [.int 0, .int 0, .int 0, .int 0, .int 0, .int (-1), .long 0]))] [] [])) (va_Qi (fun (r : Int32) (_ : Unit) => r = 0) (fun (_ : Unit) (_ : State) => True) (va_A [] sz)) 0 0 (va_A [] sz) := by
  refine Met.ofW (cc := cX3_tell) (maxL := 2) (ret := (some .int)) (by decide) rfl ?_
  intro p e s m args below meth c s₁ B hml hv
  obtain ⟨rfl, hsz, hR0, hP, hK, hD0, hN, hH, hX0⟩ := hv
  have hx := B.exec
  have hb := B.bytes
  have hr := B.returns
  have hts := atoms_spec (ws := wsX3_tell) B.pre
  have hown : s.vm.findClass RX3 = some m.cls := findClass_of_methodNamed B.named
  have hlocks := B.notSynchronized
  subst hsz
  have hD := hD0.self (sz := s.heap.size)
  have hAr := zx_A hX0 hR0
  generalize hAe : va_A [] s.heap.size = A at hD hAr hH ⊢
  have hA : ∀ q : Nat, s.heap.size ≤ q → A q := fun q h => by rw [← hAe]; exact Or.inr h
  have hS : va_S A s.heap s.heap [] := va_S.rf
  have hl := lv_entry ([.ref rm, .int 5]) (n := 2) (Nat.le_of_ble_eq_true rfl)
  rw [lg_entry_eq]
  generalize (lg_sl ([.ref rm, .int 5]) ++ List.replicate (2 - (lg_sl ([.ref rm, .int 5])).length) Slot.unset).toArray = ls at hl ⊢
  have hl : lv_has ls 2 [(0, .ref rm), (1, .int 5)] := hl
  refine lv_iload_n hx hb dX3_tell_0 rfl (lv_at hl 1 rfl) ?_
  refine lv_tableIn (off := 118) (tgt := 119) hx hb dX3_tell_1 (by decide) (by decide) rfl (by decide) ?_
  refine lv_aload_n hx hb dX3_tell_119 rfl (lv_at hl 0 rfl) ?_
  refine va_get (D := (dC, dI)) (ci := 5) (v := .ref gm) (C := RX3) (T := TX3) (N := 12) hx hb hts zi_X3_tell_X3 hown hK hR0 0 rfl rfl 3 (by decide) (hts (.fieldLink RX3 32 "LockRooms$Room" "games" "LLockRooms$Games;") (by decide +kernel)) (fun _ h9 => h9) rfl dX3_tell_120 ?_
  refine va_get (D := (dC, dI)) (ci := 2) (v := .int 0) (C := RX0) (T := TX0) (N := 7) hx hb hts zi_X3_tell_X0 hown hK hR0 1 rfl rfl 1 (by decide) (hts (.fieldLink RX3 137 "LockRooms$Games" "time" "I") (by decide +kernel)) (fun _ h9 => h9) rfl dX3_tell_123 ?_
  refine W.widen (k := 0) (n := 0) (Nat.le_of_ble_eq_true rfl) (Nat.le_of_ble_eq_true rfl) ?_
  exact W.iret hx hb hr (fun t ht hW => ⟨⟨0, (), rfl, rfl, trivial⟩, hS.F ht⟩) hS.2.2 dX3_tell_126
set_option maxHeartbeats 4000000 in
set_option maxRecDepth 100000 in
theorem cz_Qtell_6 (l : Launch) (dC : Nat → ClassId) (dI : Nat → Nat → Nat) (ed sz : Nat) (rm : Nat) (lk : Nat) (th : Nat) (pl : Nat) (gm : Nat) : Met l yX3_tell wsX3_tell ({ frames := 0, cells := 0, slots := 0, locals := 0 } : Jvm.Room) (va_Pc [.ref rm, .int 6] (zB dC dI ed sz [(rm, .inr (5, [.ref lk, .ref th, .ref pl, .ref gm, .int 2, .int 10, .int 0, .int 0, .int 1, .int 0, .int 0, .int 0])), (gm, .inr (2, [.int 0, .int 0, .int 0, .int 0, .int 0, .int (-1), .long 0]))] [] [])) (va_Qi (fun (r : Int32) (_ : Unit) => r = 0) (fun (_ : Unit) (_ : State) => True) (va_A [] sz)) 0 0 (va_A [] sz) := by
  refine Met.ofW (cc := cX3_tell) (maxL := 2) (ret := (some .int)) (by decide) rfl ?_
  intro p e s m args below meth c s₁ B hml hv
  obtain ⟨rfl, hsz, hR0, hP, hK, hD0, hN, hH, hX0⟩ := hv
  have hx := B.exec
  have hb := B.bytes
  have hr := B.returns
  have hts := atoms_spec (ws := wsX3_tell) B.pre
  have hown : s.vm.findClass RX3 = some m.cls := findClass_of_methodNamed B.named
  have hlocks := B.notSynchronized
  subst hsz
  have hD := hD0.self (sz := s.heap.size)
  have hAr := zx_A hX0 hR0
  generalize hAe : va_A [] s.heap.size = A at hD hAr hH ⊢
  have hA : ∀ q : Nat, s.heap.size ≤ q → A q := fun q h => by rw [← hAe]; exact Or.inr h
  have hS : va_S A s.heap s.heap [] := va_S.rf
  have hl := lv_entry ([.ref rm, .int 6]) (n := 2) (Nat.le_of_ble_eq_true rfl)
  rw [lg_entry_eq]
  generalize (lg_sl ([.ref rm, .int 6]) ++ List.replicate (2 - (lg_sl ([.ref rm, .int 6])).length) Slot.unset).toArray = ls at hl ⊢
  have hl : lv_has ls 2 [(0, .ref rm), (1, .int 6)] := hl
  refine lv_iload_n hx hb dX3_tell_0 rfl (lv_at hl 1 rfl) ?_
  refine lv_tableIn (off := 126) (tgt := 127) hx hb dX3_tell_1 (by decide) (by decide) rfl (by decide) ?_
  refine lv_aload_n hx hb dX3_tell_127 rfl (lv_at hl 0 rfl) ?_
  refine va_get (D := (dC, dI)) (ci := 5) (v := .ref gm) (C := RX3) (T := TX3) (N := 12) hx hb hts zi_X3_tell_X3 hown hK hR0 0 rfl rfl 3 (by decide) (hts (.fieldLink RX3 32 "LockRooms$Room" "games" "LLockRooms$Games;") (by decide +kernel)) (fun _ h9 => h9) rfl dX3_tell_128 ?_
  refine va_get (D := (dC, dI)) (ci := 2) (v := .int 0) (C := RX0) (T := TX0) (N := 7) hx hb hts zi_X3_tell_X0 hown hK hR0 1 rfl rfl 3 (by decide) (hts (.fieldLink RX3 225 "LockRooms$Games" "solved" "I") (by decide +kernel)) (fun _ h9 => h9) rfl dX3_tell_131 ?_
  refine W.widen (k := 0) (n := 0) (Nat.le_of_ble_eq_true rfl) (Nat.le_of_ble_eq_true rfl) ?_
  exact W.iret hx hb hr (fun t ht hW => ⟨⟨0, (), rfl, rfl, trivial⟩, hS.F ht⟩) hS.2.2 dX3_tell_134
set_option maxHeartbeats 4000000 in
set_option maxRecDepth 100000 in
theorem cz_Qtell_7 (l : Launch) (dC : Nat → ClassId) (dI : Nat → Nat → Nat) (ed sz : Nat) (rm : Nat) (lk : Nat) (th : Nat) (pl : Nat) (gm : Nat) : Met l yX3_tell wsX3_tell ({ frames := 0, cells := 0, slots := 0, locals := 0 } : Jvm.Room) (va_Pc [.ref rm, .int 7] (zB dC dI ed sz [(rm, .inr (5, [.ref lk, .ref th, .ref pl, .ref gm, .int 2, .int 10, .int 0, .int 0, .int 1, .int 0, .int 0, .int 0])), (gm, .inr (2, [.int 0, .int 0, .int 0, .int 0, .int 0, .int (-1), .long 0]))] [] [])) (va_Qi (fun (r : Int32) (_ : Unit) => r = 0) (fun (_ : Unit) (_ : State) => True) (va_A [] sz)) 0 0 (va_A [] sz) := by
  refine Met.ofW (cc := cX3_tell) (maxL := 2) (ret := (some .int)) (by decide) rfl ?_
  intro p e s m args below meth c s₁ B hml hv
  obtain ⟨rfl, hsz, hR0, hP, hK, hD0, hN, hH, hX0⟩ := hv
  have hx := B.exec
  have hb := B.bytes
  have hr := B.returns
  have hts := atoms_spec (ws := wsX3_tell) B.pre
  have hown : s.vm.findClass RX3 = some m.cls := findClass_of_methodNamed B.named
  have hlocks := B.notSynchronized
  subst hsz
  have hD := hD0.self (sz := s.heap.size)
  have hAr := zx_A hX0 hR0
  generalize hAe : va_A [] s.heap.size = A at hD hAr hH ⊢
  have hA : ∀ q : Nat, s.heap.size ≤ q → A q := fun q h => by rw [← hAe]; exact Or.inr h
  have hS : va_S A s.heap s.heap [] := va_S.rf
  have hl := lv_entry ([.ref rm, .int 7]) (n := 2) (Nat.le_of_ble_eq_true rfl)
  rw [lg_entry_eq]
  generalize (lg_sl ([.ref rm, .int 7]) ++ List.replicate (2 - (lg_sl ([.ref rm, .int 7])).length) Slot.unset).toArray = ls at hl ⊢
  have hl : lv_has ls 2 [(0, .ref rm), (1, .int 7)] := hl
  refine lv_iload_n hx hb dX3_tell_0 rfl (lv_at hl 1 rfl) ?_
  refine lv_tableIn (off := 134) (tgt := 135) hx hb dX3_tell_1 (by decide) (by decide) rfl (by decide) ?_
  refine lv_aload_n hx hb dX3_tell_135 rfl (lv_at hl 0 rfl) ?_
  refine va_get (D := (dC, dI)) (ci := 5) (v := .ref gm) (C := RX3) (T := TX3) (N := 12) hx hb hts zi_X3_tell_X3 hown hK hR0 0 rfl rfl 3 (by decide) (hts (.fieldLink RX3 32 "LockRooms$Room" "games" "LLockRooms$Games;") (by decide +kernel)) (fun _ h9 => h9) rfl dX3_tell_136 ?_
  refine va_get (D := (dC, dI)) (ci := 2) (v := .int 0) (C := RX0) (T := TX0) (N := 7) hx hb hts zi_X3_tell_X0 hown hK hR0 1 rfl rfl 4 (by decide) (hts (.fieldLink RX3 228 "LockRooms$Games" "lost" "I") (by decide +kernel)) (fun _ h9 => h9) rfl dX3_tell_139 ?_
  refine W.widen (k := 0) (n := 0) (Nat.le_of_ble_eq_true rfl) (Nat.le_of_ble_eq_true rfl) ?_
  exact W.iret hx hb hr (fun t ht hW => ⟨⟨0, (), rfl, rfl, trivial⟩, hS.F ht⟩) hS.2.2 dX3_tell_142
set_option maxHeartbeats 4000000 in
set_option maxRecDepth 100000 in
theorem cz_Qtell_8 (l : Launch) (dC : Nat → ClassId) (dI : Nat → Nat → Nat) (ed sz : Nat) (rm : Nat) (lk : Nat) (th : Nat) (pl : Nat) (gm : Nat) : Met l yX3_tell wsX3_tell ({ frames := 0, cells := 0, slots := 0, locals := 0 } : Jvm.Room) (va_Pc [.ref rm, .int 8] (zB dC dI ed sz [(rm, .inr (5, [.ref lk, .ref th, .ref pl, .ref gm, .int 2, .int 10, .int 0, .int 0, .int 1, .int 0, .int 0, .int 0])), (gm, .inr (2, [.int 0, .int 0, .int 0, .int 0, .int 0, .int (-1), .long 0]))] [] [])) (va_Qi (fun (r : Int32) (_ : Unit) => r = (-1)) (fun (_ : Unit) (_ : State) => True) (va_A [] sz)) 0 0 (va_A [] sz) := by
  refine Met.ofW (cc := cX3_tell) (maxL := 2) (ret := (some .int)) (by decide) rfl ?_
  intro p e s m args below meth c s₁ B hml hv
  obtain ⟨rfl, hsz, hR0, hP, hK, hD0, hN, hH, hX0⟩ := hv
  have hx := B.exec
  have hb := B.bytes
  have hr := B.returns
  have hts := atoms_spec (ws := wsX3_tell) B.pre
  have hown : s.vm.findClass RX3 = some m.cls := findClass_of_methodNamed B.named
  have hlocks := B.notSynchronized
  subst hsz
  have hD := hD0.self (sz := s.heap.size)
  have hAr := zx_A hX0 hR0
  generalize hAe : va_A [] s.heap.size = A at hD hAr hH ⊢
  have hA : ∀ q : Nat, s.heap.size ≤ q → A q := fun q h => by rw [← hAe]; exact Or.inr h
  have hS : va_S A s.heap s.heap [] := va_S.rf
  have hl := lv_entry ([.ref rm, .int 8]) (n := 2) (Nat.le_of_ble_eq_true rfl)
  rw [lg_entry_eq]
  generalize (lg_sl ([.ref rm, .int 8]) ++ List.replicate (2 - (lg_sl ([.ref rm, .int 8])).length) Slot.unset).toArray = ls at hl ⊢
  have hl : lv_has ls 2 [(0, .ref rm), (1, .int 8)] := hl
  refine lv_iload_n hx hb dX3_tell_0 rfl (lv_at hl 1 rfl) ?_
  refine lv_tableIn (off := 142) (tgt := 143) hx hb dX3_tell_1 (by decide) (by decide) rfl (by decide) ?_
  refine lv_aload_n hx hb dX3_tell_143 rfl (lv_at hl 0 rfl) ?_
  refine va_get (D := (dC, dI)) (ci := 5) (v := .ref gm) (C := RX3) (T := TX3) (N := 12) hx hb hts zi_X3_tell_X3 hown hK hR0 0 rfl rfl 3 (by decide) (hts (.fieldLink RX3 32 "LockRooms$Room" "games" "LLockRooms$Games;") (by decide +kernel)) (fun _ h9 => h9) rfl dX3_tell_144 ?_
  refine va_get (D := (dC, dI)) (ci := 2) (v := .int (-1)) (C := RX0) (T := TX0) (N := 7) hx hb hts zi_X3_tell_X0 hown hK hR0 1 rfl rfl 5 (by decide) (hts (.fieldLink RX3 231 "LockRooms$Games" "record" "I") (by decide +kernel)) (fun _ h9 => h9) rfl dX3_tell_147 ?_
  refine W.widen (k := 0) (n := 0) (Nat.le_of_ble_eq_true rfl) (Nat.le_of_ble_eq_true rfl) ?_
  exact W.iret hx hb hr (fun t ht hW => ⟨⟨(-1), (), rfl, rfl, trivial⟩, hS.F ht⟩) hS.2.2 dX3_tell_150
set_option maxHeartbeats 4000000 in
set_option maxRecDepth 100000 in
theorem cz_Qtell_9 (l : Launch) (dC : Nat → ClassId) (dI : Nat → Nat → Nat) (ed sz : Nat) (rm : Nat) (lk : Nat) (th : Nat) (pl : Nat) (gm : Nat) : Met l yX3_tell wsX3_tell ({ frames := 0, cells := 0, slots := 0, locals := 0 } : Jvm.Room) (va_Pc [.ref rm, .int 9] (zB dC dI ed sz [(rm, .inr (5, [.ref lk, .ref th, .ref pl, .ref gm, .int 2, .int 10, .int 0, .int 0, .int 1, .int 0, .int 0, .int 0])), (gm, .inr (2, [.int 0, .int 0, .int 0, .int 0, .int 0, .int (-1), .long 0]))] [] [])) (va_Qi (fun (r : Int32) (_ : Unit) => r = 0) (fun (_ : Unit) (_ : State) => True) (va_A [] sz)) 0 0 (va_A [] sz) := by
  refine Met.ofW (cc := cX3_tell) (maxL := 2) (ret := (some .int)) (by decide) rfl ?_
  intro p e s m args below meth c s₁ B hml hv
  obtain ⟨rfl, hsz, hR0, hP, hK, hD0, hN, hH, hX0⟩ := hv
  have hx := B.exec
  have hb := B.bytes
  have hr := B.returns
  have hts := atoms_spec (ws := wsX3_tell) B.pre
  have hown : s.vm.findClass RX3 = some m.cls := findClass_of_methodNamed B.named
  have hlocks := B.notSynchronized
  subst hsz
  have hD := hD0.self (sz := s.heap.size)
  have hAr := zx_A hX0 hR0
  generalize hAe : va_A [] s.heap.size = A at hD hAr hH ⊢
  have hA : ∀ q : Nat, s.heap.size ≤ q → A q := fun q h => by rw [← hAe]; exact Or.inr h
  have hS : va_S A s.heap s.heap [] := va_S.rf
  have hl := lv_entry ([.ref rm, .int 9]) (n := 2) (Nat.le_of_ble_eq_true rfl)
  rw [lg_entry_eq]
  generalize (lg_sl ([.ref rm, .int 9]) ++ List.replicate (2 - (lg_sl ([.ref rm, .int 9])).length) Slot.unset).toArray = ls at hl ⊢
  have hl : lv_has ls 2 [(0, .ref rm), (1, .int 9)] := hl
  refine lv_iload_n hx hb dX3_tell_0 rfl (lv_at hl 1 rfl) ?_
  refine lv_tableIn (off := 150) (tgt := 151) hx hb dX3_tell_1 (by decide) (by decide) rfl (by decide) ?_
  refine lv_aload_n hx hb dX3_tell_151 rfl (lv_at hl 0 rfl) ?_
  refine va_get (D := (dC, dI)) (ci := 5) (v := .int 0) (C := RX3) (T := TX3) (N := 12) hx hb hts zi_X3_tell_X3 hown hK hR0 0 rfl rfl 10 (by decide) (hts (.fieldLink RX3 72 "LockRooms$Room" "coins" "I") (by decide +kernel)) (fun _ h9 => h9) rfl dX3_tell_152 ?_
  refine W.widen (k := 0) (n := 0) (Nat.le_of_ble_eq_true rfl) (Nat.le_of_ble_eq_true rfl) ?_
  exact W.iret hx hb hr (fun t ht hW => ⟨⟨0, (), rfl, rfl, trivial⟩, hS.F ht⟩) hS.2.2 dX3_tell_155
set_option maxHeartbeats 4000000 in
set_option maxRecDepth 100000 in
theorem cz_Qtell_10 (l : Launch) (dC : Nat → ClassId) (dI : Nat → Nat → Nat) (ed sz : Nat) (rm : Nat) (lk : Nat) (th : Nat) (pl : Nat) (gm : Nat) : Met l yX3_tell wsX3_tell ({ frames := 0, cells := 0, slots := 0, locals := 0 } : Jvm.Room) (va_Pc [.ref rm, .int 10] (zB dC dI ed sz [(rm, .inr (5, [.ref lk, .ref th, .ref pl, .ref gm, .int 2, .int 10, .int 0, .int 0, .int 1, .int 0, .int 0, .int 0])), (gm, .inr (2, [.int 0, .int 0, .int 0, .int 0, .int 0, .int (-1), .long 0]))] [] [])) (va_Qi (fun (r : Int32) (_ : Unit) => r = 0) (fun (_ : Unit) (_ : State) => True) (va_A [] sz)) 0 0 (va_A [] sz) := by
  refine Met.ofW (cc := cX3_tell) (maxL := 2) (ret := (some .int)) (by decide) rfl ?_
  intro p e s m args below meth c s₁ B hml hv
  obtain ⟨rfl, hsz, hR0, hP, hK, hD0, hN, hH, hX0⟩ := hv
  have hx := B.exec
  have hb := B.bytes
  have hr := B.returns
  have hts := atoms_spec (ws := wsX3_tell) B.pre
  have hown : s.vm.findClass RX3 = some m.cls := findClass_of_methodNamed B.named
  have hlocks := B.notSynchronized
  subst hsz
  have hD := hD0.self (sz := s.heap.size)
  have hAr := zx_A hX0 hR0
  generalize hAe : va_A [] s.heap.size = A at hD hAr hH ⊢
  have hA : ∀ q : Nat, s.heap.size ≤ q → A q := fun q h => by rw [← hAe]; exact Or.inr h
  have hS : va_S A s.heap s.heap [] := va_S.rf
  have hl := lv_entry ([.ref rm, .int 10]) (n := 2) (Nat.le_of_ble_eq_true rfl)
  rw [lg_entry_eq]
  generalize (lg_sl ([.ref rm, .int 10]) ++ List.replicate (2 - (lg_sl ([.ref rm, .int 10])).length) Slot.unset).toArray = ls at hl ⊢
  have hl : lv_has ls 2 [(0, .ref rm), (1, .int 10)] := hl
  refine lv_iload_n hx hb dX3_tell_0 rfl (lv_at hl 1 rfl) ?_
  refine lv_tableIn (off := 155) (tgt := 156) hx hb dX3_tell_1 (by decide) (by decide) rfl (by decide) ?_
  refine lv_aload_n hx hb dX3_tell_156 rfl (lv_at hl 0 rfl) ?_
  refine va_get (D := (dC, dI)) (ci := 5) (v := .ref gm) (C := RX3) (T := TX3) (N := 12) hx hb hts zi_X3_tell_X3 hown hK hR0 0 rfl rfl 3 (by decide) (hts (.fieldLink RX3 32 "LockRooms$Room" "games" "LLockRooms$Games;") (by decide +kernel)) (fun _ h9 => h9) rfl dX3_tell_157 ?_
  refine va_get (D := (dC, dI)) (ci := 2) (v := .int 0) (C := RX0) (T := TX0) (N := 7) hx hb hts zi_X3_tell_X0 hown hK hR0 1 rfl rfl 2 (by decide) (hts (.fieldLink RX3 234 "LockRooms$Games" "hints" "I") (by decide +kernel)) (fun _ h9 => h9) rfl dX3_tell_160 ?_
  refine W.widen (k := 0) (n := 0) (Nat.le_of_ble_eq_true rfl) (Nat.le_of_ble_eq_true rfl) ?_
  exact W.iret hx hb hr (fun t ht hW => ⟨⟨0, (), rfl, rfl, trivial⟩, hS.F ht⟩) hS.2.2 dX3_tell_163

set_option maxRecDepth 20000 in
theorem zi_X3_openLocks_X1 : ∀ w ∈ u_ws RX1 TX1 10, w ∈ wsX3_openLocks := by decide +kernel
set_option maxHeartbeats 4000000 in
set_option maxRecDepth 100000 in
theorem cz_QopenLocks (l : Launch) (dC : Nat → ClassId) (dI : Nat → Nat → Nat) (ed sz : Nat) (rm : Nat) (lk : Nat) (th : Nat) (pl : Nat) (gm : Nat) (cL : ClassId) (fl : Nat → Option Nat) (l0 : Nat) (l1 : Nat) (hkl0 : fl 0 = some l0) (hkl1 : fl 1 = some l1) : Met l yX3_openLocks wsX3_openLocks ({ frames := 0, cells := 0, slots := 0, locals := 0 } : Jvm.Room) (va_Pc [.ref rm] (zB dC dI ed sz [(rm, .inr (5, [.ref lk, .ref th, .ref pl, .ref gm, .int 2, .int 10, .int 0, .int 0, .int 1, .int 0, .int 0, .int 0])), (lk, .inl (cL, 10, .inr (.inr (.inr (.inr fl))))), (l0, .inr (3, [.int 0, .int 0, .int 60, .int 0, .int 0, .int 0, .int 0, .int 0, .int 0, .int 0])), (l1, .inr (3, [.int 0, .int 0, .int 60, .int 0, .int 0, .int 0, .int 0, .int 0, .int 0, .int 0]))] [] [(cL, .object "LockRooms$Lock")])) (va_Qi (fun (r : Int32) (_ : Unit) => r = 0) (fun (_ : Unit) (_ : State) => True) (va_A [] sz)) 0 0 (va_A [] sz) := by
  refine Met.ofW (cc := cX3_openLocks) (maxL := 3) (ret := (some .int)) (by decide) rfl ?_
  intro p e s m args below meth c s₁ B hml hv
  obtain ⟨rfl, hsz, hR0, hP, hK, hD0, hN, hH, hX0⟩ := hv
  have hx := B.exec
  have hb := B.bytes
  have hr := B.returns
  have hts := atoms_spec (ws := wsX3_openLocks) B.pre
  have hown : s.vm.findClass RX3 = some m.cls := findClass_of_methodNamed B.named
  have hlocks := B.notSynchronized
  subst hsz
  have hD := hD0.self (sz := s.heap.size)
  have hAr := zx_A hX0 hR0
  generalize hAe : va_A [] s.heap.size = A at hD hAr hH ⊢
  have hA : ∀ q : Nat, s.heap.size ≤ q → A q := fun q h => by rw [← hAe]; exact Or.inr h
  have hS : va_S A s.heap s.heap [] := va_S.rf
  have hl := lv_entry ([.ref rm]) (n := 3) (Nat.le_of_ble_eq_true rfl)
  rw [lg_entry_eq]
  generalize (lg_sl ([.ref rm]) ++ List.replicate (3 - (lg_sl ([.ref rm])).length) Slot.unset).toArray = ls at hl ⊢
  have hl : lv_has ls 3 [(0, .ref rm)] := hl
  refine lv_iconst (v := 0) hx hb dX3_openLocks_0 (by decide) ?_
  refine lv_istore_n (lv' := [(1, .int 0), (0, .ref rm)]) hx hb dX3_openLocks_1 rfl hl (by decide) rfl (fun ls hl => ?_)
  refine lv_iconst (v := 0) hx hb dX3_openLocks_2 (by decide) ?_
  refine lv_istore_n (lv' := [(2, .int 0), (1, .int 0), (0, .ref rm)]) hx hb dX3_openLocks_3 rfl hl (by decide) rfl (fun ls hl => ?_)
  refine lv_iload_n hx hb dX3_openLocks_4 rfl (lv_at hl 0 rfl) ?_
  refine lv_aload_n hx hb dX3_openLocks_5 rfl (lv_at hl 2 rfl) ?_
  refine va_get (D := (dC, dI)) (ci := 5) (v := .int 2) (C := RX3) (T := TX3) (N := 12) hx hb hts zi_X3_openLocks_X3 hown hK hR0 0 rfl rfl 4 (by decide) (hts (.fieldLink RX3 47 "LockRooms$Room" "lockCount" "I") (by decide +kernel)) (fun _ h9 => h9) rfl dX3_openLocks_6 ?_
  refine lv_icmp_ge (tgt := 36) hx hb dX3_openLocks_9 (by decide) (fun h => absurd h (by decide)) (fun _ => ?_)
  refine lv_aload_n hx hb dX3_openLocks_12 rfl (lv_at hl 2 rfl) ?_
  refine va_get (D := (dC, dI)) (ci := 5) (v := .ref lk) (C := RX3) (T := TX3) (N := 12) hx hb hts zi_X3_openLocks_X3 hown hK hR0 0 rfl rfl 0 (by decide) (hts (.fieldLink RX3 11 "LockRooms$Room" "locks" "[LLockRooms$Lock;") (by decide +kernel)) (fun _ h9 => h9) rfl dX3_openLocks_13 ?_
  refine lv_iload_n hx hb dX3_openLocks_16 rfl (lv_at hl 0 rfl) ?_
  refine va_aldq hx hb hK hR0 1 0 rfl rfl (by unfold vp_in; decide) dX3_openLocks_17 ?_
  refine zo_q (v := .ref l0) (by rw [show Int32.toNatClampNeg 0 = 0 from by decide, hkl0]; rfl) ?_
  refine va_get (D := (dC, dI)) (ci := 3) (v := .int 0) (C := RX1) (T := TX1) (N := 10) hx hb hts zi_X3_openLocks_X1 hown hK hR0 2 rfl rfl 4 (by decide) (hts (.fieldLink RX3 100 "LockRooms$Lock" "isOpen" "Z") (by decide +kernel)) (fun _ h9 => h9) rfl dX3_openLocks_18 ?_
  refine lv_if_eq (tgt := 30) hx hb dX3_openLocks_21 (by decide) (fun _ => ?_) (fun h => absurd h (by decide))
  refine lv_iinc (v := 1) (lv' := [(2, .int 1), (1, .int 0), (0, .ref rm)]) hx hb dX3_openLocks_30 hl (k := 0) rfl (by decide) (by decide) rfl (fun ls hl => ?_)
  refine lv_goto (tgt := 4) hx hb dX3_openLocks_33 (by decide) ?_
  refine lv_iload_n hx hb dX3_openLocks_4 rfl (lv_at hl 0 rfl) ?_
  refine lv_aload_n hx hb dX3_openLocks_5 rfl (lv_at hl 2 rfl) ?_
  refine va_get (D := (dC, dI)) (ci := 5) (v := .int 2) (C := RX3) (T := TX3) (N := 12) hx hb hts zi_X3_openLocks_X3 hown hK hR0 0 rfl rfl 4 (by decide) (hts (.fieldLink RX3 47 "LockRooms$Room" "lockCount" "I") (by decide +kernel)) (fun _ h9 => h9) rfl dX3_openLocks_6 ?_
  refine lv_icmp_ge (tgt := 36) hx hb dX3_openLocks_9 (by decide) (fun h => absurd h (by decide)) (fun _ => ?_)
  refine lv_aload_n hx hb dX3_openLocks_12 rfl (lv_at hl 2 rfl) ?_
  refine va_get (D := (dC, dI)) (ci := 5) (v := .ref lk) (C := RX3) (T := TX3) (N := 12) hx hb hts zi_X3_openLocks_X3 hown hK hR0 0 rfl rfl 0 (by decide) (hts (.fieldLink RX3 11 "LockRooms$Room" "locks" "[LLockRooms$Lock;") (by decide +kernel)) (fun _ h9 => h9) rfl dX3_openLocks_13 ?_
  refine lv_iload_n hx hb dX3_openLocks_16 rfl (lv_at hl 0 rfl) ?_
  refine va_aldq hx hb hK hR0 1 0 rfl rfl (by unfold vp_in; decide) dX3_openLocks_17 ?_
  refine zo_q (v := .ref l1) (by rw [show Int32.toNatClampNeg 1 = 1 from by decide, hkl1]; rfl) ?_
  refine va_get (D := (dC, dI)) (ci := 3) (v := .int 0) (C := RX1) (T := TX1) (N := 10) hx hb hts zi_X3_openLocks_X1 hown hK hR0 3 rfl rfl 4 (by decide) (hts (.fieldLink RX3 100 "LockRooms$Lock" "isOpen" "Z") (by decide +kernel)) (fun _ h9 => h9) rfl dX3_openLocks_18 ?_
  refine lv_if_eq (tgt := 30) hx hb dX3_openLocks_21 (by decide) (fun _ => ?_) (fun h => absurd h (by decide))
  refine lv_iinc (v := 2) (lv' := [(2, .int 2), (1, .int 0), (0, .ref rm)]) hx hb dX3_openLocks_30 hl (k := 0) rfl (by decide) (by decide) rfl (fun ls hl => ?_)
  refine lv_goto (tgt := 4) hx hb dX3_openLocks_33 (by decide) ?_
  refine lv_iload_n hx hb dX3_openLocks_4 rfl (lv_at hl 0 rfl) ?_
  refine lv_aload_n hx hb dX3_openLocks_5 rfl (lv_at hl 2 rfl) ?_
  refine va_get (D := (dC, dI)) (ci := 5) (v := .int 2) (C := RX3) (T := TX3) (N := 12) hx hb hts zi_X3_openLocks_X3 hown hK hR0 0 rfl rfl 4 (by decide) (hts (.fieldLink RX3 47 "LockRooms$Room" "lockCount" "I") (by decide +kernel)) (fun _ h9 => h9) rfl dX3_openLocks_6 ?_
  refine lv_icmp_ge (tgt := 36) hx hb dX3_openLocks_9 (by decide) (fun _ => ?_) (fun h => absurd h (by decide))
  refine lv_iload_n hx hb dX3_openLocks_36 rfl (lv_at hl 1 rfl) ?_
  refine W.widen (k := 0) (n := 0) (Nat.le_of_ble_eq_true rfl) (Nat.le_of_ble_eq_true rfl) ?_
  exact W.iret hx hb hr (fun t ht hW => ⟨⟨0, (), rfl, rfl, trivial⟩, hS.F ht⟩) hS.2.2 dX3_openLocks_37
set_option maxRecDepth 20000 in
theorem zi_X1_isReady_X1 : ∀ w ∈ u_ws RX1 TX1 10, w ∈ wsX1_isReady := by decide +kernel
set_option maxHeartbeats 4000000 in
set_option maxRecDepth 100000 in
theorem cz_QisReady (l : Launch) (dC : Nat → ClassId) (dI : Nat → Nat → Nat) (ed sz : Nat) (l0 : Nat) (x0 : Int32) : Met l yX1_isReady wsX1_isReady ({ frames := 0, cells := 0, slots := 0, locals := 0 } : Jvm.Room) (va_Pc [.ref l0, .int x0] (zB dC dI ed sz [(l0, .inr (3, [.int 0, .int 0, .int 60, .int 0, .int 0, .int 0, .int 0, .int 0, .int 0, .int 0]))] [] [])) (va_Qi (fun (r : Int32) (_ : Unit) => r = 1) (fun (_ : Unit) (_ : State) => True) (va_A [] sz)) 0 0 (va_A [] sz) := by
  refine Met.ofW (cc := cX1_isReady) (maxL := 2) (ret := (some .boolean)) (by decide) rfl ?_
  intro p e s m args below meth c s₁ B hml hv
  obtain ⟨rfl, hsz, hR0, hP, hK, hD0, hN, hH, hX0⟩ := hv
  have hx := B.exec
  have hb := B.bytes
  have hr := B.returns
  have hts := atoms_spec (ws := wsX1_isReady) B.pre
  have hown : s.vm.findClass RX1 = some m.cls := findClass_of_methodNamed B.named
  have hlocks := B.notSynchronized
  subst hsz
  have hD := hD0.self (sz := s.heap.size)
  have hAr := zx_A hX0 hR0
  generalize hAe : va_A [] s.heap.size = A at hD hAr hH ⊢
  have hA : ∀ q : Nat, s.heap.size ≤ q → A q := fun q h => by rw [← hAe]; exact Or.inr h
  have hS : va_S A s.heap s.heap [] := va_S.rf
  have hl := lv_entry ([.ref l0, .int x0]) (n := 2) (Nat.le_of_ble_eq_true rfl)
  rw [lg_entry_eq]
  generalize (lg_sl ([.ref l0, .int x0]) ++ List.replicate (2 - (lg_sl ([.ref l0, .int x0])).length) Slot.unset).toArray = ls at hl ⊢
  have hl : lv_has ls 2 [(0, .ref l0), (1, .int x0)] := hl
  refine lv_aload_n hx hb dX1_isReady_0 rfl (lv_at hl 0 rfl) ?_
  refine va_get (D := (dC, dI)) (ci := 3) (v := .int 0) (C := RX1) (T := TX1) (N := 10) hx hb hts zi_X1_isReady_X1 hown hK hR0 0 rfl rfl 4 (by decide) (hts (.fieldLink RX1 25 "LockRooms$Lock" "isOpen" "Z") (by decide +kernel)) (fun _ h9 => h9) rfl dX1_isReady_1 ?_
  refine lv_if_ne (tgt := 29) hx hb dX1_isReady_4 (by decide) (fun h => absurd h (by decide)) (fun _ => ?_)
  refine lv_aload_n hx hb dX1_isReady_7 rfl (lv_at hl 0 rfl) ?_
  refine va_get (D := (dC, dI)) (ci := 3) (v := .int 0) (C := RX1) (T := TX1) (N := 10) hx hb hts zi_X1_isReady_X1 hown hK hR0 0 rfl rfl 5 (by decide) (hts (.fieldLink RX1 28 "LockRooms$Lock" "isBroken" "Z") (by decide +kernel)) (fun _ h9 => h9) rfl dX1_isReady_8 ?_
  refine lv_if_ne (tgt := 29) hx hb dX1_isReady_11 (by decide) (fun h => absurd h (by decide)) (fun _ => ?_)
  refine lv_aload_n hx hb dX1_isReady_14 rfl (lv_at hl 0 rfl) ?_
  refine va_get (D := (dC, dI)) (ci := 3) (v := .int 0) (C := RX1) (T := TX1) (N := 10) hx hb hts zi_X1_isReady_X1 hown hK hR0 0 rfl rfl 0 (by decide) (hts (.fieldLink RX1 9 "LockRooms$Lock" "needs" "I") (by decide +kernel)) (fun _ h9 => h9) rfl dX1_isReady_15 ?_
  refine lv_iload_n hx hb dX1_isReady_18 rfl (lv_at hl 1 rfl) ?_
  refine lv_iconst (v := (-1)) hx hb dX1_isReady_19 (by decide) ?_
  refine lv_ixor hx hb dX1_isReady_20 ?_
  refine lv_iand hx hb dX1_isReady_21 ?_
  refine zo_i (v := 0) q_0and ?_
  refine lv_if_ne (tgt := 29) hx hb dX1_isReady_22 (by decide) (fun h => absurd h (by decide)) (fun _ => ?_)
  refine lv_iconst (v := 1) hx hb dX1_isReady_25 (by decide) ?_
  refine lv_goto (tgt := 30) hx hb dX1_isReady_26 (by decide) ?_
  refine W.widen (k := 0) (n := 0) (Nat.le_of_ble_eq_true rfl) (Nat.le_of_ble_eq_true rfl) ?_
  exact W.zret hx hb hr (by decide) (fun t ht hW => ⟨⟨1, (), rfl, rfl, trivial⟩, hS.F ht⟩) hS.2.2 dX1_isReady_30
set_option maxHeartbeats 4000000 in
set_option maxRecDepth 100000 in
theorem cz_QreadyLocks (l : Launch) (dC : Nat → ClassId) (dI : Nat → Nat → Nat) (ed sz : Nat) (rm : Nat) (lk : Nat) (th : Nat) (pl : Nat) (gm : Nat) (cL : ClassId) (fl : Nat → Option Nat) (l0 : Nat) (l1 : Nat) (cT : ClassId) (ft : Nat → Option Nat) (t0 : Nat) (t1 : Nat) (t2 : Nat) (t3 : Nat) (t4 : Nat) (t5 : Nat) (t6 : Nat) (t7 : Nat) (t8 : Nat) (t9 : Nat) (hkl0 : fl 0 = some l0) (hkl1 : fl 1 = some l1) (hkt0 : ft 0 = some t0) (hkt1 : ft 1 = some t1) (hkt2 : ft 2 = some t2) (hkt3 : ft 3 = some t3) (hkt4 : ft 4 = some t4) (hkt5 : ft 5 = some t5) (hkt6 : ft 6 = some t6) (hkt7 : ft 7 = some t7) (hkt8 : ft 8 = some t8) (hkt9 : ft 9 = some t9) : Met l yX3_readyLocks wsX3_readyLocks ({ frames := 1, cells := 0, slots := 0, locals := 23 } : Jvm.Room) (va_Pc [.ref rm] (zB dC dI ed sz [(rm, .inr (5, [.ref lk, .ref th, .ref pl, .ref gm, .int 2, .int 10, .int 0, .int 0, .int 1, .int 0, .int 0, .int 0])), (lk, .inl (cL, 10, .inr (.inr (.inr (.inr fl))))), (th, .inl (cT, 12, .inr (.inr (.inr (.inr ft))))), (l0, .inr (3, [.int 0, .int 0, .int 60, .int 0, .int 0, .int 0, .int 0, .int 0, .int 0, .int 0])), (l1, .inr (3, [.int 0, .int 0, .int 60, .int 0, .int 0, .int 0, .int 0, .int 0, .int 0, .int 0])), (t0, .inr (7, [.int (-1), .int 0, .int 0, .int 0, .int 0])), (t1, .inr (7, [.int (-1), .int 0, .int 0, .int 0, .int 0])), (t2, .inr (7, [.int (-1), .int 0, .int 0, .int 0, .int 0])), (t3, .inr (7, [.int (-1), .int 0, .int 0, .int 0, .int 0])), (t4, .inr (7, [.int (-1), .int 0, .int 0, .int 0, .int 0])), (t5, .inr (7, [.int (-1), .int 0, .int 0, .int 0, .int 0])), (t6, .inr (7, [.int (-1), .int 0, .int 0, .int 0, .int 0])), (t7, .inr (7, [.int (-1), .int 0, .int 0, .int 0, .int 0])), (t8, .inr (7, [.int (-1), .int 0, .int 0, .int 0, .int 0])), (t9, .inr (7, [.int (-1), .int 0, .int 0, .int 0, .int 0]))] [] [(cL, .object "LockRooms$Lock"), (cT, .object "LockRooms$Thing")])) (va_Qi (fun (r : Int32) (_ : Unit) => r = 3) (fun (_ : Unit) (_ : State) => True) (va_A [] sz)) 0 0 (va_A [] sz) := by
  refine Met.ofW (cc := cX3_readyLocks) (maxL := 4) (ret := (some .int)) (by decide) rfl ?_
  intro p e s m args below meth c s₁ B hml hv
  obtain ⟨rfl, hsz, hR0, hP, hK, hD0, hN, hH, hX0⟩ := hv
  have hx := B.exec
  have hb := B.bytes
  have hr := B.returns
  have hts := atoms_spec (ws := wsX3_readyLocks) B.pre
  have hown : s.vm.findClass RX3 = some m.cls := findClass_of_methodNamed B.named
  have hlocks := B.notSynchronized
  subst hsz
  have hD := hD0.self (sz := s.heap.size)
  have hAr := zx_A hX0 hR0
  generalize hAe : va_A [] s.heap.size = A at hD hAr hH ⊢
  have hA : ∀ q : Nat, s.heap.size ≤ q → A q := fun q h => by rw [← hAe]; exact Or.inr h
  have hS : va_S A s.heap s.heap [] := va_S.rf
  have hl := lv_entry ([.ref rm]) (n := 4) (Nat.le_of_ble_eq_true rfl)
  rw [lg_entry_eq]
  generalize (lg_sl ([.ref rm]) ++ List.replicate (4 - (lg_sl ([.ref rm])).length) Slot.unset).toArray = ls at hl ⊢
  have hl : lv_has ls 4 [(0, .ref rm)] := hl
  refine lv_aload_n hx hb dX3_readyLocks_0 rfl (lv_at hl 0 rfl) ?_
  refine lv_iconst (v := 1) hx hb dX3_readyLocks_1 (by decide) ?_
  have hPr := (hR0).sub (ws' := [(rm, .inr (5, [.ref lk, .ref th, .ref pl, .ref gm, .int 2, .int 10, .int 0, .int 0, .int 1, .int 0, .int 0, .int 0])), (th, .inl (cT, 12, .inr (.inr (.inr (.inr ft))))), (t0, .inr (7, [.int (-1), .int 0, .int 0, .int 0, .int 0])), (t1, .inr (7, [.int (-1), .int 0, .int 0, .int 0, .int 0])), (t2, .inr (7, [.int (-1), .int 0, .int 0, .int 0, .int 0])), (t3, .inr (7, [.int (-1), .int 0, .int 0, .int 0, .int 0])), (t4, .inr (7, [.int (-1), .int 0, .int 0, .int 0, .int 0])), (t5, .inr (7, [.int (-1), .int 0, .int 0, .int 0, .int 0])), (t6, .inr (7, [.int (-1), .int 0, .int 0, .int 0, .int 0])), (t7, .inr (7, [.int (-1), .int 0, .int 0, .int 0, .int 0])), (t8, .inr (7, [.int (-1), .int 0, .int 0, .int 0, .int 0])), (t9, .inr (7, [.int (-1), .int 0, .int 0, .int 0, .int 0]))]) [0, 2, 5, 6, 7, 8, 9, 10, 11, 12, 13, 14] rfl
  have hPc := hP.sub (ws' := []) [] rfl
  have hDc := hD.sub (ws' := []) [] (by decide) rfl
  have hKc := hK.sub (tys' := [(cT, .object "LockRooms$Thing")]) [1] rfl
  have hFc := va_free (wc := []) hD hS hA [] rfl
  refine va_calli (va_runV (As := [.int 1]) (rest := []) ⟨hx, hb, hml, hown, hts⟩ (cz_QthingsIn_1 l dC dI ed s.heap.size rm lk th pl gm cT ft t0 t1 t2 t3 t4 t5 t6 t7 t8 t9 hkt0 hkt1 hkt2 hkt3 hkt4 hkt5 hkt6 hkt7 hkt8 hkt9) (cwV 1 hts gX3_readyLocks_X3_thingsIn rfl rfl rfl (by decide +kernel) ⟨Nat.le_of_ble_eq_true rfl, Nat.le_of_ble_eq_true rfl⟩) ⟨zb_blind, va_recv hK hR0 (ci := 5) (q0 := 0) rfl rfl, fun U hU hW => ⟨rfl, zb_mk hU hW hPr hPc hKc hDc hN hH hS hFc zx_e⟩⟩ rfl rfl hl.1 rfl (lv_room (Nat.le_of_ble_eq_true rfl)) dX3_readyLocks_2 ⟨Nat.le_of_ble_eq_true rfl, Nat.le_of_ble_eq_true rfl⟩) hS (fun q _ h => hFc q h) hFc (fun r2 u t H1 locs ht hvm hw hB hz1 hk1 hS => ?_)
  obtain rfl : r2 = 0 := hw
  have hP := zo_K hP hk1
  refine lv_istore_n (lv' := [(1, .int 0), (0, .ref rm)]) hx hb dX3_readyLocks_5 rfl hl (by decide) rfl (fun ls hl => ?_)
  refine lv_iconst (v := 0) hx hb dX3_readyLocks_6 (by decide) ?_
  refine lv_istore_n (lv' := [(2, .int 0), (1, .int 0), (0, .ref rm)]) hx hb dX3_readyLocks_7 rfl hl (by decide) rfl (fun ls hl => ?_)
  refine lv_iconst (v := 0) hx hb dX3_readyLocks_8 (by decide) ?_
  refine lv_istore_n (lv' := [(3, .int 0), (2, .int 0), (1, .int 0), (0, .ref rm)]) hx hb dX3_readyLocks_9 rfl hl (by decide) rfl (fun ls hl => ?_)
  refine lv_iload_n hx hb dX3_readyLocks_10 rfl (lv_at hl 0 rfl) ?_
  refine lv_aload_n hx hb dX3_readyLocks_11 rfl (lv_at hl 3 rfl) ?_
  refine va_get (D := (dC, dI)) (ci := 5) (v := .int 2) (C := RX3) (T := TX3) (N := 12) hx hb hts zi_X3_readyLocks_X3 hown hK (zo_R hR0 hS hAr) 0 rfl rfl 4 (by decide) (hts (.fieldLink RX3 47 "LockRooms$Room" "lockCount" "I") (by decide +kernel)) (fun _ h9 => h9) rfl dX3_readyLocks_12 ?_
  refine lv_icmp_ge (tgt := 43) hx hb dX3_readyLocks_15 (by decide) (fun h => absurd h (by decide)) (fun _ => ?_)
  refine lv_aload_n hx hb dX3_readyLocks_18 rfl (lv_at hl 3 rfl) ?_
  refine va_get (D := (dC, dI)) (ci := 5) (v := .ref lk) (C := RX3) (T := TX3) (N := 12) hx hb hts zi_X3_readyLocks_X3 hown hK (zo_R hR0 hS hAr) 0 rfl rfl 0 (by decide) (hts (.fieldLink RX3 11 "LockRooms$Room" "locks" "[LLockRooms$Lock;") (by decide +kernel)) (fun _ h9 => h9) rfl dX3_readyLocks_19 ?_
  refine lv_iload_n hx hb dX3_readyLocks_22 rfl (lv_at hl 0 rfl) ?_
  refine va_aldq hx hb hK (zo_R hR0 hS hAr) 1 0 rfl rfl (by unfold vp_in; decide) dX3_readyLocks_23 ?_
  refine zo_q (v := .ref l0) (by rw [show Int32.toNatClampNeg 0 = 0 from by decide, hkl0]; rfl) ?_
  refine lv_iload_n hx hb dX3_readyLocks_24 rfl (lv_at hl 2 rfl) ?_
  have hPr := ((zo_R hR0 hS hAr)).sub (ws' := [(l0, .inr (3, [.int 0, .int 0, .int 60, .int 0, .int 0, .int 0, .int 0, .int 0, .int 0, .int 0]))]) [3] rfl
  have hPc := hP.sub (ws' := []) [] rfl
  have hDc := hD.sub (ws' := []) [] (by decide) rfl
  have hKc := hK.sub (tys' := []) [] rfl
  have hFc := va_free (wc := []) hD hS hA [] rfl
  refine va_calli (va_runV (As := [.int 0]) (rest := []) ⟨hx, hb, hml, hown, hts⟩ (cz_QisReady l dC dI ed H1.size l0 0) (cwV 1 hts gX3_readyLocks_X1_isReady rfl rfl rfl (by decide +kernel) ⟨Nat.le_of_ble_eq_true rfl, Nat.le_of_ble_eq_true rfl⟩) ⟨zb_blind, va_recv hK (zo_R hR0 hS hAr) (ci := 3) (q0 := 3) rfl rfl, fun U hU hW => ⟨rfl, zb_mk hU hW hPr hPc hKc hDc hN hH hS hFc zx_e⟩⟩ rfl rfl hl.1 rfl (lv_room (Nat.le_of_ble_eq_true rfl)) dX3_readyLocks_25 ⟨Nat.le_of_ble_eq_true rfl, Nat.le_of_ble_eq_true rfl⟩) hS (fun q _ h => hFc q h) hFc (fun r4 u t H3 locs ht hvm hw hB hz1 hk1 hS => ?_)
  obtain rfl : r4 = 1 := hw
  have hP := zo_K hP hk1
  refine lv_if_eq (tgt := 37) hx hb dX3_readyLocks_28 (by decide) (fun h => absurd h (by decide)) (fun _ => ?_)
  refine lv_iload_n hx hb dX3_readyLocks_31 rfl (lv_at hl 1 rfl) ?_
  refine lv_iconst (v := 1) hx hb dX3_readyLocks_32 (by decide) ?_
  refine lv_iload_n hx hb dX3_readyLocks_33 rfl (lv_at hl 0 rfl) ?_
  refine lv_ishl hx hb dX3_readyLocks_34 ?_
  refine zo_i (v := 1) (by decide) ?_
  refine lv_ior hx hb dX3_readyLocks_35 ?_
  refine zo_i (v := 1) (by decide) ?_
  refine lv_istore_n (lv' := [(2, .int 1), (3, .int 0), (1, .int 0), (0, .ref rm)]) hx hb dX3_readyLocks_36 rfl hl (by decide) rfl (fun ls hl => ?_)
  refine lv_iinc (v := 1) (lv' := [(3, .int 1), (2, .int 1), (1, .int 0), (0, .ref rm)]) hx hb dX3_readyLocks_37 hl (k := 1) rfl (by decide) (by decide) rfl (fun ls hl => ?_)
  refine lv_goto (tgt := 10) hx hb dX3_readyLocks_40 (by decide) ?_
  refine lv_iload_n hx hb dX3_readyLocks_10 rfl (lv_at hl 0 rfl) ?_
  refine lv_aload_n hx hb dX3_readyLocks_11 rfl (lv_at hl 3 rfl) ?_
  refine va_get (D := (dC, dI)) (ci := 5) (v := .int 2) (C := RX3) (T := TX3) (N := 12) hx hb hts zi_X3_readyLocks_X3 hown hK (zo_R hR0 hS hAr) 0 rfl rfl 4 (by decide) (hts (.fieldLink RX3 47 "LockRooms$Room" "lockCount" "I") (by decide +kernel)) (fun _ h9 => h9) rfl dX3_readyLocks_12 ?_
  refine lv_icmp_ge (tgt := 43) hx hb dX3_readyLocks_15 (by decide) (fun h => absurd h (by decide)) (fun _ => ?_)
  refine lv_aload_n hx hb dX3_readyLocks_18 rfl (lv_at hl 3 rfl) ?_
  refine va_get (D := (dC, dI)) (ci := 5) (v := .ref lk) (C := RX3) (T := TX3) (N := 12) hx hb hts zi_X3_readyLocks_X3 hown hK (zo_R hR0 hS hAr) 0 rfl rfl 0 (by decide) (hts (.fieldLink RX3 11 "LockRooms$Room" "locks" "[LLockRooms$Lock;") (by decide +kernel)) (fun _ h9 => h9) rfl dX3_readyLocks_19 ?_
  refine lv_iload_n hx hb dX3_readyLocks_22 rfl (lv_at hl 0 rfl) ?_
  refine va_aldq hx hb hK (zo_R hR0 hS hAr) 1 0 rfl rfl (by unfold vp_in; decide) dX3_readyLocks_23 ?_
  refine zo_q (v := .ref l1) (by rw [show Int32.toNatClampNeg 1 = 1 from by decide, hkl1]; rfl) ?_
  refine lv_iload_n hx hb dX3_readyLocks_24 rfl (lv_at hl 2 rfl) ?_
  have hPr := ((zo_R hR0 hS hAr)).sub (ws' := [(l1, .inr (3, [.int 0, .int 0, .int 60, .int 0, .int 0, .int 0, .int 0, .int 0, .int 0, .int 0]))]) [4] rfl
  have hPc := hP.sub (ws' := []) [] rfl
  have hDc := hD.sub (ws' := []) [] (by decide) rfl
  have hKc := hK.sub (tys' := []) [] rfl
  have hFc := va_free (wc := []) hD hS hA [] rfl
  refine va_calli (va_runV (As := [.int 0]) (rest := []) ⟨hx, hb, hml, hown, hts⟩ (cz_QisReady l dC dI ed H3.size l1 0) (cwV 1 hts gX3_readyLocks_X1_isReady rfl rfl rfl (by decide +kernel) ⟨Nat.le_of_ble_eq_true rfl, Nat.le_of_ble_eq_true rfl⟩) ⟨zb_blind, va_recv hK (zo_R hR0 hS hAr) (ci := 3) (q0 := 4) rfl rfl, fun U hU hW => ⟨rfl, zb_mk hU hW hPr hPc hKc hDc hN hH hS hFc zx_e⟩⟩ rfl rfl hl.1 rfl (lv_room (Nat.le_of_ble_eq_true rfl)) dX3_readyLocks_25 ⟨Nat.le_of_ble_eq_true rfl, Nat.le_of_ble_eq_true rfl⟩) hS (fun q _ h => hFc q h) hFc (fun r6 u t H5 locs ht hvm hw hB hz1 hk1 hS => ?_)
  obtain rfl : r6 = 1 := hw
  have hP := zo_K hP hk1
  refine lv_if_eq (tgt := 37) hx hb dX3_readyLocks_28 (by decide) (fun h => absurd h (by decide)) (fun _ => ?_)
  refine lv_iload_n hx hb dX3_readyLocks_31 rfl (lv_at hl 1 rfl) ?_
  refine lv_iconst (v := 1) hx hb dX3_readyLocks_32 (by decide) ?_
  refine lv_iload_n hx hb dX3_readyLocks_33 rfl (lv_at hl 0 rfl) ?_
  refine lv_ishl hx hb dX3_readyLocks_34 ?_
  refine zo_i (v := 2) (by decide) ?_
  refine lv_ior hx hb dX3_readyLocks_35 ?_
  refine zo_i (v := 3) (by decide) ?_
  refine lv_istore_n (lv' := [(2, .int 3), (3, .int 1), (1, .int 0), (0, .ref rm)]) hx hb dX3_readyLocks_36 rfl hl (by decide) rfl (fun ls hl => ?_)
  refine lv_iinc (v := 2) (lv' := [(3, .int 2), (2, .int 3), (1, .int 0), (0, .ref rm)]) hx hb dX3_readyLocks_37 hl (k := 1) rfl (by decide) (by decide) rfl (fun ls hl => ?_)
  refine lv_goto (tgt := 10) hx hb dX3_readyLocks_40 (by decide) ?_
  refine lv_iload_n hx hb dX3_readyLocks_10 rfl (lv_at hl 0 rfl) ?_
  refine lv_aload_n hx hb dX3_readyLocks_11 rfl (lv_at hl 3 rfl) ?_
  refine va_get (D := (dC, dI)) (ci := 5) (v := .int 2) (C := RX3) (T := TX3) (N := 12) hx hb hts zi_X3_readyLocks_X3 hown hK (zo_R hR0 hS hAr) 0 rfl rfl 4 (by decide) (hts (.fieldLink RX3 47 "LockRooms$Room" "lockCount" "I") (by decide +kernel)) (fun _ h9 => h9) rfl dX3_readyLocks_12 ?_
  refine lv_icmp_ge (tgt := 43) hx hb dX3_readyLocks_15 (by decide) (fun _ => ?_) (fun h => absurd h (by decide))
  refine lv_iload_n hx hb dX3_readyLocks_43 rfl (lv_at hl 1 rfl) ?_
  refine W.widen (k := 0) (n := 0) (Nat.le_of_ble_eq_true rfl) (Nat.le_of_ble_eq_true rfl) ?_
  exact W.iret hx hb hr (fun t ht hW => ⟨⟨3, (), rfl, rfl, trivial⟩, hS.F ht⟩) hS.2.2 dX3_readyLocks_44
set_option maxRecDepth 20000 in
theorem zi_X3_locksThatNeed_X3 : ∀ w ∈ u_ws RX3 TX3 12, w ∈ wsX3_locksThatNeed := by decide +kernel
set_option maxRecDepth 20000 in
theorem zi_X3_locksThatNeed_X1 : ∀ w ∈ u_ws RX1 TX1 10, w ∈ wsX3_locksThatNeed := by decide +kernel
set_option maxHeartbeats 4000000 in
set_option maxRecDepth 100000 in
theorem cz_QlocksThatNeed_0 (l : Launch) (dC : Nat → ClassId) (dI : Nat → Nat → Nat) (ed sz : Nat) (rm : Nat) (lk : Nat) (th : Nat) (pl : Nat) (gm : Nat) (cL : ClassId) (fl : Nat → Option Nat) (l0 : Nat) (l1 : Nat) (hkl0 : fl 0 = some l0) (hkl1 : fl 1 = some l1) : Met l yX3_locksThatNeed wsX3_locksThatNeed ({ frames := 1, cells := 0, slots := 0, locals := 21 } : Jvm.Room) (va_Pc [.ref rm, .int 0] (zB dC dI ed sz [(rm, .inr (5, [.ref lk, .ref th, .ref pl, .ref gm, .int 2, .int 10, .int 0, .int 0, .int 1, .int 0, .int 0, .int 0])), (lk, .inl (cL, 10, .inr (.inr (.inr (.inr fl))))), (l0, .inr (3, [.int 0, .int 0, .int 60, .int 0, .int 0, .int 0, .int 0, .int 0, .int 0, .int 0])), (l1, .inr (3, [.int 0, .int 0, .int 60, .int 0, .int 0, .int 0, .int 0, .int 0, .int 0, .int 0]))] [] [(cL, .object "LockRooms$Lock")])) (va_Qi (fun (r : Int32) (_ : Unit) => r = 0) (fun (_ : Unit) (_ : State) => True) (va_A [] sz)) 0 0 (va_A [] sz) := by
  refine Met.ofW (cc := cX3_locksThatNeed) (maxL := 4) (ret := (some .int)) (by decide) rfl ?_
  intro p e s m args below meth c s₁ B hml hv
  obtain ⟨rfl, hsz, hR0, hP, hK, hD0, hN, hH, hX0⟩ := hv
  have hx := B.exec
  have hb := B.bytes
  have hr := B.returns
  have hts := atoms_spec (ws := wsX3_locksThatNeed) B.pre
  have hown : s.vm.findClass RX3 = some m.cls := findClass_of_methodNamed B.named
  have hlocks := B.notSynchronized
  subst hsz
  have hD := hD0.self (sz := s.heap.size)
  have hAr := zx_A hX0 hR0
  generalize hAe : va_A [] s.heap.size = A at hD hAr hH ⊢
  have hA : ∀ q : Nat, s.heap.size ≤ q → A q := fun q h => by rw [← hAe]; exact Or.inr h
  have hS : va_S A s.heap s.heap [] := va_S.rf
  have hl := lv_entry ([.ref rm, .int 0]) (n := 4) (Nat.le_of_ble_eq_true rfl)
  rw [lg_entry_eq]
  generalize (lg_sl ([.ref rm, .int 0]) ++ List.replicate (4 - (lg_sl ([.ref rm, .int 0])).length) Slot.unset).toArray = ls at hl ⊢
  have hl : lv_has ls 4 [(0, .ref rm), (1, .int 0)] := hl
  refine lv_iconst (v := 0) hx hb dX3_locksThatNeed_0 (by decide) ?_
  refine lv_istore_n (lv' := [(2, .int 0), (0, .ref rm), (1, .int 0)]) hx hb dX3_locksThatNeed_1 rfl hl (by decide) rfl (fun ls hl => ?_)
  refine lv_iconst (v := 0) hx hb dX3_locksThatNeed_2 (by decide) ?_
  refine lv_istore_n (lv' := [(3, .int 0), (2, .int 0), (0, .ref rm), (1, .int 0)]) hx hb dX3_locksThatNeed_3 rfl hl (by decide) rfl (fun ls hl => ?_)
  refine lv_iload_n hx hb dX3_locksThatNeed_4 rfl (lv_at hl 0 rfl) ?_
  refine lv_aload_n hx hb dX3_locksThatNeed_5 rfl (lv_at hl 2 rfl) ?_
  refine va_get (D := (dC, dI)) (ci := 5) (v := .int 2) (C := RX3) (T := TX3) (N := 12) hx hb hts zi_X3_locksThatNeed_X3 hown hK hR0 0 rfl rfl 4 (by decide) (hts (.fieldLink RX3 47 "LockRooms$Room" "lockCount" "I") (by decide +kernel)) (fun _ h9 => h9) rfl dX3_locksThatNeed_6 ?_
  refine lv_icmp_ge (tgt := 40) hx hb dX3_locksThatNeed_9 (by decide) (fun h => absurd h (by decide)) (fun _ => ?_)
  refine lv_aload_n hx hb dX3_locksThatNeed_12 rfl (lv_at hl 2 rfl) ?_
  refine va_get (D := (dC, dI)) (ci := 5) (v := .ref lk) (C := RX3) (T := TX3) (N := 12) hx hb hts zi_X3_locksThatNeed_X3 hown hK hR0 0 rfl rfl 0 (by decide) (hts (.fieldLink RX3 11 "LockRooms$Room" "locks" "[LLockRooms$Lock;") (by decide +kernel)) (fun _ h9 => h9) rfl dX3_locksThatNeed_13 ?_
  refine lv_iload_n hx hb dX3_locksThatNeed_16 rfl (lv_at hl 0 rfl) ?_
  refine va_aldq hx hb hK hR0 1 0 rfl rfl (by unfold vp_in; decide) dX3_locksThatNeed_17 ?_
  refine zo_q (v := .ref l0) (by rw [show Int32.toNatClampNeg 0 = 0 from by decide, hkl0]; rfl) ?_
  refine va_get (D := (dC, dI)) (ci := 3) (v := .int 0) (C := RX1) (T := TX1) (N := 10) hx hb hts zi_X3_locksThatNeed_X1 hown hK hR0 2 rfl rfl 0 (by decide) (hts (.fieldLink RX3 78 "LockRooms$Lock" "needs" "I") (by decide +kernel)) (fun _ h9 => h9) rfl dX3_locksThatNeed_18 ?_
  refine lv_iload_n hx hb dX3_locksThatNeed_21 rfl (lv_at hl 3 rfl) ?_
  have hPr := (zo_nil : va_P (dC, dI) vwCl [] s.heap)
  have hPc := hP.sub (ws' := []) [] rfl
  have hDc := hD.sub (ws' := []) [] (by decide) rfl
  have hKc := hK.sub (tys' := []) [] rfl
  have hFc := va_free (wc := []) hD hS hA [] rfl
  refine va_calli (va_runSN (As := [.int 0, .int 0]) (rest := []) ⟨hx, hb, hml, hown, hts⟩ (cz_QisIn l dC dI ed s.heap.size 0 0) ⟨(va_cnB 2 hts gX3_locksThatNeed_X6_isIn_n111 rfl rfl rfl (hN.2.1 ("LockRooms$Room", 111, yX6_isIn, "LockRooms") (List.mem_of_getElem? (i := 5) rfl)) (hts (.initialized RX6) (by decide +kernel)) (by decide +kernel) ⟨Nat.le_of_ble_eq_true rfl, Nat.le_of_ble_eq_true rfl⟩), (hts (.static yX6_isIn) (by decide +kernel)), trivial⟩ ⟨zb_blind, fun U hU hW => ⟨rfl, zb_mk hU hW hPr hPc hKc hDc hN hH hS hFc zx_e⟩⟩ rfl rfl hl.1 rfl (lv_room (Nat.le_of_ble_eq_true rfl)) dX3_locksThatNeed_22 ⟨Nat.le_of_ble_eq_true rfl, Nat.le_of_ble_eq_true rfl⟩) hS (fun q _ h => hFc q h) hFc (fun r2 u t H1 locs ht hvm hw hB hz1 hk1 hS => ?_)
  obtain rfl : r2 = 0 := hw.trans (by decide +kernel)
  have hP := zo_K hP hk1
  refine lv_if_eq (tgt := 34) hx hb dX3_locksThatNeed_25 (by decide) (fun _ => ?_) (fun h => absurd h (by decide))
  refine lv_iinc (v := 1) (lv' := [(3, .int 1), (2, .int 0), (0, .ref rm), (1, .int 0)]) hx hb dX3_locksThatNeed_34 hl (k := 0) rfl (by decide) (by decide) rfl (fun ls hl => ?_)
  refine lv_goto (tgt := 4) hx hb dX3_locksThatNeed_37 (by decide) ?_
  refine lv_iload_n hx hb dX3_locksThatNeed_4 rfl (lv_at hl 0 rfl) ?_
  refine lv_aload_n hx hb dX3_locksThatNeed_5 rfl (lv_at hl 2 rfl) ?_
  refine va_get (D := (dC, dI)) (ci := 5) (v := .int 2) (C := RX3) (T := TX3) (N := 12) hx hb hts zi_X3_locksThatNeed_X3 hown hK (zo_R hR0 hS hAr) 0 rfl rfl 4 (by decide) (hts (.fieldLink RX3 47 "LockRooms$Room" "lockCount" "I") (by decide +kernel)) (fun _ h9 => h9) rfl dX3_locksThatNeed_6 ?_
  refine lv_icmp_ge (tgt := 40) hx hb dX3_locksThatNeed_9 (by decide) (fun h => absurd h (by decide)) (fun _ => ?_)
  refine lv_aload_n hx hb dX3_locksThatNeed_12 rfl (lv_at hl 2 rfl) ?_
  refine va_get (D := (dC, dI)) (ci := 5) (v := .ref lk) (C := RX3) (T := TX3) (N := 12) hx hb hts zi_X3_locksThatNeed_X3 hown hK (zo_R hR0 hS hAr) 0 rfl rfl 0 (by decide) (hts (.fieldLink RX3 11 "LockRooms$Room" "locks" "[LLockRooms$Lock;") (by decide +kernel)) (fun _ h9 => h9) rfl dX3_locksThatNeed_13 ?_
  refine lv_iload_n hx hb dX3_locksThatNeed_16 rfl (lv_at hl 0 rfl) ?_
  refine va_aldq hx hb hK (zo_R hR0 hS hAr) 1 0 rfl rfl (by unfold vp_in; decide) dX3_locksThatNeed_17 ?_
  refine zo_q (v := .ref l1) (by rw [show Int32.toNatClampNeg 1 = 1 from by decide, hkl1]; rfl) ?_
  refine va_get (D := (dC, dI)) (ci := 3) (v := .int 0) (C := RX1) (T := TX1) (N := 10) hx hb hts zi_X3_locksThatNeed_X1 hown hK (zo_R hR0 hS hAr) 3 rfl rfl 0 (by decide) (hts (.fieldLink RX3 78 "LockRooms$Lock" "needs" "I") (by decide +kernel)) (fun _ h9 => h9) rfl dX3_locksThatNeed_18 ?_
  refine lv_iload_n hx hb dX3_locksThatNeed_21 rfl (lv_at hl 3 rfl) ?_
  have hPr := (zo_nil : va_P (dC, dI) vwCl [] H1)
  have hPc := hP.sub (ws' := []) [] rfl
  have hDc := hD.sub (ws' := []) [] (by decide) rfl
  have hKc := hK.sub (tys' := []) [] rfl
  have hFc := va_free (wc := []) hD hS hA [] rfl
  refine va_calli (va_runSN (As := [.int 0, .int 0]) (rest := []) ⟨hx, hb, hml, hown, hts⟩ (cz_QisIn l dC dI ed H1.size 0 0) ⟨(va_cnB 2 hts gX3_locksThatNeed_X6_isIn_n111 rfl rfl rfl (hN.2.1 ("LockRooms$Room", 111, yX6_isIn, "LockRooms") (List.mem_of_getElem? (i := 5) rfl)) (hts (.initialized RX6) (by decide +kernel)) (by decide +kernel) ⟨Nat.le_of_ble_eq_true rfl, Nat.le_of_ble_eq_true rfl⟩), (hts (.static yX6_isIn) (by decide +kernel)), trivial⟩ ⟨zb_blind, fun U hU hW => ⟨rfl, zb_mk hU hW hPr hPc hKc hDc hN hH hS hFc zx_e⟩⟩ rfl rfl hl.1 rfl (lv_room (Nat.le_of_ble_eq_true rfl)) dX3_locksThatNeed_22 ⟨Nat.le_of_ble_eq_true rfl, Nat.le_of_ble_eq_true rfl⟩) hS (fun q _ h => hFc q h) hFc (fun r4 u t H3 locs ht hvm hw hB hz1 hk1 hS => ?_)
  obtain rfl : r4 = 0 := hw.trans (by decide +kernel)
  have hP := zo_K hP hk1
  refine lv_if_eq (tgt := 34) hx hb dX3_locksThatNeed_25 (by decide) (fun _ => ?_) (fun h => absurd h (by decide))
  refine lv_iinc (v := 2) (lv' := [(3, .int 2), (2, .int 0), (0, .ref rm), (1, .int 0)]) hx hb dX3_locksThatNeed_34 hl (k := 0) rfl (by decide) (by decide) rfl (fun ls hl => ?_)
  refine lv_goto (tgt := 4) hx hb dX3_locksThatNeed_37 (by decide) ?_
  refine lv_iload_n hx hb dX3_locksThatNeed_4 rfl (lv_at hl 0 rfl) ?_
  refine lv_aload_n hx hb dX3_locksThatNeed_5 rfl (lv_at hl 2 rfl) ?_
  refine va_get (D := (dC, dI)) (ci := 5) (v := .int 2) (C := RX3) (T := TX3) (N := 12) hx hb hts zi_X3_locksThatNeed_X3 hown hK (zo_R hR0 hS hAr) 0 rfl rfl 4 (by decide) (hts (.fieldLink RX3 47 "LockRooms$Room" "lockCount" "I") (by decide +kernel)) (fun _ h9 => h9) rfl dX3_locksThatNeed_6 ?_
  refine lv_icmp_ge (tgt := 40) hx hb dX3_locksThatNeed_9 (by decide) (fun _ => ?_) (fun h => absurd h (by decide))
  refine lv_iload_n hx hb dX3_locksThatNeed_40 rfl (lv_at hl 1 rfl) ?_
  refine W.widen (k := 0) (n := 0) (Nat.le_of_ble_eq_true rfl) (Nat.le_of_ble_eq_true rfl) ?_
  exact W.iret hx hb hr (fun t ht hW => ⟨⟨0, (), rfl, rfl, trivial⟩, hS.F ht⟩) hS.2.2 dX3_locksThatNeed_41
set_option maxHeartbeats 4000000 in
set_option maxRecDepth 100000 in
theorem cz_QlocksThatNeed_1 (l : Launch) (dC : Nat → ClassId) (dI : Nat → Nat → Nat) (ed sz : Nat) (rm : Nat) (lk : Nat) (th : Nat) (pl : Nat) (gm : Nat) (cL : ClassId) (fl : Nat → Option Nat) (l0 : Nat) (l1 : Nat) (hkl0 : fl 0 = some l0) (hkl1 : fl 1 = some l1) : Met l yX3_locksThatNeed wsX3_locksThatNeed ({ frames := 1, cells := 0, slots := 0, locals := 21 } : Jvm.Room) (va_Pc [.ref rm, .int 1] (zB dC dI ed sz [(rm, .inr (5, [.ref lk, .ref th, .ref pl, .ref gm, .int 2, .int 10, .int 0, .int 0, .int 1, .int 0, .int 0, .int 0])), (lk, .inl (cL, 10, .inr (.inr (.inr (.inr fl))))), (l0, .inr (3, [.int 0, .int 0, .int 60, .int 0, .int 0, .int 0, .int 0, .int 0, .int 0, .int 0])), (l1, .inr (3, [.int 0, .int 0, .int 60, .int 0, .int 0, .int 0, .int 0, .int 0, .int 0, .int 0]))] [] [(cL, .object "LockRooms$Lock")])) (va_Qi (fun (r : Int32) (_ : Unit) => r = 0) (fun (_ : Unit) (_ : State) => True) (va_A [] sz)) 0 0 (va_A [] sz) := by
  refine Met.ofW (cc := cX3_locksThatNeed) (maxL := 4) (ret := (some .int)) (by decide) rfl ?_
  intro p e s m args below meth c s₁ B hml hv
  obtain ⟨rfl, hsz, hR0, hP, hK, hD0, hN, hH, hX0⟩ := hv
  have hx := B.exec
  have hb := B.bytes
  have hr := B.returns
  have hts := atoms_spec (ws := wsX3_locksThatNeed) B.pre
  have hown : s.vm.findClass RX3 = some m.cls := findClass_of_methodNamed B.named
  have hlocks := B.notSynchronized
  subst hsz
  have hD := hD0.self (sz := s.heap.size)
  have hAr := zx_A hX0 hR0
  generalize hAe : va_A [] s.heap.size = A at hD hAr hH ⊢
  have hA : ∀ q : Nat, s.heap.size ≤ q → A q := fun q h => by rw [← hAe]; exact Or.inr h
  have hS : va_S A s.heap s.heap [] := va_S.rf
  have hl := lv_entry ([.ref rm, .int 1]) (n := 4) (Nat.le_of_ble_eq_true rfl)
  rw [lg_entry_eq]
  generalize (lg_sl ([.ref rm, .int 1]) ++ List.replicate (4 - (lg_sl ([.ref rm, .int 1])).length) Slot.unset).toArray = ls at hl ⊢
  have hl : lv_has ls 4 [(0, .ref rm), (1, .int 1)] := hl
  refine lv_iconst (v := 0) hx hb dX3_locksThatNeed_0 (by decide) ?_
  refine lv_istore_n (lv' := [(2, .int 0), (0, .ref rm), (1, .int 1)]) hx hb dX3_locksThatNeed_1 rfl hl (by decide) rfl (fun ls hl => ?_)
  refine lv_iconst (v := 0) hx hb dX3_locksThatNeed_2 (by decide) ?_
  refine lv_istore_n (lv' := [(3, .int 0), (2, .int 0), (0, .ref rm), (1, .int 1)]) hx hb dX3_locksThatNeed_3 rfl hl (by decide) rfl (fun ls hl => ?_)
  refine lv_iload_n hx hb dX3_locksThatNeed_4 rfl (lv_at hl 0 rfl) ?_
  refine lv_aload_n hx hb dX3_locksThatNeed_5 rfl (lv_at hl 2 rfl) ?_
  refine va_get (D := (dC, dI)) (ci := 5) (v := .int 2) (C := RX3) (T := TX3) (N := 12) hx hb hts zi_X3_locksThatNeed_X3 hown hK hR0 0 rfl rfl 4 (by decide) (hts (.fieldLink RX3 47 "LockRooms$Room" "lockCount" "I") (by decide +kernel)) (fun _ h9 => h9) rfl dX3_locksThatNeed_6 ?_
  refine lv_icmp_ge (tgt := 40) hx hb dX3_locksThatNeed_9 (by decide) (fun h => absurd h (by decide)) (fun _ => ?_)
  refine lv_aload_n hx hb dX3_locksThatNeed_12 rfl (lv_at hl 2 rfl) ?_
  refine va_get (D := (dC, dI)) (ci := 5) (v := .ref lk) (C := RX3) (T := TX3) (N := 12) hx hb hts zi_X3_locksThatNeed_X3 hown hK hR0 0 rfl rfl 0 (by decide) (hts (.fieldLink RX3 11 "LockRooms$Room" "locks" "[LLockRooms$Lock;") (by decide +kernel)) (fun _ h9 => h9) rfl dX3_locksThatNeed_13 ?_
  refine lv_iload_n hx hb dX3_locksThatNeed_16 rfl (lv_at hl 0 rfl) ?_
  refine va_aldq hx hb hK hR0 1 0 rfl rfl (by unfold vp_in; decide) dX3_locksThatNeed_17 ?_
  refine zo_q (v := .ref l0) (by rw [show Int32.toNatClampNeg 0 = 0 from by decide, hkl0]; rfl) ?_
  refine va_get (D := (dC, dI)) (ci := 3) (v := .int 0) (C := RX1) (T := TX1) (N := 10) hx hb hts zi_X3_locksThatNeed_X1 hown hK hR0 2 rfl rfl 0 (by decide) (hts (.fieldLink RX3 78 "LockRooms$Lock" "needs" "I") (by decide +kernel)) (fun _ h9 => h9) rfl dX3_locksThatNeed_18 ?_
  refine lv_iload_n hx hb dX3_locksThatNeed_21 rfl (lv_at hl 3 rfl) ?_
  have hPr := (zo_nil : va_P (dC, dI) vwCl [] s.heap)
  have hPc := hP.sub (ws' := []) [] rfl
  have hDc := hD.sub (ws' := []) [] (by decide) rfl
  have hKc := hK.sub (tys' := []) [] rfl
  have hFc := va_free (wc := []) hD hS hA [] rfl
  refine va_calli (va_runSN (As := [.int 0, .int 1]) (rest := []) ⟨hx, hb, hml, hown, hts⟩ (cz_QisIn l dC dI ed s.heap.size 0 1) ⟨(va_cnB 2 hts gX3_locksThatNeed_X6_isIn_n111 rfl rfl rfl (hN.2.1 ("LockRooms$Room", 111, yX6_isIn, "LockRooms") (List.mem_of_getElem? (i := 5) rfl)) (hts (.initialized RX6) (by decide +kernel)) (by decide +kernel) ⟨Nat.le_of_ble_eq_true rfl, Nat.le_of_ble_eq_true rfl⟩), (hts (.static yX6_isIn) (by decide +kernel)), trivial⟩ ⟨zb_blind, fun U hU hW => ⟨rfl, zb_mk hU hW hPr hPc hKc hDc hN hH hS hFc zx_e⟩⟩ rfl rfl hl.1 rfl (lv_room (Nat.le_of_ble_eq_true rfl)) dX3_locksThatNeed_22 ⟨Nat.le_of_ble_eq_true rfl, Nat.le_of_ble_eq_true rfl⟩) hS (fun q _ h => hFc q h) hFc (fun r2 u t H1 locs ht hvm hw hB hz1 hk1 hS => ?_)
  obtain rfl : r2 = 0 := hw.trans (by decide +kernel)
  have hP := zo_K hP hk1
  refine lv_if_eq (tgt := 34) hx hb dX3_locksThatNeed_25 (by decide) (fun _ => ?_) (fun h => absurd h (by decide))
  refine lv_iinc (v := 1) (lv' := [(3, .int 1), (2, .int 0), (0, .ref rm), (1, .int 1)]) hx hb dX3_locksThatNeed_34 hl (k := 0) rfl (by decide) (by decide) rfl (fun ls hl => ?_)
  refine lv_goto (tgt := 4) hx hb dX3_locksThatNeed_37 (by decide) ?_
  refine lv_iload_n hx hb dX3_locksThatNeed_4 rfl (lv_at hl 0 rfl) ?_
  refine lv_aload_n hx hb dX3_locksThatNeed_5 rfl (lv_at hl 2 rfl) ?_
  refine va_get (D := (dC, dI)) (ci := 5) (v := .int 2) (C := RX3) (T := TX3) (N := 12) hx hb hts zi_X3_locksThatNeed_X3 hown hK (zo_R hR0 hS hAr) 0 rfl rfl 4 (by decide) (hts (.fieldLink RX3 47 "LockRooms$Room" "lockCount" "I") (by decide +kernel)) (fun _ h9 => h9) rfl dX3_locksThatNeed_6 ?_
  refine lv_icmp_ge (tgt := 40) hx hb dX3_locksThatNeed_9 (by decide) (fun h => absurd h (by decide)) (fun _ => ?_)
  refine lv_aload_n hx hb dX3_locksThatNeed_12 rfl (lv_at hl 2 rfl) ?_
  refine va_get (D := (dC, dI)) (ci := 5) (v := .ref lk) (C := RX3) (T := TX3) (N := 12) hx hb hts zi_X3_locksThatNeed_X3 hown hK (zo_R hR0 hS hAr) 0 rfl rfl 0 (by decide) (hts (.fieldLink RX3 11 "LockRooms$Room" "locks" "[LLockRooms$Lock;") (by decide +kernel)) (fun _ h9 => h9) rfl dX3_locksThatNeed_13 ?_
  refine lv_iload_n hx hb dX3_locksThatNeed_16 rfl (lv_at hl 0 rfl) ?_
  refine va_aldq hx hb hK (zo_R hR0 hS hAr) 1 0 rfl rfl (by unfold vp_in; decide) dX3_locksThatNeed_17 ?_
  refine zo_q (v := .ref l1) (by rw [show Int32.toNatClampNeg 1 = 1 from by decide, hkl1]; rfl) ?_
  refine va_get (D := (dC, dI)) (ci := 3) (v := .int 0) (C := RX1) (T := TX1) (N := 10) hx hb hts zi_X3_locksThatNeed_X1 hown hK (zo_R hR0 hS hAr) 3 rfl rfl 0 (by decide) (hts (.fieldLink RX3 78 "LockRooms$Lock" "needs" "I") (by decide +kernel)) (fun _ h9 => h9) rfl dX3_locksThatNeed_18 ?_
  refine lv_iload_n hx hb dX3_locksThatNeed_21 rfl (lv_at hl 3 rfl) ?_
  have hPr := (zo_nil : va_P (dC, dI) vwCl [] H1)
  have hPc := hP.sub (ws' := []) [] rfl
  have hDc := hD.sub (ws' := []) [] (by decide) rfl
  have hKc := hK.sub (tys' := []) [] rfl
  have hFc := va_free (wc := []) hD hS hA [] rfl
  refine va_calli (va_runSN (As := [.int 0, .int 1]) (rest := []) ⟨hx, hb, hml, hown, hts⟩ (cz_QisIn l dC dI ed H1.size 0 1) ⟨(va_cnB 2 hts gX3_locksThatNeed_X6_isIn_n111 rfl rfl rfl (hN.2.1 ("LockRooms$Room", 111, yX6_isIn, "LockRooms") (List.mem_of_getElem? (i := 5) rfl)) (hts (.initialized RX6) (by decide +kernel)) (by decide +kernel) ⟨Nat.le_of_ble_eq_true rfl, Nat.le_of_ble_eq_true rfl⟩), (hts (.static yX6_isIn) (by decide +kernel)), trivial⟩ ⟨zb_blind, fun U hU hW => ⟨rfl, zb_mk hU hW hPr hPc hKc hDc hN hH hS hFc zx_e⟩⟩ rfl rfl hl.1 rfl (lv_room (Nat.le_of_ble_eq_true rfl)) dX3_locksThatNeed_22 ⟨Nat.le_of_ble_eq_true rfl, Nat.le_of_ble_eq_true rfl⟩) hS (fun q _ h => hFc q h) hFc (fun r4 u t H3 locs ht hvm hw hB hz1 hk1 hS => ?_)
  obtain rfl : r4 = 0 := hw.trans (by decide +kernel)
  have hP := zo_K hP hk1
  refine lv_if_eq (tgt := 34) hx hb dX3_locksThatNeed_25 (by decide) (fun _ => ?_) (fun h => absurd h (by decide))
  refine lv_iinc (v := 2) (lv' := [(3, .int 2), (2, .int 0), (0, .ref rm), (1, .int 1)]) hx hb dX3_locksThatNeed_34 hl (k := 0) rfl (by decide) (by decide) rfl (fun ls hl => ?_)
  refine lv_goto (tgt := 4) hx hb dX3_locksThatNeed_37 (by decide) ?_
  refine lv_iload_n hx hb dX3_locksThatNeed_4 rfl (lv_at hl 0 rfl) ?_
  refine lv_aload_n hx hb dX3_locksThatNeed_5 rfl (lv_at hl 2 rfl) ?_
  refine va_get (D := (dC, dI)) (ci := 5) (v := .int 2) (C := RX3) (T := TX3) (N := 12) hx hb hts zi_X3_locksThatNeed_X3 hown hK (zo_R hR0 hS hAr) 0 rfl rfl 4 (by decide) (hts (.fieldLink RX3 47 "LockRooms$Room" "lockCount" "I") (by decide +kernel)) (fun _ h9 => h9) rfl dX3_locksThatNeed_6 ?_
  refine lv_icmp_ge (tgt := 40) hx hb dX3_locksThatNeed_9 (by decide) (fun _ => ?_) (fun h => absurd h (by decide))
  refine lv_iload_n hx hb dX3_locksThatNeed_40 rfl (lv_at hl 1 rfl) ?_
  refine W.widen (k := 0) (n := 0) (Nat.le_of_ble_eq_true rfl) (Nat.le_of_ble_eq_true rfl) ?_
  exact W.iret hx hb hr (fun t ht hW => ⟨⟨0, (), rfl, rfl, trivial⟩, hS.F ht⟩) hS.2.2 dX3_locksThatNeed_41
set_option maxHeartbeats 4000000 in
set_option maxRecDepth 100000 in
theorem cz_QlocksThatNeed_2 (l : Launch) (dC : Nat → ClassId) (dI : Nat → Nat → Nat) (ed sz : Nat) (rm : Nat) (lk : Nat) (th : Nat) (pl : Nat) (gm : Nat) (cL : ClassId) (fl : Nat → Option Nat) (l0 : Nat) (l1 : Nat) (hkl0 : fl 0 = some l0) (hkl1 : fl 1 = some l1) : Met l yX3_locksThatNeed wsX3_locksThatNeed ({ frames := 1, cells := 0, slots := 0, locals := 21 } : Jvm.Room) (va_Pc [.ref rm, .int 2] (zB dC dI ed sz [(rm, .inr (5, [.ref lk, .ref th, .ref pl, .ref gm, .int 2, .int 10, .int 0, .int 0, .int 1, .int 0, .int 0, .int 0])), (lk, .inl (cL, 10, .inr (.inr (.inr (.inr fl))))), (l0, .inr (3, [.int 0, .int 0, .int 60, .int 0, .int 0, .int 0, .int 0, .int 0, .int 0, .int 0])), (l1, .inr (3, [.int 0, .int 0, .int 60, .int 0, .int 0, .int 0, .int 0, .int 0, .int 0, .int 0]))] [] [(cL, .object "LockRooms$Lock")])) (va_Qi (fun (r : Int32) (_ : Unit) => r = 0) (fun (_ : Unit) (_ : State) => True) (va_A [] sz)) 0 0 (va_A [] sz) := by
  refine Met.ofW (cc := cX3_locksThatNeed) (maxL := 4) (ret := (some .int)) (by decide) rfl ?_
  intro p e s m args below meth c s₁ B hml hv
  obtain ⟨rfl, hsz, hR0, hP, hK, hD0, hN, hH, hX0⟩ := hv
  have hx := B.exec
  have hb := B.bytes
  have hr := B.returns
  have hts := atoms_spec (ws := wsX3_locksThatNeed) B.pre
  have hown : s.vm.findClass RX3 = some m.cls := findClass_of_methodNamed B.named
  have hlocks := B.notSynchronized
  subst hsz
  have hD := hD0.self (sz := s.heap.size)
  have hAr := zx_A hX0 hR0
  generalize hAe : va_A [] s.heap.size = A at hD hAr hH ⊢
  have hA : ∀ q : Nat, s.heap.size ≤ q → A q := fun q h => by rw [← hAe]; exact Or.inr h
  have hS : va_S A s.heap s.heap [] := va_S.rf
  have hl := lv_entry ([.ref rm, .int 2]) (n := 4) (Nat.le_of_ble_eq_true rfl)
  rw [lg_entry_eq]
  generalize (lg_sl ([.ref rm, .int 2]) ++ List.replicate (4 - (lg_sl ([.ref rm, .int 2])).length) Slot.unset).toArray = ls at hl ⊢
  have hl : lv_has ls 4 [(0, .ref rm), (1, .int 2)] := hl
  refine lv_iconst (v := 0) hx hb dX3_locksThatNeed_0 (by decide) ?_
  refine lv_istore_n (lv' := [(2, .int 0), (0, .ref rm), (1, .int 2)]) hx hb dX3_locksThatNeed_1 rfl hl (by decide) rfl (fun ls hl => ?_)
  refine lv_iconst (v := 0) hx hb dX3_locksThatNeed_2 (by decide) ?_
  refine lv_istore_n (lv' := [(3, .int 0), (2, .int 0), (0, .ref rm), (1, .int 2)]) hx hb dX3_locksThatNeed_3 rfl hl (by decide) rfl (fun ls hl => ?_)
  refine lv_iload_n hx hb dX3_locksThatNeed_4 rfl (lv_at hl 0 rfl) ?_
  refine lv_aload_n hx hb dX3_locksThatNeed_5 rfl (lv_at hl 2 rfl) ?_
  refine va_get (D := (dC, dI)) (ci := 5) (v := .int 2) (C := RX3) (T := TX3) (N := 12) hx hb hts zi_X3_locksThatNeed_X3 hown hK hR0 0 rfl rfl 4 (by decide) (hts (.fieldLink RX3 47 "LockRooms$Room" "lockCount" "I") (by decide +kernel)) (fun _ h9 => h9) rfl dX3_locksThatNeed_6 ?_
  refine lv_icmp_ge (tgt := 40) hx hb dX3_locksThatNeed_9 (by decide) (fun h => absurd h (by decide)) (fun _ => ?_)
  refine lv_aload_n hx hb dX3_locksThatNeed_12 rfl (lv_at hl 2 rfl) ?_
  refine va_get (D := (dC, dI)) (ci := 5) (v := .ref lk) (C := RX3) (T := TX3) (N := 12) hx hb hts zi_X3_locksThatNeed_X3 hown hK hR0 0 rfl rfl 0 (by decide) (hts (.fieldLink RX3 11 "LockRooms$Room" "locks" "[LLockRooms$Lock;") (by decide +kernel)) (fun _ h9 => h9) rfl dX3_locksThatNeed_13 ?_
  refine lv_iload_n hx hb dX3_locksThatNeed_16 rfl (lv_at hl 0 rfl) ?_
  refine va_aldq hx hb hK hR0 1 0 rfl rfl (by unfold vp_in; decide) dX3_locksThatNeed_17 ?_
  refine zo_q (v := .ref l0) (by rw [show Int32.toNatClampNeg 0 = 0 from by decide, hkl0]; rfl) ?_
  refine va_get (D := (dC, dI)) (ci := 3) (v := .int 0) (C := RX1) (T := TX1) (N := 10) hx hb hts zi_X3_locksThatNeed_X1 hown hK hR0 2 rfl rfl 0 (by decide) (hts (.fieldLink RX3 78 "LockRooms$Lock" "needs" "I") (by decide +kernel)) (fun _ h9 => h9) rfl dX3_locksThatNeed_18 ?_
  refine lv_iload_n hx hb dX3_locksThatNeed_21 rfl (lv_at hl 3 rfl) ?_
  have hPr := (zo_nil : va_P (dC, dI) vwCl [] s.heap)
  have hPc := hP.sub (ws' := []) [] rfl
  have hDc := hD.sub (ws' := []) [] (by decide) rfl
  have hKc := hK.sub (tys' := []) [] rfl
  have hFc := va_free (wc := []) hD hS hA [] rfl
  refine va_calli (va_runSN (As := [.int 0, .int 2]) (rest := []) ⟨hx, hb, hml, hown, hts⟩ (cz_QisIn l dC dI ed s.heap.size 0 2) ⟨(va_cnB 2 hts gX3_locksThatNeed_X6_isIn_n111 rfl rfl rfl (hN.2.1 ("LockRooms$Room", 111, yX6_isIn, "LockRooms") (List.mem_of_getElem? (i := 5) rfl)) (hts (.initialized RX6) (by decide +kernel)) (by decide +kernel) ⟨Nat.le_of_ble_eq_true rfl, Nat.le_of_ble_eq_true rfl⟩), (hts (.static yX6_isIn) (by decide +kernel)), trivial⟩ ⟨zb_blind, fun U hU hW => ⟨rfl, zb_mk hU hW hPr hPc hKc hDc hN hH hS hFc zx_e⟩⟩ rfl rfl hl.1 rfl (lv_room (Nat.le_of_ble_eq_true rfl)) dX3_locksThatNeed_22 ⟨Nat.le_of_ble_eq_true rfl, Nat.le_of_ble_eq_true rfl⟩) hS (fun q _ h => hFc q h) hFc (fun r2 u t H1 locs ht hvm hw hB hz1 hk1 hS => ?_)
  obtain rfl : r2 = 0 := hw.trans (by decide +kernel)
  have hP := zo_K hP hk1
  refine lv_if_eq (tgt := 34) hx hb dX3_locksThatNeed_25 (by decide) (fun _ => ?_) (fun h => absurd h (by decide))
  refine lv_iinc (v := 1) (lv' := [(3, .int 1), (2, .int 0), (0, .ref rm), (1, .int 2)]) hx hb dX3_locksThatNeed_34 hl (k := 0) rfl (by decide) (by decide) rfl (fun ls hl => ?_)
  refine lv_goto (tgt := 4) hx hb dX3_locksThatNeed_37 (by decide) ?_
  refine lv_iload_n hx hb dX3_locksThatNeed_4 rfl (lv_at hl 0 rfl) ?_
  refine lv_aload_n hx hb dX3_locksThatNeed_5 rfl (lv_at hl 2 rfl) ?_
  refine va_get (D := (dC, dI)) (ci := 5) (v := .int 2) (C := RX3) (T := TX3) (N := 12) hx hb hts zi_X3_locksThatNeed_X3 hown hK (zo_R hR0 hS hAr) 0 rfl rfl 4 (by decide) (hts (.fieldLink RX3 47 "LockRooms$Room" "lockCount" "I") (by decide +kernel)) (fun _ h9 => h9) rfl dX3_locksThatNeed_6 ?_
  refine lv_icmp_ge (tgt := 40) hx hb dX3_locksThatNeed_9 (by decide) (fun h => absurd h (by decide)) (fun _ => ?_)
  refine lv_aload_n hx hb dX3_locksThatNeed_12 rfl (lv_at hl 2 rfl) ?_
  refine va_get (D := (dC, dI)) (ci := 5) (v := .ref lk) (C := RX3) (T := TX3) (N := 12) hx hb hts zi_X3_locksThatNeed_X3 hown hK (zo_R hR0 hS hAr) 0 rfl rfl 0 (by decide) (hts (.fieldLink RX3 11 "LockRooms$Room" "locks" "[LLockRooms$Lock;") (by decide +kernel)) (fun _ h9 => h9) rfl dX3_locksThatNeed_13 ?_
  refine lv_iload_n hx hb dX3_locksThatNeed_16 rfl (lv_at hl 0 rfl) ?_
  refine va_aldq hx hb hK (zo_R hR0 hS hAr) 1 0 rfl rfl (by unfold vp_in; decide) dX3_locksThatNeed_17 ?_
  refine zo_q (v := .ref l1) (by rw [show Int32.toNatClampNeg 1 = 1 from by decide, hkl1]; rfl) ?_
  refine va_get (D := (dC, dI)) (ci := 3) (v := .int 0) (C := RX1) (T := TX1) (N := 10) hx hb hts zi_X3_locksThatNeed_X1 hown hK (zo_R hR0 hS hAr) 3 rfl rfl 0 (by decide) (hts (.fieldLink RX3 78 "LockRooms$Lock" "needs" "I") (by decide +kernel)) (fun _ h9 => h9) rfl dX3_locksThatNeed_18 ?_
  refine lv_iload_n hx hb dX3_locksThatNeed_21 rfl (lv_at hl 3 rfl) ?_
  have hPr := (zo_nil : va_P (dC, dI) vwCl [] H1)
  have hPc := hP.sub (ws' := []) [] rfl
  have hDc := hD.sub (ws' := []) [] (by decide) rfl
  have hKc := hK.sub (tys' := []) [] rfl
  have hFc := va_free (wc := []) hD hS hA [] rfl
  refine va_calli (va_runSN (As := [.int 0, .int 2]) (rest := []) ⟨hx, hb, hml, hown, hts⟩ (cz_QisIn l dC dI ed H1.size 0 2) ⟨(va_cnB 2 hts gX3_locksThatNeed_X6_isIn_n111 rfl rfl rfl (hN.2.1 ("LockRooms$Room", 111, yX6_isIn, "LockRooms") (List.mem_of_getElem? (i := 5) rfl)) (hts (.initialized RX6) (by decide +kernel)) (by decide +kernel) ⟨Nat.le_of_ble_eq_true rfl, Nat.le_of_ble_eq_true rfl⟩), (hts (.static yX6_isIn) (by decide +kernel)), trivial⟩ ⟨zb_blind, fun U hU hW => ⟨rfl, zb_mk hU hW hPr hPc hKc hDc hN hH hS hFc zx_e⟩⟩ rfl rfl hl.1 rfl (lv_room (Nat.le_of_ble_eq_true rfl)) dX3_locksThatNeed_22 ⟨Nat.le_of_ble_eq_true rfl, Nat.le_of_ble_eq_true rfl⟩) hS (fun q _ h => hFc q h) hFc (fun r4 u t H3 locs ht hvm hw hB hz1 hk1 hS => ?_)
  obtain rfl : r4 = 0 := hw.trans (by decide +kernel)
  have hP := zo_K hP hk1
  refine lv_if_eq (tgt := 34) hx hb dX3_locksThatNeed_25 (by decide) (fun _ => ?_) (fun h => absurd h (by decide))
  refine lv_iinc (v := 2) (lv' := [(3, .int 2), (2, .int 0), (0, .ref rm), (1, .int 2)]) hx hb dX3_locksThatNeed_34 hl (k := 0) rfl (by decide) (by decide) rfl (fun ls hl => ?_)
  refine lv_goto (tgt := 4) hx hb dX3_locksThatNeed_37 (by decide) ?_
  refine lv_iload_n hx hb dX3_locksThatNeed_4 rfl (lv_at hl 0 rfl) ?_
  refine lv_aload_n hx hb dX3_locksThatNeed_5 rfl (lv_at hl 2 rfl) ?_
  refine va_get (D := (dC, dI)) (ci := 5) (v := .int 2) (C := RX3) (T := TX3) (N := 12) hx hb hts zi_X3_locksThatNeed_X3 hown hK (zo_R hR0 hS hAr) 0 rfl rfl 4 (by decide) (hts (.fieldLink RX3 47 "LockRooms$Room" "lockCount" "I") (by decide +kernel)) (fun _ h9 => h9) rfl dX3_locksThatNeed_6 ?_
  refine lv_icmp_ge (tgt := 40) hx hb dX3_locksThatNeed_9 (by decide) (fun _ => ?_) (fun h => absurd h (by decide))
  refine lv_iload_n hx hb dX3_locksThatNeed_40 rfl (lv_at hl 1 rfl) ?_
  refine W.widen (k := 0) (n := 0) (Nat.le_of_ble_eq_true rfl) (Nat.le_of_ble_eq_true rfl) ?_
  exact W.iret hx hb hr (fun t ht hW => ⟨⟨0, (), rfl, rfl, trivial⟩, hS.F ht⟩) hS.2.2 dX3_locksThatNeed_41
set_option maxHeartbeats 4000000 in
set_option maxRecDepth 100000 in
theorem cz_QlocksThatNeed_3 (l : Launch) (dC : Nat → ClassId) (dI : Nat → Nat → Nat) (ed sz : Nat) (rm : Nat) (lk : Nat) (th : Nat) (pl : Nat) (gm : Nat) (cL : ClassId) (fl : Nat → Option Nat) (l0 : Nat) (l1 : Nat) (hkl0 : fl 0 = some l0) (hkl1 : fl 1 = some l1) : Met l yX3_locksThatNeed wsX3_locksThatNeed ({ frames := 1, cells := 0, slots := 0, locals := 21 } : Jvm.Room) (va_Pc [.ref rm, .int 3] (zB dC dI ed sz [(rm, .inr (5, [.ref lk, .ref th, .ref pl, .ref gm, .int 2, .int 10, .int 0, .int 0, .int 1, .int 0, .int 0, .int 0])), (lk, .inl (cL, 10, .inr (.inr (.inr (.inr fl))))), (l0, .inr (3, [.int 0, .int 0, .int 60, .int 0, .int 0, .int 0, .int 0, .int 0, .int 0, .int 0])), (l1, .inr (3, [.int 0, .int 0, .int 60, .int 0, .int 0, .int 0, .int 0, .int 0, .int 0, .int 0]))] [] [(cL, .object "LockRooms$Lock")])) (va_Qi (fun (r : Int32) (_ : Unit) => r = 0) (fun (_ : Unit) (_ : State) => True) (va_A [] sz)) 0 0 (va_A [] sz) := by
  refine Met.ofW (cc := cX3_locksThatNeed) (maxL := 4) (ret := (some .int)) (by decide) rfl ?_
  intro p e s m args below meth c s₁ B hml hv
  obtain ⟨rfl, hsz, hR0, hP, hK, hD0, hN, hH, hX0⟩ := hv
  have hx := B.exec
  have hb := B.bytes
  have hr := B.returns
  have hts := atoms_spec (ws := wsX3_locksThatNeed) B.pre
  have hown : s.vm.findClass RX3 = some m.cls := findClass_of_methodNamed B.named
  have hlocks := B.notSynchronized
  subst hsz
  have hD := hD0.self (sz := s.heap.size)
  have hAr := zx_A hX0 hR0
  generalize hAe : va_A [] s.heap.size = A at hD hAr hH ⊢
  have hA : ∀ q : Nat, s.heap.size ≤ q → A q := fun q h => by rw [← hAe]; exact Or.inr h
  have hS : va_S A s.heap s.heap [] := va_S.rf
  have hl := lv_entry ([.ref rm, .int 3]) (n := 4) (Nat.le_of_ble_eq_true rfl)
  rw [lg_entry_eq]
  generalize (lg_sl ([.ref rm, .int 3]) ++ List.replicate (4 - (lg_sl ([.ref rm, .int 3])).length) Slot.unset).toArray = ls at hl ⊢
  have hl : lv_has ls 4 [(0, .ref rm), (1, .int 3)] := hl
  refine lv_iconst (v := 0) hx hb dX3_locksThatNeed_0 (by decide) ?_
  refine lv_istore_n (lv' := [(2, .int 0), (0, .ref rm), (1, .int 3)]) hx hb dX3_locksThatNeed_1 rfl hl (by decide) rfl (fun ls hl => ?_)
  refine lv_iconst (v := 0) hx hb dX3_locksThatNeed_2 (by decide) ?_
  refine lv_istore_n (lv' := [(3, .int 0), (2, .int 0), (0, .ref rm), (1, .int 3)]) hx hb dX3_locksThatNeed_3 rfl hl (by decide) rfl (fun ls hl => ?_)
  refine lv_iload_n hx hb dX3_locksThatNeed_4 rfl (lv_at hl 0 rfl) ?_
  refine lv_aload_n hx hb dX3_locksThatNeed_5 rfl (lv_at hl 2 rfl) ?_
  refine va_get (D := (dC, dI)) (ci := 5) (v := .int 2) (C := RX3) (T := TX3) (N := 12) hx hb hts zi_X3_locksThatNeed_X3 hown hK hR0 0 rfl rfl 4 (by decide) (hts (.fieldLink RX3 47 "LockRooms$Room" "lockCount" "I") (by decide +kernel)) (fun _ h9 => h9) rfl dX3_locksThatNeed_6 ?_
  refine lv_icmp_ge (tgt := 40) hx hb dX3_locksThatNeed_9 (by decide) (fun h => absurd h (by decide)) (fun _ => ?_)
  refine lv_aload_n hx hb dX3_locksThatNeed_12 rfl (lv_at hl 2 rfl) ?_
  refine va_get (D := (dC, dI)) (ci := 5) (v := .ref lk) (C := RX3) (T := TX3) (N := 12) hx hb hts zi_X3_locksThatNeed_X3 hown hK hR0 0 rfl rfl 0 (by decide) (hts (.fieldLink RX3 11 "LockRooms$Room" "locks" "[LLockRooms$Lock;") (by decide +kernel)) (fun _ h9 => h9) rfl dX3_locksThatNeed_13 ?_
  refine lv_iload_n hx hb dX3_locksThatNeed_16 rfl (lv_at hl 0 rfl) ?_
  refine va_aldq hx hb hK hR0 1 0 rfl rfl (by unfold vp_in; decide) dX3_locksThatNeed_17 ?_
  refine zo_q (v := .ref l0) (by rw [show Int32.toNatClampNeg 0 = 0 from by decide, hkl0]; rfl) ?_
  refine va_get (D := (dC, dI)) (ci := 3) (v := .int 0) (C := RX1) (T := TX1) (N := 10) hx hb hts zi_X3_locksThatNeed_X1 hown hK hR0 2 rfl rfl 0 (by decide) (hts (.fieldLink RX3 78 "LockRooms$Lock" "needs" "I") (by decide +kernel)) (fun _ h9 => h9) rfl dX3_locksThatNeed_18 ?_
  refine lv_iload_n hx hb dX3_locksThatNeed_21 rfl (lv_at hl 3 rfl) ?_
  have hPr := (zo_nil : va_P (dC, dI) vwCl [] s.heap)
  have hPc := hP.sub (ws' := []) [] rfl
  have hDc := hD.sub (ws' := []) [] (by decide) rfl
  have hKc := hK.sub (tys' := []) [] rfl
  have hFc := va_free (wc := []) hD hS hA [] rfl
  refine va_calli (va_runSN (As := [.int 0, .int 3]) (rest := []) ⟨hx, hb, hml, hown, hts⟩ (cz_QisIn l dC dI ed s.heap.size 0 3) ⟨(va_cnB 2 hts gX3_locksThatNeed_X6_isIn_n111 rfl rfl rfl (hN.2.1 ("LockRooms$Room", 111, yX6_isIn, "LockRooms") (List.mem_of_getElem? (i := 5) rfl)) (hts (.initialized RX6) (by decide +kernel)) (by decide +kernel) ⟨Nat.le_of_ble_eq_true rfl, Nat.le_of_ble_eq_true rfl⟩), (hts (.static yX6_isIn) (by decide +kernel)), trivial⟩ ⟨zb_blind, fun U hU hW => ⟨rfl, zb_mk hU hW hPr hPc hKc hDc hN hH hS hFc zx_e⟩⟩ rfl rfl hl.1 rfl (lv_room (Nat.le_of_ble_eq_true rfl)) dX3_locksThatNeed_22 ⟨Nat.le_of_ble_eq_true rfl, Nat.le_of_ble_eq_true rfl⟩) hS (fun q _ h => hFc q h) hFc (fun r2 u t H1 locs ht hvm hw hB hz1 hk1 hS => ?_)
  obtain rfl : r2 = 0 := hw.trans (by decide +kernel)
  have hP := zo_K hP hk1
  refine lv_if_eq (tgt := 34) hx hb dX3_locksThatNeed_25 (by decide) (fun _ => ?_) (fun h => absurd h (by decide))
  refine lv_iinc (v := 1) (lv' := [(3, .int 1), (2, .int 0), (0, .ref rm), (1, .int 3)]) hx hb dX3_locksThatNeed_34 hl (k := 0) rfl (by decide) (by decide) rfl (fun ls hl => ?_)
  refine lv_goto (tgt := 4) hx hb dX3_locksThatNeed_37 (by decide) ?_
  refine lv_iload_n hx hb dX3_locksThatNeed_4 rfl (lv_at hl 0 rfl) ?_
  refine lv_aload_n hx hb dX3_locksThatNeed_5 rfl (lv_at hl 2 rfl) ?_
  refine va_get (D := (dC, dI)) (ci := 5) (v := .int 2) (C := RX3) (T := TX3) (N := 12) hx hb hts zi_X3_locksThatNeed_X3 hown hK (zo_R hR0 hS hAr) 0 rfl rfl 4 (by decide) (hts (.fieldLink RX3 47 "LockRooms$Room" "lockCount" "I") (by decide +kernel)) (fun _ h9 => h9) rfl dX3_locksThatNeed_6 ?_
  refine lv_icmp_ge (tgt := 40) hx hb dX3_locksThatNeed_9 (by decide) (fun h => absurd h (by decide)) (fun _ => ?_)
  refine lv_aload_n hx hb dX3_locksThatNeed_12 rfl (lv_at hl 2 rfl) ?_
  refine va_get (D := (dC, dI)) (ci := 5) (v := .ref lk) (C := RX3) (T := TX3) (N := 12) hx hb hts zi_X3_locksThatNeed_X3 hown hK (zo_R hR0 hS hAr) 0 rfl rfl 0 (by decide) (hts (.fieldLink RX3 11 "LockRooms$Room" "locks" "[LLockRooms$Lock;") (by decide +kernel)) (fun _ h9 => h9) rfl dX3_locksThatNeed_13 ?_
  refine lv_iload_n hx hb dX3_locksThatNeed_16 rfl (lv_at hl 0 rfl) ?_
  refine va_aldq hx hb hK (zo_R hR0 hS hAr) 1 0 rfl rfl (by unfold vp_in; decide) dX3_locksThatNeed_17 ?_
  refine zo_q (v := .ref l1) (by rw [show Int32.toNatClampNeg 1 = 1 from by decide, hkl1]; rfl) ?_
  refine va_get (D := (dC, dI)) (ci := 3) (v := .int 0) (C := RX1) (T := TX1) (N := 10) hx hb hts zi_X3_locksThatNeed_X1 hown hK (zo_R hR0 hS hAr) 3 rfl rfl 0 (by decide) (hts (.fieldLink RX3 78 "LockRooms$Lock" "needs" "I") (by decide +kernel)) (fun _ h9 => h9) rfl dX3_locksThatNeed_18 ?_
  refine lv_iload_n hx hb dX3_locksThatNeed_21 rfl (lv_at hl 3 rfl) ?_
  have hPr := (zo_nil : va_P (dC, dI) vwCl [] H1)
  have hPc := hP.sub (ws' := []) [] rfl
  have hDc := hD.sub (ws' := []) [] (by decide) rfl
  have hKc := hK.sub (tys' := []) [] rfl
  have hFc := va_free (wc := []) hD hS hA [] rfl
  refine va_calli (va_runSN (As := [.int 0, .int 3]) (rest := []) ⟨hx, hb, hml, hown, hts⟩ (cz_QisIn l dC dI ed H1.size 0 3) ⟨(va_cnB 2 hts gX3_locksThatNeed_X6_isIn_n111 rfl rfl rfl (hN.2.1 ("LockRooms$Room", 111, yX6_isIn, "LockRooms") (List.mem_of_getElem? (i := 5) rfl)) (hts (.initialized RX6) (by decide +kernel)) (by decide +kernel) ⟨Nat.le_of_ble_eq_true rfl, Nat.le_of_ble_eq_true rfl⟩), (hts (.static yX6_isIn) (by decide +kernel)), trivial⟩ ⟨zb_blind, fun U hU hW => ⟨rfl, zb_mk hU hW hPr hPc hKc hDc hN hH hS hFc zx_e⟩⟩ rfl rfl hl.1 rfl (lv_room (Nat.le_of_ble_eq_true rfl)) dX3_locksThatNeed_22 ⟨Nat.le_of_ble_eq_true rfl, Nat.le_of_ble_eq_true rfl⟩) hS (fun q _ h => hFc q h) hFc (fun r4 u t H3 locs ht hvm hw hB hz1 hk1 hS => ?_)
  obtain rfl : r4 = 0 := hw.trans (by decide +kernel)
  have hP := zo_K hP hk1
  refine lv_if_eq (tgt := 34) hx hb dX3_locksThatNeed_25 (by decide) (fun _ => ?_) (fun h => absurd h (by decide))
  refine lv_iinc (v := 2) (lv' := [(3, .int 2), (2, .int 0), (0, .ref rm), (1, .int 3)]) hx hb dX3_locksThatNeed_34 hl (k := 0) rfl (by decide) (by decide) rfl (fun ls hl => ?_)
  refine lv_goto (tgt := 4) hx hb dX3_locksThatNeed_37 (by decide) ?_
  refine lv_iload_n hx hb dX3_locksThatNeed_4 rfl (lv_at hl 0 rfl) ?_
  refine lv_aload_n hx hb dX3_locksThatNeed_5 rfl (lv_at hl 2 rfl) ?_
  refine va_get (D := (dC, dI)) (ci := 5) (v := .int 2) (C := RX3) (T := TX3) (N := 12) hx hb hts zi_X3_locksThatNeed_X3 hown hK (zo_R hR0 hS hAr) 0 rfl rfl 4 (by decide) (hts (.fieldLink RX3 47 "LockRooms$Room" "lockCount" "I") (by decide +kernel)) (fun _ h9 => h9) rfl dX3_locksThatNeed_6 ?_
  refine lv_icmp_ge (tgt := 40) hx hb dX3_locksThatNeed_9 (by decide) (fun _ => ?_) (fun h => absurd h (by decide))
  refine lv_iload_n hx hb dX3_locksThatNeed_40 rfl (lv_at hl 1 rfl) ?_
  refine W.widen (k := 0) (n := 0) (Nat.le_of_ble_eq_true rfl) (Nat.le_of_ble_eq_true rfl) ?_
  exact W.iret hx hb hr (fun t ht hW => ⟨⟨0, (), rfl, rfl, trivial⟩, hS.F ht⟩) hS.2.2 dX3_locksThatNeed_41
set_option maxHeartbeats 4000000 in
set_option maxRecDepth 100000 in
theorem cz_QlocksThatNeed_4 (l : Launch) (dC : Nat → ClassId) (dI : Nat → Nat → Nat) (ed sz : Nat) (rm : Nat) (lk : Nat) (th : Nat) (pl : Nat) (gm : Nat) (cL : ClassId) (fl : Nat → Option Nat) (l0 : Nat) (l1 : Nat) (hkl0 : fl 0 = some l0) (hkl1 : fl 1 = some l1) : Met l yX3_locksThatNeed wsX3_locksThatNeed ({ frames := 1, cells := 0, slots := 0, locals := 21 } : Jvm.Room) (va_Pc [.ref rm, .int 4] (zB dC dI ed sz [(rm, .inr (5, [.ref lk, .ref th, .ref pl, .ref gm, .int 2, .int 10, .int 0, .int 0, .int 1, .int 0, .int 0, .int 0])), (lk, .inl (cL, 10, .inr (.inr (.inr (.inr fl))))), (l0, .inr (3, [.int 0, .int 0, .int 60, .int 0, .int 0, .int 0, .int 0, .int 0, .int 0, .int 0])), (l1, .inr (3, [.int 0, .int 0, .int 60, .int 0, .int 0, .int 0, .int 0, .int 0, .int 0, .int 0]))] [] [(cL, .object "LockRooms$Lock")])) (va_Qi (fun (r : Int32) (_ : Unit) => r = 0) (fun (_ : Unit) (_ : State) => True) (va_A [] sz)) 0 0 (va_A [] sz) := by
  refine Met.ofW (cc := cX3_locksThatNeed) (maxL := 4) (ret := (some .int)) (by decide) rfl ?_
  intro p e s m args below meth c s₁ B hml hv
  obtain ⟨rfl, hsz, hR0, hP, hK, hD0, hN, hH, hX0⟩ := hv
  have hx := B.exec
  have hb := B.bytes
  have hr := B.returns
  have hts := atoms_spec (ws := wsX3_locksThatNeed) B.pre
  have hown : s.vm.findClass RX3 = some m.cls := findClass_of_methodNamed B.named
  have hlocks := B.notSynchronized
  subst hsz
  have hD := hD0.self (sz := s.heap.size)
  have hAr := zx_A hX0 hR0
  generalize hAe : va_A [] s.heap.size = A at hD hAr hH ⊢
  have hA : ∀ q : Nat, s.heap.size ≤ q → A q := fun q h => by rw [← hAe]; exact Or.inr h
  have hS : va_S A s.heap s.heap [] := va_S.rf
  have hl := lv_entry ([.ref rm, .int 4]) (n := 4) (Nat.le_of_ble_eq_true rfl)
  rw [lg_entry_eq]
  generalize (lg_sl ([.ref rm, .int 4]) ++ List.replicate (4 - (lg_sl ([.ref rm, .int 4])).length) Slot.unset).toArray = ls at hl ⊢
  have hl : lv_has ls 4 [(0, .ref rm), (1, .int 4)] := hl
  refine lv_iconst (v := 0) hx hb dX3_locksThatNeed_0 (by decide) ?_
  refine lv_istore_n (lv' := [(2, .int 0), (0, .ref rm), (1, .int 4)]) hx hb dX3_locksThatNeed_1 rfl hl (by decide) rfl (fun ls hl => ?_)
  refine lv_iconst (v := 0) hx hb dX3_locksThatNeed_2 (by decide) ?_
  refine lv_istore_n (lv' := [(3, .int 0), (2, .int 0), (0, .ref rm), (1, .int 4)]) hx hb dX3_locksThatNeed_3 rfl hl (by decide) rfl (fun ls hl => ?_)
  refine lv_iload_n hx hb dX3_locksThatNeed_4 rfl (lv_at hl 0 rfl) ?_
  refine lv_aload_n hx hb dX3_locksThatNeed_5 rfl (lv_at hl 2 rfl) ?_
  refine va_get (D := (dC, dI)) (ci := 5) (v := .int 2) (C := RX3) (T := TX3) (N := 12) hx hb hts zi_X3_locksThatNeed_X3 hown hK hR0 0 rfl rfl 4 (by decide) (hts (.fieldLink RX3 47 "LockRooms$Room" "lockCount" "I") (by decide +kernel)) (fun _ h9 => h9) rfl dX3_locksThatNeed_6 ?_
  refine lv_icmp_ge (tgt := 40) hx hb dX3_locksThatNeed_9 (by decide) (fun h => absurd h (by decide)) (fun _ => ?_)
  refine lv_aload_n hx hb dX3_locksThatNeed_12 rfl (lv_at hl 2 rfl) ?_
  refine va_get (D := (dC, dI)) (ci := 5) (v := .ref lk) (C := RX3) (T := TX3) (N := 12) hx hb hts zi_X3_locksThatNeed_X3 hown hK hR0 0 rfl rfl 0 (by decide) (hts (.fieldLink RX3 11 "LockRooms$Room" "locks" "[LLockRooms$Lock;") (by decide +kernel)) (fun _ h9 => h9) rfl dX3_locksThatNeed_13 ?_
  refine lv_iload_n hx hb dX3_locksThatNeed_16 rfl (lv_at hl 0 rfl) ?_
  refine va_aldq hx hb hK hR0 1 0 rfl rfl (by unfold vp_in; decide) dX3_locksThatNeed_17 ?_
  refine zo_q (v := .ref l0) (by rw [show Int32.toNatClampNeg 0 = 0 from by decide, hkl0]; rfl) ?_
  refine va_get (D := (dC, dI)) (ci := 3) (v := .int 0) (C := RX1) (T := TX1) (N := 10) hx hb hts zi_X3_locksThatNeed_X1 hown hK hR0 2 rfl rfl 0 (by decide) (hts (.fieldLink RX3 78 "LockRooms$Lock" "needs" "I") (by decide +kernel)) (fun _ h9 => h9) rfl dX3_locksThatNeed_18 ?_
  refine lv_iload_n hx hb dX3_locksThatNeed_21 rfl (lv_at hl 3 rfl) ?_
  have hPr := (zo_nil : va_P (dC, dI) vwCl [] s.heap)
  have hPc := hP.sub (ws' := []) [] rfl
  have hDc := hD.sub (ws' := []) [] (by decide) rfl
  have hKc := hK.sub (tys' := []) [] rfl
  have hFc := va_free (wc := []) hD hS hA [] rfl
  refine va_calli (va_runSN (As := [.int 0, .int 4]) (rest := []) ⟨hx, hb, hml, hown, hts⟩ (cz_QisIn l dC dI ed s.heap.size 0 4) ⟨(va_cnB 2 hts gX3_locksThatNeed_X6_isIn_n111 rfl rfl rfl (hN.2.1 ("LockRooms$Room", 111, yX6_isIn, "LockRooms") (List.mem_of_getElem? (i := 5) rfl)) (hts (.initialized RX6) (by decide +kernel)) (by decide +kernel) ⟨Nat.le_of_ble_eq_true rfl, Nat.le_of_ble_eq_true rfl⟩), (hts (.static yX6_isIn) (by decide +kernel)), trivial⟩ ⟨zb_blind, fun U hU hW => ⟨rfl, zb_mk hU hW hPr hPc hKc hDc hN hH hS hFc zx_e⟩⟩ rfl rfl hl.1 rfl (lv_room (Nat.le_of_ble_eq_true rfl)) dX3_locksThatNeed_22 ⟨Nat.le_of_ble_eq_true rfl, Nat.le_of_ble_eq_true rfl⟩) hS (fun q _ h => hFc q h) hFc (fun r2 u t H1 locs ht hvm hw hB hz1 hk1 hS => ?_)
  obtain rfl : r2 = 0 := hw.trans (by decide +kernel)
  have hP := zo_K hP hk1
  refine lv_if_eq (tgt := 34) hx hb dX3_locksThatNeed_25 (by decide) (fun _ => ?_) (fun h => absurd h (by decide))
  refine lv_iinc (v := 1) (lv' := [(3, .int 1), (2, .int 0), (0, .ref rm), (1, .int 4)]) hx hb dX3_locksThatNeed_34 hl (k := 0) rfl (by decide) (by decide) rfl (fun ls hl => ?_)
  refine lv_goto (tgt := 4) hx hb dX3_locksThatNeed_37 (by decide) ?_
  refine lv_iload_n hx hb dX3_locksThatNeed_4 rfl (lv_at hl 0 rfl) ?_
  refine lv_aload_n hx hb dX3_locksThatNeed_5 rfl (lv_at hl 2 rfl) ?_
  refine va_get (D := (dC, dI)) (ci := 5) (v := .int 2) (C := RX3) (T := TX3) (N := 12) hx hb hts zi_X3_locksThatNeed_X3 hown hK (zo_R hR0 hS hAr) 0 rfl rfl 4 (by decide) (hts (.fieldLink RX3 47 "LockRooms$Room" "lockCount" "I") (by decide +kernel)) (fun _ h9 => h9) rfl dX3_locksThatNeed_6 ?_
  refine lv_icmp_ge (tgt := 40) hx hb dX3_locksThatNeed_9 (by decide) (fun h => absurd h (by decide)) (fun _ => ?_)
  refine lv_aload_n hx hb dX3_locksThatNeed_12 rfl (lv_at hl 2 rfl) ?_
  refine va_get (D := (dC, dI)) (ci := 5) (v := .ref lk) (C := RX3) (T := TX3) (N := 12) hx hb hts zi_X3_locksThatNeed_X3 hown hK (zo_R hR0 hS hAr) 0 rfl rfl 0 (by decide) (hts (.fieldLink RX3 11 "LockRooms$Room" "locks" "[LLockRooms$Lock;") (by decide +kernel)) (fun _ h9 => h9) rfl dX3_locksThatNeed_13 ?_
  refine lv_iload_n hx hb dX3_locksThatNeed_16 rfl (lv_at hl 0 rfl) ?_
  refine va_aldq hx hb hK (zo_R hR0 hS hAr) 1 0 rfl rfl (by unfold vp_in; decide) dX3_locksThatNeed_17 ?_
  refine zo_q (v := .ref l1) (by rw [show Int32.toNatClampNeg 1 = 1 from by decide, hkl1]; rfl) ?_
  refine va_get (D := (dC, dI)) (ci := 3) (v := .int 0) (C := RX1) (T := TX1) (N := 10) hx hb hts zi_X3_locksThatNeed_X1 hown hK (zo_R hR0 hS hAr) 3 rfl rfl 0 (by decide) (hts (.fieldLink RX3 78 "LockRooms$Lock" "needs" "I") (by decide +kernel)) (fun _ h9 => h9) rfl dX3_locksThatNeed_18 ?_
  refine lv_iload_n hx hb dX3_locksThatNeed_21 rfl (lv_at hl 3 rfl) ?_
  have hPr := (zo_nil : va_P (dC, dI) vwCl [] H1)
  have hPc := hP.sub (ws' := []) [] rfl
  have hDc := hD.sub (ws' := []) [] (by decide) rfl
  have hKc := hK.sub (tys' := []) [] rfl
  have hFc := va_free (wc := []) hD hS hA [] rfl
  refine va_calli (va_runSN (As := [.int 0, .int 4]) (rest := []) ⟨hx, hb, hml, hown, hts⟩ (cz_QisIn l dC dI ed H1.size 0 4) ⟨(va_cnB 2 hts gX3_locksThatNeed_X6_isIn_n111 rfl rfl rfl (hN.2.1 ("LockRooms$Room", 111, yX6_isIn, "LockRooms") (List.mem_of_getElem? (i := 5) rfl)) (hts (.initialized RX6) (by decide +kernel)) (by decide +kernel) ⟨Nat.le_of_ble_eq_true rfl, Nat.le_of_ble_eq_true rfl⟩), (hts (.static yX6_isIn) (by decide +kernel)), trivial⟩ ⟨zb_blind, fun U hU hW => ⟨rfl, zb_mk hU hW hPr hPc hKc hDc hN hH hS hFc zx_e⟩⟩ rfl rfl hl.1 rfl (lv_room (Nat.le_of_ble_eq_true rfl)) dX3_locksThatNeed_22 ⟨Nat.le_of_ble_eq_true rfl, Nat.le_of_ble_eq_true rfl⟩) hS (fun q _ h => hFc q h) hFc (fun r4 u t H3 locs ht hvm hw hB hz1 hk1 hS => ?_)
  obtain rfl : r4 = 0 := hw.trans (by decide +kernel)
  have hP := zo_K hP hk1
  refine lv_if_eq (tgt := 34) hx hb dX3_locksThatNeed_25 (by decide) (fun _ => ?_) (fun h => absurd h (by decide))
  refine lv_iinc (v := 2) (lv' := [(3, .int 2), (2, .int 0), (0, .ref rm), (1, .int 4)]) hx hb dX3_locksThatNeed_34 hl (k := 0) rfl (by decide) (by decide) rfl (fun ls hl => ?_)
  refine lv_goto (tgt := 4) hx hb dX3_locksThatNeed_37 (by decide) ?_
  refine lv_iload_n hx hb dX3_locksThatNeed_4 rfl (lv_at hl 0 rfl) ?_
  refine lv_aload_n hx hb dX3_locksThatNeed_5 rfl (lv_at hl 2 rfl) ?_
  refine va_get (D := (dC, dI)) (ci := 5) (v := .int 2) (C := RX3) (T := TX3) (N := 12) hx hb hts zi_X3_locksThatNeed_X3 hown hK (zo_R hR0 hS hAr) 0 rfl rfl 4 (by decide) (hts (.fieldLink RX3 47 "LockRooms$Room" "lockCount" "I") (by decide +kernel)) (fun _ h9 => h9) rfl dX3_locksThatNeed_6 ?_
  refine lv_icmp_ge (tgt := 40) hx hb dX3_locksThatNeed_9 (by decide) (fun _ => ?_) (fun h => absurd h (by decide))
  refine lv_iload_n hx hb dX3_locksThatNeed_40 rfl (lv_at hl 1 rfl) ?_
  refine W.widen (k := 0) (n := 0) (Nat.le_of_ble_eq_true rfl) (Nat.le_of_ble_eq_true rfl) ?_
  exact W.iret hx hb hr (fun t ht hW => ⟨⟨0, (), rfl, rfl, trivial⟩, hS.F ht⟩) hS.2.2 dX3_locksThatNeed_41
set_option maxHeartbeats 4000000 in
set_option maxRecDepth 100000 in
theorem cz_QlocksThatNeed_5 (l : Launch) (dC : Nat → ClassId) (dI : Nat → Nat → Nat) (ed sz : Nat) (rm : Nat) (lk : Nat) (th : Nat) (pl : Nat) (gm : Nat) (cL : ClassId) (fl : Nat → Option Nat) (l0 : Nat) (l1 : Nat) (hkl0 : fl 0 = some l0) (hkl1 : fl 1 = some l1) : Met l yX3_locksThatNeed wsX3_locksThatNeed ({ frames := 1, cells := 0, slots := 0, locals := 21 } : Jvm.Room) (va_Pc [.ref rm, .int 5] (zB dC dI ed sz [(rm, .inr (5, [.ref lk, .ref th, .ref pl, .ref gm, .int 2, .int 10, .int 0, .int 0, .int 1, .int 0, .int 0, .int 0])), (lk, .inl (cL, 10, .inr (.inr (.inr (.inr fl))))), (l0, .inr (3, [.int 0, .int 0, .int 60, .int 0, .int 0, .int 0, .int 0, .int 0, .int 0, .int 0])), (l1, .inr (3, [.int 0, .int 0, .int 60, .int 0, .int 0, .int 0, .int 0, .int 0, .int 0, .int 0]))] [] [(cL, .object "LockRooms$Lock")])) (va_Qi (fun (r : Int32) (_ : Unit) => r = 0) (fun (_ : Unit) (_ : State) => True) (va_A [] sz)) 0 0 (va_A [] sz) := by
  refine Met.ofW (cc := cX3_locksThatNeed) (maxL := 4) (ret := (some .int)) (by decide) rfl ?_
  intro p e s m args below meth c s₁ B hml hv
  obtain ⟨rfl, hsz, hR0, hP, hK, hD0, hN, hH, hX0⟩ := hv
  have hx := B.exec
  have hb := B.bytes
  have hr := B.returns
  have hts := atoms_spec (ws := wsX3_locksThatNeed) B.pre
  have hown : s.vm.findClass RX3 = some m.cls := findClass_of_methodNamed B.named
  have hlocks := B.notSynchronized
  subst hsz
  have hD := hD0.self (sz := s.heap.size)
  have hAr := zx_A hX0 hR0
  generalize hAe : va_A [] s.heap.size = A at hD hAr hH ⊢
  have hA : ∀ q : Nat, s.heap.size ≤ q → A q := fun q h => by rw [← hAe]; exact Or.inr h
  have hS : va_S A s.heap s.heap [] := va_S.rf
  have hl := lv_entry ([.ref rm, .int 5]) (n := 4) (Nat.le_of_ble_eq_true rfl)
  rw [lg_entry_eq]
  generalize (lg_sl ([.ref rm, .int 5]) ++ List.replicate (4 - (lg_sl ([.ref rm, .int 5])).length) Slot.unset).toArray = ls at hl ⊢
  have hl : lv_has ls 4 [(0, .ref rm), (1, .int 5)] := hl
  refine lv_iconst (v := 0) hx hb dX3_locksThatNeed_0 (by decide) ?_
  refine lv_istore_n (lv' := [(2, .int 0), (0, .ref rm), (1, .int 5)]) hx hb dX3_locksThatNeed_1 rfl hl (by decide) rfl (fun ls hl => ?_)
  refine lv_iconst (v := 0) hx hb dX3_locksThatNeed_2 (by decide) ?_
  refine lv_istore_n (lv' := [(3, .int 0), (2, .int 0), (0, .ref rm), (1, .int 5)]) hx hb dX3_locksThatNeed_3 rfl hl (by decide) rfl (fun ls hl => ?_)
  refine lv_iload_n hx hb dX3_locksThatNeed_4 rfl (lv_at hl 0 rfl) ?_
  refine lv_aload_n hx hb dX3_locksThatNeed_5 rfl (lv_at hl 2 rfl) ?_
  refine va_get (D := (dC, dI)) (ci := 5) (v := .int 2) (C := RX3) (T := TX3) (N := 12) hx hb hts zi_X3_locksThatNeed_X3 hown hK hR0 0 rfl rfl 4 (by decide) (hts (.fieldLink RX3 47 "LockRooms$Room" "lockCount" "I") (by decide +kernel)) (fun _ h9 => h9) rfl dX3_locksThatNeed_6 ?_
  refine lv_icmp_ge (tgt := 40) hx hb dX3_locksThatNeed_9 (by decide) (fun h => absurd h (by decide)) (fun _ => ?_)
  refine lv_aload_n hx hb dX3_locksThatNeed_12 rfl (lv_at hl 2 rfl) ?_
  refine va_get (D := (dC, dI)) (ci := 5) (v := .ref lk) (C := RX3) (T := TX3) (N := 12) hx hb hts zi_X3_locksThatNeed_X3 hown hK hR0 0 rfl rfl 0 (by decide) (hts (.fieldLink RX3 11 "LockRooms$Room" "locks" "[LLockRooms$Lock;") (by decide +kernel)) (fun _ h9 => h9) rfl dX3_locksThatNeed_13 ?_
  refine lv_iload_n hx hb dX3_locksThatNeed_16 rfl (lv_at hl 0 rfl) ?_
  refine va_aldq hx hb hK hR0 1 0 rfl rfl (by unfold vp_in; decide) dX3_locksThatNeed_17 ?_
  refine zo_q (v := .ref l0) (by rw [show Int32.toNatClampNeg 0 = 0 from by decide, hkl0]; rfl) ?_
  refine va_get (D := (dC, dI)) (ci := 3) (v := .int 0) (C := RX1) (T := TX1) (N := 10) hx hb hts zi_X3_locksThatNeed_X1 hown hK hR0 2 rfl rfl 0 (by decide) (hts (.fieldLink RX3 78 "LockRooms$Lock" "needs" "I") (by decide +kernel)) (fun _ h9 => h9) rfl dX3_locksThatNeed_18 ?_
  refine lv_iload_n hx hb dX3_locksThatNeed_21 rfl (lv_at hl 3 rfl) ?_
  have hPr := (zo_nil : va_P (dC, dI) vwCl [] s.heap)
  have hPc := hP.sub (ws' := []) [] rfl
  have hDc := hD.sub (ws' := []) [] (by decide) rfl
  have hKc := hK.sub (tys' := []) [] rfl
  have hFc := va_free (wc := []) hD hS hA [] rfl
  refine va_calli (va_runSN (As := [.int 0, .int 5]) (rest := []) ⟨hx, hb, hml, hown, hts⟩ (cz_QisIn l dC dI ed s.heap.size 0 5) ⟨(va_cnB 2 hts gX3_locksThatNeed_X6_isIn_n111 rfl rfl rfl (hN.2.1 ("LockRooms$Room", 111, yX6_isIn, "LockRooms") (List.mem_of_getElem? (i := 5) rfl)) (hts (.initialized RX6) (by decide +kernel)) (by decide +kernel) ⟨Nat.le_of_ble_eq_true rfl, Nat.le_of_ble_eq_true rfl⟩), (hts (.static yX6_isIn) (by decide +kernel)), trivial⟩ ⟨zb_blind, fun U hU hW => ⟨rfl, zb_mk hU hW hPr hPc hKc hDc hN hH hS hFc zx_e⟩⟩ rfl rfl hl.1 rfl (lv_room (Nat.le_of_ble_eq_true rfl)) dX3_locksThatNeed_22 ⟨Nat.le_of_ble_eq_true rfl, Nat.le_of_ble_eq_true rfl⟩) hS (fun q _ h => hFc q h) hFc (fun r2 u t H1 locs ht hvm hw hB hz1 hk1 hS => ?_)
  obtain rfl : r2 = 0 := hw.trans (by decide +kernel)
  have hP := zo_K hP hk1
  refine lv_if_eq (tgt := 34) hx hb dX3_locksThatNeed_25 (by decide) (fun _ => ?_) (fun h => absurd h (by decide))
  refine lv_iinc (v := 1) (lv' := [(3, .int 1), (2, .int 0), (0, .ref rm), (1, .int 5)]) hx hb dX3_locksThatNeed_34 hl (k := 0) rfl (by decide) (by decide) rfl (fun ls hl => ?_)
  refine lv_goto (tgt := 4) hx hb dX3_locksThatNeed_37 (by decide) ?_
  refine lv_iload_n hx hb dX3_locksThatNeed_4 rfl (lv_at hl 0 rfl) ?_
  refine lv_aload_n hx hb dX3_locksThatNeed_5 rfl (lv_at hl 2 rfl) ?_
  refine va_get (D := (dC, dI)) (ci := 5) (v := .int 2) (C := RX3) (T := TX3) (N := 12) hx hb hts zi_X3_locksThatNeed_X3 hown hK (zo_R hR0 hS hAr) 0 rfl rfl 4 (by decide) (hts (.fieldLink RX3 47 "LockRooms$Room" "lockCount" "I") (by decide +kernel)) (fun _ h9 => h9) rfl dX3_locksThatNeed_6 ?_
  refine lv_icmp_ge (tgt := 40) hx hb dX3_locksThatNeed_9 (by decide) (fun h => absurd h (by decide)) (fun _ => ?_)
  refine lv_aload_n hx hb dX3_locksThatNeed_12 rfl (lv_at hl 2 rfl) ?_
  refine va_get (D := (dC, dI)) (ci := 5) (v := .ref lk) (C := RX3) (T := TX3) (N := 12) hx hb hts zi_X3_locksThatNeed_X3 hown hK (zo_R hR0 hS hAr) 0 rfl rfl 0 (by decide) (hts (.fieldLink RX3 11 "LockRooms$Room" "locks" "[LLockRooms$Lock;") (by decide +kernel)) (fun _ h9 => h9) rfl dX3_locksThatNeed_13 ?_
  refine lv_iload_n hx hb dX3_locksThatNeed_16 rfl (lv_at hl 0 rfl) ?_
  refine va_aldq hx hb hK (zo_R hR0 hS hAr) 1 0 rfl rfl (by unfold vp_in; decide) dX3_locksThatNeed_17 ?_
  refine zo_q (v := .ref l1) (by rw [show Int32.toNatClampNeg 1 = 1 from by decide, hkl1]; rfl) ?_
  refine va_get (D := (dC, dI)) (ci := 3) (v := .int 0) (C := RX1) (T := TX1) (N := 10) hx hb hts zi_X3_locksThatNeed_X1 hown hK (zo_R hR0 hS hAr) 3 rfl rfl 0 (by decide) (hts (.fieldLink RX3 78 "LockRooms$Lock" "needs" "I") (by decide +kernel)) (fun _ h9 => h9) rfl dX3_locksThatNeed_18 ?_
  refine lv_iload_n hx hb dX3_locksThatNeed_21 rfl (lv_at hl 3 rfl) ?_
  have hPr := (zo_nil : va_P (dC, dI) vwCl [] H1)
  have hPc := hP.sub (ws' := []) [] rfl
  have hDc := hD.sub (ws' := []) [] (by decide) rfl
  have hKc := hK.sub (tys' := []) [] rfl
  have hFc := va_free (wc := []) hD hS hA [] rfl
  refine va_calli (va_runSN (As := [.int 0, .int 5]) (rest := []) ⟨hx, hb, hml, hown, hts⟩ (cz_QisIn l dC dI ed H1.size 0 5) ⟨(va_cnB 2 hts gX3_locksThatNeed_X6_isIn_n111 rfl rfl rfl (hN.2.1 ("LockRooms$Room", 111, yX6_isIn, "LockRooms") (List.mem_of_getElem? (i := 5) rfl)) (hts (.initialized RX6) (by decide +kernel)) (by decide +kernel) ⟨Nat.le_of_ble_eq_true rfl, Nat.le_of_ble_eq_true rfl⟩), (hts (.static yX6_isIn) (by decide +kernel)), trivial⟩ ⟨zb_blind, fun U hU hW => ⟨rfl, zb_mk hU hW hPr hPc hKc hDc hN hH hS hFc zx_e⟩⟩ rfl rfl hl.1 rfl (lv_room (Nat.le_of_ble_eq_true rfl)) dX3_locksThatNeed_22 ⟨Nat.le_of_ble_eq_true rfl, Nat.le_of_ble_eq_true rfl⟩) hS (fun q _ h => hFc q h) hFc (fun r4 u t H3 locs ht hvm hw hB hz1 hk1 hS => ?_)
  obtain rfl : r4 = 0 := hw.trans (by decide +kernel)
  have hP := zo_K hP hk1
  refine lv_if_eq (tgt := 34) hx hb dX3_locksThatNeed_25 (by decide) (fun _ => ?_) (fun h => absurd h (by decide))
  refine lv_iinc (v := 2) (lv' := [(3, .int 2), (2, .int 0), (0, .ref rm), (1, .int 5)]) hx hb dX3_locksThatNeed_34 hl (k := 0) rfl (by decide) (by decide) rfl (fun ls hl => ?_)
  refine lv_goto (tgt := 4) hx hb dX3_locksThatNeed_37 (by decide) ?_
  refine lv_iload_n hx hb dX3_locksThatNeed_4 rfl (lv_at hl 0 rfl) ?_
  refine lv_aload_n hx hb dX3_locksThatNeed_5 rfl (lv_at hl 2 rfl) ?_
  refine va_get (D := (dC, dI)) (ci := 5) (v := .int 2) (C := RX3) (T := TX3) (N := 12) hx hb hts zi_X3_locksThatNeed_X3 hown hK (zo_R hR0 hS hAr) 0 rfl rfl 4 (by decide) (hts (.fieldLink RX3 47 "LockRooms$Room" "lockCount" "I") (by decide +kernel)) (fun _ h9 => h9) rfl dX3_locksThatNeed_6 ?_
  refine lv_icmp_ge (tgt := 40) hx hb dX3_locksThatNeed_9 (by decide) (fun _ => ?_) (fun h => absurd h (by decide))
  refine lv_iload_n hx hb dX3_locksThatNeed_40 rfl (lv_at hl 1 rfl) ?_
  refine W.widen (k := 0) (n := 0) (Nat.le_of_ble_eq_true rfl) (Nat.le_of_ble_eq_true rfl) ?_
  exact W.iret hx hb hr (fun t ht hW => ⟨⟨0, (), rfl, rfl, trivial⟩, hS.F ht⟩) hS.2.2 dX3_locksThatNeed_41
set_option maxHeartbeats 4000000 in
set_option maxRecDepth 100000 in
theorem cz_QlocksThatNeed_6 (l : Launch) (dC : Nat → ClassId) (dI : Nat → Nat → Nat) (ed sz : Nat) (rm : Nat) (lk : Nat) (th : Nat) (pl : Nat) (gm : Nat) (cL : ClassId) (fl : Nat → Option Nat) (l0 : Nat) (l1 : Nat) (hkl0 : fl 0 = some l0) (hkl1 : fl 1 = some l1) : Met l yX3_locksThatNeed wsX3_locksThatNeed ({ frames := 1, cells := 0, slots := 0, locals := 21 } : Jvm.Room) (va_Pc [.ref rm, .int 6] (zB dC dI ed sz [(rm, .inr (5, [.ref lk, .ref th, .ref pl, .ref gm, .int 2, .int 10, .int 0, .int 0, .int 1, .int 0, .int 0, .int 0])), (lk, .inl (cL, 10, .inr (.inr (.inr (.inr fl))))), (l0, .inr (3, [.int 0, .int 0, .int 60, .int 0, .int 0, .int 0, .int 0, .int 0, .int 0, .int 0])), (l1, .inr (3, [.int 0, .int 0, .int 60, .int 0, .int 0, .int 0, .int 0, .int 0, .int 0, .int 0]))] [] [(cL, .object "LockRooms$Lock")])) (va_Qi (fun (r : Int32) (_ : Unit) => r = 0) (fun (_ : Unit) (_ : State) => True) (va_A [] sz)) 0 0 (va_A [] sz) := by
  refine Met.ofW (cc := cX3_locksThatNeed) (maxL := 4) (ret := (some .int)) (by decide) rfl ?_
  intro p e s m args below meth c s₁ B hml hv
  obtain ⟨rfl, hsz, hR0, hP, hK, hD0, hN, hH, hX0⟩ := hv
  have hx := B.exec
  have hb := B.bytes
  have hr := B.returns
  have hts := atoms_spec (ws := wsX3_locksThatNeed) B.pre
  have hown : s.vm.findClass RX3 = some m.cls := findClass_of_methodNamed B.named
  have hlocks := B.notSynchronized
  subst hsz
  have hD := hD0.self (sz := s.heap.size)
  have hAr := zx_A hX0 hR0
  generalize hAe : va_A [] s.heap.size = A at hD hAr hH ⊢
  have hA : ∀ q : Nat, s.heap.size ≤ q → A q := fun q h => by rw [← hAe]; exact Or.inr h
  have hS : va_S A s.heap s.heap [] := va_S.rf
  have hl := lv_entry ([.ref rm, .int 6]) (n := 4) (Nat.le_of_ble_eq_true rfl)
  rw [lg_entry_eq]
  generalize (lg_sl ([.ref rm, .int 6]) ++ List.replicate (4 - (lg_sl ([.ref rm, .int 6])).length) Slot.unset).toArray = ls at hl ⊢
  have hl : lv_has ls 4 [(0, .ref rm), (1, .int 6)] := hl
  refine lv_iconst (v := 0) hx hb dX3_locksThatNeed_0 (by decide) ?_
  refine lv_istore_n (lv' := [(2, .int 0), (0, .ref rm), (1, .int 6)]) hx hb dX3_locksThatNeed_1 rfl hl (by decide) rfl (fun ls hl => ?_)
  refine lv_iconst (v := 0) hx hb dX3_locksThatNeed_2 (by decide) ?_
  refine lv_istore_n (lv' := [(3, .int 0), (2, .int 0), (0, .ref rm), (1, .int 6)]) hx hb dX3_locksThatNeed_3 rfl hl (by decide) rfl (fun ls hl => ?_)
  refine lv_iload_n hx hb dX3_locksThatNeed_4 rfl (lv_at hl 0 rfl) ?_
  refine lv_aload_n hx hb dX3_locksThatNeed_5 rfl (lv_at hl 2 rfl) ?_
  refine va_get (D := (dC, dI)) (ci := 5) (v := .int 2) (C := RX3) (T := TX3) (N := 12) hx hb hts zi_X3_locksThatNeed_X3 hown hK hR0 0 rfl rfl 4 (by decide) (hts (.fieldLink RX3 47 "LockRooms$Room" "lockCount" "I") (by decide +kernel)) (fun _ h9 => h9) rfl dX3_locksThatNeed_6 ?_
  refine lv_icmp_ge (tgt := 40) hx hb dX3_locksThatNeed_9 (by decide) (fun h => absurd h (by decide)) (fun _ => ?_)
  refine lv_aload_n hx hb dX3_locksThatNeed_12 rfl (lv_at hl 2 rfl) ?_
  refine va_get (D := (dC, dI)) (ci := 5) (v := .ref lk) (C := RX3) (T := TX3) (N := 12) hx hb hts zi_X3_locksThatNeed_X3 hown hK hR0 0 rfl rfl 0 (by decide) (hts (.fieldLink RX3 11 "LockRooms$Room" "locks" "[LLockRooms$Lock;") (by decide +kernel)) (fun _ h9 => h9) rfl dX3_locksThatNeed_13 ?_
  refine lv_iload_n hx hb dX3_locksThatNeed_16 rfl (lv_at hl 0 rfl) ?_
  refine va_aldq hx hb hK hR0 1 0 rfl rfl (by unfold vp_in; decide) dX3_locksThatNeed_17 ?_
  refine zo_q (v := .ref l0) (by rw [show Int32.toNatClampNeg 0 = 0 from by decide, hkl0]; rfl) ?_
  refine va_get (D := (dC, dI)) (ci := 3) (v := .int 0) (C := RX1) (T := TX1) (N := 10) hx hb hts zi_X3_locksThatNeed_X1 hown hK hR0 2 rfl rfl 0 (by decide) (hts (.fieldLink RX3 78 "LockRooms$Lock" "needs" "I") (by decide +kernel)) (fun _ h9 => h9) rfl dX3_locksThatNeed_18 ?_
  refine lv_iload_n hx hb dX3_locksThatNeed_21 rfl (lv_at hl 3 rfl) ?_
  have hPr := (zo_nil : va_P (dC, dI) vwCl [] s.heap)
  have hPc := hP.sub (ws' := []) [] rfl
  have hDc := hD.sub (ws' := []) [] (by decide) rfl
  have hKc := hK.sub (tys' := []) [] rfl
  have hFc := va_free (wc := []) hD hS hA [] rfl
  refine va_calli (va_runSN (As := [.int 0, .int 6]) (rest := []) ⟨hx, hb, hml, hown, hts⟩ (cz_QisIn l dC dI ed s.heap.size 0 6) ⟨(va_cnB 2 hts gX3_locksThatNeed_X6_isIn_n111 rfl rfl rfl (hN.2.1 ("LockRooms$Room", 111, yX6_isIn, "LockRooms") (List.mem_of_getElem? (i := 5) rfl)) (hts (.initialized RX6) (by decide +kernel)) (by decide +kernel) ⟨Nat.le_of_ble_eq_true rfl, Nat.le_of_ble_eq_true rfl⟩), (hts (.static yX6_isIn) (by decide +kernel)), trivial⟩ ⟨zb_blind, fun U hU hW => ⟨rfl, zb_mk hU hW hPr hPc hKc hDc hN hH hS hFc zx_e⟩⟩ rfl rfl hl.1 rfl (lv_room (Nat.le_of_ble_eq_true rfl)) dX3_locksThatNeed_22 ⟨Nat.le_of_ble_eq_true rfl, Nat.le_of_ble_eq_true rfl⟩) hS (fun q _ h => hFc q h) hFc (fun r2 u t H1 locs ht hvm hw hB hz1 hk1 hS => ?_)
  obtain rfl : r2 = 0 := hw.trans (by decide +kernel)
  have hP := zo_K hP hk1
  refine lv_if_eq (tgt := 34) hx hb dX3_locksThatNeed_25 (by decide) (fun _ => ?_) (fun h => absurd h (by decide))
  refine lv_iinc (v := 1) (lv' := [(3, .int 1), (2, .int 0), (0, .ref rm), (1, .int 6)]) hx hb dX3_locksThatNeed_34 hl (k := 0) rfl (by decide) (by decide) rfl (fun ls hl => ?_)
  refine lv_goto (tgt := 4) hx hb dX3_locksThatNeed_37 (by decide) ?_
  refine lv_iload_n hx hb dX3_locksThatNeed_4 rfl (lv_at hl 0 rfl) ?_
  refine lv_aload_n hx hb dX3_locksThatNeed_5 rfl (lv_at hl 2 rfl) ?_
  refine va_get (D := (dC, dI)) (ci := 5) (v := .int 2) (C := RX3) (T := TX3) (N := 12) hx hb hts zi_X3_locksThatNeed_X3 hown hK (zo_R hR0 hS hAr) 0 rfl rfl 4 (by decide) (hts (.fieldLink RX3 47 "LockRooms$Room" "lockCount" "I") (by decide +kernel)) (fun _ h9 => h9) rfl dX3_locksThatNeed_6 ?_
  refine lv_icmp_ge (tgt := 40) hx hb dX3_locksThatNeed_9 (by decide) (fun h => absurd h (by decide)) (fun _ => ?_)
  refine lv_aload_n hx hb dX3_locksThatNeed_12 rfl (lv_at hl 2 rfl) ?_
  refine va_get (D := (dC, dI)) (ci := 5) (v := .ref lk) (C := RX3) (T := TX3) (N := 12) hx hb hts zi_X3_locksThatNeed_X3 hown hK (zo_R hR0 hS hAr) 0 rfl rfl 0 (by decide) (hts (.fieldLink RX3 11 "LockRooms$Room" "locks" "[LLockRooms$Lock;") (by decide +kernel)) (fun _ h9 => h9) rfl dX3_locksThatNeed_13 ?_
  refine lv_iload_n hx hb dX3_locksThatNeed_16 rfl (lv_at hl 0 rfl) ?_
  refine va_aldq hx hb hK (zo_R hR0 hS hAr) 1 0 rfl rfl (by unfold vp_in; decide) dX3_locksThatNeed_17 ?_
  refine zo_q (v := .ref l1) (by rw [show Int32.toNatClampNeg 1 = 1 from by decide, hkl1]; rfl) ?_
  refine va_get (D := (dC, dI)) (ci := 3) (v := .int 0) (C := RX1) (T := TX1) (N := 10) hx hb hts zi_X3_locksThatNeed_X1 hown hK (zo_R hR0 hS hAr) 3 rfl rfl 0 (by decide) (hts (.fieldLink RX3 78 "LockRooms$Lock" "needs" "I") (by decide +kernel)) (fun _ h9 => h9) rfl dX3_locksThatNeed_18 ?_
  refine lv_iload_n hx hb dX3_locksThatNeed_21 rfl (lv_at hl 3 rfl) ?_
  have hPr := (zo_nil : va_P (dC, dI) vwCl [] H1)
  have hPc := hP.sub (ws' := []) [] rfl
  have hDc := hD.sub (ws' := []) [] (by decide) rfl
  have hKc := hK.sub (tys' := []) [] rfl
  have hFc := va_free (wc := []) hD hS hA [] rfl
  refine va_calli (va_runSN (As := [.int 0, .int 6]) (rest := []) ⟨hx, hb, hml, hown, hts⟩ (cz_QisIn l dC dI ed H1.size 0 6) ⟨(va_cnB 2 hts gX3_locksThatNeed_X6_isIn_n111 rfl rfl rfl (hN.2.1 ("LockRooms$Room", 111, yX6_isIn, "LockRooms") (List.mem_of_getElem? (i := 5) rfl)) (hts (.initialized RX6) (by decide +kernel)) (by decide +kernel) ⟨Nat.le_of_ble_eq_true rfl, Nat.le_of_ble_eq_true rfl⟩), (hts (.static yX6_isIn) (by decide +kernel)), trivial⟩ ⟨zb_blind, fun U hU hW => ⟨rfl, zb_mk hU hW hPr hPc hKc hDc hN hH hS hFc zx_e⟩⟩ rfl rfl hl.1 rfl (lv_room (Nat.le_of_ble_eq_true rfl)) dX3_locksThatNeed_22 ⟨Nat.le_of_ble_eq_true rfl, Nat.le_of_ble_eq_true rfl⟩) hS (fun q _ h => hFc q h) hFc (fun r4 u t H3 locs ht hvm hw hB hz1 hk1 hS => ?_)
  obtain rfl : r4 = 0 := hw.trans (by decide +kernel)
  have hP := zo_K hP hk1
  refine lv_if_eq (tgt := 34) hx hb dX3_locksThatNeed_25 (by decide) (fun _ => ?_) (fun h => absurd h (by decide))
  refine lv_iinc (v := 2) (lv' := [(3, .int 2), (2, .int 0), (0, .ref rm), (1, .int 6)]) hx hb dX3_locksThatNeed_34 hl (k := 0) rfl (by decide) (by decide) rfl (fun ls hl => ?_)
  refine lv_goto (tgt := 4) hx hb dX3_locksThatNeed_37 (by decide) ?_
  refine lv_iload_n hx hb dX3_locksThatNeed_4 rfl (lv_at hl 0 rfl) ?_
  refine lv_aload_n hx hb dX3_locksThatNeed_5 rfl (lv_at hl 2 rfl) ?_
  refine va_get (D := (dC, dI)) (ci := 5) (v := .int 2) (C := RX3) (T := TX3) (N := 12) hx hb hts zi_X3_locksThatNeed_X3 hown hK (zo_R hR0 hS hAr) 0 rfl rfl 4 (by decide) (hts (.fieldLink RX3 47 "LockRooms$Room" "lockCount" "I") (by decide +kernel)) (fun _ h9 => h9) rfl dX3_locksThatNeed_6 ?_
  refine lv_icmp_ge (tgt := 40) hx hb dX3_locksThatNeed_9 (by decide) (fun _ => ?_) (fun h => absurd h (by decide))
  refine lv_iload_n hx hb dX3_locksThatNeed_40 rfl (lv_at hl 1 rfl) ?_
  refine W.widen (k := 0) (n := 0) (Nat.le_of_ble_eq_true rfl) (Nat.le_of_ble_eq_true rfl) ?_
  exact W.iret hx hb hr (fun t ht hW => ⟨⟨0, (), rfl, rfl, trivial⟩, hS.F ht⟩) hS.2.2 dX3_locksThatNeed_41
set_option maxHeartbeats 4000000 in
set_option maxRecDepth 100000 in
theorem cz_QlocksThatNeed_7 (l : Launch) (dC : Nat → ClassId) (dI : Nat → Nat → Nat) (ed sz : Nat) (rm : Nat) (lk : Nat) (th : Nat) (pl : Nat) (gm : Nat) (cL : ClassId) (fl : Nat → Option Nat) (l0 : Nat) (l1 : Nat) (hkl0 : fl 0 = some l0) (hkl1 : fl 1 = some l1) : Met l yX3_locksThatNeed wsX3_locksThatNeed ({ frames := 1, cells := 0, slots := 0, locals := 21 } : Jvm.Room) (va_Pc [.ref rm, .int 7] (zB dC dI ed sz [(rm, .inr (5, [.ref lk, .ref th, .ref pl, .ref gm, .int 2, .int 10, .int 0, .int 0, .int 1, .int 0, .int 0, .int 0])), (lk, .inl (cL, 10, .inr (.inr (.inr (.inr fl))))), (l0, .inr (3, [.int 0, .int 0, .int 60, .int 0, .int 0, .int 0, .int 0, .int 0, .int 0, .int 0])), (l1, .inr (3, [.int 0, .int 0, .int 60, .int 0, .int 0, .int 0, .int 0, .int 0, .int 0, .int 0]))] [] [(cL, .object "LockRooms$Lock")])) (va_Qi (fun (r : Int32) (_ : Unit) => r = 0) (fun (_ : Unit) (_ : State) => True) (va_A [] sz)) 0 0 (va_A [] sz) := by
  refine Met.ofW (cc := cX3_locksThatNeed) (maxL := 4) (ret := (some .int)) (by decide) rfl ?_
  intro p e s m args below meth c s₁ B hml hv
  obtain ⟨rfl, hsz, hR0, hP, hK, hD0, hN, hH, hX0⟩ := hv
  have hx := B.exec
  have hb := B.bytes
  have hr := B.returns
  have hts := atoms_spec (ws := wsX3_locksThatNeed) B.pre
  have hown : s.vm.findClass RX3 = some m.cls := findClass_of_methodNamed B.named
  have hlocks := B.notSynchronized
  subst hsz
  have hD := hD0.self (sz := s.heap.size)
  have hAr := zx_A hX0 hR0
  generalize hAe : va_A [] s.heap.size = A at hD hAr hH ⊢
  have hA : ∀ q : Nat, s.heap.size ≤ q → A q := fun q h => by rw [← hAe]; exact Or.inr h
  have hS : va_S A s.heap s.heap [] := va_S.rf
  have hl := lv_entry ([.ref rm, .int 7]) (n := 4) (Nat.le_of_ble_eq_true rfl)
  rw [lg_entry_eq]
  generalize (lg_sl ([.ref rm, .int 7]) ++ List.replicate (4 - (lg_sl ([.ref rm, .int 7])).length) Slot.unset).toArray = ls at hl ⊢
  have hl : lv_has ls 4 [(0, .ref rm), (1, .int 7)] := hl
  refine lv_iconst (v := 0) hx hb dX3_locksThatNeed_0 (by decide) ?_
  refine lv_istore_n (lv' := [(2, .int 0), (0, .ref rm), (1, .int 7)]) hx hb dX3_locksThatNeed_1 rfl hl (by decide) rfl (fun ls hl => ?_)
  refine lv_iconst (v := 0) hx hb dX3_locksThatNeed_2 (by decide) ?_
  refine lv_istore_n (lv' := [(3, .int 0), (2, .int 0), (0, .ref rm), (1, .int 7)]) hx hb dX3_locksThatNeed_3 rfl hl (by decide) rfl (fun ls hl => ?_)
  refine lv_iload_n hx hb dX3_locksThatNeed_4 rfl (lv_at hl 0 rfl) ?_
  refine lv_aload_n hx hb dX3_locksThatNeed_5 rfl (lv_at hl 2 rfl) ?_
  refine va_get (D := (dC, dI)) (ci := 5) (v := .int 2) (C := RX3) (T := TX3) (N := 12) hx hb hts zi_X3_locksThatNeed_X3 hown hK hR0 0 rfl rfl 4 (by decide) (hts (.fieldLink RX3 47 "LockRooms$Room" "lockCount" "I") (by decide +kernel)) (fun _ h9 => h9) rfl dX3_locksThatNeed_6 ?_
  refine lv_icmp_ge (tgt := 40) hx hb dX3_locksThatNeed_9 (by decide) (fun h => absurd h (by decide)) (fun _ => ?_)
  refine lv_aload_n hx hb dX3_locksThatNeed_12 rfl (lv_at hl 2 rfl) ?_
  refine va_get (D := (dC, dI)) (ci := 5) (v := .ref lk) (C := RX3) (T := TX3) (N := 12) hx hb hts zi_X3_locksThatNeed_X3 hown hK hR0 0 rfl rfl 0 (by decide) (hts (.fieldLink RX3 11 "LockRooms$Room" "locks" "[LLockRooms$Lock;") (by decide +kernel)) (fun _ h9 => h9) rfl dX3_locksThatNeed_13 ?_
  refine lv_iload_n hx hb dX3_locksThatNeed_16 rfl (lv_at hl 0 rfl) ?_
  refine va_aldq hx hb hK hR0 1 0 rfl rfl (by unfold vp_in; decide) dX3_locksThatNeed_17 ?_
  refine zo_q (v := .ref l0) (by rw [show Int32.toNatClampNeg 0 = 0 from by decide, hkl0]; rfl) ?_
  refine va_get (D := (dC, dI)) (ci := 3) (v := .int 0) (C := RX1) (T := TX1) (N := 10) hx hb hts zi_X3_locksThatNeed_X1 hown hK hR0 2 rfl rfl 0 (by decide) (hts (.fieldLink RX3 78 "LockRooms$Lock" "needs" "I") (by decide +kernel)) (fun _ h9 => h9) rfl dX3_locksThatNeed_18 ?_
  refine lv_iload_n hx hb dX3_locksThatNeed_21 rfl (lv_at hl 3 rfl) ?_
  have hPr := (zo_nil : va_P (dC, dI) vwCl [] s.heap)
  have hPc := hP.sub (ws' := []) [] rfl
  have hDc := hD.sub (ws' := []) [] (by decide) rfl
  have hKc := hK.sub (tys' := []) [] rfl
  have hFc := va_free (wc := []) hD hS hA [] rfl
  refine va_calli (va_runSN (As := [.int 0, .int 7]) (rest := []) ⟨hx, hb, hml, hown, hts⟩ (cz_QisIn l dC dI ed s.heap.size 0 7) ⟨(va_cnB 2 hts gX3_locksThatNeed_X6_isIn_n111 rfl rfl rfl (hN.2.1 ("LockRooms$Room", 111, yX6_isIn, "LockRooms") (List.mem_of_getElem? (i := 5) rfl)) (hts (.initialized RX6) (by decide +kernel)) (by decide +kernel) ⟨Nat.le_of_ble_eq_true rfl, Nat.le_of_ble_eq_true rfl⟩), (hts (.static yX6_isIn) (by decide +kernel)), trivial⟩ ⟨zb_blind, fun U hU hW => ⟨rfl, zb_mk hU hW hPr hPc hKc hDc hN hH hS hFc zx_e⟩⟩ rfl rfl hl.1 rfl (lv_room (Nat.le_of_ble_eq_true rfl)) dX3_locksThatNeed_22 ⟨Nat.le_of_ble_eq_true rfl, Nat.le_of_ble_eq_true rfl⟩) hS (fun q _ h => hFc q h) hFc (fun r2 u t H1 locs ht hvm hw hB hz1 hk1 hS => ?_)
  obtain rfl : r2 = 0 := hw.trans (by decide +kernel)
  have hP := zo_K hP hk1
  refine lv_if_eq (tgt := 34) hx hb dX3_locksThatNeed_25 (by decide) (fun _ => ?_) (fun h => absurd h (by decide))
  refine lv_iinc (v := 1) (lv' := [(3, .int 1), (2, .int 0), (0, .ref rm), (1, .int 7)]) hx hb dX3_locksThatNeed_34 hl (k := 0) rfl (by decide) (by decide) rfl (fun ls hl => ?_)
  refine lv_goto (tgt := 4) hx hb dX3_locksThatNeed_37 (by decide) ?_
  refine lv_iload_n hx hb dX3_locksThatNeed_4 rfl (lv_at hl 0 rfl) ?_
  refine lv_aload_n hx hb dX3_locksThatNeed_5 rfl (lv_at hl 2 rfl) ?_
  refine va_get (D := (dC, dI)) (ci := 5) (v := .int 2) (C := RX3) (T := TX3) (N := 12) hx hb hts zi_X3_locksThatNeed_X3 hown hK (zo_R hR0 hS hAr) 0 rfl rfl 4 (by decide) (hts (.fieldLink RX3 47 "LockRooms$Room" "lockCount" "I") (by decide +kernel)) (fun _ h9 => h9) rfl dX3_locksThatNeed_6 ?_
  refine lv_icmp_ge (tgt := 40) hx hb dX3_locksThatNeed_9 (by decide) (fun h => absurd h (by decide)) (fun _ => ?_)
  refine lv_aload_n hx hb dX3_locksThatNeed_12 rfl (lv_at hl 2 rfl) ?_
  refine va_get (D := (dC, dI)) (ci := 5) (v := .ref lk) (C := RX3) (T := TX3) (N := 12) hx hb hts zi_X3_locksThatNeed_X3 hown hK (zo_R hR0 hS hAr) 0 rfl rfl 0 (by decide) (hts (.fieldLink RX3 11 "LockRooms$Room" "locks" "[LLockRooms$Lock;") (by decide +kernel)) (fun _ h9 => h9) rfl dX3_locksThatNeed_13 ?_
  refine lv_iload_n hx hb dX3_locksThatNeed_16 rfl (lv_at hl 0 rfl) ?_
  refine va_aldq hx hb hK (zo_R hR0 hS hAr) 1 0 rfl rfl (by unfold vp_in; decide) dX3_locksThatNeed_17 ?_
  refine zo_q (v := .ref l1) (by rw [show Int32.toNatClampNeg 1 = 1 from by decide, hkl1]; rfl) ?_
  refine va_get (D := (dC, dI)) (ci := 3) (v := .int 0) (C := RX1) (T := TX1) (N := 10) hx hb hts zi_X3_locksThatNeed_X1 hown hK (zo_R hR0 hS hAr) 3 rfl rfl 0 (by decide) (hts (.fieldLink RX3 78 "LockRooms$Lock" "needs" "I") (by decide +kernel)) (fun _ h9 => h9) rfl dX3_locksThatNeed_18 ?_
  refine lv_iload_n hx hb dX3_locksThatNeed_21 rfl (lv_at hl 3 rfl) ?_
  have hPr := (zo_nil : va_P (dC, dI) vwCl [] H1)
  have hPc := hP.sub (ws' := []) [] rfl
  have hDc := hD.sub (ws' := []) [] (by decide) rfl
  have hKc := hK.sub (tys' := []) [] rfl
  have hFc := va_free (wc := []) hD hS hA [] rfl
  refine va_calli (va_runSN (As := [.int 0, .int 7]) (rest := []) ⟨hx, hb, hml, hown, hts⟩ (cz_QisIn l dC dI ed H1.size 0 7) ⟨(va_cnB 2 hts gX3_locksThatNeed_X6_isIn_n111 rfl rfl rfl (hN.2.1 ("LockRooms$Room", 111, yX6_isIn, "LockRooms") (List.mem_of_getElem? (i := 5) rfl)) (hts (.initialized RX6) (by decide +kernel)) (by decide +kernel) ⟨Nat.le_of_ble_eq_true rfl, Nat.le_of_ble_eq_true rfl⟩), (hts (.static yX6_isIn) (by decide +kernel)), trivial⟩ ⟨zb_blind, fun U hU hW => ⟨rfl, zb_mk hU hW hPr hPc hKc hDc hN hH hS hFc zx_e⟩⟩ rfl rfl hl.1 rfl (lv_room (Nat.le_of_ble_eq_true rfl)) dX3_locksThatNeed_22 ⟨Nat.le_of_ble_eq_true rfl, Nat.le_of_ble_eq_true rfl⟩) hS (fun q _ h => hFc q h) hFc (fun r4 u t H3 locs ht hvm hw hB hz1 hk1 hS => ?_)
  obtain rfl : r4 = 0 := hw.trans (by decide +kernel)
  have hP := zo_K hP hk1
  refine lv_if_eq (tgt := 34) hx hb dX3_locksThatNeed_25 (by decide) (fun _ => ?_) (fun h => absurd h (by decide))
  refine lv_iinc (v := 2) (lv' := [(3, .int 2), (2, .int 0), (0, .ref rm), (1, .int 7)]) hx hb dX3_locksThatNeed_34 hl (k := 0) rfl (by decide) (by decide) rfl (fun ls hl => ?_)
  refine lv_goto (tgt := 4) hx hb dX3_locksThatNeed_37 (by decide) ?_
  refine lv_iload_n hx hb dX3_locksThatNeed_4 rfl (lv_at hl 0 rfl) ?_
  refine lv_aload_n hx hb dX3_locksThatNeed_5 rfl (lv_at hl 2 rfl) ?_
  refine va_get (D := (dC, dI)) (ci := 5) (v := .int 2) (C := RX3) (T := TX3) (N := 12) hx hb hts zi_X3_locksThatNeed_X3 hown hK (zo_R hR0 hS hAr) 0 rfl rfl 4 (by decide) (hts (.fieldLink RX3 47 "LockRooms$Room" "lockCount" "I") (by decide +kernel)) (fun _ h9 => h9) rfl dX3_locksThatNeed_6 ?_
  refine lv_icmp_ge (tgt := 40) hx hb dX3_locksThatNeed_9 (by decide) (fun _ => ?_) (fun h => absurd h (by decide))
  refine lv_iload_n hx hb dX3_locksThatNeed_40 rfl (lv_at hl 1 rfl) ?_
  refine W.widen (k := 0) (n := 0) (Nat.le_of_ble_eq_true rfl) (Nat.le_of_ble_eq_true rfl) ?_
  exact W.iret hx hb hr (fun t ht hW => ⟨⟨0, (), rfl, rfl, trivial⟩, hS.F ht⟩) hS.2.2 dX3_locksThatNeed_41
set_option maxHeartbeats 4000000 in
set_option maxRecDepth 100000 in
theorem cz_QlocksThatNeed_8 (l : Launch) (dC : Nat → ClassId) (dI : Nat → Nat → Nat) (ed sz : Nat) (rm : Nat) (lk : Nat) (th : Nat) (pl : Nat) (gm : Nat) (cL : ClassId) (fl : Nat → Option Nat) (l0 : Nat) (l1 : Nat) (hkl0 : fl 0 = some l0) (hkl1 : fl 1 = some l1) : Met l yX3_locksThatNeed wsX3_locksThatNeed ({ frames := 1, cells := 0, slots := 0, locals := 21 } : Jvm.Room) (va_Pc [.ref rm, .int 8] (zB dC dI ed sz [(rm, .inr (5, [.ref lk, .ref th, .ref pl, .ref gm, .int 2, .int 10, .int 0, .int 0, .int 1, .int 0, .int 0, .int 0])), (lk, .inl (cL, 10, .inr (.inr (.inr (.inr fl))))), (l0, .inr (3, [.int 0, .int 0, .int 60, .int 0, .int 0, .int 0, .int 0, .int 0, .int 0, .int 0])), (l1, .inr (3, [.int 0, .int 0, .int 60, .int 0, .int 0, .int 0, .int 0, .int 0, .int 0, .int 0]))] [] [(cL, .object "LockRooms$Lock")])) (va_Qi (fun (r : Int32) (_ : Unit) => r = 0) (fun (_ : Unit) (_ : State) => True) (va_A [] sz)) 0 0 (va_A [] sz) := by
  refine Met.ofW (cc := cX3_locksThatNeed) (maxL := 4) (ret := (some .int)) (by decide) rfl ?_
  intro p e s m args below meth c s₁ B hml hv
  obtain ⟨rfl, hsz, hR0, hP, hK, hD0, hN, hH, hX0⟩ := hv
  have hx := B.exec
  have hb := B.bytes
  have hr := B.returns
  have hts := atoms_spec (ws := wsX3_locksThatNeed) B.pre
  have hown : s.vm.findClass RX3 = some m.cls := findClass_of_methodNamed B.named
  have hlocks := B.notSynchronized
  subst hsz
  have hD := hD0.self (sz := s.heap.size)
  have hAr := zx_A hX0 hR0
  generalize hAe : va_A [] s.heap.size = A at hD hAr hH ⊢
  have hA : ∀ q : Nat, s.heap.size ≤ q → A q := fun q h => by rw [← hAe]; exact Or.inr h
  have hS : va_S A s.heap s.heap [] := va_S.rf
  have hl := lv_entry ([.ref rm, .int 8]) (n := 4) (Nat.le_of_ble_eq_true rfl)
  rw [lg_entry_eq]
  generalize (lg_sl ([.ref rm, .int 8]) ++ List.replicate (4 - (lg_sl ([.ref rm, .int 8])).length) Slot.unset).toArray = ls at hl ⊢
  have hl : lv_has ls 4 [(0, .ref rm), (1, .int 8)] := hl
  refine lv_iconst (v := 0) hx hb dX3_locksThatNeed_0 (by decide) ?_
  refine lv_istore_n (lv' := [(2, .int 0), (0, .ref rm), (1, .int 8)]) hx hb dX3_locksThatNeed_1 rfl hl (by decide) rfl (fun ls hl => ?_)
  refine lv_iconst (v := 0) hx hb dX3_locksThatNeed_2 (by decide) ?_
  refine lv_istore_n (lv' := [(3, .int 0), (2, .int 0), (0, .ref rm), (1, .int 8)]) hx hb dX3_locksThatNeed_3 rfl hl (by decide) rfl (fun ls hl => ?_)
  refine lv_iload_n hx hb dX3_locksThatNeed_4 rfl (lv_at hl 0 rfl) ?_
  refine lv_aload_n hx hb dX3_locksThatNeed_5 rfl (lv_at hl 2 rfl) ?_
  refine va_get (D := (dC, dI)) (ci := 5) (v := .int 2) (C := RX3) (T := TX3) (N := 12) hx hb hts zi_X3_locksThatNeed_X3 hown hK hR0 0 rfl rfl 4 (by decide) (hts (.fieldLink RX3 47 "LockRooms$Room" "lockCount" "I") (by decide +kernel)) (fun _ h9 => h9) rfl dX3_locksThatNeed_6 ?_
  refine lv_icmp_ge (tgt := 40) hx hb dX3_locksThatNeed_9 (by decide) (fun h => absurd h (by decide)) (fun _ => ?_)
  refine lv_aload_n hx hb dX3_locksThatNeed_12 rfl (lv_at hl 2 rfl) ?_
  refine va_get (D := (dC, dI)) (ci := 5) (v := .ref lk) (C := RX3) (T := TX3) (N := 12) hx hb hts zi_X3_locksThatNeed_X3 hown hK hR0 0 rfl rfl 0 (by decide) (hts (.fieldLink RX3 11 "LockRooms$Room" "locks" "[LLockRooms$Lock;") (by decide +kernel)) (fun _ h9 => h9) rfl dX3_locksThatNeed_13 ?_
  refine lv_iload_n hx hb dX3_locksThatNeed_16 rfl (lv_at hl 0 rfl) ?_
  refine va_aldq hx hb hK hR0 1 0 rfl rfl (by unfold vp_in; decide) dX3_locksThatNeed_17 ?_
  refine zo_q (v := .ref l0) (by rw [show Int32.toNatClampNeg 0 = 0 from by decide, hkl0]; rfl) ?_
  refine va_get (D := (dC, dI)) (ci := 3) (v := .int 0) (C := RX1) (T := TX1) (N := 10) hx hb hts zi_X3_locksThatNeed_X1 hown hK hR0 2 rfl rfl 0 (by decide) (hts (.fieldLink RX3 78 "LockRooms$Lock" "needs" "I") (by decide +kernel)) (fun _ h9 => h9) rfl dX3_locksThatNeed_18 ?_
  refine lv_iload_n hx hb dX3_locksThatNeed_21 rfl (lv_at hl 3 rfl) ?_
  have hPr := (zo_nil : va_P (dC, dI) vwCl [] s.heap)
  have hPc := hP.sub (ws' := []) [] rfl
  have hDc := hD.sub (ws' := []) [] (by decide) rfl
  have hKc := hK.sub (tys' := []) [] rfl
  have hFc := va_free (wc := []) hD hS hA [] rfl
  refine va_calli (va_runSN (As := [.int 0, .int 8]) (rest := []) ⟨hx, hb, hml, hown, hts⟩ (cz_QisIn l dC dI ed s.heap.size 0 8) ⟨(va_cnB 2 hts gX3_locksThatNeed_X6_isIn_n111 rfl rfl rfl (hN.2.1 ("LockRooms$Room", 111, yX6_isIn, "LockRooms") (List.mem_of_getElem? (i := 5) rfl)) (hts (.initialized RX6) (by decide +kernel)) (by decide +kernel) ⟨Nat.le_of_ble_eq_true rfl, Nat.le_of_ble_eq_true rfl⟩), (hts (.static yX6_isIn) (by decide +kernel)), trivial⟩ ⟨zb_blind, fun U hU hW => ⟨rfl, zb_mk hU hW hPr hPc hKc hDc hN hH hS hFc zx_e⟩⟩ rfl rfl hl.1 rfl (lv_room (Nat.le_of_ble_eq_true rfl)) dX3_locksThatNeed_22 ⟨Nat.le_of_ble_eq_true rfl, Nat.le_of_ble_eq_true rfl⟩) hS (fun q _ h => hFc q h) hFc (fun r2 u t H1 locs ht hvm hw hB hz1 hk1 hS => ?_)
  obtain rfl : r2 = 0 := hw.trans (by decide +kernel)
  have hP := zo_K hP hk1
  refine lv_if_eq (tgt := 34) hx hb dX3_locksThatNeed_25 (by decide) (fun _ => ?_) (fun h => absurd h (by decide))
  refine lv_iinc (v := 1) (lv' := [(3, .int 1), (2, .int 0), (0, .ref rm), (1, .int 8)]) hx hb dX3_locksThatNeed_34 hl (k := 0) rfl (by decide) (by decide) rfl (fun ls hl => ?_)
  refine lv_goto (tgt := 4) hx hb dX3_locksThatNeed_37 (by decide) ?_
  refine lv_iload_n hx hb dX3_locksThatNeed_4 rfl (lv_at hl 0 rfl) ?_
  refine lv_aload_n hx hb dX3_locksThatNeed_5 rfl (lv_at hl 2 rfl) ?_
  refine va_get (D := (dC, dI)) (ci := 5) (v := .int 2) (C := RX3) (T := TX3) (N := 12) hx hb hts zi_X3_locksThatNeed_X3 hown hK (zo_R hR0 hS hAr) 0 rfl rfl 4 (by decide) (hts (.fieldLink RX3 47 "LockRooms$Room" "lockCount" "I") (by decide +kernel)) (fun _ h9 => h9) rfl dX3_locksThatNeed_6 ?_
  refine lv_icmp_ge (tgt := 40) hx hb dX3_locksThatNeed_9 (by decide) (fun h => absurd h (by decide)) (fun _ => ?_)
  refine lv_aload_n hx hb dX3_locksThatNeed_12 rfl (lv_at hl 2 rfl) ?_
  refine va_get (D := (dC, dI)) (ci := 5) (v := .ref lk) (C := RX3) (T := TX3) (N := 12) hx hb hts zi_X3_locksThatNeed_X3 hown hK (zo_R hR0 hS hAr) 0 rfl rfl 0 (by decide) (hts (.fieldLink RX3 11 "LockRooms$Room" "locks" "[LLockRooms$Lock;") (by decide +kernel)) (fun _ h9 => h9) rfl dX3_locksThatNeed_13 ?_
  refine lv_iload_n hx hb dX3_locksThatNeed_16 rfl (lv_at hl 0 rfl) ?_
  refine va_aldq hx hb hK (zo_R hR0 hS hAr) 1 0 rfl rfl (by unfold vp_in; decide) dX3_locksThatNeed_17 ?_
  refine zo_q (v := .ref l1) (by rw [show Int32.toNatClampNeg 1 = 1 from by decide, hkl1]; rfl) ?_
  refine va_get (D := (dC, dI)) (ci := 3) (v := .int 0) (C := RX1) (T := TX1) (N := 10) hx hb hts zi_X3_locksThatNeed_X1 hown hK (zo_R hR0 hS hAr) 3 rfl rfl 0 (by decide) (hts (.fieldLink RX3 78 "LockRooms$Lock" "needs" "I") (by decide +kernel)) (fun _ h9 => h9) rfl dX3_locksThatNeed_18 ?_
  refine lv_iload_n hx hb dX3_locksThatNeed_21 rfl (lv_at hl 3 rfl) ?_
  have hPr := (zo_nil : va_P (dC, dI) vwCl [] H1)
  have hPc := hP.sub (ws' := []) [] rfl
  have hDc := hD.sub (ws' := []) [] (by decide) rfl
  have hKc := hK.sub (tys' := []) [] rfl
  have hFc := va_free (wc := []) hD hS hA [] rfl
  refine va_calli (va_runSN (As := [.int 0, .int 8]) (rest := []) ⟨hx, hb, hml, hown, hts⟩ (cz_QisIn l dC dI ed H1.size 0 8) ⟨(va_cnB 2 hts gX3_locksThatNeed_X6_isIn_n111 rfl rfl rfl (hN.2.1 ("LockRooms$Room", 111, yX6_isIn, "LockRooms") (List.mem_of_getElem? (i := 5) rfl)) (hts (.initialized RX6) (by decide +kernel)) (by decide +kernel) ⟨Nat.le_of_ble_eq_true rfl, Nat.le_of_ble_eq_true rfl⟩), (hts (.static yX6_isIn) (by decide +kernel)), trivial⟩ ⟨zb_blind, fun U hU hW => ⟨rfl, zb_mk hU hW hPr hPc hKc hDc hN hH hS hFc zx_e⟩⟩ rfl rfl hl.1 rfl (lv_room (Nat.le_of_ble_eq_true rfl)) dX3_locksThatNeed_22 ⟨Nat.le_of_ble_eq_true rfl, Nat.le_of_ble_eq_true rfl⟩) hS (fun q _ h => hFc q h) hFc (fun r4 u t H3 locs ht hvm hw hB hz1 hk1 hS => ?_)
  obtain rfl : r4 = 0 := hw.trans (by decide +kernel)
  have hP := zo_K hP hk1
  refine lv_if_eq (tgt := 34) hx hb dX3_locksThatNeed_25 (by decide) (fun _ => ?_) (fun h => absurd h (by decide))
  refine lv_iinc (v := 2) (lv' := [(3, .int 2), (2, .int 0), (0, .ref rm), (1, .int 8)]) hx hb dX3_locksThatNeed_34 hl (k := 0) rfl (by decide) (by decide) rfl (fun ls hl => ?_)
  refine lv_goto (tgt := 4) hx hb dX3_locksThatNeed_37 (by decide) ?_
  refine lv_iload_n hx hb dX3_locksThatNeed_4 rfl (lv_at hl 0 rfl) ?_
  refine lv_aload_n hx hb dX3_locksThatNeed_5 rfl (lv_at hl 2 rfl) ?_
  refine va_get (D := (dC, dI)) (ci := 5) (v := .int 2) (C := RX3) (T := TX3) (N := 12) hx hb hts zi_X3_locksThatNeed_X3 hown hK (zo_R hR0 hS hAr) 0 rfl rfl 4 (by decide) (hts (.fieldLink RX3 47 "LockRooms$Room" "lockCount" "I") (by decide +kernel)) (fun _ h9 => h9) rfl dX3_locksThatNeed_6 ?_
  refine lv_icmp_ge (tgt := 40) hx hb dX3_locksThatNeed_9 (by decide) (fun _ => ?_) (fun h => absurd h (by decide))
  refine lv_iload_n hx hb dX3_locksThatNeed_40 rfl (lv_at hl 1 rfl) ?_
  refine W.widen (k := 0) (n := 0) (Nat.le_of_ble_eq_true rfl) (Nat.le_of_ble_eq_true rfl) ?_
  exact W.iret hx hb hr (fun t ht hW => ⟨⟨0, (), rfl, rfl, trivial⟩, hS.F ht⟩) hS.2.2 dX3_locksThatNeed_41

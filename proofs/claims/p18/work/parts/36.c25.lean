set_option maxRecDepth 20000 in
theorem zi_X8_ofLockNow_X8 : ∀ w ∈ u_ws RX8 TX8 4, w ∈ wsX8_ofLockNow := by decide +kernel
set_option maxRecDepth 20000 in
theorem zi_X8_ofLockNow_X7 : ∀ w ∈ u_ws RX7 TX7 14, w ∈ wsX8_ofLockNow := by decide +kernel
set_option maxHeartbeats 4000000 in
set_option maxRecDepth 100000 in
theorem cz_QofLockNow_0_0 (l : Launch) (dC : Nat → ClassId) (dI : Nat → Nat → Nat) (ed sz : Nat) (mo : Nat) (mr : Nat) (x9 : Int32) (s9 : Int64) (ll : Nat) (lt : Nat) (lp : Nat) (ola : Nat) (cOl : ClassId) (fol : Nat → Option Nat) (la0 : Nat) (cA0 : ClassId) (fa0 : Nat → Int32) (hol0 : fol 0 = some la0) (ha0_0 : fa0 0 = 0) : Met l yX8_ofLockNow wsX8_ofLockNow ({ frames := 3, cells := 0, slots := 0, locals := 64 } : Jvm.Room) (va_Pc [.ref mo, .int 0, .int 0] (zB dC dI ed sz [(mo, .inr (10, [.int x9, .ref mr, .int 1, .long s9])), (mr, .inr (9, [.ref ll, .ref lt, .ref lp, .int 0, .int 0, .int 0, .int 0, .int 0, .int 0, .int 0, .int (-1), .int 0, .int 0, .int 0])), (ll, .inr (1, [.int 2, .ref ola, .int 2])), (ola, .inl (cOl, 10, .inr (.inr (.inr (.inr fol))))), (la0, .inl (cA0, 10, .inl fa0))] [] [(cOl, .object "java/lang/Object"), (cA0, .int)])) (va_Qi (fun (r : Int32) (_ : Unit) => r = 0) (fun (_ : Unit) (_ : State) => True) (va_A [] sz)) 0 0 (va_A [] sz) := by
  refine Met.ofW (cc := cX8_ofLockNow) (maxL := 3) (ret := (some .int)) (by decide) rfl ?_
  intro p e s m args below meth c s₁ B hml hv
  obtain ⟨rfl, hsz, hR0, hP, hK, hD0, hN, hH, hX0⟩ := hv
  have hx := B.exec
  have hb := B.bytes
  have hr := B.returns
  have hts := atoms_spec (ws := wsX8_ofLockNow) B.pre
  have hown : s.vm.findClass RX8 = some m.cls := findClass_of_methodNamed B.named
  have hlocks := B.notSynchronized
  subst hsz
  have hD := hD0.self (sz := s.heap.size)
  have hAr := zx_A hX0 hR0
  generalize hAe : va_A [] s.heap.size = A at hD hAr hH ⊢
  have hA : ∀ q : Nat, s.heap.size ≤ q → A q := fun q h => by rw [← hAe]; exact Or.inr h
  have hS : va_S A s.heap s.heap [] := va_S.rf
  have hl := lv_entry ([.ref mo, .int 0, .int 0]) (n := 3) (Nat.le_of_ble_eq_true rfl)
  rw [lg_entry_eq]
  generalize (lg_sl ([.ref mo, .int 0, .int 0]) ++ List.replicate (3 - (lg_sl ([.ref mo, .int 0, .int 0])).length) Slot.unset).toArray = ls at hl ⊢
  have hl : lv_has ls 3 [(0, .ref mo), (1, .int 0), (2, .int 0)] := hl
  refine lv_iload_n hx hb dX8_ofLockNow_0 rfl (lv_at hl 2 rfl) ?_
  refine lv_bipush (v := 9) hx hb dX8_ofLockNow_1 (by decide) ?_
  refine lv_icmp_ge (tgt := 25) hx hb dX8_ofLockNow_3 (by decide) (fun h => absurd h (by decide)) (fun _ => ?_)
  refine lv_aload_n hx hb dX8_ofLockNow_6 rfl (lv_at hl 0 rfl) ?_
  refine va_get (D := (dC, dI)) (ci := 10) (v := .ref mr) (C := RX8) (T := TX8) (N := 4) hx hb hts zi_X8_ofLockNow_X8 hown hK hR0 0 rfl rfl 1 (by decide) (hts (.fieldLink RX8 10 "LockRoomsModel" "room" "LLockRoomsModel$Room;") (by decide +kernel)) (fun _ h9 => h9) rfl dX8_ofLockNow_7 ?_
  refine va_getN (D := (dC, dI)) (ci := 9) (v := .ref ll) (C := RX7) (T := TX7) (N := 14) hx hb hts zi_X8_ofLockNow_X7 hown hK hR0 1 rfl rfl 0 (by decide) (va_Nw.use rfl (hN.1 ("LockRoomsModel", 24, "LockRoomsModel$Room", "locks", "Ljava/util/ArrayList;", "LockRoomsModel") (List.mem_of_getElem? (i := 1) rfl))) (fun _ h9 => h9) rfl dX8_ofLockNow_10 ?_
  refine lv_iload_n hx hb dX8_ofLockNow_13 rfl (lv_at hl 1 rfl) ?_
  have hPr := (hR0).sub (ws' := [(ll, .inr (1, [.int 2, .ref ola, .int 2])), (ola, .inl (cOl, 10, .inr (.inr (.inr (.inr fol)))))]) [2, 3] rfl
  have hPc := hP.sub (ws' := []) [] rfl
  have hDc := hD.sub (ws' := []) [] (by decide) rfl
  have hKc := hK.sub (tys' := [(cOl, .object "java/lang/Object")]) [0] rfl
  have hFc := va_free (wc := []) hD hS hA [] rfl
  refine va_callr (va_runV (As := [.int 0]) (rest := []) ⟨hx, hb, hml, hown, hts⟩ (cz_Qget_0_2 l dC dI ed s.heap.size ll 2 ola cOl fol la0 hol0) (cwV 1 hts gX8_ofLockNow_Jx4a65c_get_915e3 rfl rfl rfl (by decide +kernel) ⟨Nat.le_of_ble_eq_true rfl, Nat.le_of_ble_eq_true rfl⟩) ⟨zb_blind, va_recv hK hR0 (ci := 1) (q0 := 2) rfl rfl, fun U hU hW => ⟨rfl, zb_mk hU hW hPr hPc hKc hDc hN hH hS hFc zx_e⟩⟩ rfl rfl hl.1 rfl (lv_room (Nat.le_of_ble_eq_true rfl)) dX8_ofLockNow_14 ⟨Nat.le_of_ble_eq_true rfl, Nat.le_of_ble_eq_true rfl⟩) hS (fun q _ h => hFc q h) hFc (fun u r2 t H1 locs ht hvm hw hB hz1 hk1 hS => ?_)
  obtain ⟨hq3_0, hP1, hD1, hK1⟩ := hB
  rw [ht] at hP1
  obtain ⟨hP, hD⟩ := va_join (wr := []) (w1 := []) hP hD [] [] rfl rfl (by decide) (by decide) hk1 hFc hP1 hD1
  have hP : va_P (dC, dI) vwCl [] H1 := hP
  have hD : va_D A [] := hD
  obtain rfl : la0 = r2 := hq3_0.symm
  refine va_castA (nm := "[I") hx hb hown (hts (.classLink RX8 88 "[I") (by decide +kernel)) (zo_R hR0 hS hAr) 4 rfl (show s.vm.findClass "[I" = some cA0 from (hK.2 1 _ rfl).2) dX8_ofLockNow_17 ?_
  refine lv_iload_n hx hb dX8_ofLockNow_20 rfl (lv_at hl 2 rfl) ?_
  refine va_iald hx hb hK (zo_R hR0 hS hAr) 4 1 rfl rfl (by unfold vp_in; decide) dX8_ofLockNow_21 ?_
  refine zo_i (v := 0) (by rw [show Int32.toNatClampNeg 0 = 0 from by decide]; exact ha0_0) ?_
  refine lv_goto (tgt := 41) hx hb dX8_ofLockNow_22 (by decide) ?_
  refine W.widen (k := 0) (n := 0) (Nat.le_of_ble_eq_true rfl) (Nat.le_of_ble_eq_true rfl) ?_
  exact W.iret hx hb hr (fun t ht hW => ⟨⟨0, (), rfl, rfl, trivial⟩, hS.F ht⟩) hS.2.2 dX8_ofLockNow_41
set_option maxHeartbeats 4000000 in
set_option maxRecDepth 100000 in
theorem cz_QofLockNow_0_1 (l : Launch) (dC : Nat → ClassId) (dI : Nat → Nat → Nat) (ed sz : Nat) (mo : Nat) (mr : Nat) (x9 : Int32) (s9 : Int64) (ll : Nat) (lt : Nat) (lp : Nat) (ola : Nat) (cOl : ClassId) (fol : Nat → Option Nat) (la0 : Nat) (cA0 : ClassId) (fa0 : Nat → Int32) (hol0 : fol 0 = some la0) (ha0_1 : fa0 1 = 0) : Met l yX8_ofLockNow wsX8_ofLockNow ({ frames := 3, cells := 0, slots := 0, locals := 64 } : Jvm.Room) (va_Pc [.ref mo, .int 0, .int 1] (zB dC dI ed sz [(mo, .inr (10, [.int x9, .ref mr, .int 1, .long s9])), (mr, .inr (9, [.ref ll, .ref lt, .ref lp, .int 0, .int 0, .int 0, .int 0, .int 0, .int 0, .int 0, .int (-1), .int 0, .int 0, .int 0])), (ll, .inr (1, [.int 2, .ref ola, .int 2])), (ola, .inl (cOl, 10, .inr (.inr (.inr (.inr fol))))), (la0, .inl (cA0, 10, .inl fa0))] [] [(cOl, .object "java/lang/Object"), (cA0, .int)])) (va_Qi (fun (r : Int32) (_ : Unit) => r = 0) (fun (_ : Unit) (_ : State) => True) (va_A [] sz)) 0 0 (va_A [] sz) := by
  refine Met.ofW (cc := cX8_ofLockNow) (maxL := 3) (ret := (some .int)) (by decide) rfl ?_
  intro p e s m args below meth c s₁ B hml hv
  obtain ⟨rfl, hsz, hR0, hP, hK, hD0, hN, hH, hX0⟩ := hv
  have hx := B.exec
  have hb := B.bytes
  have hr := B.returns
  have hts := atoms_spec (ws := wsX8_ofLockNow) B.pre
  have hown : s.vm.findClass RX8 = some m.cls := findClass_of_methodNamed B.named
  have hlocks := B.notSynchronized
  subst hsz
  have hD := hD0.self (sz := s.heap.size)
  have hAr := zx_A hX0 hR0
  generalize hAe : va_A [] s.heap.size = A at hD hAr hH ⊢
  have hA : ∀ q : Nat, s.heap.size ≤ q → A q := fun q h => by rw [← hAe]; exact Or.inr h
  have hS : va_S A s.heap s.heap [] := va_S.rf
  have hl := lv_entry ([.ref mo, .int 0, .int 1]) (n := 3) (Nat.le_of_ble_eq_true rfl)
  rw [lg_entry_eq]
  generalize (lg_sl ([.ref mo, .int 0, .int 1]) ++ List.replicate (3 - (lg_sl ([.ref mo, .int 0, .int 1])).length) Slot.unset).toArray = ls at hl ⊢
  have hl : lv_has ls 3 [(0, .ref mo), (1, .int 0), (2, .int 1)] := hl
  refine lv_iload_n hx hb dX8_ofLockNow_0 rfl (lv_at hl 2 rfl) ?_
  refine lv_bipush (v := 9) hx hb dX8_ofLockNow_1 (by decide) ?_
  refine lv_icmp_ge (tgt := 25) hx hb dX8_ofLockNow_3 (by decide) (fun h => absurd h (by decide)) (fun _ => ?_)
  refine lv_aload_n hx hb dX8_ofLockNow_6 rfl (lv_at hl 0 rfl) ?_
  refine va_get (D := (dC, dI)) (ci := 10) (v := .ref mr) (C := RX8) (T := TX8) (N := 4) hx hb hts zi_X8_ofLockNow_X8 hown hK hR0 0 rfl rfl 1 (by decide) (hts (.fieldLink RX8 10 "LockRoomsModel" "room" "LLockRoomsModel$Room;") (by decide +kernel)) (fun _ h9 => h9) rfl dX8_ofLockNow_7 ?_
  refine va_getN (D := (dC, dI)) (ci := 9) (v := .ref ll) (C := RX7) (T := TX7) (N := 14) hx hb hts zi_X8_ofLockNow_X7 hown hK hR0 1 rfl rfl 0 (by decide) (va_Nw.use rfl (hN.1 ("LockRoomsModel", 24, "LockRoomsModel$Room", "locks", "Ljava/util/ArrayList;", "LockRoomsModel") (List.mem_of_getElem? (i := 1) rfl))) (fun _ h9 => h9) rfl dX8_ofLockNow_10 ?_
  refine lv_iload_n hx hb dX8_ofLockNow_13 rfl (lv_at hl 1 rfl) ?_
  have hPr := (hR0).sub (ws' := [(ll, .inr (1, [.int 2, .ref ola, .int 2])), (ola, .inl (cOl, 10, .inr (.inr (.inr (.inr fol)))))]) [2, 3] rfl
  have hPc := hP.sub (ws' := []) [] rfl
  have hDc := hD.sub (ws' := []) [] (by decide) rfl
  have hKc := hK.sub (tys' := [(cOl, .object "java/lang/Object")]) [0] rfl
  have hFc := va_free (wc := []) hD hS hA [] rfl
  refine va_callr (va_runV (As := [.int 0]) (rest := []) ⟨hx, hb, hml, hown, hts⟩ (cz_Qget_0_2 l dC dI ed s.heap.size ll 2 ola cOl fol la0 hol0) (cwV 1 hts gX8_ofLockNow_Jx4a65c_get_915e3 rfl rfl rfl (by decide +kernel) ⟨Nat.le_of_ble_eq_true rfl, Nat.le_of_ble_eq_true rfl⟩) ⟨zb_blind, va_recv hK hR0 (ci := 1) (q0 := 2) rfl rfl, fun U hU hW => ⟨rfl, zb_mk hU hW hPr hPc hKc hDc hN hH hS hFc zx_e⟩⟩ rfl rfl hl.1 rfl (lv_room (Nat.le_of_ble_eq_true rfl)) dX8_ofLockNow_14 ⟨Nat.le_of_ble_eq_true rfl, Nat.le_of_ble_eq_true rfl⟩) hS (fun q _ h => hFc q h) hFc (fun u r2 t H1 locs ht hvm hw hB hz1 hk1 hS => ?_)
  obtain ⟨hq3_0, hP1, hD1, hK1⟩ := hB
  rw [ht] at hP1
  obtain ⟨hP, hD⟩ := va_join (wr := []) (w1 := []) hP hD [] [] rfl rfl (by decide) (by decide) hk1 hFc hP1 hD1
  have hP : va_P (dC, dI) vwCl [] H1 := hP
  have hD : va_D A [] := hD
  obtain rfl : la0 = r2 := hq3_0.symm
  refine va_castA (nm := "[I") hx hb hown (hts (.classLink RX8 88 "[I") (by decide +kernel)) (zo_R hR0 hS hAr) 4 rfl (show s.vm.findClass "[I" = some cA0 from (hK.2 1 _ rfl).2) dX8_ofLockNow_17 ?_
  refine lv_iload_n hx hb dX8_ofLockNow_20 rfl (lv_at hl 2 rfl) ?_
  refine va_iald hx hb hK (zo_R hR0 hS hAr) 4 1 rfl rfl (by unfold vp_in; decide) dX8_ofLockNow_21 ?_
  refine zo_i (v := 0) (by rw [show Int32.toNatClampNeg 1 = 1 from by decide]; exact ha0_1) ?_
  refine lv_goto (tgt := 41) hx hb dX8_ofLockNow_22 (by decide) ?_
  refine W.widen (k := 0) (n := 0) (Nat.le_of_ble_eq_true rfl) (Nat.le_of_ble_eq_true rfl) ?_
  exact W.iret hx hb hr (fun t ht hW => ⟨⟨0, (), rfl, rfl, trivial⟩, hS.F ht⟩) hS.2.2 dX8_ofLockNow_41
set_option maxHeartbeats 4000000 in
set_option maxRecDepth 100000 in
theorem cz_QofLockNow_0_2 (l : Launch) (dC : Nat → ClassId) (dI : Nat → Nat → Nat) (ed sz : Nat) (mo : Nat) (mr : Nat) (x9 : Int32) (s9 : Int64) (ll : Nat) (lt : Nat) (lp : Nat) (ola : Nat) (cOl : ClassId) (fol : Nat → Option Nat) (la0 : Nat) (cA0 : ClassId) (fa0 : Nat → Int32) (hol0 : fol 0 = some la0) (ha0_2 : fa0 2 = 60) : Met l yX8_ofLockNow wsX8_ofLockNow ({ frames := 3, cells := 0, slots := 0, locals := 64 } : Jvm.Room) (va_Pc [.ref mo, .int 0, .int 2] (zB dC dI ed sz [(mo, .inr (10, [.int x9, .ref mr, .int 1, .long s9])), (mr, .inr (9, [.ref ll, .ref lt, .ref lp, .int 0, .int 0, .int 0, .int 0, .int 0, .int 0, .int 0, .int (-1), .int 0, .int 0, .int 0])), (ll, .inr (1, [.int 2, .ref ola, .int 2])), (ola, .inl (cOl, 10, .inr (.inr (.inr (.inr fol))))), (la0, .inl (cA0, 10, .inl fa0))] [] [(cOl, .object "java/lang/Object"), (cA0, .int)])) (va_Qi (fun (r : Int32) (_ : Unit) => r = 60) (fun (_ : Unit) (_ : State) => True) (va_A [] sz)) 0 0 (va_A [] sz) := by
  refine Met.ofW (cc := cX8_ofLockNow) (maxL := 3) (ret := (some .int)) (by decide) rfl ?_
  intro p e s m args below meth c s₁ B hml hv
  obtain ⟨rfl, hsz, hR0, hP, hK, hD0, hN, hH, hX0⟩ := hv
  have hx := B.exec
  have hb := B.bytes
  have hr := B.returns
  have hts := atoms_spec (ws := wsX8_ofLockNow) B.pre
  have hown : s.vm.findClass RX8 = some m.cls := findClass_of_methodNamed B.named
  have hlocks := B.notSynchronized
  subst hsz
  have hD := hD0.self (sz := s.heap.size)
  have hAr := zx_A hX0 hR0
  generalize hAe : va_A [] s.heap.size = A at hD hAr hH ⊢
  have hA : ∀ q : Nat, s.heap.size ≤ q → A q := fun q h => by rw [← hAe]; exact Or.inr h
  have hS : va_S A s.heap s.heap [] := va_S.rf
  have hl := lv_entry ([.ref mo, .int 0, .int 2]) (n := 3) (Nat.le_of_ble_eq_true rfl)
  rw [lg_entry_eq]
  generalize (lg_sl ([.ref mo, .int 0, .int 2]) ++ List.replicate (3 - (lg_sl ([.ref mo, .int 0, .int 2])).length) Slot.unset).toArray = ls at hl ⊢
  have hl : lv_has ls 3 [(0, .ref mo), (1, .int 0), (2, .int 2)] := hl
  refine lv_iload_n hx hb dX8_ofLockNow_0 rfl (lv_at hl 2 rfl) ?_
  refine lv_bipush (v := 9) hx hb dX8_ofLockNow_1 (by decide) ?_
  refine lv_icmp_ge (tgt := 25) hx hb dX8_ofLockNow_3 (by decide) (fun h => absurd h (by decide)) (fun _ => ?_)
  refine lv_aload_n hx hb dX8_ofLockNow_6 rfl (lv_at hl 0 rfl) ?_
  refine va_get (D := (dC, dI)) (ci := 10) (v := .ref mr) (C := RX8) (T := TX8) (N := 4) hx hb hts zi_X8_ofLockNow_X8 hown hK hR0 0 rfl rfl 1 (by decide) (hts (.fieldLink RX8 10 "LockRoomsModel" "room" "LLockRoomsModel$Room;") (by decide +kernel)) (fun _ h9 => h9) rfl dX8_ofLockNow_7 ?_
  refine va_getN (D := (dC, dI)) (ci := 9) (v := .ref ll) (C := RX7) (T := TX7) (N := 14) hx hb hts zi_X8_ofLockNow_X7 hown hK hR0 1 rfl rfl 0 (by decide) (va_Nw.use rfl (hN.1 ("LockRoomsModel", 24, "LockRoomsModel$Room", "locks", "Ljava/util/ArrayList;", "LockRoomsModel") (List.mem_of_getElem? (i := 1) rfl))) (fun _ h9 => h9) rfl dX8_ofLockNow_10 ?_
  refine lv_iload_n hx hb dX8_ofLockNow_13 rfl (lv_at hl 1 rfl) ?_
  have hPr := (hR0).sub (ws' := [(ll, .inr (1, [.int 2, .ref ola, .int 2])), (ola, .inl (cOl, 10, .inr (.inr (.inr (.inr fol)))))]) [2, 3] rfl
  have hPc := hP.sub (ws' := []) [] rfl
  have hDc := hD.sub (ws' := []) [] (by decide) rfl
  have hKc := hK.sub (tys' := [(cOl, .object "java/lang/Object")]) [0] rfl
  have hFc := va_free (wc := []) hD hS hA [] rfl
  refine va_callr (va_runV (As := [.int 0]) (rest := []) ⟨hx, hb, hml, hown, hts⟩ (cz_Qget_0_2 l dC dI ed s.heap.size ll 2 ola cOl fol la0 hol0) (cwV 1 hts gX8_ofLockNow_Jx4a65c_get_915e3 rfl rfl rfl (by decide +kernel) ⟨Nat.le_of_ble_eq_true rfl, Nat.le_of_ble_eq_true rfl⟩) ⟨zb_blind, va_recv hK hR0 (ci := 1) (q0 := 2) rfl rfl, fun U hU hW => ⟨rfl, zb_mk hU hW hPr hPc hKc hDc hN hH hS hFc zx_e⟩⟩ rfl rfl hl.1 rfl (lv_room (Nat.le_of_ble_eq_true rfl)) dX8_ofLockNow_14 ⟨Nat.le_of_ble_eq_true rfl, Nat.le_of_ble_eq_true rfl⟩) hS (fun q _ h => hFc q h) hFc (fun u r2 t H1 locs ht hvm hw hB hz1 hk1 hS => ?_)
  obtain ⟨hq3_0, hP1, hD1, hK1⟩ := hB
  rw [ht] at hP1
  obtain ⟨hP, hD⟩ := va_join (wr := []) (w1 := []) hP hD [] [] rfl rfl (by decide) (by decide) hk1 hFc hP1 hD1
  have hP : va_P (dC, dI) vwCl [] H1 := hP
  have hD : va_D A [] := hD
  obtain rfl : la0 = r2 := hq3_0.symm
  refine va_castA (nm := "[I") hx hb hown (hts (.classLink RX8 88 "[I") (by decide +kernel)) (zo_R hR0 hS hAr) 4 rfl (show s.vm.findClass "[I" = some cA0 from (hK.2 1 _ rfl).2) dX8_ofLockNow_17 ?_
  refine lv_iload_n hx hb dX8_ofLockNow_20 rfl (lv_at hl 2 rfl) ?_
  refine va_iald hx hb hK (zo_R hR0 hS hAr) 4 1 rfl rfl (by unfold vp_in; decide) dX8_ofLockNow_21 ?_
  refine zo_i (v := 60) (by rw [show Int32.toNatClampNeg 2 = 2 from by decide]; exact ha0_2) ?_
  refine lv_goto (tgt := 41) hx hb dX8_ofLockNow_22 (by decide) ?_
  refine W.widen (k := 0) (n := 0) (Nat.le_of_ble_eq_true rfl) (Nat.le_of_ble_eq_true rfl) ?_
  exact W.iret hx hb hr (fun t ht hW => ⟨⟨60, (), rfl, rfl, trivial⟩, hS.F ht⟩) hS.2.2 dX8_ofLockNow_41
set_option maxHeartbeats 4000000 in
set_option maxRecDepth 100000 in
theorem cz_QofLockNow_0_3 (l : Launch) (dC : Nat → ClassId) (dI : Nat → Nat → Nat) (ed sz : Nat) (mo : Nat) (mr : Nat) (x9 : Int32) (s9 : Int64) (ll : Nat) (lt : Nat) (lp : Nat) (ola : Nat) (cOl : ClassId) (fol : Nat → Option Nat) (la0 : Nat) (cA0 : ClassId) (fa0 : Nat → Int32) (hol0 : fol 0 = some la0) (ha0_3 : fa0 3 = 0) : Met l yX8_ofLockNow wsX8_ofLockNow ({ frames := 3, cells := 0, slots := 0, locals := 64 } : Jvm.Room) (va_Pc [.ref mo, .int 0, .int 3] (zB dC dI ed sz [(mo, .inr (10, [.int x9, .ref mr, .int 1, .long s9])), (mr, .inr (9, [.ref ll, .ref lt, .ref lp, .int 0, .int 0, .int 0, .int 0, .int 0, .int 0, .int 0, .int (-1), .int 0, .int 0, .int 0])), (ll, .inr (1, [.int 2, .ref ola, .int 2])), (ola, .inl (cOl, 10, .inr (.inr (.inr (.inr fol))))), (la0, .inl (cA0, 10, .inl fa0))] [] [(cOl, .object "java/lang/Object"), (cA0, .int)])) (va_Qi (fun (r : Int32) (_ : Unit) => r = 0) (fun (_ : Unit) (_ : State) => True) (va_A [] sz)) 0 0 (va_A [] sz) := by
  refine Met.ofW (cc := cX8_ofLockNow) (maxL := 3) (ret := (some .int)) (by decide) rfl ?_
  intro p e s m args below meth c s₁ B hml hv
  obtain ⟨rfl, hsz, hR0, hP, hK, hD0, hN, hH, hX0⟩ := hv
  have hx := B.exec
  have hb := B.bytes
  have hr := B.returns
  have hts := atoms_spec (ws := wsX8_ofLockNow) B.pre
  have hown : s.vm.findClass RX8 = some m.cls := findClass_of_methodNamed B.named
  have hlocks := B.notSynchronized
  subst hsz
  have hD := hD0.self (sz := s.heap.size)
  have hAr := zx_A hX0 hR0
  generalize hAe : va_A [] s.heap.size = A at hD hAr hH ⊢
  have hA : ∀ q : Nat, s.heap.size ≤ q → A q := fun q h => by rw [← hAe]; exact Or.inr h
  have hS : va_S A s.heap s.heap [] := va_S.rf
  have hl := lv_entry ([.ref mo, .int 0, .int 3]) (n := 3) (Nat.le_of_ble_eq_true rfl)
  rw [lg_entry_eq]
  generalize (lg_sl ([.ref mo, .int 0, .int 3]) ++ List.replicate (3 - (lg_sl ([.ref mo, .int 0, .int 3])).length) Slot.unset).toArray = ls at hl ⊢
  have hl : lv_has ls 3 [(0, .ref mo), (1, .int 0), (2, .int 3)] := hl
  refine lv_iload_n hx hb dX8_ofLockNow_0 rfl (lv_at hl 2 rfl) ?_
  refine lv_bipush (v := 9) hx hb dX8_ofLockNow_1 (by decide) ?_
  refine lv_icmp_ge (tgt := 25) hx hb dX8_ofLockNow_3 (by decide) (fun h => absurd h (by decide)) (fun _ => ?_)
  refine lv_aload_n hx hb dX8_ofLockNow_6 rfl (lv_at hl 0 rfl) ?_
  refine va_get (D := (dC, dI)) (ci := 10) (v := .ref mr) (C := RX8) (T := TX8) (N := 4) hx hb hts zi_X8_ofLockNow_X8 hown hK hR0 0 rfl rfl 1 (by decide) (hts (.fieldLink RX8 10 "LockRoomsModel" "room" "LLockRoomsModel$Room;") (by decide +kernel)) (fun _ h9 => h9) rfl dX8_ofLockNow_7 ?_
  refine va_getN (D := (dC, dI)) (ci := 9) (v := .ref ll) (C := RX7) (T := TX7) (N := 14) hx hb hts zi_X8_ofLockNow_X7 hown hK hR0 1 rfl rfl 0 (by decide) (va_Nw.use rfl (hN.1 ("LockRoomsModel", 24, "LockRoomsModel$Room", "locks", "Ljava/util/ArrayList;", "LockRoomsModel") (List.mem_of_getElem? (i := 1) rfl))) (fun _ h9 => h9) rfl dX8_ofLockNow_10 ?_
  refine lv_iload_n hx hb dX8_ofLockNow_13 rfl (lv_at hl 1 rfl) ?_
  have hPr := (hR0).sub (ws' := [(ll, .inr (1, [.int 2, .ref ola, .int 2])), (ola, .inl (cOl, 10, .inr (.inr (.inr (.inr fol)))))]) [2, 3] rfl
  have hPc := hP.sub (ws' := []) [] rfl
  have hDc := hD.sub (ws' := []) [] (by decide) rfl
  have hKc := hK.sub (tys' := [(cOl, .object "java/lang/Object")]) [0] rfl
  have hFc := va_free (wc := []) hD hS hA [] rfl
  refine va_callr (va_runV (As := [.int 0]) (rest := []) ⟨hx, hb, hml, hown, hts⟩ (cz_Qget_0_2 l dC dI ed s.heap.size ll 2 ola cOl fol la0 hol0) (cwV 1 hts gX8_ofLockNow_Jx4a65c_get_915e3 rfl rfl rfl (by decide +kernel) ⟨Nat.le_of_ble_eq_true rfl, Nat.le_of_ble_eq_true rfl⟩) ⟨zb_blind, va_recv hK hR0 (ci := 1) (q0 := 2) rfl rfl, fun U hU hW => ⟨rfl, zb_mk hU hW hPr hPc hKc hDc hN hH hS hFc zx_e⟩⟩ rfl rfl hl.1 rfl (lv_room (Nat.le_of_ble_eq_true rfl)) dX8_ofLockNow_14 ⟨Nat.le_of_ble_eq_true rfl, Nat.le_of_ble_eq_true rfl⟩) hS (fun q _ h => hFc q h) hFc (fun u r2 t H1 locs ht hvm hw hB hz1 hk1 hS => ?_)
  obtain ⟨hq3_0, hP1, hD1, hK1⟩ := hB
  rw [ht] at hP1
  obtain ⟨hP, hD⟩ := va_join (wr := []) (w1 := []) hP hD [] [] rfl rfl (by decide) (by decide) hk1 hFc hP1 hD1
  have hP : va_P (dC, dI) vwCl [] H1 := hP
  have hD : va_D A [] := hD
  obtain rfl : la0 = r2 := hq3_0.symm
  refine va_castA (nm := "[I") hx hb hown (hts (.classLink RX8 88 "[I") (by decide +kernel)) (zo_R hR0 hS hAr) 4 rfl (show s.vm.findClass "[I" = some cA0 from (hK.2 1 _ rfl).2) dX8_ofLockNow_17 ?_
  refine lv_iload_n hx hb dX8_ofLockNow_20 rfl (lv_at hl 2 rfl) ?_
  refine va_iald hx hb hK (zo_R hR0 hS hAr) 4 1 rfl rfl (by unfold vp_in; decide) dX8_ofLockNow_21 ?_
  refine zo_i (v := 0) (by rw [show Int32.toNatClampNeg 3 = 3 from by decide]; exact ha0_3) ?_
  refine lv_goto (tgt := 41) hx hb dX8_ofLockNow_22 (by decide) ?_
  refine W.widen (k := 0) (n := 0) (Nat.le_of_ble_eq_true rfl) (Nat.le_of_ble_eq_true rfl) ?_
  exact W.iret hx hb hr (fun t ht hW => ⟨⟨0, (), rfl, rfl, trivial⟩, hS.F ht⟩) hS.2.2 dX8_ofLockNow_41
set_option maxHeartbeats 4000000 in
set_option maxRecDepth 100000 in
theorem cz_QofLockNow_0_4 (l : Launch) (dC : Nat → ClassId) (dI : Nat → Nat → Nat) (ed sz : Nat) (mo : Nat) (mr : Nat) (x9 : Int32) (s9 : Int64) (ll : Nat) (lt : Nat) (lp : Nat) (ola : Nat) (cOl : ClassId) (fol : Nat → Option Nat) (la0 : Nat) (cA0 : ClassId) (fa0 : Nat → Int32) (hol0 : fol 0 = some la0) (ha0_4 : fa0 4 = 0) : Met l yX8_ofLockNow wsX8_ofLockNow ({ frames := 3, cells := 0, slots := 0, locals := 64 } : Jvm.Room) (va_Pc [.ref mo, .int 0, .int 4] (zB dC dI ed sz [(mo, .inr (10, [.int x9, .ref mr, .int 1, .long s9])), (mr, .inr (9, [.ref ll, .ref lt, .ref lp, .int 0, .int 0, .int 0, .int 0, .int 0, .int 0, .int 0, .int (-1), .int 0, .int 0, .int 0])), (ll, .inr (1, [.int 2, .ref ola, .int 2])), (ola, .inl (cOl, 10, .inr (.inr (.inr (.inr fol))))), (la0, .inl (cA0, 10, .inl fa0))] [] [(cOl, .object "java/lang/Object"), (cA0, .int)])) (va_Qi (fun (r : Int32) (_ : Unit) => r = 0) (fun (_ : Unit) (_ : State) => True) (va_A [] sz)) 0 0 (va_A [] sz) := by
  refine Met.ofW (cc := cX8_ofLockNow) (maxL := 3) (ret := (some .int)) (by decide) rfl ?_
  intro p e s m args below meth c s₁ B hml hv
  obtain ⟨rfl, hsz, hR0, hP, hK, hD0, hN, hH, hX0⟩ := hv
  have hx := B.exec
  have hb := B.bytes
  have hr := B.returns
  have hts := atoms_spec (ws := wsX8_ofLockNow) B.pre
  have hown : s.vm.findClass RX8 = some m.cls := findClass_of_methodNamed B.named
  have hlocks := B.notSynchronized
  subst hsz
  have hD := hD0.self (sz := s.heap.size)
  have hAr := zx_A hX0 hR0
  generalize hAe : va_A [] s.heap.size = A at hD hAr hH ⊢
  have hA : ∀ q : Nat, s.heap.size ≤ q → A q := fun q h => by rw [← hAe]; exact Or.inr h
  have hS : va_S A s.heap s.heap [] := va_S.rf
  have hl := lv_entry ([.ref mo, .int 0, .int 4]) (n := 3) (Nat.le_of_ble_eq_true rfl)
  rw [lg_entry_eq]
  generalize (lg_sl ([.ref mo, .int 0, .int 4]) ++ List.replicate (3 - (lg_sl ([.ref mo, .int 0, .int 4])).length) Slot.unset).toArray = ls at hl ⊢
  have hl : lv_has ls 3 [(0, .ref mo), (1, .int 0), (2, .int 4)] := hl
  refine lv_iload_n hx hb dX8_ofLockNow_0 rfl (lv_at hl 2 rfl) ?_
  refine lv_bipush (v := 9) hx hb dX8_ofLockNow_1 (by decide) ?_
  refine lv_icmp_ge (tgt := 25) hx hb dX8_ofLockNow_3 (by decide) (fun h => absurd h (by decide)) (fun _ => ?_)
  refine lv_aload_n hx hb dX8_ofLockNow_6 rfl (lv_at hl 0 rfl) ?_
  refine va_get (D := (dC, dI)) (ci := 10) (v := .ref mr) (C := RX8) (T := TX8) (N := 4) hx hb hts zi_X8_ofLockNow_X8 hown hK hR0 0 rfl rfl 1 (by decide) (hts (.fieldLink RX8 10 "LockRoomsModel" "room" "LLockRoomsModel$Room;") (by decide +kernel)) (fun _ h9 => h9) rfl dX8_ofLockNow_7 ?_
  refine va_getN (D := (dC, dI)) (ci := 9) (v := .ref ll) (C := RX7) (T := TX7) (N := 14) hx hb hts zi_X8_ofLockNow_X7 hown hK hR0 1 rfl rfl 0 (by decide) (va_Nw.use rfl (hN.1 ("LockRoomsModel", 24, "LockRoomsModel$Room", "locks", "Ljava/util/ArrayList;", "LockRoomsModel") (List.mem_of_getElem? (i := 1) rfl))) (fun _ h9 => h9) rfl dX8_ofLockNow_10 ?_
  refine lv_iload_n hx hb dX8_ofLockNow_13 rfl (lv_at hl 1 rfl) ?_
  have hPr := (hR0).sub (ws' := [(ll, .inr (1, [.int 2, .ref ola, .int 2])), (ola, .inl (cOl, 10, .inr (.inr (.inr (.inr fol)))))]) [2, 3] rfl
  have hPc := hP.sub (ws' := []) [] rfl
  have hDc := hD.sub (ws' := []) [] (by decide) rfl
  have hKc := hK.sub (tys' := [(cOl, .object "java/lang/Object")]) [0] rfl
  have hFc := va_free (wc := []) hD hS hA [] rfl
  refine va_callr (va_runV (As := [.int 0]) (rest := []) ⟨hx, hb, hml, hown, hts⟩ (cz_Qget_0_2 l dC dI ed s.heap.size ll 2 ola cOl fol la0 hol0) (cwV 1 hts gX8_ofLockNow_Jx4a65c_get_915e3 rfl rfl rfl (by decide +kernel) ⟨Nat.le_of_ble_eq_true rfl, Nat.le_of_ble_eq_true rfl⟩) ⟨zb_blind, va_recv hK hR0 (ci := 1) (q0 := 2) rfl rfl, fun U hU hW => ⟨rfl, zb_mk hU hW hPr hPc hKc hDc hN hH hS hFc zx_e⟩⟩ rfl rfl hl.1 rfl (lv_room (Nat.le_of_ble_eq_true rfl)) dX8_ofLockNow_14 ⟨Nat.le_of_ble_eq_true rfl, Nat.le_of_ble_eq_true rfl⟩) hS (fun q _ h => hFc q h) hFc (fun u r2 t H1 locs ht hvm hw hB hz1 hk1 hS => ?_)
  obtain ⟨hq3_0, hP1, hD1, hK1⟩ := hB
  rw [ht] at hP1
  obtain ⟨hP, hD⟩ := va_join (wr := []) (w1 := []) hP hD [] [] rfl rfl (by decide) (by decide) hk1 hFc hP1 hD1
  have hP : va_P (dC, dI) vwCl [] H1 := hP
  have hD : va_D A [] := hD
  obtain rfl : la0 = r2 := hq3_0.symm
  refine va_castA (nm := "[I") hx hb hown (hts (.classLink RX8 88 "[I") (by decide +kernel)) (zo_R hR0 hS hAr) 4 rfl (show s.vm.findClass "[I" = some cA0 from (hK.2 1 _ rfl).2) dX8_ofLockNow_17 ?_
  refine lv_iload_n hx hb dX8_ofLockNow_20 rfl (lv_at hl 2 rfl) ?_
  refine va_iald hx hb hK (zo_R hR0 hS hAr) 4 1 rfl rfl (by unfold vp_in; decide) dX8_ofLockNow_21 ?_
  refine zo_i (v := 0) (by rw [show Int32.toNatClampNeg 4 = 4 from by decide]; exact ha0_4) ?_
  refine lv_goto (tgt := 41) hx hb dX8_ofLockNow_22 (by decide) ?_
  refine W.widen (k := 0) (n := 0) (Nat.le_of_ble_eq_true rfl) (Nat.le_of_ble_eq_true rfl) ?_
  exact W.iret hx hb hr (fun t ht hW => ⟨⟨0, (), rfl, rfl, trivial⟩, hS.F ht⟩) hS.2.2 dX8_ofLockNow_41
set_option maxHeartbeats 4000000 in
set_option maxRecDepth 100000 in
theorem cz_QofLockNow_0_5 (l : Launch) (dC : Nat → ClassId) (dI : Nat → Nat → Nat) (ed sz : Nat) (mo : Nat) (mr : Nat) (x9 : Int32) (s9 : Int64) (ll : Nat) (lt : Nat) (lp : Nat) (ola : Nat) (cOl : ClassId) (fol : Nat → Option Nat) (la0 : Nat) (cA0 : ClassId) (fa0 : Nat → Int32) (hol0 : fol 0 = some la0) (ha0_5 : fa0 5 = 0) : Met l yX8_ofLockNow wsX8_ofLockNow ({ frames := 3, cells := 0, slots := 0, locals := 64 } : Jvm.Room) (va_Pc [.ref mo, .int 0, .int 5] (zB dC dI ed sz [(mo, .inr (10, [.int x9, .ref mr, .int 1, .long s9])), (mr, .inr (9, [.ref ll, .ref lt, .ref lp, .int 0, .int 0, .int 0, .int 0, .int 0, .int 0, .int 0, .int (-1), .int 0, .int 0, .int 0])), (ll, .inr (1, [.int 2, .ref ola, .int 2])), (ola, .inl (cOl, 10, .inr (.inr (.inr (.inr fol))))), (la0, .inl (cA0, 10, .inl fa0))] [] [(cOl, .object "java/lang/Object"), (cA0, .int)])) (va_Qi (fun (r : Int32) (_ : Unit) => r = 0) (fun (_ : Unit) (_ : State) => True) (va_A [] sz)) 0 0 (va_A [] sz) := by
  refine Met.ofW (cc := cX8_ofLockNow) (maxL := 3) (ret := (some .int)) (by decide) rfl ?_
  intro p e s m args below meth c s₁ B hml hv
  obtain ⟨rfl, hsz, hR0, hP, hK, hD0, hN, hH, hX0⟩ := hv
  have hx := B.exec
  have hb := B.bytes
  have hr := B.returns
  have hts := atoms_spec (ws := wsX8_ofLockNow) B.pre
  have hown : s.vm.findClass RX8 = some m.cls := findClass_of_methodNamed B.named
  have hlocks := B.notSynchronized
  subst hsz
  have hD := hD0.self (sz := s.heap.size)
  have hAr := zx_A hX0 hR0
  generalize hAe : va_A [] s.heap.size = A at hD hAr hH ⊢
  have hA : ∀ q : Nat, s.heap.size ≤ q → A q := fun q h => by rw [← hAe]; exact Or.inr h
  have hS : va_S A s.heap s.heap [] := va_S.rf
  have hl := lv_entry ([.ref mo, .int 0, .int 5]) (n := 3) (Nat.le_of_ble_eq_true rfl)
  rw [lg_entry_eq]
  generalize (lg_sl ([.ref mo, .int 0, .int 5]) ++ List.replicate (3 - (lg_sl ([.ref mo, .int 0, .int 5])).length) Slot.unset).toArray = ls at hl ⊢
  have hl : lv_has ls 3 [(0, .ref mo), (1, .int 0), (2, .int 5)] := hl
  refine lv_iload_n hx hb dX8_ofLockNow_0 rfl (lv_at hl 2 rfl) ?_
  refine lv_bipush (v := 9) hx hb dX8_ofLockNow_1 (by decide) ?_
  refine lv_icmp_ge (tgt := 25) hx hb dX8_ofLockNow_3 (by decide) (fun h => absurd h (by decide)) (fun _ => ?_)
  refine lv_aload_n hx hb dX8_ofLockNow_6 rfl (lv_at hl 0 rfl) ?_
  refine va_get (D := (dC, dI)) (ci := 10) (v := .ref mr) (C := RX8) (T := TX8) (N := 4) hx hb hts zi_X8_ofLockNow_X8 hown hK hR0 0 rfl rfl 1 (by decide) (hts (.fieldLink RX8 10 "LockRoomsModel" "room" "LLockRoomsModel$Room;") (by decide +kernel)) (fun _ h9 => h9) rfl dX8_ofLockNow_7 ?_
  refine va_getN (D := (dC, dI)) (ci := 9) (v := .ref ll) (C := RX7) (T := TX7) (N := 14) hx hb hts zi_X8_ofLockNow_X7 hown hK hR0 1 rfl rfl 0 (by decide) (va_Nw.use rfl (hN.1 ("LockRoomsModel", 24, "LockRoomsModel$Room", "locks", "Ljava/util/ArrayList;", "LockRoomsModel") (List.mem_of_getElem? (i := 1) rfl))) (fun _ h9 => h9) rfl dX8_ofLockNow_10 ?_
  refine lv_iload_n hx hb dX8_ofLockNow_13 rfl (lv_at hl 1 rfl) ?_
  have hPr := (hR0).sub (ws' := [(ll, .inr (1, [.int 2, .ref ola, .int 2])), (ola, .inl (cOl, 10, .inr (.inr (.inr (.inr fol)))))]) [2, 3] rfl
  have hPc := hP.sub (ws' := []) [] rfl
  have hDc := hD.sub (ws' := []) [] (by decide) rfl
  have hKc := hK.sub (tys' := [(cOl, .object "java/lang/Object")]) [0] rfl
  have hFc := va_free (wc := []) hD hS hA [] rfl
  refine va_callr (va_runV (As := [.int 0]) (rest := []) ⟨hx, hb, hml, hown, hts⟩ (cz_Qget_0_2 l dC dI ed s.heap.size ll 2 ola cOl fol la0 hol0) (cwV 1 hts gX8_ofLockNow_Jx4a65c_get_915e3 rfl rfl rfl (by decide +kernel) ⟨Nat.le_of_ble_eq_true rfl, Nat.le_of_ble_eq_true rfl⟩) ⟨zb_blind, va_recv hK hR0 (ci := 1) (q0 := 2) rfl rfl, fun U hU hW => ⟨rfl, zb_mk hU hW hPr hPc hKc hDc hN hH hS hFc zx_e⟩⟩ rfl rfl hl.1 rfl (lv_room (Nat.le_of_ble_eq_true rfl)) dX8_ofLockNow_14 ⟨Nat.le_of_ble_eq_true rfl, Nat.le_of_ble_eq_true rfl⟩) hS (fun q _ h => hFc q h) hFc (fun u r2 t H1 locs ht hvm hw hB hz1 hk1 hS => ?_)
  obtain ⟨hq3_0, hP1, hD1, hK1⟩ := hB
  rw [ht] at hP1
  obtain ⟨hP, hD⟩ := va_join (wr := []) (w1 := []) hP hD [] [] rfl rfl (by decide) (by decide) hk1 hFc hP1 hD1
  have hP : va_P (dC, dI) vwCl [] H1 := hP
  have hD : va_D A [] := hD
  obtain rfl : la0 = r2 := hq3_0.symm
  refine va_castA (nm := "[I") hx hb hown (hts (.classLink RX8 88 "[I") (by decide +kernel)) (zo_R hR0 hS hAr) 4 rfl (show s.vm.findClass "[I" = some cA0 from (hK.2 1 _ rfl).2) dX8_ofLockNow_17 ?_
  refine lv_iload_n hx hb dX8_ofLockNow_20 rfl (lv_at hl 2 rfl) ?_
  refine va_iald hx hb hK (zo_R hR0 hS hAr) 4 1 rfl rfl (by unfold vp_in; decide) dX8_ofLockNow_21 ?_
  refine zo_i (v := 0) (by rw [show Int32.toNatClampNeg 5 = 5 from by decide]; exact ha0_5) ?_
  refine lv_goto (tgt := 41) hx hb dX8_ofLockNow_22 (by decide) ?_
  refine W.widen (k := 0) (n := 0) (Nat.le_of_ble_eq_true rfl) (Nat.le_of_ble_eq_true rfl) ?_
  exact W.iret hx hb hr (fun t ht hW => ⟨⟨0, (), rfl, rfl, trivial⟩, hS.F ht⟩) hS.2.2 dX8_ofLockNow_41
set_option maxHeartbeats 4000000 in
set_option maxRecDepth 100000 in
theorem cz_QofLockNow_0_6 (l : Launch) (dC : Nat → ClassId) (dI : Nat → Nat → Nat) (ed sz : Nat) (mo : Nat) (mr : Nat) (x9 : Int32) (s9 : Int64) (ll : Nat) (lt : Nat) (lp : Nat) (ola : Nat) (cOl : ClassId) (fol : Nat → Option Nat) (la0 : Nat) (cA0 : ClassId) (fa0 : Nat → Int32) (hol0 : fol 0 = some la0) (ha0_6 : fa0 6 = 0) : Met l yX8_ofLockNow wsX8_ofLockNow ({ frames := 3, cells := 0, slots := 0, locals := 64 } : Jvm.Room) (va_Pc [.ref mo, .int 0, .int 6] (zB dC dI ed sz [(mo, .inr (10, [.int x9, .ref mr, .int 1, .long s9])), (mr, .inr (9, [.ref ll, .ref lt, .ref lp, .int 0, .int 0, .int 0, .int 0, .int 0, .int 0, .int 0, .int (-1), .int 0, .int 0, .int 0])), (ll, .inr (1, [.int 2, .ref ola, .int 2])), (ola, .inl (cOl, 10, .inr (.inr (.inr (.inr fol))))), (la0, .inl (cA0, 10, .inl fa0))] [] [(cOl, .object "java/lang/Object"), (cA0, .int)])) (va_Qi (fun (r : Int32) (_ : Unit) => r = 0) (fun (_ : Unit) (_ : State) => True) (va_A [] sz)) 0 0 (va_A [] sz) := by
  refine Met.ofW (cc := cX8_ofLockNow) (maxL := 3) (ret := (some .int)) (by decide) rfl ?_
  intro p e s m args below meth c s₁ B hml hv
  obtain ⟨rfl, hsz, hR0, hP, hK, hD0, hN, hH, hX0⟩ := hv
  have hx := B.exec
  have hb := B.bytes
  have hr := B.returns
  have hts := atoms_spec (ws := wsX8_ofLockNow) B.pre
  have hown : s.vm.findClass RX8 = some m.cls := findClass_of_methodNamed B.named
  have hlocks := B.notSynchronized
  subst hsz
  have hD := hD0.self (sz := s.heap.size)
  have hAr := zx_A hX0 hR0
  generalize hAe : va_A [] s.heap.size = A at hD hAr hH ⊢
  have hA : ∀ q : Nat, s.heap.size ≤ q → A q := fun q h => by rw [← hAe]; exact Or.inr h
  have hS : va_S A s.heap s.heap [] := va_S.rf
  have hl := lv_entry ([.ref mo, .int 0, .int 6]) (n := 3) (Nat.le_of_ble_eq_true rfl)
  rw [lg_entry_eq]
  generalize (lg_sl ([.ref mo, .int 0, .int 6]) ++ List.replicate (3 - (lg_sl ([.ref mo, .int 0, .int 6])).length) Slot.unset).toArray = ls at hl ⊢
  have hl : lv_has ls 3 [(0, .ref mo), (1, .int 0), (2, .int 6)] := hl
  refine lv_iload_n hx hb dX8_ofLockNow_0 rfl (lv_at hl 2 rfl) ?_
  refine lv_bipush (v := 9) hx hb dX8_ofLockNow_1 (by decide) ?_
  refine lv_icmp_ge (tgt := 25) hx hb dX8_ofLockNow_3 (by decide) (fun h => absurd h (by decide)) (fun _ => ?_)
  refine lv_aload_n hx hb dX8_ofLockNow_6 rfl (lv_at hl 0 rfl) ?_
  refine va_get (D := (dC, dI)) (ci := 10) (v := .ref mr) (C := RX8) (T := TX8) (N := 4) hx hb hts zi_X8_ofLockNow_X8 hown hK hR0 0 rfl rfl 1 (by decide) (hts (.fieldLink RX8 10 "LockRoomsModel" "room" "LLockRoomsModel$Room;") (by decide +kernel)) (fun _ h9 => h9) rfl dX8_ofLockNow_7 ?_
  refine va_getN (D := (dC, dI)) (ci := 9) (v := .ref ll) (C := RX7) (T := TX7) (N := 14) hx hb hts zi_X8_ofLockNow_X7 hown hK hR0 1 rfl rfl 0 (by decide) (va_Nw.use rfl (hN.1 ("LockRoomsModel", 24, "LockRoomsModel$Room", "locks", "Ljava/util/ArrayList;", "LockRoomsModel") (List.mem_of_getElem? (i := 1) rfl))) (fun _ h9 => h9) rfl dX8_ofLockNow_10 ?_
  refine lv_iload_n hx hb dX8_ofLockNow_13 rfl (lv_at hl 1 rfl) ?_
  have hPr := (hR0).sub (ws' := [(ll, .inr (1, [.int 2, .ref ola, .int 2])), (ola, .inl (cOl, 10, .inr (.inr (.inr (.inr fol)))))]) [2, 3] rfl
  have hPc := hP.sub (ws' := []) [] rfl
  have hDc := hD.sub (ws' := []) [] (by decide) rfl
  have hKc := hK.sub (tys' := [(cOl, .object "java/lang/Object")]) [0] rfl
  have hFc := va_free (wc := []) hD hS hA [] rfl
  refine va_callr (va_runV (As := [.int 0]) (rest := []) ⟨hx, hb, hml, hown, hts⟩ (cz_Qget_0_2 l dC dI ed s.heap.size ll 2 ola cOl fol la0 hol0) (cwV 1 hts gX8_ofLockNow_Jx4a65c_get_915e3 rfl rfl rfl (by decide +kernel) ⟨Nat.le_of_ble_eq_true rfl, Nat.le_of_ble_eq_true rfl⟩) ⟨zb_blind, va_recv hK hR0 (ci := 1) (q0 := 2) rfl rfl, fun U hU hW => ⟨rfl, zb_mk hU hW hPr hPc hKc hDc hN hH hS hFc zx_e⟩⟩ rfl rfl hl.1 rfl (lv_room (Nat.le_of_ble_eq_true rfl)) dX8_ofLockNow_14 ⟨Nat.le_of_ble_eq_true rfl, Nat.le_of_ble_eq_true rfl⟩) hS (fun q _ h => hFc q h) hFc (fun u r2 t H1 locs ht hvm hw hB hz1 hk1 hS => ?_)
  obtain ⟨hq3_0, hP1, hD1, hK1⟩ := hB
  rw [ht] at hP1
  obtain ⟨hP, hD⟩ := va_join (wr := []) (w1 := []) hP hD [] [] rfl rfl (by decide) (by decide) hk1 hFc hP1 hD1
  have hP : va_P (dC, dI) vwCl [] H1 := hP
  have hD : va_D A [] := hD
  obtain rfl : la0 = r2 := hq3_0.symm
  refine va_castA (nm := "[I") hx hb hown (hts (.classLink RX8 88 "[I") (by decide +kernel)) (zo_R hR0 hS hAr) 4 rfl (show s.vm.findClass "[I" = some cA0 from (hK.2 1 _ rfl).2) dX8_ofLockNow_17 ?_
  refine lv_iload_n hx hb dX8_ofLockNow_20 rfl (lv_at hl 2 rfl) ?_
  refine va_iald hx hb hK (zo_R hR0 hS hAr) 4 1 rfl rfl (by unfold vp_in; decide) dX8_ofLockNow_21 ?_
  refine zo_i (v := 0) (by rw [show Int32.toNatClampNeg 6 = 6 from by decide]; exact ha0_6) ?_
  refine lv_goto (tgt := 41) hx hb dX8_ofLockNow_22 (by decide) ?_
  refine W.widen (k := 0) (n := 0) (Nat.le_of_ble_eq_true rfl) (Nat.le_of_ble_eq_true rfl) ?_
  exact W.iret hx hb hr (fun t ht hW => ⟨⟨0, (), rfl, rfl, trivial⟩, hS.F ht⟩) hS.2.2 dX8_ofLockNow_41
set_option maxHeartbeats 4000000 in
set_option maxRecDepth 100000 in
theorem cz_QofLockNow_0_7 (l : Launch) (dC : Nat → ClassId) (dI : Nat → Nat → Nat) (ed sz : Nat) (mo : Nat) (mr : Nat) (x9 : Int32) (s9 : Int64) (ll : Nat) (lt : Nat) (lp : Nat) (ola : Nat) (cOl : ClassId) (fol : Nat → Option Nat) (la0 : Nat) (cA0 : ClassId) (fa0 : Nat → Int32) (hol0 : fol 0 = some la0) (ha0_7 : fa0 7 = 0) : Met l yX8_ofLockNow wsX8_ofLockNow ({ frames := 3, cells := 0, slots := 0, locals := 64 } : Jvm.Room) (va_Pc [.ref mo, .int 0, .int 7] (zB dC dI ed sz [(mo, .inr (10, [.int x9, .ref mr, .int 1, .long s9])), (mr, .inr (9, [.ref ll, .ref lt, .ref lp, .int 0, .int 0, .int 0, .int 0, .int 0, .int 0, .int 0, .int (-1), .int 0, .int 0, .int 0])), (ll, .inr (1, [.int 2, .ref ola, .int 2])), (ola, .inl (cOl, 10, .inr (.inr (.inr (.inr fol))))), (la0, .inl (cA0, 10, .inl fa0))] [] [(cOl, .object "java/lang/Object"), (cA0, .int)])) (va_Qi (fun (r : Int32) (_ : Unit) => r = 0) (fun (_ : Unit) (_ : State) => True) (va_A [] sz)) 0 0 (va_A [] sz) := by
  refine Met.ofW (cc := cX8_ofLockNow) (maxL := 3) (ret := (some .int)) (by decide) rfl ?_
  intro p e s m args below meth c s₁ B hml hv
  obtain ⟨rfl, hsz, hR0, hP, hK, hD0, hN, hH, hX0⟩ := hv
  have hx := B.exec
  have hb := B.bytes
  have hr := B.returns
  have hts := atoms_spec (ws := wsX8_ofLockNow) B.pre
  have hown : s.vm.findClass RX8 = some m.cls := findClass_of_methodNamed B.named
  have hlocks := B.notSynchronized
  subst hsz
  have hD := hD0.self (sz := s.heap.size)
  have hAr := zx_A hX0 hR0
  generalize hAe : va_A [] s.heap.size = A at hD hAr hH ⊢
  have hA : ∀ q : Nat, s.heap.size ≤ q → A q := fun q h => by rw [← hAe]; exact Or.inr h
  have hS : va_S A s.heap s.heap [] := va_S.rf
  have hl := lv_entry ([.ref mo, .int 0, .int 7]) (n := 3) (Nat.le_of_ble_eq_true rfl)
  rw [lg_entry_eq]
  generalize (lg_sl ([.ref mo, .int 0, .int 7]) ++ List.replicate (3 - (lg_sl ([.ref mo, .int 0, .int 7])).length) Slot.unset).toArray = ls at hl ⊢
  have hl : lv_has ls 3 [(0, .ref mo), (1, .int 0), (2, .int 7)] := hl
  refine lv_iload_n hx hb dX8_ofLockNow_0 rfl (lv_at hl 2 rfl) ?_
  refine lv_bipush (v := 9) hx hb dX8_ofLockNow_1 (by decide) ?_
  refine lv_icmp_ge (tgt := 25) hx hb dX8_ofLockNow_3 (by decide) (fun h => absurd h (by decide)) (fun _ => ?_)
  refine lv_aload_n hx hb dX8_ofLockNow_6 rfl (lv_at hl 0 rfl) ?_
  refine va_get (D := (dC, dI)) (ci := 10) (v := .ref mr) (C := RX8) (T := TX8) (N := 4) hx hb hts zi_X8_ofLockNow_X8 hown hK hR0 0 rfl rfl 1 (by decide) (hts (.fieldLink RX8 10 "LockRoomsModel" "room" "LLockRoomsModel$Room;") (by decide +kernel)) (fun _ h9 => h9) rfl dX8_ofLockNow_7 ?_
  refine va_getN (D := (dC, dI)) (ci := 9) (v := .ref ll) (C := RX7) (T := TX7) (N := 14) hx hb hts zi_X8_ofLockNow_X7 hown hK hR0 1 rfl rfl 0 (by decide) (va_Nw.use rfl (hN.1 ("LockRoomsModel", 24, "LockRoomsModel$Room", "locks", "Ljava/util/ArrayList;", "LockRoomsModel") (List.mem_of_getElem? (i := 1) rfl))) (fun _ h9 => h9) rfl dX8_ofLockNow_10 ?_
  refine lv_iload_n hx hb dX8_ofLockNow_13 rfl (lv_at hl 1 rfl) ?_
  have hPr := (hR0).sub (ws' := [(ll, .inr (1, [.int 2, .ref ola, .int 2])), (ola, .inl (cOl, 10, .inr (.inr (.inr (.inr fol)))))]) [2, 3] rfl
  have hPc := hP.sub (ws' := []) [] rfl
  have hDc := hD.sub (ws' := []) [] (by decide) rfl
  have hKc := hK.sub (tys' := [(cOl, .object "java/lang/Object")]) [0] rfl
  have hFc := va_free (wc := []) hD hS hA [] rfl
  refine va_callr (va_runV (As := [.int 0]) (rest := []) ⟨hx, hb, hml, hown, hts⟩ (cz_Qget_0_2 l dC dI ed s.heap.size ll 2 ola cOl fol la0 hol0) (cwV 1 hts gX8_ofLockNow_Jx4a65c_get_915e3 rfl rfl rfl (by decide +kernel) ⟨Nat.le_of_ble_eq_true rfl, Nat.le_of_ble_eq_true rfl⟩) ⟨zb_blind, va_recv hK hR0 (ci := 1) (q0 := 2) rfl rfl, fun U hU hW => ⟨rfl, zb_mk hU hW hPr hPc hKc hDc hN hH hS hFc zx_e⟩⟩ rfl rfl hl.1 rfl (lv_room (Nat.le_of_ble_eq_true rfl)) dX8_ofLockNow_14 ⟨Nat.le_of_ble_eq_true rfl, Nat.le_of_ble_eq_true rfl⟩) hS (fun q _ h => hFc q h) hFc (fun u r2 t H1 locs ht hvm hw hB hz1 hk1 hS => ?_)
  obtain ⟨hq3_0, hP1, hD1, hK1⟩ := hB
  rw [ht] at hP1
  obtain ⟨hP, hD⟩ := va_join (wr := []) (w1 := []) hP hD [] [] rfl rfl (by decide) (by decide) hk1 hFc hP1 hD1
  have hP : va_P (dC, dI) vwCl [] H1 := hP
  have hD : va_D A [] := hD
  obtain rfl : la0 = r2 := hq3_0.symm
  refine va_castA (nm := "[I") hx hb hown (hts (.classLink RX8 88 "[I") (by decide +kernel)) (zo_R hR0 hS hAr) 4 rfl (show s.vm.findClass "[I" = some cA0 from (hK.2 1 _ rfl).2) dX8_ofLockNow_17 ?_
  refine lv_iload_n hx hb dX8_ofLockNow_20 rfl (lv_at hl 2 rfl) ?_
  refine va_iald hx hb hK (zo_R hR0 hS hAr) 4 1 rfl rfl (by unfold vp_in; decide) dX8_ofLockNow_21 ?_
  refine zo_i (v := 0) (by rw [show Int32.toNatClampNeg 7 = 7 from by decide]; exact ha0_7) ?_
  refine lv_goto (tgt := 41) hx hb dX8_ofLockNow_22 (by decide) ?_
  refine W.widen (k := 0) (n := 0) (Nat.le_of_ble_eq_true rfl) (Nat.le_of_ble_eq_true rfl) ?_
  exact W.iret hx hb hr (fun t ht hW => ⟨⟨0, (), rfl, rfl, trivial⟩, hS.F ht⟩) hS.2.2 dX8_ofLockNow_41
set_option maxHeartbeats 4000000 in
set_option maxRecDepth 100000 in
theorem cz_QofLockNow_0_8 (l : Launch) (dC : Nat → ClassId) (dI : Nat → Nat → Nat) (ed sz : Nat) (mo : Nat) (mr : Nat) (x9 : Int32) (s9 : Int64) (ll : Nat) (lt : Nat) (lp : Nat) (ola : Nat) (cOl : ClassId) (fol : Nat → Option Nat) (la0 : Nat) (cA0 : ClassId) (fa0 : Nat → Int32) (hol0 : fol 0 = some la0) (ha0_8 : fa0 8 = 0) : Met l yX8_ofLockNow wsX8_ofLockNow ({ frames := 3, cells := 0, slots := 0, locals := 64 } : Jvm.Room) (va_Pc [.ref mo, .int 0, .int 8] (zB dC dI ed sz [(mo, .inr (10, [.int x9, .ref mr, .int 1, .long s9])), (mr, .inr (9, [.ref ll, .ref lt, .ref lp, .int 0, .int 0, .int 0, .int 0, .int 0, .int 0, .int 0, .int (-1), .int 0, .int 0, .int 0])), (ll, .inr (1, [.int 2, .ref ola, .int 2])), (ola, .inl (cOl, 10, .inr (.inr (.inr (.inr fol))))), (la0, .inl (cA0, 10, .inl fa0))] [] [(cOl, .object "java/lang/Object"), (cA0, .int)])) (va_Qi (fun (r : Int32) (_ : Unit) => r = 0) (fun (_ : Unit) (_ : State) => True) (va_A [] sz)) 0 0 (va_A [] sz) := by
  refine Met.ofW (cc := cX8_ofLockNow) (maxL := 3) (ret := (some .int)) (by decide) rfl ?_
  intro p e s m args below meth c s₁ B hml hv
  obtain ⟨rfl, hsz, hR0, hP, hK, hD0, hN, hH, hX0⟩ := hv
  have hx := B.exec
  have hb := B.bytes
  have hr := B.returns
  have hts := atoms_spec (ws := wsX8_ofLockNow) B.pre
  have hown : s.vm.findClass RX8 = some m.cls := findClass_of_methodNamed B.named
  have hlocks := B.notSynchronized
  subst hsz
  have hD := hD0.self (sz := s.heap.size)
  have hAr := zx_A hX0 hR0
  generalize hAe : va_A [] s.heap.size = A at hD hAr hH ⊢
  have hA : ∀ q : Nat, s.heap.size ≤ q → A q := fun q h => by rw [← hAe]; exact Or.inr h
  have hS : va_S A s.heap s.heap [] := va_S.rf
  have hl := lv_entry ([.ref mo, .int 0, .int 8]) (n := 3) (Nat.le_of_ble_eq_true rfl)
  rw [lg_entry_eq]
  generalize (lg_sl ([.ref mo, .int 0, .int 8]) ++ List.replicate (3 - (lg_sl ([.ref mo, .int 0, .int 8])).length) Slot.unset).toArray = ls at hl ⊢
  have hl : lv_has ls 3 [(0, .ref mo), (1, .int 0), (2, .int 8)] := hl
  refine lv_iload_n hx hb dX8_ofLockNow_0 rfl (lv_at hl 2 rfl) ?_
  refine lv_bipush (v := 9) hx hb dX8_ofLockNow_1 (by decide) ?_
  refine lv_icmp_ge (tgt := 25) hx hb dX8_ofLockNow_3 (by decide) (fun h => absurd h (by decide)) (fun _ => ?_)
  refine lv_aload_n hx hb dX8_ofLockNow_6 rfl (lv_at hl 0 rfl) ?_
  refine va_get (D := (dC, dI)) (ci := 10) (v := .ref mr) (C := RX8) (T := TX8) (N := 4) hx hb hts zi_X8_ofLockNow_X8 hown hK hR0 0 rfl rfl 1 (by decide) (hts (.fieldLink RX8 10 "LockRoomsModel" "room" "LLockRoomsModel$Room;") (by decide +kernel)) (fun _ h9 => h9) rfl dX8_ofLockNow_7 ?_
  refine va_getN (D := (dC, dI)) (ci := 9) (v := .ref ll) (C := RX7) (T := TX7) (N := 14) hx hb hts zi_X8_ofLockNow_X7 hown hK hR0 1 rfl rfl 0 (by decide) (va_Nw.use rfl (hN.1 ("LockRoomsModel", 24, "LockRoomsModel$Room", "locks", "Ljava/util/ArrayList;", "LockRoomsModel") (List.mem_of_getElem? (i := 1) rfl))) (fun _ h9 => h9) rfl dX8_ofLockNow_10 ?_
  refine lv_iload_n hx hb dX8_ofLockNow_13 rfl (lv_at hl 1 rfl) ?_
  have hPr := (hR0).sub (ws' := [(ll, .inr (1, [.int 2, .ref ola, .int 2])), (ola, .inl (cOl, 10, .inr (.inr (.inr (.inr fol)))))]) [2, 3] rfl
  have hPc := hP.sub (ws' := []) [] rfl
  have hDc := hD.sub (ws' := []) [] (by decide) rfl
  have hKc := hK.sub (tys' := [(cOl, .object "java/lang/Object")]) [0] rfl
  have hFc := va_free (wc := []) hD hS hA [] rfl
  refine va_callr (va_runV (As := [.int 0]) (rest := []) ⟨hx, hb, hml, hown, hts⟩ (cz_Qget_0_2 l dC dI ed s.heap.size ll 2 ola cOl fol la0 hol0) (cwV 1 hts gX8_ofLockNow_Jx4a65c_get_915e3 rfl rfl rfl (by decide +kernel) ⟨Nat.le_of_ble_eq_true rfl, Nat.le_of_ble_eq_true rfl⟩) ⟨zb_blind, va_recv hK hR0 (ci := 1) (q0 := 2) rfl rfl, fun U hU hW => ⟨rfl, zb_mk hU hW hPr hPc hKc hDc hN hH hS hFc zx_e⟩⟩ rfl rfl hl.1 rfl (lv_room (Nat.le_of_ble_eq_true rfl)) dX8_ofLockNow_14 ⟨Nat.le_of_ble_eq_true rfl, Nat.le_of_ble_eq_true rfl⟩) hS (fun q _ h => hFc q h) hFc (fun u r2 t H1 locs ht hvm hw hB hz1 hk1 hS => ?_)
  obtain ⟨hq3_0, hP1, hD1, hK1⟩ := hB
  rw [ht] at hP1
  obtain ⟨hP, hD⟩ := va_join (wr := []) (w1 := []) hP hD [] [] rfl rfl (by decide) (by decide) hk1 hFc hP1 hD1
  have hP : va_P (dC, dI) vwCl [] H1 := hP
  have hD : va_D A [] := hD
  obtain rfl : la0 = r2 := hq3_0.symm
  refine va_castA (nm := "[I") hx hb hown (hts (.classLink RX8 88 "[I") (by decide +kernel)) (zo_R hR0 hS hAr) 4 rfl (show s.vm.findClass "[I" = some cA0 from (hK.2 1 _ rfl).2) dX8_ofLockNow_17 ?_
  refine lv_iload_n hx hb dX8_ofLockNow_20 rfl (lv_at hl 2 rfl) ?_
  refine va_iald hx hb hK (zo_R hR0 hS hAr) 4 1 rfl rfl (by unfold vp_in; decide) dX8_ofLockNow_21 ?_
  refine zo_i (v := 0) (by rw [show Int32.toNatClampNeg 8 = 8 from by decide]; exact ha0_8) ?_
  refine lv_goto (tgt := 41) hx hb dX8_ofLockNow_22 (by decide) ?_
  refine W.widen (k := 0) (n := 0) (Nat.le_of_ble_eq_true rfl) (Nat.le_of_ble_eq_true rfl) ?_
  exact W.iret hx hb hr (fun t ht hW => ⟨⟨0, (), rfl, rfl, trivial⟩, hS.F ht⟩) hS.2.2 dX8_ofLockNow_41
set_option maxHeartbeats 4000000 in
set_option maxRecDepth 100000 in
theorem cz_QofLockNow_0_9 (l : Launch) (dC : Nat → ClassId) (dI : Nat → Nat → Nat) (ed sz : Nat) (mo : Nat) (mr : Nat) (x9 : Int32) (s9 : Int64) (ll : Nat) (lt : Nat) (lp : Nat) (ola : Nat) (cOl : ClassId) (fol : Nat → Option Nat) (la0 : Nat) (cA0 : ClassId) (fa0 : Nat → Int32) (ota : Nat) (cOt : ClassId) (fot : Nat → Option Nat) (ta0 : Nat) (ta1 : Nat) (ta2 : Nat) (ta3 : Nat) (ta4 : Nat) (ta5 : Nat) (ta6 : Nat) (ta7 : Nat) (ta8 : Nat) (ta9 : Nat) (cB0 : ClassId) (fb0 : Nat → Int32) (cB1 : ClassId) (fb1 : Nat → Int32) (cB2 : ClassId) (fb2 : Nat → Int32) (cB3 : ClassId) (fb3 : Nat → Int32) (cB4 : ClassId) (fb4 : Nat → Int32) (cB5 : ClassId) (fb5 : Nat → Int32) (cB6 : ClassId) (fb6 : Nat → Int32) (cB7 : ClassId) (fb7 : Nat → Int32) (cB8 : ClassId) (fb8 : Nat → Int32) (cB9 : ClassId) (fb9 : Nat → Int32) (hol0 : fol 0 = some la0) (ha0_0 : fa0 0 = 0) (ha0_4 : fa0 4 = 0) (ha0_8 : fa0 8 = 0) (hot0 : fot 0 = some ta0) (hot1 : fot 1 = some ta1) (hot2 : fot 2 = some ta2) (hot3 : fot 3 = some ta3) (hot4 : fot 4 = some ta4) (hot5 : fot 5 = some ta5) (hot6 : fot 6 = some ta6) (hot7 : fot 7 = some ta7) (hot8 : fot 8 = some ta8) (hot9 : fot 9 = some ta9) (hb0_3 : fb0 3 = 0) (hb1_3 : fb1 3 = 0) (hb2_3 : fb2 3 = 0) (hb3_3 : fb3 3 = 0) (hb4_3 : fb4 3 = 0) (hb5_3 : fb5 3 = 0) (hb6_3 : fb6 3 = 0) (hb7_3 : fb7 3 = 0) (hb8_3 : fb8 3 = 0) (hb9_3 : fb9 3 = 0) : Met l yX8_ofLockNow wsX8_ofLockNow ({ frames := 5, cells := 0, slots := 0, locals := 109 } : Jvm.Room) (va_Pc [.ref mo, .int 0, .int 9] (zB dC dI ed sz [(mo, .inr (10, [.int x9, .ref mr, .int 1, .long s9])), (mr, .inr (9, [.ref ll, .ref lt, .ref lp, .int 0, .int 0, .int 0, .int 0, .int 0, .int 0, .int 0, .int (-1), .int 0, .int 0, .int 0])), (ll, .inr (1, [.int 2, .ref ola, .int 2])), (ola, .inl (cOl, 10, .inr (.inr (.inr (.inr fol))))), (la0, .inl (cA0, 10, .inl fa0)), (lt, .inr (1, [.int 10, .ref ota, .int 10])), (ota, .inl (cOt, 10, .inr (.inr (.inr (.inr fot))))), (ta0, .inl (cB0, 5, .inl fb0)), (ta1, .inl (cB1, 5, .inl fb1)), (ta2, .inl (cB2, 5, .inl fb2)), (ta3, .inl (cB3, 5, .inl fb3)), (ta4, .inl (cB4, 5, .inl fb4)), (ta5, .inl (cB5, 5, .inl fb5)), (ta6, .inl (cB6, 5, .inl fb6)), (ta7, .inl (cB7, 5, .inl fb7)), (ta8, .inl (cB8, 5, .inl fb8)), (ta9, .inl (cB9, 5, .inl fb9))] [] [(cOl, .object "java/lang/Object"), (cA0, .int), (cOt, .object "java/lang/Object"), (cB0, .int), (cB1, .int), (cB2, .int), (cB3, .int), (cB4, .int), (cB5, .int), (cB6, .int), (cB7, .int), (cB8, .int), (cB9, .int)])) (va_Qi (fun (r : Int32) (_ : Unit) => r = 1) (fun (_ : Unit) (_ : State) => True) (va_A [] sz)) 0 0 (va_A [] sz) := by
  refine Met.ofW (cc := cX8_ofLockNow) (maxL := 3) (ret := (some .int)) (by decide) rfl ?_
  intro p e s m args below meth c s₁ B hml hv
  obtain ⟨rfl, hsz, hR0, hP, hK, hD0, hN, hH, hX0⟩ := hv
  have hx := B.exec
  have hb := B.bytes
  have hr := B.returns
  have hts := atoms_spec (ws := wsX8_ofLockNow) B.pre
  have hown : s.vm.findClass RX8 = some m.cls := findClass_of_methodNamed B.named
  have hlocks := B.notSynchronized
  subst hsz
  have hD := hD0.self (sz := s.heap.size)
  have hAr := zx_A hX0 hR0
  generalize hAe : va_A [] s.heap.size = A at hD hAr hH ⊢
  have hA : ∀ q : Nat, s.heap.size ≤ q → A q := fun q h => by rw [← hAe]; exact Or.inr h
  have hS : va_S A s.heap s.heap [] := va_S.rf
  have hl := lv_entry ([.ref mo, .int 0, .int 9]) (n := 3) (Nat.le_of_ble_eq_true rfl)
  rw [lg_entry_eq]
  generalize (lg_sl ([.ref mo, .int 0, .int 9]) ++ List.replicate (3 - (lg_sl ([.ref mo, .int 0, .int 9])).length) Slot.unset).toArray = ls at hl ⊢
  have hl : lv_has ls 3 [(0, .ref mo), (1, .int 0), (2, .int 9)] := hl
  refine lv_iload_n hx hb dX8_ofLockNow_0 rfl (lv_at hl 2 rfl) ?_
  refine lv_bipush (v := 9) hx hb dX8_ofLockNow_1 (by decide) ?_
  refine lv_icmp_ge (tgt := 25) hx hb dX8_ofLockNow_3 (by decide) (fun _ => ?_) (fun h => absurd h (by decide))
  refine lv_aload_n hx hb dX8_ofLockNow_25 rfl (lv_at hl 0 rfl) ?_
  refine va_get (D := (dC, dI)) (ci := 10) (v := .ref mr) (C := RX8) (T := TX8) (N := 4) hx hb hts zi_X8_ofLockNow_X8 hown hK hR0 0 rfl rfl 1 (by decide) (hts (.fieldLink RX8 10 "LockRoomsModel" "room" "LLockRoomsModel$Room;") (by decide +kernel)) (fun _ h9 => h9) rfl dX8_ofLockNow_26 ?_
  refine lv_iload_n hx hb dX8_ofLockNow_29 rfl (lv_at hl 1 rfl) ?_
  have hPr := (hR0).sub (ws' := [(mr, .inr (9, [.ref ll, .ref lt, .ref lp, .int 0, .int 0, .int 0, .int 0, .int 0, .int 0, .int 0, .int (-1), .int 0, .int 0, .int 0])), (ll, .inr (1, [.int 2, .ref ola, .int 2])), (ola, .inl (cOl, 10, .inr (.inr (.inr (.inr fol))))), (la0, .inl (cA0, 10, .inl fa0)), (lt, .inr (1, [.int 10, .ref ota, .int 10])), (ota, .inl (cOt, 10, .inr (.inr (.inr (.inr fot))))), (ta0, .inl (cB0, 5, .inl fb0)), (ta1, .inl (cB1, 5, .inl fb1)), (ta2, .inl (cB2, 5, .inl fb2)), (ta3, .inl (cB3, 5, .inl fb3)), (ta4, .inl (cB4, 5, .inl fb4)), (ta5, .inl (cB5, 5, .inl fb5)), (ta6, .inl (cB6, 5, .inl fb6)), (ta7, .inl (cB7, 5, .inl fb7)), (ta8, .inl (cB8, 5, .inl fb8)), (ta9, .inl (cB9, 5, .inl fb9))]) [1, 2, 3, 4, 5, 6, 7, 8, 9, 10, 11, 12, 13, 14, 15, 16] rfl
  have hPc := hP.sub (ws' := []) [] rfl
  have hDc := hD.sub (ws' := []) [] (by decide) rfl
  have hKc := hK.sub (tys' := [(cOl, .object "java/lang/Object"), (cA0, .int), (cOt, .object "java/lang/Object"), (cB0, .int), (cB1, .int), (cB2, .int), (cB3, .int), (cB4, .int), (cB5, .int), (cB6, .int), (cB7, .int), (cB8, .int), (cB9, .int)]) [0, 1, 2, 3, 4, 5, 6, 7, 8, 9, 10, 11, 12] rfl
  have hFc := va_free (wc := []) hD hS hA [] rfl
  refine va_calli (va_runV (As := [.int 0]) (rest := []) ⟨hx, hb, hml, hown, hts⟩ (cz_Q7isReady_0 l dC dI ed s.heap.size mr ll lt lp ola cOl fol la0 cA0 fa0 ota cOt fot ta0 ta1 ta2 ta3 ta4 ta5 ta6 ta7 ta8 ta9 cB0 fb0 cB1 fb1 cB2 fb2 cB3 fb3 cB4 fb4 cB5 fb5 cB6 fb6 cB7 fb7 cB8 fb8 cB9 fb9 hol0 ha0_0 ha0_4 ha0_8 hot0 hot1 hot2 hot3 hot4 hot5 hot6 hot7 hot8 hot9 hb0_3 hb1_3 hb2_3 hb3_3 hb4_3 hb5_3 hb6_3 hb7_3 hb8_3 hb9_3) (cwV 1 hts gX8_ofLockNow_X7_isReady rfl rfl rfl (by decide +kernel) ⟨Nat.le_of_ble_eq_true rfl, Nat.le_of_ble_eq_true rfl⟩) ⟨zb_blind, va_recv hK hR0 (ci := 9) (q0 := 1) rfl rfl, fun U hU hW => ⟨rfl, zb_mk hU hW hPr hPc hKc hDc hN hH hS hFc zx_e⟩⟩ rfl rfl hl.1 rfl (lv_room (Nat.le_of_ble_eq_true rfl)) dX8_ofLockNow_30 ⟨Nat.le_of_ble_eq_true rfl, Nat.le_of_ble_eq_true rfl⟩) hS (fun q _ h => hFc q h) hFc (fun r2 u t H1 locs ht hvm hw hB hz1 hk1 hS => ?_)
  obtain rfl : r2 = 1 := hw
  have hP := zo_K hP hk1
  refine lv_if_eq (tgt := 40) hx hb dX8_ofLockNow_33 (by decide) (fun h => absurd h (by decide)) (fun _ => ?_)
  refine lv_iconst (v := 1) hx hb dX8_ofLockNow_36 (by decide) ?_
  refine lv_goto (tgt := 41) hx hb dX8_ofLockNow_37 (by decide) ?_
  refine W.widen (k := 0) (n := 0) (Nat.le_of_ble_eq_true rfl) (Nat.le_of_ble_eq_true rfl) ?_
  exact W.iret hx hb hr (fun t ht hW => ⟨⟨1, (), rfl, rfl, trivial⟩, hS.F ht⟩) hS.2.2 dX8_ofLockNow_41
set_option maxHeartbeats 4000000 in
set_option maxRecDepth 100000 in
theorem cz_QofLockNow_1_0 (l : Launch) (dC : Nat → ClassId) (dI : Nat → Nat → Nat) (ed sz : Nat) (mo : Nat) (mr : Nat) (x9 : Int32) (s9 : Int64) (ll : Nat) (lt : Nat) (lp : Nat) (ola : Nat) (cOl : ClassId) (fol : Nat → Option Nat) (la1 : Nat) (cA1 : ClassId) (fa1 : Nat → Int32) (hol1 : fol 1 = some la1) (ha1_0 : fa1 0 = 0) : Met l yX8_ofLockNow wsX8_ofLockNow ({ frames := 3, cells := 0, slots := 0, locals := 64 } : Jvm.Room) (va_Pc [.ref mo, .int 1, .int 0] (zB dC dI ed sz [(mo, .inr (10, [.int x9, .ref mr, .int 1, .long s9])), (mr, .inr (9, [.ref ll, .ref lt, .ref lp, .int 0, .int 0, .int 0, .int 0, .int 0, .int 0, .int 0, .int (-1), .int 0, .int 0, .int 0])), (ll, .inr (1, [.int 2, .ref ola, .int 2])), (ola, .inl (cOl, 10, .inr (.inr (.inr (.inr fol))))), (la1, .inl (cA1, 10, .inl fa1))] [] [(cOl, .object "java/lang/Object"), (cA1, .int)])) (va_Qi (fun (r : Int32) (_ : Unit) => r = 0) (fun (_ : Unit) (_ : State) => True) (va_A [] sz)) 0 0 (va_A [] sz) := by
  refine Met.ofW (cc := cX8_ofLockNow) (maxL := 3) (ret := (some .int)) (by decide) rfl ?_
  intro p e s m args below meth c s₁ B hml hv
  obtain ⟨rfl, hsz, hR0, hP, hK, hD0, hN, hH, hX0⟩ := hv
  have hx := B.exec
  have hb := B.bytes
  have hr := B.returns
  have hts := atoms_spec (ws := wsX8_ofLockNow) B.pre
  have hown : s.vm.findClass RX8 = some m.cls := findClass_of_methodNamed B.named
  have hlocks := B.notSynchronized
  subst hsz
  have hD := hD0.self (sz := s.heap.size)
  have hAr := zx_A hX0 hR0
  generalize hAe : va_A [] s.heap.size = A at hD hAr hH ⊢
  have hA : ∀ q : Nat, s.heap.size ≤ q → A q := fun q h => by rw [← hAe]; exact Or.inr h
  have hS : va_S A s.heap s.heap [] := va_S.rf
  have hl := lv_entry ([.ref mo, .int 1, .int 0]) (n := 3) (Nat.le_of_ble_eq_true rfl)
  rw [lg_entry_eq]
  generalize (lg_sl ([.ref mo, .int 1, .int 0]) ++ List.replicate (3 - (lg_sl ([.ref mo, .int 1, .int 0])).length) Slot.unset).toArray = ls at hl ⊢
  have hl : lv_has ls 3 [(0, .ref mo), (1, .int 1), (2, .int 0)] := hl
  refine lv_iload_n hx hb dX8_ofLockNow_0 rfl (lv_at hl 2 rfl) ?_
  refine lv_bipush (v := 9) hx hb dX8_ofLockNow_1 (by decide) ?_
  refine lv_icmp_ge (tgt := 25) hx hb dX8_ofLockNow_3 (by decide) (fun h => absurd h (by decide)) (fun _ => ?_)
  refine lv_aload_n hx hb dX8_ofLockNow_6 rfl (lv_at hl 0 rfl) ?_
  refine va_get (D := (dC, dI)) (ci := 10) (v := .ref mr) (C := RX8) (T := TX8) (N := 4) hx hb hts zi_X8_ofLockNow_X8 hown hK hR0 0 rfl rfl 1 (by decide) (hts (.fieldLink RX8 10 "LockRoomsModel" "room" "LLockRoomsModel$Room;") (by decide +kernel)) (fun _ h9 => h9) rfl dX8_ofLockNow_7 ?_
  refine va_getN (D := (dC, dI)) (ci := 9) (v := .ref ll) (C := RX7) (T := TX7) (N := 14) hx hb hts zi_X8_ofLockNow_X7 hown hK hR0 1 rfl rfl 0 (by decide) (va_Nw.use rfl (hN.1 ("LockRoomsModel", 24, "LockRoomsModel$Room", "locks", "Ljava/util/ArrayList;", "LockRoomsModel") (List.mem_of_getElem? (i := 1) rfl))) (fun _ h9 => h9) rfl dX8_ofLockNow_10 ?_
  refine lv_iload_n hx hb dX8_ofLockNow_13 rfl (lv_at hl 1 rfl) ?_
  have hPr := (hR0).sub (ws' := [(ll, .inr (1, [.int 2, .ref ola, .int 2])), (ola, .inl (cOl, 10, .inr (.inr (.inr (.inr fol)))))]) [2, 3] rfl
  have hPc := hP.sub (ws' := []) [] rfl
  have hDc := hD.sub (ws' := []) [] (by decide) rfl
  have hKc := hK.sub (tys' := [(cOl, .object "java/lang/Object")]) [0] rfl
  have hFc := va_free (wc := []) hD hS hA [] rfl
  refine va_callr (va_runV (As := [.int 1]) (rest := []) ⟨hx, hb, hml, hown, hts⟩ (cz_Qget_1_2 l dC dI ed s.heap.size ll 2 ola cOl fol la1 hol1) (cwV 1 hts gX8_ofLockNow_Jx4a65c_get_915e3 rfl rfl rfl (by decide +kernel) ⟨Nat.le_of_ble_eq_true rfl, Nat.le_of_ble_eq_true rfl⟩) ⟨zb_blind, va_recv hK hR0 (ci := 1) (q0 := 2) rfl rfl, fun U hU hW => ⟨rfl, zb_mk hU hW hPr hPc hKc hDc hN hH hS hFc zx_e⟩⟩ rfl rfl hl.1 rfl (lv_room (Nat.le_of_ble_eq_true rfl)) dX8_ofLockNow_14 ⟨Nat.le_of_ble_eq_true rfl, Nat.le_of_ble_eq_true rfl⟩) hS (fun q _ h => hFc q h) hFc (fun u r2 t H1 locs ht hvm hw hB hz1 hk1 hS => ?_)
  obtain ⟨hq3_0, hP1, hD1, hK1⟩ := hB
  rw [ht] at hP1
  obtain ⟨hP, hD⟩ := va_join (wr := []) (w1 := []) hP hD [] [] rfl rfl (by decide) (by decide) hk1 hFc hP1 hD1
  have hP : va_P (dC, dI) vwCl [] H1 := hP
  have hD : va_D A [] := hD
  obtain rfl : la1 = r2 := hq3_0.symm
  refine va_castA (nm := "[I") hx hb hown (hts (.classLink RX8 88 "[I") (by decide +kernel)) (zo_R hR0 hS hAr) 4 rfl (show s.vm.findClass "[I" = some cA1 from (hK.2 1 _ rfl).2) dX8_ofLockNow_17 ?_
  refine lv_iload_n hx hb dX8_ofLockNow_20 rfl (lv_at hl 2 rfl) ?_
  refine va_iald hx hb hK (zo_R hR0 hS hAr) 4 1 rfl rfl (by unfold vp_in; decide) dX8_ofLockNow_21 ?_
  refine zo_i (v := 0) (by rw [show Int32.toNatClampNeg 0 = 0 from by decide]; exact ha1_0) ?_
  refine lv_goto (tgt := 41) hx hb dX8_ofLockNow_22 (by decide) ?_
  refine W.widen (k := 0) (n := 0) (Nat.le_of_ble_eq_true rfl) (Nat.le_of_ble_eq_true rfl) ?_
  exact W.iret hx hb hr (fun t ht hW => ⟨⟨0, (), rfl, rfl, trivial⟩, hS.F ht⟩) hS.2.2 dX8_ofLockNow_41
set_option maxHeartbeats 4000000 in
set_option maxRecDepth 100000 in
theorem cz_QofLockNow_1_1 (l : Launch) (dC : Nat → ClassId) (dI : Nat → Nat → Nat) (ed sz : Nat) (mo : Nat) (mr : Nat) (x9 : Int32) (s9 : Int64) (ll : Nat) (lt : Nat) (lp : Nat) (ola : Nat) (cOl : ClassId) (fol : Nat → Option Nat) (la1 : Nat) (cA1 : ClassId) (fa1 : Nat → Int32) (hol1 : fol 1 = some la1) (ha1_1 : fa1 1 = 0) : Met l yX8_ofLockNow wsX8_ofLockNow ({ frames := 3, cells := 0, slots := 0, locals := 64 } : Jvm.Room) (va_Pc [.ref mo, .int 1, .int 1] (zB dC dI ed sz [(mo, .inr (10, [.int x9, .ref mr, .int 1, .long s9])), (mr, .inr (9, [.ref ll, .ref lt, .ref lp, .int 0, .int 0, .int 0, .int 0, .int 0, .int 0, .int 0, .int (-1), .int 0, .int 0, .int 0])), (ll, .inr (1, [.int 2, .ref ola, .int 2])), (ola, .inl (cOl, 10, .inr (.inr (.inr (.inr fol))))), (la1, .inl (cA1, 10, .inl fa1))] [] [(cOl, .object "java/lang/Object"), (cA1, .int)])) (va_Qi (fun (r : Int32) (_ : Unit) => r = 0) (fun (_ : Unit) (_ : State) => True) (va_A [] sz)) 0 0 (va_A [] sz) := by
  refine Met.ofW (cc := cX8_ofLockNow) (maxL := 3) (ret := (some .int)) (by decide) rfl ?_
  intro p e s m args below meth c s₁ B hml hv
  obtain ⟨rfl, hsz, hR0, hP, hK, hD0, hN, hH, hX0⟩ := hv
  have hx := B.exec
  have hb := B.bytes
  have hr := B.returns
  have hts := atoms_spec (ws := wsX8_ofLockNow) B.pre
  have hown : s.vm.findClass RX8 = some m.cls := findClass_of_methodNamed B.named
  have hlocks := B.notSynchronized
  subst hsz
  have hD := hD0.self (sz := s.heap.size)
  have hAr := zx_A hX0 hR0
  generalize hAe : va_A [] s.heap.size = A at hD hAr hH ⊢
  have hA : ∀ q : Nat, s.heap.size ≤ q → A q := fun q h => by rw [← hAe]; exact Or.inr h
  have hS : va_S A s.heap s.heap [] := va_S.rf
  have hl := lv_entry ([.ref mo, .int 1, .int 1]) (n := 3) (Nat.le_of_ble_eq_true rfl)
  rw [lg_entry_eq]
  generalize (lg_sl ([.ref mo, .int 1, .int 1]) ++ List.replicate (3 - (lg_sl ([.ref mo, .int 1, .int 1])).length) Slot.unset).toArray = ls at hl ⊢
  have hl : lv_has ls 3 [(0, .ref mo), (1, .int 1), (2, .int 1)] := hl
  refine lv_iload_n hx hb dX8_ofLockNow_0 rfl (lv_at hl 2 rfl) ?_
  refine lv_bipush (v := 9) hx hb dX8_ofLockNow_1 (by decide) ?_
  refine lv_icmp_ge (tgt := 25) hx hb dX8_ofLockNow_3 (by decide) (fun h => absurd h (by decide)) (fun _ => ?_)
  refine lv_aload_n hx hb dX8_ofLockNow_6 rfl (lv_at hl 0 rfl) ?_
  refine va_get (D := (dC, dI)) (ci := 10) (v := .ref mr) (C := RX8) (T := TX8) (N := 4) hx hb hts zi_X8_ofLockNow_X8 hown hK hR0 0 rfl rfl 1 (by decide) (hts (.fieldLink RX8 10 "LockRoomsModel" "room" "LLockRoomsModel$Room;") (by decide +kernel)) (fun _ h9 => h9) rfl dX8_ofLockNow_7 ?_
  refine va_getN (D := (dC, dI)) (ci := 9) (v := .ref ll) (C := RX7) (T := TX7) (N := 14) hx hb hts zi_X8_ofLockNow_X7 hown hK hR0 1 rfl rfl 0 (by decide) (va_Nw.use rfl (hN.1 ("LockRoomsModel", 24, "LockRoomsModel$Room", "locks", "Ljava/util/ArrayList;", "LockRoomsModel") (List.mem_of_getElem? (i := 1) rfl))) (fun _ h9 => h9) rfl dX8_ofLockNow_10 ?_
  refine lv_iload_n hx hb dX8_ofLockNow_13 rfl (lv_at hl 1 rfl) ?_
  have hPr := (hR0).sub (ws' := [(ll, .inr (1, [.int 2, .ref ola, .int 2])), (ola, .inl (cOl, 10, .inr (.inr (.inr (.inr fol)))))]) [2, 3] rfl
  have hPc := hP.sub (ws' := []) [] rfl
  have hDc := hD.sub (ws' := []) [] (by decide) rfl
  have hKc := hK.sub (tys' := [(cOl, .object "java/lang/Object")]) [0] rfl
  have hFc := va_free (wc := []) hD hS hA [] rfl
  refine va_callr (va_runV (As := [.int 1]) (rest := []) ⟨hx, hb, hml, hown, hts⟩ (cz_Qget_1_2 l dC dI ed s.heap.size ll 2 ola cOl fol la1 hol1) (cwV 1 hts gX8_ofLockNow_Jx4a65c_get_915e3 rfl rfl rfl (by decide +kernel) ⟨Nat.le_of_ble_eq_true rfl, Nat.le_of_ble_eq_true rfl⟩) ⟨zb_blind, va_recv hK hR0 (ci := 1) (q0 := 2) rfl rfl, fun U hU hW => ⟨rfl, zb_mk hU hW hPr hPc hKc hDc hN hH hS hFc zx_e⟩⟩ rfl rfl hl.1 rfl (lv_room (Nat.le_of_ble_eq_true rfl)) dX8_ofLockNow_14 ⟨Nat.le_of_ble_eq_true rfl, Nat.le_of_ble_eq_true rfl⟩) hS (fun q _ h => hFc q h) hFc (fun u r2 t H1 locs ht hvm hw hB hz1 hk1 hS => ?_)
  obtain ⟨hq3_0, hP1, hD1, hK1⟩ := hB
  rw [ht] at hP1
  obtain ⟨hP, hD⟩ := va_join (wr := []) (w1 := []) hP hD [] [] rfl rfl (by decide) (by decide) hk1 hFc hP1 hD1
  have hP : va_P (dC, dI) vwCl [] H1 := hP
  have hD : va_D A [] := hD
  obtain rfl : la1 = r2 := hq3_0.symm
  refine va_castA (nm := "[I") hx hb hown (hts (.classLink RX8 88 "[I") (by decide +kernel)) (zo_R hR0 hS hAr) 4 rfl (show s.vm.findClass "[I" = some cA1 from (hK.2 1 _ rfl).2) dX8_ofLockNow_17 ?_
  refine lv_iload_n hx hb dX8_ofLockNow_20 rfl (lv_at hl 2 rfl) ?_
  refine va_iald hx hb hK (zo_R hR0 hS hAr) 4 1 rfl rfl (by unfold vp_in; decide) dX8_ofLockNow_21 ?_
  refine zo_i (v := 0) (by rw [show Int32.toNatClampNeg 1 = 1 from by decide]; exact ha1_1) ?_
  refine lv_goto (tgt := 41) hx hb dX8_ofLockNow_22 (by decide) ?_
  refine W.widen (k := 0) (n := 0) (Nat.le_of_ble_eq_true rfl) (Nat.le_of_ble_eq_true rfl) ?_
  exact W.iret hx hb hr (fun t ht hW => ⟨⟨0, (), rfl, rfl, trivial⟩, hS.F ht⟩) hS.2.2 dX8_ofLockNow_41
set_option maxHeartbeats 4000000 in
set_option maxRecDepth 100000 in
theorem cz_QofLockNow_1_2 (l : Launch) (dC : Nat → ClassId) (dI : Nat → Nat → Nat) (ed sz : Nat) (mo : Nat) (mr : Nat) (x9 : Int32) (s9 : Int64) (ll : Nat) (lt : Nat) (lp : Nat) (ola : Nat) (cOl : ClassId) (fol : Nat → Option Nat) (la1 : Nat) (cA1 : ClassId) (fa1 : Nat → Int32) (hol1 : fol 1 = some la1) (ha1_2 : fa1 2 = 60) : Met l yX8_ofLockNow wsX8_ofLockNow ({ frames := 3, cells := 0, slots := 0, locals := 64 } : Jvm.Room) (va_Pc [.ref mo, .int 1, .int 2] (zB dC dI ed sz [(mo, .inr (10, [.int x9, .ref mr, .int 1, .long s9])), (mr, .inr (9, [.ref ll, .ref lt, .ref lp, .int 0, .int 0, .int 0, .int 0, .int 0, .int 0, .int 0, .int (-1), .int 0, .int 0, .int 0])), (ll, .inr (1, [.int 2, .ref ola, .int 2])), (ola, .inl (cOl, 10, .inr (.inr (.inr (.inr fol))))), (la1, .inl (cA1, 10, .inl fa1))] [] [(cOl, .object "java/lang/Object"), (cA1, .int)])) (va_Qi (fun (r : Int32) (_ : Unit) => r = 60) (fun (_ : Unit) (_ : State) => True) (va_A [] sz)) 0 0 (va_A [] sz) := by
  refine Met.ofW (cc := cX8_ofLockNow) (maxL := 3) (ret := (some .int)) (by decide) rfl ?_
  intro p e s m args below meth c s₁ B hml hv
  obtain ⟨rfl, hsz, hR0, hP, hK, hD0, hN, hH, hX0⟩ := hv
  have hx := B.exec
  have hb := B.bytes
  have hr := B.returns
  have hts := atoms_spec (ws := wsX8_ofLockNow) B.pre
  have hown : s.vm.findClass RX8 = some m.cls := findClass_of_methodNamed B.named
  have hlocks := B.notSynchronized
  subst hsz
  have hD := hD0.self (sz := s.heap.size)
  have hAr := zx_A hX0 hR0
  generalize hAe : va_A [] s.heap.size = A at hD hAr hH ⊢
  have hA : ∀ q : Nat, s.heap.size ≤ q → A q := fun q h => by rw [← hAe]; exact Or.inr h
  have hS : va_S A s.heap s.heap [] := va_S.rf
  have hl := lv_entry ([.ref mo, .int 1, .int 2]) (n := 3) (Nat.le_of_ble_eq_true rfl)
  rw [lg_entry_eq]
  generalize (lg_sl ([.ref mo, .int 1, .int 2]) ++ List.replicate (3 - (lg_sl ([.ref mo, .int 1, .int 2])).length) Slot.unset).toArray = ls at hl ⊢
  have hl : lv_has ls 3 [(0, .ref mo), (1, .int 1), (2, .int 2)] := hl
  refine lv_iload_n hx hb dX8_ofLockNow_0 rfl (lv_at hl 2 rfl) ?_
  refine lv_bipush (v := 9) hx hb dX8_ofLockNow_1 (by decide) ?_
  refine lv_icmp_ge (tgt := 25) hx hb dX8_ofLockNow_3 (by decide) (fun h => absurd h (by decide)) (fun _ => ?_)
  refine lv_aload_n hx hb dX8_ofLockNow_6 rfl (lv_at hl 0 rfl) ?_
  refine va_get (D := (dC, dI)) (ci := 10) (v := .ref mr) (C := RX8) (T := TX8) (N := 4) hx hb hts zi_X8_ofLockNow_X8 hown hK hR0 0 rfl rfl 1 (by decide) (hts (.fieldLink RX8 10 "LockRoomsModel" "room" "LLockRoomsModel$Room;") (by decide +kernel)) (fun _ h9 => h9) rfl dX8_ofLockNow_7 ?_
  refine va_getN (D := (dC, dI)) (ci := 9) (v := .ref ll) (C := RX7) (T := TX7) (N := 14) hx hb hts zi_X8_ofLockNow_X7 hown hK hR0 1 rfl rfl 0 (by decide) (va_Nw.use rfl (hN.1 ("LockRoomsModel", 24, "LockRoomsModel$Room", "locks", "Ljava/util/ArrayList;", "LockRoomsModel") (List.mem_of_getElem? (i := 1) rfl))) (fun _ h9 => h9) rfl dX8_ofLockNow_10 ?_
  refine lv_iload_n hx hb dX8_ofLockNow_13 rfl (lv_at hl 1 rfl) ?_
  have hPr := (hR0).sub (ws' := [(ll, .inr (1, [.int 2, .ref ola, .int 2])), (ola, .inl (cOl, 10, .inr (.inr (.inr (.inr fol)))))]) [2, 3] rfl
  have hPc := hP.sub (ws' := []) [] rfl
  have hDc := hD.sub (ws' := []) [] (by decide) rfl
  have hKc := hK.sub (tys' := [(cOl, .object "java/lang/Object")]) [0] rfl
  have hFc := va_free (wc := []) hD hS hA [] rfl
  refine va_callr (va_runV (As := [.int 1]) (rest := []) ⟨hx, hb, hml, hown, hts⟩ (cz_Qget_1_2 l dC dI ed s.heap.size ll 2 ola cOl fol la1 hol1) (cwV 1 hts gX8_ofLockNow_Jx4a65c_get_915e3 rfl rfl rfl (by decide +kernel) ⟨Nat.le_of_ble_eq_true rfl, Nat.le_of_ble_eq_true rfl⟩) ⟨zb_blind, va_recv hK hR0 (ci := 1) (q0 := 2) rfl rfl, fun U hU hW => ⟨rfl, zb_mk hU hW hPr hPc hKc hDc hN hH hS hFc zx_e⟩⟩ rfl rfl hl.1 rfl (lv_room (Nat.le_of_ble_eq_true rfl)) dX8_ofLockNow_14 ⟨Nat.le_of_ble_eq_true rfl, Nat.le_of_ble_eq_true rfl⟩) hS (fun q _ h => hFc q h) hFc (fun u r2 t H1 locs ht hvm hw hB hz1 hk1 hS => ?_)
  obtain ⟨hq3_0, hP1, hD1, hK1⟩ := hB
  rw [ht] at hP1
  obtain ⟨hP, hD⟩ := va_join (wr := []) (w1 := []) hP hD [] [] rfl rfl (by decide) (by decide) hk1 hFc hP1 hD1
  have hP : va_P (dC, dI) vwCl [] H1 := hP
  have hD : va_D A [] := hD
  obtain rfl : la1 = r2 := hq3_0.symm
  refine va_castA (nm := "[I") hx hb hown (hts (.classLink RX8 88 "[I") (by decide +kernel)) (zo_R hR0 hS hAr) 4 rfl (show s.vm.findClass "[I" = some cA1 from (hK.2 1 _ rfl).2) dX8_ofLockNow_17 ?_
  refine lv_iload_n hx hb dX8_ofLockNow_20 rfl (lv_at hl 2 rfl) ?_
  refine va_iald hx hb hK (zo_R hR0 hS hAr) 4 1 rfl rfl (by unfold vp_in; decide) dX8_ofLockNow_21 ?_
  refine zo_i (v := 60) (by rw [show Int32.toNatClampNeg 2 = 2 from by decide]; exact ha1_2) ?_
  refine lv_goto (tgt := 41) hx hb dX8_ofLockNow_22 (by decide) ?_
  refine W.widen (k := 0) (n := 0) (Nat.le_of_ble_eq_true rfl) (Nat.le_of_ble_eq_true rfl) ?_
  exact W.iret hx hb hr (fun t ht hW => ⟨⟨60, (), rfl, rfl, trivial⟩, hS.F ht⟩) hS.2.2 dX8_ofLockNow_41
set_option maxHeartbeats 4000000 in
set_option maxRecDepth 100000 in
theorem cz_QofLockNow_1_3 (l : Launch) (dC : Nat → ClassId) (dI : Nat → Nat → Nat) (ed sz : Nat) (mo : Nat) (mr : Nat) (x9 : Int32) (s9 : Int64) (ll : Nat) (lt : Nat) (lp : Nat) (ola : Nat) (cOl : ClassId) (fol : Nat → Option Nat) (la1 : Nat) (cA1 : ClassId) (fa1 : Nat → Int32) (hol1 : fol 1 = some la1) (ha1_3 : fa1 3 = 0) : Met l yX8_ofLockNow wsX8_ofLockNow ({ frames := 3, cells := 0, slots := 0, locals := 64 } : Jvm.Room) (va_Pc [.ref mo, .int 1, .int 3] (zB dC dI ed sz [(mo, .inr (10, [.int x9, .ref mr, .int 1, .long s9])), (mr, .inr (9, [.ref ll, .ref lt, .ref lp, .int 0, .int 0, .int 0, .int 0, .int 0, .int 0, .int 0, .int (-1), .int 0, .int 0, .int 0])), (ll, .inr (1, [.int 2, .ref ola, .int 2])), (ola, .inl (cOl, 10, .inr (.inr (.inr (.inr fol))))), (la1, .inl (cA1, 10, .inl fa1))] [] [(cOl, .object "java/lang/Object"), (cA1, .int)])) (va_Qi (fun (r : Int32) (_ : Unit) => r = 0) (fun (_ : Unit) (_ : State) => True) (va_A [] sz)) 0 0 (va_A [] sz) := by
  refine Met.ofW (cc := cX8_ofLockNow) (maxL := 3) (ret := (some .int)) (by decide) rfl ?_
  intro p e s m args below meth c s₁ B hml hv
  obtain ⟨rfl, hsz, hR0, hP, hK, hD0, hN, hH, hX0⟩ := hv
  have hx := B.exec
  have hb := B.bytes
  have hr := B.returns
  have hts := atoms_spec (ws := wsX8_ofLockNow) B.pre
  have hown : s.vm.findClass RX8 = some m.cls := findClass_of_methodNamed B.named
  have hlocks := B.notSynchronized
  subst hsz
  have hD := hD0.self (sz := s.heap.size)
  have hAr := zx_A hX0 hR0
  generalize hAe : va_A [] s.heap.size = A at hD hAr hH ⊢
  have hA : ∀ q : Nat, s.heap.size ≤ q → A q := fun q h => by rw [← hAe]; exact Or.inr h
  have hS : va_S A s.heap s.heap [] := va_S.rf
  have hl := lv_entry ([.ref mo, .int 1, .int 3]) (n := 3) (Nat.le_of_ble_eq_true rfl)
  rw [lg_entry_eq]
  generalize (lg_sl ([.ref mo, .int 1, .int 3]) ++ List.replicate (3 - (lg_sl ([.ref mo, .int 1, .int 3])).length) Slot.unset).toArray = ls at hl ⊢
  have hl : lv_has ls 3 [(0, .ref mo), (1, .int 1), (2, .int 3)] := hl
  refine lv_iload_n hx hb dX8_ofLockNow_0 rfl (lv_at hl 2 rfl) ?_
  refine lv_bipush (v := 9) hx hb dX8_ofLockNow_1 (by decide) ?_
  refine lv_icmp_ge (tgt := 25) hx hb dX8_ofLockNow_3 (by decide) (fun h => absurd h (by decide)) (fun _ => ?_)
  refine lv_aload_n hx hb dX8_ofLockNow_6 rfl (lv_at hl 0 rfl) ?_
  refine va_get (D := (dC, dI)) (ci := 10) (v := .ref mr) (C := RX8) (T := TX8) (N := 4) hx hb hts zi_X8_ofLockNow_X8 hown hK hR0 0 rfl rfl 1 (by decide) (hts (.fieldLink RX8 10 "LockRoomsModel" "room" "LLockRoomsModel$Room;") (by decide +kernel)) (fun _ h9 => h9) rfl dX8_ofLockNow_7 ?_
  refine va_getN (D := (dC, dI)) (ci := 9) (v := .ref ll) (C := RX7) (T := TX7) (N := 14) hx hb hts zi_X8_ofLockNow_X7 hown hK hR0 1 rfl rfl 0 (by decide) (va_Nw.use rfl (hN.1 ("LockRoomsModel", 24, "LockRoomsModel$Room", "locks", "Ljava/util/ArrayList;", "LockRoomsModel") (List.mem_of_getElem? (i := 1) rfl))) (fun _ h9 => h9) rfl dX8_ofLockNow_10 ?_
  refine lv_iload_n hx hb dX8_ofLockNow_13 rfl (lv_at hl 1 rfl) ?_
  have hPr := (hR0).sub (ws' := [(ll, .inr (1, [.int 2, .ref ola, .int 2])), (ola, .inl (cOl, 10, .inr (.inr (.inr (.inr fol)))))]) [2, 3] rfl
  have hPc := hP.sub (ws' := []) [] rfl
  have hDc := hD.sub (ws' := []) [] (by decide) rfl
  have hKc := hK.sub (tys' := [(cOl, .object "java/lang/Object")]) [0] rfl
  have hFc := va_free (wc := []) hD hS hA [] rfl
  refine va_callr (va_runV (As := [.int 1]) (rest := []) ⟨hx, hb, hml, hown, hts⟩ (cz_Qget_1_2 l dC dI ed s.heap.size ll 2 ola cOl fol la1 hol1) (cwV 1 hts gX8_ofLockNow_Jx4a65c_get_915e3 rfl rfl rfl (by decide +kernel) ⟨Nat.le_of_ble_eq_true rfl, Nat.le_of_ble_eq_true rfl⟩) ⟨zb_blind, va_recv hK hR0 (ci := 1) (q0 := 2) rfl rfl, fun U hU hW => ⟨rfl, zb_mk hU hW hPr hPc hKc hDc hN hH hS hFc zx_e⟩⟩ rfl rfl hl.1 rfl (lv_room (Nat.le_of_ble_eq_true rfl)) dX8_ofLockNow_14 ⟨Nat.le_of_ble_eq_true rfl, Nat.le_of_ble_eq_true rfl⟩) hS (fun q _ h => hFc q h) hFc (fun u r2 t H1 locs ht hvm hw hB hz1 hk1 hS => ?_)
  obtain ⟨hq3_0, hP1, hD1, hK1⟩ := hB
  rw [ht] at hP1
  obtain ⟨hP, hD⟩ := va_join (wr := []) (w1 := []) hP hD [] [] rfl rfl (by decide) (by decide) hk1 hFc hP1 hD1
  have hP : va_P (dC, dI) vwCl [] H1 := hP
  have hD : va_D A [] := hD
  obtain rfl : la1 = r2 := hq3_0.symm
  refine va_castA (nm := "[I") hx hb hown (hts (.classLink RX8 88 "[I") (by decide +kernel)) (zo_R hR0 hS hAr) 4 rfl (show s.vm.findClass "[I" = some cA1 from (hK.2 1 _ rfl).2) dX8_ofLockNow_17 ?_
  refine lv_iload_n hx hb dX8_ofLockNow_20 rfl (lv_at hl 2 rfl) ?_
  refine va_iald hx hb hK (zo_R hR0 hS hAr) 4 1 rfl rfl (by unfold vp_in; decide) dX8_ofLockNow_21 ?_
  refine zo_i (v := 0) (by rw [show Int32.toNatClampNeg 3 = 3 from by decide]; exact ha1_3) ?_
  refine lv_goto (tgt := 41) hx hb dX8_ofLockNow_22 (by decide) ?_
  refine W.widen (k := 0) (n := 0) (Nat.le_of_ble_eq_true rfl) (Nat.le_of_ble_eq_true rfl) ?_
  exact W.iret hx hb hr (fun t ht hW => ⟨⟨0, (), rfl, rfl, trivial⟩, hS.F ht⟩) hS.2.2 dX8_ofLockNow_41
set_option maxHeartbeats 4000000 in
set_option maxRecDepth 100000 in
theorem cz_QofLockNow_1_4 (l : Launch) (dC : Nat → ClassId) (dI : Nat → Nat → Nat) (ed sz : Nat) (mo : Nat) (mr : Nat) (x9 : Int32) (s9 : Int64) (ll : Nat) (lt : Nat) (lp : Nat) (ola : Nat) (cOl : ClassId) (fol : Nat → Option Nat) (la1 : Nat) (cA1 : ClassId) (fa1 : Nat → Int32) (hol1 : fol 1 = some la1) (ha1_4 : fa1 4 = 0) : Met l yX8_ofLockNow wsX8_ofLockNow ({ frames := 3, cells := 0, slots := 0, locals := 64 } : Jvm.Room) (va_Pc [.ref mo, .int 1, .int 4] (zB dC dI ed sz [(mo, .inr (10, [.int x9, .ref mr, .int 1, .long s9])), (mr, .inr (9, [.ref ll, .ref lt, .ref lp, .int 0, .int 0, .int 0, .int 0, .int 0, .int 0, .int 0, .int (-1), .int 0, .int 0, .int 0])), (ll, .inr (1, [.int 2, .ref ola, .int 2])), (ola, .inl (cOl, 10, .inr (.inr (.inr (.inr fol))))), (la1, .inl (cA1, 10, .inl fa1))] [] [(cOl, .object "java/lang/Object"), (cA1, .int)])) (va_Qi (fun (r : Int32) (_ : Unit) => r = 0) (fun (_ : Unit) (_ : State) => True) (va_A [] sz)) 0 0 (va_A [] sz) := by
  refine Met.ofW (cc := cX8_ofLockNow) (maxL := 3) (ret := (some .int)) (by decide) rfl ?_
  intro p e s m args below meth c s₁ B hml hv
  obtain ⟨rfl, hsz, hR0, hP, hK, hD0, hN, hH, hX0⟩ := hv
  have hx := B.exec
  have hb := B.bytes
  have hr := B.returns
  have hts := atoms_spec (ws := wsX8_ofLockNow) B.pre
  have hown : s.vm.findClass RX8 = some m.cls := findClass_of_methodNamed B.named
  have hlocks := B.notSynchronized
  subst hsz
  have hD := hD0.self (sz := s.heap.size)
  have hAr := zx_A hX0 hR0
  generalize hAe : va_A [] s.heap.size = A at hD hAr hH ⊢
  have hA : ∀ q : Nat, s.heap.size ≤ q → A q := fun q h => by rw [← hAe]; exact Or.inr h
  have hS : va_S A s.heap s.heap [] := va_S.rf
  have hl := lv_entry ([.ref mo, .int 1, .int 4]) (n := 3) (Nat.le_of_ble_eq_true rfl)
  rw [lg_entry_eq]
  generalize (lg_sl ([.ref mo, .int 1, .int 4]) ++ List.replicate (3 - (lg_sl ([.ref mo, .int 1, .int 4])).length) Slot.unset).toArray = ls at hl ⊢
  have hl : lv_has ls 3 [(0, .ref mo), (1, .int 1), (2, .int 4)] := hl
  refine lv_iload_n hx hb dX8_ofLockNow_0 rfl (lv_at hl 2 rfl) ?_
  refine lv_bipush (v := 9) hx hb dX8_ofLockNow_1 (by decide) ?_
  refine lv_icmp_ge (tgt := 25) hx hb dX8_ofLockNow_3 (by decide) (fun h => absurd h (by decide)) (fun _ => ?_)
  refine lv_aload_n hx hb dX8_ofLockNow_6 rfl (lv_at hl 0 rfl) ?_
  refine va_get (D := (dC, dI)) (ci := 10) (v := .ref mr) (C := RX8) (T := TX8) (N := 4) hx hb hts zi_X8_ofLockNow_X8 hown hK hR0 0 rfl rfl 1 (by decide) (hts (.fieldLink RX8 10 "LockRoomsModel" "room" "LLockRoomsModel$Room;") (by decide +kernel)) (fun _ h9 => h9) rfl dX8_ofLockNow_7 ?_
  refine va_getN (D := (dC, dI)) (ci := 9) (v := .ref ll) (C := RX7) (T := TX7) (N := 14) hx hb hts zi_X8_ofLockNow_X7 hown hK hR0 1 rfl rfl 0 (by decide) (va_Nw.use rfl (hN.1 ("LockRoomsModel", 24, "LockRoomsModel$Room", "locks", "Ljava/util/ArrayList;", "LockRoomsModel") (List.mem_of_getElem? (i := 1) rfl))) (fun _ h9 => h9) rfl dX8_ofLockNow_10 ?_
  refine lv_iload_n hx hb dX8_ofLockNow_13 rfl (lv_at hl 1 rfl) ?_
  have hPr := (hR0).sub (ws' := [(ll, .inr (1, [.int 2, .ref ola, .int 2])), (ola, .inl (cOl, 10, .inr (.inr (.inr (.inr fol)))))]) [2, 3] rfl
  have hPc := hP.sub (ws' := []) [] rfl
  have hDc := hD.sub (ws' := []) [] (by decide) rfl
  have hKc := hK.sub (tys' := [(cOl, .object "java/lang/Object")]) [0] rfl
  have hFc := va_free (wc := []) hD hS hA [] rfl
  refine va_callr (va_runV (As := [.int 1]) (rest := []) ⟨hx, hb, hml, hown, hts⟩ (cz_Qget_1_2 l dC dI ed s.heap.size ll 2 ola cOl fol la1 hol1) (cwV 1 hts gX8_ofLockNow_Jx4a65c_get_915e3 rfl rfl rfl (by decide +kernel) ⟨Nat.le_of_ble_eq_true rfl, Nat.le_of_ble_eq_true rfl⟩) ⟨zb_blind, va_recv hK hR0 (ci := 1) (q0 := 2) rfl rfl, fun U hU hW => ⟨rfl, zb_mk hU hW hPr hPc hKc hDc hN hH hS hFc zx_e⟩⟩ rfl rfl hl.1 rfl (lv_room (Nat.le_of_ble_eq_true rfl)) dX8_ofLockNow_14 ⟨Nat.le_of_ble_eq_true rfl, Nat.le_of_ble_eq_true rfl⟩) hS (fun q _ h => hFc q h) hFc (fun u r2 t H1 locs ht hvm hw hB hz1 hk1 hS => ?_)
  obtain ⟨hq3_0, hP1, hD1, hK1⟩ := hB
  rw [ht] at hP1
  obtain ⟨hP, hD⟩ := va_join (wr := []) (w1 := []) hP hD [] [] rfl rfl (by decide) (by decide) hk1 hFc hP1 hD1
  have hP : va_P (dC, dI) vwCl [] H1 := hP
  have hD : va_D A [] := hD
  obtain rfl : la1 = r2 := hq3_0.symm
  refine va_castA (nm := "[I") hx hb hown (hts (.classLink RX8 88 "[I") (by decide +kernel)) (zo_R hR0 hS hAr) 4 rfl (show s.vm.findClass "[I" = some cA1 from (hK.2 1 _ rfl).2) dX8_ofLockNow_17 ?_
  refine lv_iload_n hx hb dX8_ofLockNow_20 rfl (lv_at hl 2 rfl) ?_
  refine va_iald hx hb hK (zo_R hR0 hS hAr) 4 1 rfl rfl (by unfold vp_in; decide) dX8_ofLockNow_21 ?_
  refine zo_i (v := 0) (by rw [show Int32.toNatClampNeg 4 = 4 from by decide]; exact ha1_4) ?_
  refine lv_goto (tgt := 41) hx hb dX8_ofLockNow_22 (by decide) ?_
  refine W.widen (k := 0) (n := 0) (Nat.le_of_ble_eq_true rfl) (Nat.le_of_ble_eq_true rfl) ?_
  exact W.iret hx hb hr (fun t ht hW => ⟨⟨0, (), rfl, rfl, trivial⟩, hS.F ht⟩) hS.2.2 dX8_ofLockNow_41
set_option maxHeartbeats 4000000 in
set_option maxRecDepth 100000 in
theorem cz_QofLockNow_1_5 (l : Launch) (dC : Nat → ClassId) (dI : Nat → Nat → Nat) (ed sz : Nat) (mo : Nat) (mr : Nat) (x9 : Int32) (s9 : Int64) (ll : Nat) (lt : Nat) (lp : Nat) (ola : Nat) (cOl : ClassId) (fol : Nat → Option Nat) (la1 : Nat) (cA1 : ClassId) (fa1 : Nat → Int32) (hol1 : fol 1 = some la1) (ha1_5 : fa1 5 = 0) : Met l yX8_ofLockNow wsX8_ofLockNow ({ frames := 3, cells := 0, slots := 0, locals := 64 } : Jvm.Room) (va_Pc [.ref mo, .int 1, .int 5] (zB dC dI ed sz [(mo, .inr (10, [.int x9, .ref mr, .int 1, .long s9])), (mr, .inr (9, [.ref ll, .ref lt, .ref lp, .int 0, .int 0, .int 0, .int 0, .int 0, .int 0, .int 0, .int (-1), .int 0, .int 0, .int 0])), (ll, .inr (1, [.int 2, .ref ola, .int 2])), (ola, .inl (cOl, 10, .inr (.inr (.inr (.inr fol))))), (la1, .inl (cA1, 10, .inl fa1))] [] [(cOl, .object "java/lang/Object"), (cA1, .int)])) (va_Qi (fun (r : Int32) (_ : Unit) => r = 0) (fun (_ : Unit) (_ : State) => True) (va_A [] sz)) 0 0 (va_A [] sz) := by
  refine Met.ofW (cc := cX8_ofLockNow) (maxL := 3) (ret := (some .int)) (by decide) rfl ?_
  intro p e s m args below meth c s₁ B hml hv
  obtain ⟨rfl, hsz, hR0, hP, hK, hD0, hN, hH, hX0⟩ := hv
  have hx := B.exec
  have hb := B.bytes
  have hr := B.returns
  have hts := atoms_spec (ws := wsX8_ofLockNow) B.pre
  have hown : s.vm.findClass RX8 = some m.cls := findClass_of_methodNamed B.named
  have hlocks := B.notSynchronized
  subst hsz
  have hD := hD0.self (sz := s.heap.size)
  have hAr := zx_A hX0 hR0
  generalize hAe : va_A [] s.heap.size = A at hD hAr hH ⊢
  have hA : ∀ q : Nat, s.heap.size ≤ q → A q := fun q h => by rw [← hAe]; exact Or.inr h
  have hS : va_S A s.heap s.heap [] := va_S.rf
  have hl := lv_entry ([.ref mo, .int 1, .int 5]) (n := 3) (Nat.le_of_ble_eq_true rfl)
  rw [lg_entry_eq]
  generalize (lg_sl ([.ref mo, .int 1, .int 5]) ++ List.replicate (3 - (lg_sl ([.ref mo, .int 1, .int 5])).length) Slot.unset).toArray = ls at hl ⊢
  have hl : lv_has ls 3 [(0, .ref mo), (1, .int 1), (2, .int 5)] := hl
  refine lv_iload_n hx hb dX8_ofLockNow_0 rfl (lv_at hl 2 rfl) ?_
  refine lv_bipush (v := 9) hx hb dX8_ofLockNow_1 (by decide) ?_
  refine lv_icmp_ge (tgt := 25) hx hb dX8_ofLockNow_3 (by decide) (fun h => absurd h (by decide)) (fun _ => ?_)
  refine lv_aload_n hx hb dX8_ofLockNow_6 rfl (lv_at hl 0 rfl) ?_
  refine va_get (D := (dC, dI)) (ci := 10) (v := .ref mr) (C := RX8) (T := TX8) (N := 4) hx hb hts zi_X8_ofLockNow_X8 hown hK hR0 0 rfl rfl 1 (by decide) (hts (.fieldLink RX8 10 "LockRoomsModel" "room" "LLockRoomsModel$Room;") (by decide +kernel)) (fun _ h9 => h9) rfl dX8_ofLockNow_7 ?_
  refine va_getN (D := (dC, dI)) (ci := 9) (v := .ref ll) (C := RX7) (T := TX7) (N := 14) hx hb hts zi_X8_ofLockNow_X7 hown hK hR0 1 rfl rfl 0 (by decide) (va_Nw.use rfl (hN.1 ("LockRoomsModel", 24, "LockRoomsModel$Room", "locks", "Ljava/util/ArrayList;", "LockRoomsModel") (List.mem_of_getElem? (i := 1) rfl))) (fun _ h9 => h9) rfl dX8_ofLockNow_10 ?_
  refine lv_iload_n hx hb dX8_ofLockNow_13 rfl (lv_at hl 1 rfl) ?_
  have hPr := (hR0).sub (ws' := [(ll, .inr (1, [.int 2, .ref ola, .int 2])), (ola, .inl (cOl, 10, .inr (.inr (.inr (.inr fol)))))]) [2, 3] rfl
  have hPc := hP.sub (ws' := []) [] rfl
  have hDc := hD.sub (ws' := []) [] (by decide) rfl
  have hKc := hK.sub (tys' := [(cOl, .object "java/lang/Object")]) [0] rfl
  have hFc := va_free (wc := []) hD hS hA [] rfl
  refine va_callr (va_runV (As := [.int 1]) (rest := []) ⟨hx, hb, hml, hown, hts⟩ (cz_Qget_1_2 l dC dI ed s.heap.size ll 2 ola cOl fol la1 hol1) (cwV 1 hts gX8_ofLockNow_Jx4a65c_get_915e3 rfl rfl rfl (by decide +kernel) ⟨Nat.le_of_ble_eq_true rfl, Nat.le_of_ble_eq_true rfl⟩) ⟨zb_blind, va_recv hK hR0 (ci := 1) (q0 := 2) rfl rfl, fun U hU hW => ⟨rfl, zb_mk hU hW hPr hPc hKc hDc hN hH hS hFc zx_e⟩⟩ rfl rfl hl.1 rfl (lv_room (Nat.le_of_ble_eq_true rfl)) dX8_ofLockNow_14 ⟨Nat.le_of_ble_eq_true rfl, Nat.le_of_ble_eq_true rfl⟩) hS (fun q _ h => hFc q h) hFc (fun u r2 t H1 locs ht hvm hw hB hz1 hk1 hS => ?_)
  obtain ⟨hq3_0, hP1, hD1, hK1⟩ := hB
  rw [ht] at hP1
  obtain ⟨hP, hD⟩ := va_join (wr := []) (w1 := []) hP hD [] [] rfl rfl (by decide) (by decide) hk1 hFc hP1 hD1
  have hP : va_P (dC, dI) vwCl [] H1 := hP
  have hD : va_D A [] := hD
  obtain rfl : la1 = r2 := hq3_0.symm
  refine va_castA (nm := "[I") hx hb hown (hts (.classLink RX8 88 "[I") (by decide +kernel)) (zo_R hR0 hS hAr) 4 rfl (show s.vm.findClass "[I" = some cA1 from (hK.2 1 _ rfl).2) dX8_ofLockNow_17 ?_
  refine lv_iload_n hx hb dX8_ofLockNow_20 rfl (lv_at hl 2 rfl) ?_
  refine va_iald hx hb hK (zo_R hR0 hS hAr) 4 1 rfl rfl (by unfold vp_in; decide) dX8_ofLockNow_21 ?_
  refine zo_i (v := 0) (by rw [show Int32.toNatClampNeg 5 = 5 from by decide]; exact ha1_5) ?_
  refine lv_goto (tgt := 41) hx hb dX8_ofLockNow_22 (by decide) ?_
  refine W.widen (k := 0) (n := 0) (Nat.le_of_ble_eq_true rfl) (Nat.le_of_ble_eq_true rfl) ?_
  exact W.iret hx hb hr (fun t ht hW => ⟨⟨0, (), rfl, rfl, trivial⟩, hS.F ht⟩) hS.2.2 dX8_ofLockNow_41
set_option maxHeartbeats 4000000 in
set_option maxRecDepth 100000 in
theorem cz_QofLockNow_1_6 (l : Launch) (dC : Nat → ClassId) (dI : Nat → Nat → Nat) (ed sz : Nat) (mo : Nat) (mr : Nat) (x9 : Int32) (s9 : Int64) (ll : Nat) (lt : Nat) (lp : Nat) (ola : Nat) (cOl : ClassId) (fol : Nat → Option Nat) (la1 : Nat) (cA1 : ClassId) (fa1 : Nat → Int32) (hol1 : fol 1 = some la1) (ha1_6 : fa1 6 = 0) : Met l yX8_ofLockNow wsX8_ofLockNow ({ frames := 3, cells := 0, slots := 0, locals := 64 } : Jvm.Room) (va_Pc [.ref mo, .int 1, .int 6] (zB dC dI ed sz [(mo, .inr (10, [.int x9, .ref mr, .int 1, .long s9])), (mr, .inr (9, [.ref ll, .ref lt, .ref lp, .int 0, .int 0, .int 0, .int 0, .int 0, .int 0, .int 0, .int (-1), .int 0, .int 0, .int 0])), (ll, .inr (1, [.int 2, .ref ola, .int 2])), (ola, .inl (cOl, 10, .inr (.inr (.inr (.inr fol))))), (la1, .inl (cA1, 10, .inl fa1))] [] [(cOl, .object "java/lang/Object"), (cA1, .int)])) (va_Qi (fun (r : Int32) (_ : Unit) => r = 0) (fun (_ : Unit) (_ : State) => True) (va_A [] sz)) 0 0 (va_A [] sz) := by
  refine Met.ofW (cc := cX8_ofLockNow) (maxL := 3) (ret := (some .int)) (by decide) rfl ?_
  intro p e s m args below meth c s₁ B hml hv
  obtain ⟨rfl, hsz, hR0, hP, hK, hD0, hN, hH, hX0⟩ := hv
  have hx := B.exec
  have hb := B.bytes
  have hr := B.returns
  have hts := atoms_spec (ws := wsX8_ofLockNow) B.pre
  have hown : s.vm.findClass RX8 = some m.cls := findClass_of_methodNamed B.named
  have hlocks := B.notSynchronized
  subst hsz
  have hD := hD0.self (sz := s.heap.size)
  have hAr := zx_A hX0 hR0
  generalize hAe : va_A [] s.heap.size = A at hD hAr hH ⊢
  have hA : ∀ q : Nat, s.heap.size ≤ q → A q := fun q h => by rw [← hAe]; exact Or.inr h
  have hS : va_S A s.heap s.heap [] := va_S.rf
  have hl := lv_entry ([.ref mo, .int 1, .int 6]) (n := 3) (Nat.le_of_ble_eq_true rfl)
  rw [lg_entry_eq]
  generalize (lg_sl ([.ref mo, .int 1, .int 6]) ++ List.replicate (3 - (lg_sl ([.ref mo, .int 1, .int 6])).length) Slot.unset).toArray = ls at hl ⊢
  have hl : lv_has ls 3 [(0, .ref mo), (1, .int 1), (2, .int 6)] := hl
  refine lv_iload_n hx hb dX8_ofLockNow_0 rfl (lv_at hl 2 rfl) ?_
  refine lv_bipush (v := 9) hx hb dX8_ofLockNow_1 (by decide) ?_
  refine lv_icmp_ge (tgt := 25) hx hb dX8_ofLockNow_3 (by decide) (fun h => absurd h (by decide)) (fun _ => ?_)
  refine lv_aload_n hx hb dX8_ofLockNow_6 rfl (lv_at hl 0 rfl) ?_
  refine va_get (D := (dC, dI)) (ci := 10) (v := .ref mr) (C := RX8) (T := TX8) (N := 4) hx hb hts zi_X8_ofLockNow_X8 hown hK hR0 0 rfl rfl 1 (by decide) (hts (.fieldLink RX8 10 "LockRoomsModel" "room" "LLockRoomsModel$Room;") (by decide +kernel)) (fun _ h9 => h9) rfl dX8_ofLockNow_7 ?_
  refine va_getN (D := (dC, dI)) (ci := 9) (v := .ref ll) (C := RX7) (T := TX7) (N := 14) hx hb hts zi_X8_ofLockNow_X7 hown hK hR0 1 rfl rfl 0 (by decide) (va_Nw.use rfl (hN.1 ("LockRoomsModel", 24, "LockRoomsModel$Room", "locks", "Ljava/util/ArrayList;", "LockRoomsModel") (List.mem_of_getElem? (i := 1) rfl))) (fun _ h9 => h9) rfl dX8_ofLockNow_10 ?_
  refine lv_iload_n hx hb dX8_ofLockNow_13 rfl (lv_at hl 1 rfl) ?_
  have hPr := (hR0).sub (ws' := [(ll, .inr (1, [.int 2, .ref ola, .int 2])), (ola, .inl (cOl, 10, .inr (.inr (.inr (.inr fol)))))]) [2, 3] rfl
  have hPc := hP.sub (ws' := []) [] rfl
  have hDc := hD.sub (ws' := []) [] (by decide) rfl
  have hKc := hK.sub (tys' := [(cOl, .object "java/lang/Object")]) [0] rfl
  have hFc := va_free (wc := []) hD hS hA [] rfl
  refine va_callr (va_runV (As := [.int 1]) (rest := []) ⟨hx, hb, hml, hown, hts⟩ (cz_Qget_1_2 l dC dI ed s.heap.size ll 2 ola cOl fol la1 hol1) (cwV 1 hts gX8_ofLockNow_Jx4a65c_get_915e3 rfl rfl rfl (by decide +kernel) ⟨Nat.le_of_ble_eq_true rfl, Nat.le_of_ble_eq_true rfl⟩) ⟨zb_blind, va_recv hK hR0 (ci := 1) (q0 := 2) rfl rfl, fun U hU hW => ⟨rfl, zb_mk hU hW hPr hPc hKc hDc hN hH hS hFc zx_e⟩⟩ rfl rfl hl.1 rfl (lv_room (Nat.le_of_ble_eq_true rfl)) dX8_ofLockNow_14 ⟨Nat.le_of_ble_eq_true rfl, Nat.le_of_ble_eq_true rfl⟩) hS (fun q _ h => hFc q h) hFc (fun u r2 t H1 locs ht hvm hw hB hz1 hk1 hS => ?_)
  obtain ⟨hq3_0, hP1, hD1, hK1⟩ := hB
  rw [ht] at hP1
  obtain ⟨hP, hD⟩ := va_join (wr := []) (w1 := []) hP hD [] [] rfl rfl (by decide) (by decide) hk1 hFc hP1 hD1
  have hP : va_P (dC, dI) vwCl [] H1 := hP
  have hD : va_D A [] := hD
  obtain rfl : la1 = r2 := hq3_0.symm
  refine va_castA (nm := "[I") hx hb hown (hts (.classLink RX8 88 "[I") (by decide +kernel)) (zo_R hR0 hS hAr) 4 rfl (show s.vm.findClass "[I" = some cA1 from (hK.2 1 _ rfl).2) dX8_ofLockNow_17 ?_
  refine lv_iload_n hx hb dX8_ofLockNow_20 rfl (lv_at hl 2 rfl) ?_
  refine va_iald hx hb hK (zo_R hR0 hS hAr) 4 1 rfl rfl (by unfold vp_in; decide) dX8_ofLockNow_21 ?_
  refine zo_i (v := 0) (by rw [show Int32.toNatClampNeg 6 = 6 from by decide]; exact ha1_6) ?_
  refine lv_goto (tgt := 41) hx hb dX8_ofLockNow_22 (by decide) ?_
  refine W.widen (k := 0) (n := 0) (Nat.le_of_ble_eq_true rfl) (Nat.le_of_ble_eq_true rfl) ?_
  exact W.iret hx hb hr (fun t ht hW => ⟨⟨0, (), rfl, rfl, trivial⟩, hS.F ht⟩) hS.2.2 dX8_ofLockNow_41
set_option maxHeartbeats 4000000 in
set_option maxRecDepth 100000 in
theorem cz_QofLockNow_1_7 (l : Launch) (dC : Nat → ClassId) (dI : Nat → Nat → Nat) (ed sz : Nat) (mo : Nat) (mr : Nat) (x9 : Int32) (s9 : Int64) (ll : Nat) (lt : Nat) (lp : Nat) (ola : Nat) (cOl : ClassId) (fol : Nat → Option Nat) (la1 : Nat) (cA1 : ClassId) (fa1 : Nat → Int32) (hol1 : fol 1 = some la1) (ha1_7 : fa1 7 = 0) : Met l yX8_ofLockNow wsX8_ofLockNow ({ frames := 3, cells := 0, slots := 0, locals := 64 } : Jvm.Room) (va_Pc [.ref mo, .int 1, .int 7] (zB dC dI ed sz [(mo, .inr (10, [.int x9, .ref mr, .int 1, .long s9])), (mr, .inr (9, [.ref ll, .ref lt, .ref lp, .int 0, .int 0, .int 0, .int 0, .int 0, .int 0, .int 0, .int (-1), .int 0, .int 0, .int 0])), (ll, .inr (1, [.int 2, .ref ola, .int 2])), (ola, .inl (cOl, 10, .inr (.inr (.inr (.inr fol))))), (la1, .inl (cA1, 10, .inl fa1))] [] [(cOl, .object "java/lang/Object"), (cA1, .int)])) (va_Qi (fun (r : Int32) (_ : Unit) => r = 0) (fun (_ : Unit) (_ : State) => True) (va_A [] sz)) 0 0 (va_A [] sz) := by
  refine Met.ofW (cc := cX8_ofLockNow) (maxL := 3) (ret := (some .int)) (by decide) rfl ?_
  intro p e s m args below meth c s₁ B hml hv
  obtain ⟨rfl, hsz, hR0, hP, hK, hD0, hN, hH, hX0⟩ := hv
  have hx := B.exec
  have hb := B.bytes
  have hr := B.returns
  have hts := atoms_spec (ws := wsX8_ofLockNow) B.pre
  have hown : s.vm.findClass RX8 = some m.cls := findClass_of_methodNamed B.named
  have hlocks := B.notSynchronized
  subst hsz
  have hD := hD0.self (sz := s.heap.size)
  have hAr := zx_A hX0 hR0
  generalize hAe : va_A [] s.heap.size = A at hD hAr hH ⊢
  have hA : ∀ q : Nat, s.heap.size ≤ q → A q := fun q h => by rw [← hAe]; exact Or.inr h
  have hS : va_S A s.heap s.heap [] := va_S.rf
  have hl := lv_entry ([.ref mo, .int 1, .int 7]) (n := 3) (Nat.le_of_ble_eq_true rfl)
  rw [lg_entry_eq]
  generalize (lg_sl ([.ref mo, .int 1, .int 7]) ++ List.replicate (3 - (lg_sl ([.ref mo, .int 1, .int 7])).length) Slot.unset).toArray = ls at hl ⊢
  have hl : lv_has ls 3 [(0, .ref mo), (1, .int 1), (2, .int 7)] := hl
  refine lv_iload_n hx hb dX8_ofLockNow_0 rfl (lv_at hl 2 rfl) ?_
  refine lv_bipush (v := 9) hx hb dX8_ofLockNow_1 (by decide) ?_
  refine lv_icmp_ge (tgt := 25) hx hb dX8_ofLockNow_3 (by decide) (fun h => absurd h (by decide)) (fun _ => ?_)
  refine lv_aload_n hx hb dX8_ofLockNow_6 rfl (lv_at hl 0 rfl) ?_
  refine va_get (D := (dC, dI)) (ci := 10) (v := .ref mr) (C := RX8) (T := TX8) (N := 4) hx hb hts zi_X8_ofLockNow_X8 hown hK hR0 0 rfl rfl 1 (by decide) (hts (.fieldLink RX8 10 "LockRoomsModel" "room" "LLockRoomsModel$Room;") (by decide +kernel)) (fun _ h9 => h9) rfl dX8_ofLockNow_7 ?_
  refine va_getN (D := (dC, dI)) (ci := 9) (v := .ref ll) (C := RX7) (T := TX7) (N := 14) hx hb hts zi_X8_ofLockNow_X7 hown hK hR0 1 rfl rfl 0 (by decide) (va_Nw.use rfl (hN.1 ("LockRoomsModel", 24, "LockRoomsModel$Room", "locks", "Ljava/util/ArrayList;", "LockRoomsModel") (List.mem_of_getElem? (i := 1) rfl))) (fun _ h9 => h9) rfl dX8_ofLockNow_10 ?_
  refine lv_iload_n hx hb dX8_ofLockNow_13 rfl (lv_at hl 1 rfl) ?_
  have hPr := (hR0).sub (ws' := [(ll, .inr (1, [.int 2, .ref ola, .int 2])), (ola, .inl (cOl, 10, .inr (.inr (.inr (.inr fol)))))]) [2, 3] rfl
  have hPc := hP.sub (ws' := []) [] rfl
  have hDc := hD.sub (ws' := []) [] (by decide) rfl
  have hKc := hK.sub (tys' := [(cOl, .object "java/lang/Object")]) [0] rfl
  have hFc := va_free (wc := []) hD hS hA [] rfl
  refine va_callr (va_runV (As := [.int 1]) (rest := []) ⟨hx, hb, hml, hown, hts⟩ (cz_Qget_1_2 l dC dI ed s.heap.size ll 2 ola cOl fol la1 hol1) (cwV 1 hts gX8_ofLockNow_Jx4a65c_get_915e3 rfl rfl rfl (by decide +kernel) ⟨Nat.le_of_ble_eq_true rfl, Nat.le_of_ble_eq_true rfl⟩) ⟨zb_blind, va_recv hK hR0 (ci := 1) (q0 := 2) rfl rfl, fun U hU hW => ⟨rfl, zb_mk hU hW hPr hPc hKc hDc hN hH hS hFc zx_e⟩⟩ rfl rfl hl.1 rfl (lv_room (Nat.le_of_ble_eq_true rfl)) dX8_ofLockNow_14 ⟨Nat.le_of_ble_eq_true rfl, Nat.le_of_ble_eq_true rfl⟩) hS (fun q _ h => hFc q h) hFc (fun u r2 t H1 locs ht hvm hw hB hz1 hk1 hS => ?_)
  obtain ⟨hq3_0, hP1, hD1, hK1⟩ := hB
  rw [ht] at hP1
  obtain ⟨hP, hD⟩ := va_join (wr := []) (w1 := []) hP hD [] [] rfl rfl (by decide) (by decide) hk1 hFc hP1 hD1
  have hP : va_P (dC, dI) vwCl [] H1 := hP
  have hD : va_D A [] := hD
  obtain rfl : la1 = r2 := hq3_0.symm
  refine va_castA (nm := "[I") hx hb hown (hts (.classLink RX8 88 "[I") (by decide +kernel)) (zo_R hR0 hS hAr) 4 rfl (show s.vm.findClass "[I" = some cA1 from (hK.2 1 _ rfl).2) dX8_ofLockNow_17 ?_
  refine lv_iload_n hx hb dX8_ofLockNow_20 rfl (lv_at hl 2 rfl) ?_
  refine va_iald hx hb hK (zo_R hR0 hS hAr) 4 1 rfl rfl (by unfold vp_in; decide) dX8_ofLockNow_21 ?_
  refine zo_i (v := 0) (by rw [show Int32.toNatClampNeg 7 = 7 from by decide]; exact ha1_7) ?_
  refine lv_goto (tgt := 41) hx hb dX8_ofLockNow_22 (by decide) ?_
  refine W.widen (k := 0) (n := 0) (Nat.le_of_ble_eq_true rfl) (Nat.le_of_ble_eq_true rfl) ?_
  exact W.iret hx hb hr (fun t ht hW => ⟨⟨0, (), rfl, rfl, trivial⟩, hS.F ht⟩) hS.2.2 dX8_ofLockNow_41
set_option maxHeartbeats 4000000 in
set_option maxRecDepth 100000 in
theorem cz_QofLockNow_1_8 (l : Launch) (dC : Nat → ClassId) (dI : Nat → Nat → Nat) (ed sz : Nat) (mo : Nat) (mr : Nat) (x9 : Int32) (s9 : Int64) (ll : Nat) (lt : Nat) (lp : Nat) (ola : Nat) (cOl : ClassId) (fol : Nat → Option Nat) (la1 : Nat) (cA1 : ClassId) (fa1 : Nat → Int32) (hol1 : fol 1 = some la1) (ha1_8 : fa1 8 = 0) : Met l yX8_ofLockNow wsX8_ofLockNow ({ frames := 3, cells := 0, slots := 0, locals := 64 } : Jvm.Room) (va_Pc [.ref mo, .int 1, .int 8] (zB dC dI ed sz [(mo, .inr (10, [.int x9, .ref mr, .int 1, .long s9])), (mr, .inr (9, [.ref ll, .ref lt, .ref lp, .int 0, .int 0, .int 0, .int 0, .int 0, .int 0, .int 0, .int (-1), .int 0, .int 0, .int 0])), (ll, .inr (1, [.int 2, .ref ola, .int 2])), (ola, .inl (cOl, 10, .inr (.inr (.inr (.inr fol))))), (la1, .inl (cA1, 10, .inl fa1))] [] [(cOl, .object "java/lang/Object"), (cA1, .int)])) (va_Qi (fun (r : Int32) (_ : Unit) => r = 0) (fun (_ : Unit) (_ : State) => True) (va_A [] sz)) 0 0 (va_A [] sz) := by
  refine Met.ofW (cc := cX8_ofLockNow) (maxL := 3) (ret := (some .int)) (by decide) rfl ?_
  intro p e s m args below meth c s₁ B hml hv
  obtain ⟨rfl, hsz, hR0, hP, hK, hD0, hN, hH, hX0⟩ := hv
  have hx := B.exec
  have hb := B.bytes
  have hr := B.returns
  have hts := atoms_spec (ws := wsX8_ofLockNow) B.pre
  have hown : s.vm.findClass RX8 = some m.cls := findClass_of_methodNamed B.named
  have hlocks := B.notSynchronized
  subst hsz
  have hD := hD0.self (sz := s.heap.size)
  have hAr := zx_A hX0 hR0
  generalize hAe : va_A [] s.heap.size = A at hD hAr hH ⊢
  have hA : ∀ q : Nat, s.heap.size ≤ q → A q := fun q h => by rw [← hAe]; exact Or.inr h
  have hS : va_S A s.heap s.heap [] := va_S.rf
  have hl := lv_entry ([.ref mo, .int 1, .int 8]) (n := 3) (Nat.le_of_ble_eq_true rfl)
  rw [lg_entry_eq]
  generalize (lg_sl ([.ref mo, .int 1, .int 8]) ++ List.replicate (3 - (lg_sl ([.ref mo, .int 1, .int 8])).length) Slot.unset).toArray = ls at hl ⊢
  have hl : lv_has ls 3 [(0, .ref mo), (1, .int 1), (2, .int 8)] := hl
  refine lv_iload_n hx hb dX8_ofLockNow_0 rfl (lv_at hl 2 rfl) ?_
  refine lv_bipush (v := 9) hx hb dX8_ofLockNow_1 (by decide) ?_
  refine lv_icmp_ge (tgt := 25) hx hb dX8_ofLockNow_3 (by decide) (fun h => absurd h (by decide)) (fun _ => ?_)
  refine lv_aload_n hx hb dX8_ofLockNow_6 rfl (lv_at hl 0 rfl) ?_
  refine va_get (D := (dC, dI)) (ci := 10) (v := .ref mr) (C := RX8) (T := TX8) (N := 4) hx hb hts zi_X8_ofLockNow_X8 hown hK hR0 0 rfl rfl 1 (by decide) (hts (.fieldLink RX8 10 "LockRoomsModel" "room" "LLockRoomsModel$Room;") (by decide +kernel)) (fun _ h9 => h9) rfl dX8_ofLockNow_7 ?_
  refine va_getN (D := (dC, dI)) (ci := 9) (v := .ref ll) (C := RX7) (T := TX7) (N := 14) hx hb hts zi_X8_ofLockNow_X7 hown hK hR0 1 rfl rfl 0 (by decide) (va_Nw.use rfl (hN.1 ("LockRoomsModel", 24, "LockRoomsModel$Room", "locks", "Ljava/util/ArrayList;", "LockRoomsModel") (List.mem_of_getElem? (i := 1) rfl))) (fun _ h9 => h9) rfl dX8_ofLockNow_10 ?_
  refine lv_iload_n hx hb dX8_ofLockNow_13 rfl (lv_at hl 1 rfl) ?_
  have hPr := (hR0).sub (ws' := [(ll, .inr (1, [.int 2, .ref ola, .int 2])), (ola, .inl (cOl, 10, .inr (.inr (.inr (.inr fol)))))]) [2, 3] rfl
  have hPc := hP.sub (ws' := []) [] rfl
  have hDc := hD.sub (ws' := []) [] (by decide) rfl
  have hKc := hK.sub (tys' := [(cOl, .object "java/lang/Object")]) [0] rfl
  have hFc := va_free (wc := []) hD hS hA [] rfl
  refine va_callr (va_runV (As := [.int 1]) (rest := []) ⟨hx, hb, hml, hown, hts⟩ (cz_Qget_1_2 l dC dI ed s.heap.size ll 2 ola cOl fol la1 hol1) (cwV 1 hts gX8_ofLockNow_Jx4a65c_get_915e3 rfl rfl rfl (by decide +kernel) ⟨Nat.le_of_ble_eq_true rfl, Nat.le_of_ble_eq_true rfl⟩) ⟨zb_blind, va_recv hK hR0 (ci := 1) (q0 := 2) rfl rfl, fun U hU hW => ⟨rfl, zb_mk hU hW hPr hPc hKc hDc hN hH hS hFc zx_e⟩⟩ rfl rfl hl.1 rfl (lv_room (Nat.le_of_ble_eq_true rfl)) dX8_ofLockNow_14 ⟨Nat.le_of_ble_eq_true rfl, Nat.le_of_ble_eq_true rfl⟩) hS (fun q _ h => hFc q h) hFc (fun u r2 t H1 locs ht hvm hw hB hz1 hk1 hS => ?_)
  obtain ⟨hq3_0, hP1, hD1, hK1⟩ := hB
  rw [ht] at hP1
  obtain ⟨hP, hD⟩ := va_join (wr := []) (w1 := []) hP hD [] [] rfl rfl (by decide) (by decide) hk1 hFc hP1 hD1
  have hP : va_P (dC, dI) vwCl [] H1 := hP
  have hD : va_D A [] := hD
  obtain rfl : la1 = r2 := hq3_0.symm
  refine va_castA (nm := "[I") hx hb hown (hts (.classLink RX8 88 "[I") (by decide +kernel)) (zo_R hR0 hS hAr) 4 rfl (show s.vm.findClass "[I" = some cA1 from (hK.2 1 _ rfl).2) dX8_ofLockNow_17 ?_
  refine lv_iload_n hx hb dX8_ofLockNow_20 rfl (lv_at hl 2 rfl) ?_
  refine va_iald hx hb hK (zo_R hR0 hS hAr) 4 1 rfl rfl (by unfold vp_in; decide) dX8_ofLockNow_21 ?_
  refine zo_i (v := 0) (by rw [show Int32.toNatClampNeg 8 = 8 from by decide]; exact ha1_8) ?_
  refine lv_goto (tgt := 41) hx hb dX8_ofLockNow_22 (by decide) ?_
  refine W.widen (k := 0) (n := 0) (Nat.le_of_ble_eq_true rfl) (Nat.le_of_ble_eq_true rfl) ?_
  exact W.iret hx hb hr (fun t ht hW => ⟨⟨0, (), rfl, rfl, trivial⟩, hS.F ht⟩) hS.2.2 dX8_ofLockNow_41

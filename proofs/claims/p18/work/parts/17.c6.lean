set_option maxHeartbeats 4000000 in
set_option maxRecDepth 100000 in
theorem cz_QtellThing_1_5 (l : Launch) (dC : Nat → ClassId) (dI : Nat → Nat → Nat) (ed sz : Nat) (rm : Nat) (lk : Nat) (th : Nat) (pl : Nat) (gm : Nat) (cT : ClassId) (ft : Nat → Option Nat) (t1 : Nat) (cL : ClassId) (fl : Nat → Option Nat) (l0 : Nat) (l1 : Nat) (hkt1 : ft 1 = some t1) (hkl0 : fl 0 = some l0) (hkl1 : fl 1 = some l1) : Met l yX3_tellThing wsX3_tellThing ({ frames := 2, cells := 0, slots := 0, locals := 44 } : Jvm.Room) (va_Pc [.ref rm, .int 1, .int 5] (zB dC dI ed sz [(rm, .inr (5, [.ref lk, .ref th, .ref pl, .ref gm, .int 2, .int 10, .int 0, .int 0, .int 1, .int 0, .int 0, .int 0])), (th, .inl (cT, 12, .inr (.inr (.inr (.inr ft))))), (t1, .inr (7, [.int (-1), .int 0, .int 0, .int 0, .int 0])), (lk, .inl (cL, 10, .inr (.inr (.inr (.inr fl))))), (l0, .inr (3, [.int 0, .int 0, .int 60, .int 0, .int 0, .int 0, .int 0, .int 0, .int 0, .int 0])), (l1, .inr (3, [.int 0, .int 0, .int 60, .int 0, .int 0, .int 0, .int 0, .int 0, .int 0, .int 0]))] [] [(cT, .object "LockRooms$Thing"), (cL, .object "LockRooms$Lock")])) (va_Qi (fun (r : Int32) (_ : Unit) => r = 0) (fun (_ : Unit) (_ : State) => True) (va_A [] sz)) 0 0 (va_A [] sz) := by
  refine Met.ofW (cc := cX3_tellThing) (maxL := 4) (ret := (some .int)) (by decide) rfl ?_
  intro p e s m args below meth c s₁ B hml hv
  obtain ⟨rfl, hsz, hR0, hP, hK, hD0, hN, hH, hX0⟩ := hv
  have hx := B.exec
  have hb := B.bytes
  have hr := B.returns
  have hts := atoms_spec (ws := wsX3_tellThing) B.pre
  have hown : s.vm.findClass RX3 = some m.cls := findClass_of_methodNamed B.named
  have hlocks := B.notSynchronized
  subst hsz
  have hD := hD0.self (sz := s.heap.size)
  have hAr := zx_A hX0 hR0
  generalize hAe : va_A [] s.heap.size = A at hD hAr hH ⊢
  have hA : ∀ q : Nat, s.heap.size ≤ q → A q := fun q h => by rw [← hAe]; exact Or.inr h
  have hS : va_S A s.heap s.heap [] := va_S.rf
  have hl := lv_entry ([.ref rm, .int 1, .int 5]) (n := 4) (Nat.le_of_ble_eq_true rfl)
  rw [lg_entry_eq]
  generalize (lg_sl ([.ref rm, .int 1, .int 5]) ++ List.replicate (4 - (lg_sl ([.ref rm, .int 1, .int 5])).length) Slot.unset).toArray = ls at hl ⊢
  have hl : lv_has ls 4 [(0, .ref rm), (1, .int 1), (2, .int 5)] := hl
  refine lv_aload_n hx hb dX3_tellThing_0 rfl (lv_at hl 0 rfl) ?_
  refine lv_iload_n hx hb dX3_tellThing_1 rfl (lv_at hl 1 rfl) ?_
  have hPr := (hR0).sub (ws' := [(rm, .inr (5, [.ref lk, .ref th, .ref pl, .ref gm, .int 2, .int 10, .int 0, .int 0, .int 1, .int 0, .int 0, .int 0]))]) [0] rfl
  have hPc := hP.sub (ws' := []) [] rfl
  have hDc := hD.sub (ws' := []) [] (by decide) rfl
  have hKc := hK.sub (tys' := []) [] rfl
  have hFc := va_free (wc := []) hD hS hA [] rfl
  refine va_calli (va_runV (As := [.int 1]) (rest := []) ⟨hx, hb, hml, hown, hts⟩ (cz_QhasThing_1 l dC dI ed s.heap.size rm lk th pl gm) (cwV 1 hts gX3_tellThing_X3_hasThing rfl rfl rfl (by decide +kernel) ⟨Nat.le_of_ble_eq_true rfl, Nat.le_of_ble_eq_true rfl⟩) ⟨zb_blind, va_recv hK hR0 (ci := 5) (q0 := 0) rfl rfl, fun U hU hW => ⟨rfl, zb_mk hU hW hPr hPc hKc hDc hN hH hS hFc zx_e⟩⟩ rfl rfl hl.1 rfl (lv_room (Nat.le_of_ble_eq_true rfl)) dX3_tellThing_2 ⟨Nat.le_of_ble_eq_true rfl, Nat.le_of_ble_eq_true rfl⟩) hS (fun q _ h => hFc q h) hFc (fun r2 u t H1 locs ht hvm hw hB hz1 hk1 hS => ?_)
  obtain rfl : r2 = 1 := hw
  have hP := zo_K hP hk1
  refine lv_if_ne (tgt := 10) hx hb dX3_tellThing_5 (by decide) (fun _ => ?_) (fun h => absurd h (by decide))
  refine lv_aload_n hx hb dX3_tellThing_10 rfl (lv_at hl 0 rfl) ?_
  refine va_get (D := (dC, dI)) (ci := 5) (v := .ref th) (C := RX3) (T := TX3) (N := 12) hx hb hts zi_X3_tellThing_X3 hown hK (zo_R hR0 hS hAr) 0 rfl rfl 1 (by decide) (hts (.fieldLink RX3 19 "LockRooms$Room" "things" "[LLockRooms$Thing;") (by decide +kernel)) (fun _ h9 => h9) rfl dX3_tellThing_11 ?_
  refine lv_iload_n hx hb dX3_tellThing_14 rfl (lv_at hl 1 rfl) ?_
  refine va_aldq hx hb hK (zo_R hR0 hS hAr) 1 0 rfl rfl (by unfold vp_in; decide) dX3_tellThing_15 ?_
  refine zo_q (v := .ref t1) (by rw [show Int32.toNatClampNeg 1 = 1 from by decide, hkt1]; rfl) ?_
  refine lv_astore_n (lv' := [(3, .ref t1), (0, .ref rm), (1, .int 1), (2, .int 5)]) hx hb dX3_tellThing_16 rfl hl (by decide) rfl (fun ls hl => ?_)
  refine lv_iload_n hx hb dX3_tellThing_17 rfl (lv_at hl 3 rfl) ?_
  refine lv_tableOut (tgt := 84) hx hb dX3_tellThing_18 (by decide) (by decide) ?_
  refine lv_aload_n hx hb dX3_tellThing_84 rfl (lv_at hl 1 rfl) ?_
  refine lv_iload_n hx hb dX3_tellThing_85 rfl (lv_at hl 2 rfl) ?_
  have hPr := ((zo_R hR0 hS hAr)).sub (ws' := [(rm, .inr (5, [.ref lk, .ref th, .ref pl, .ref gm, .int 2, .int 10, .int 0, .int 0, .int 1, .int 0, .int 0, .int 0])), (lk, .inl (cL, 10, .inr (.inr (.inr (.inr fl))))), (l0, .inr (3, [.int 0, .int 0, .int 60, .int 0, .int 0, .int 0, .int 0, .int 0, .int 0, .int 0])), (l1, .inr (3, [.int 0, .int 0, .int 60, .int 0, .int 0, .int 0, .int 0, .int 0, .int 0, .int 0]))]) [0, 3, 4, 5] rfl
  have hPc := hP.sub (ws' := []) [] rfl
  have hDc := hD.sub (ws' := []) [] (by decide) rfl
  have hKc := hK.sub (tys' := [(cL, .object "LockRooms$Lock")]) [1] rfl
  have hFc := va_free (wc := []) hD hS hA [] rfl
  refine va_calli (va_runV (As := [.int 1]) (rest := []) ⟨hx, hb, hml, hown, hts⟩ (cz_QlocksThatNeed_1 l dC dI ed H1.size rm lk th pl gm cL fl l0 l1 hkl0 hkl1) (cwV 1 hts gX3_tellThing_X3_locksThatNeed rfl rfl rfl (by decide +kernel) ⟨Nat.le_of_ble_eq_true rfl, Nat.le_of_ble_eq_true rfl⟩) ⟨zb_blind, va_recv hK (zo_R hR0 hS hAr) (ci := 5) (q0 := 0) rfl rfl, fun U hU hW => ⟨rfl, zb_mk hU hW hPr hPc hKc hDc hN hH hS hFc zx_e⟩⟩ rfl rfl hl.1 rfl (lv_room (Nat.le_of_ble_eq_true rfl)) dX3_tellThing_86 ⟨Nat.le_of_ble_eq_true rfl, Nat.le_of_ble_eq_true rfl⟩) hS (fun q _ h => hFc q h) hFc (fun r4 u t H3 locs ht hvm hw hB hz1 hk1 hS => ?_)
  obtain rfl : r4 = 0 := hw
  have hP := zo_K hP hk1
  refine W.widen (k := 0) (n := 0) (Nat.le_of_ble_eq_true rfl) (Nat.le_of_ble_eq_true rfl) ?_
  exact W.iret hx hb hr (fun t ht hW => ⟨⟨0, (), rfl, rfl, trivial⟩, hS.F ht⟩) hS.2.2 dX3_tellThing_89
set_option maxHeartbeats 4000000 in
set_option maxRecDepth 100000 in
theorem cz_QtellThing_2_0 (l : Launch) (dC : Nat → ClassId) (dI : Nat → Nat → Nat) (ed sz : Nat) (rm : Nat) (lk : Nat) (th : Nat) (pl : Nat) (gm : Nat) (cT : ClassId) (ft : Nat → Option Nat) (t2 : Nat) (hkt2 : ft 2 = some t2) : Met l yX3_tellThing wsX3_tellThing ({ frames := 1, cells := 0, slots := 0, locals := 21 } : Jvm.Room) (va_Pc [.ref rm, .int 2, .int 0] (zB dC dI ed sz [(rm, .inr (5, [.ref lk, .ref th, .ref pl, .ref gm, .int 2, .int 10, .int 0, .int 0, .int 1, .int 0, .int 0, .int 0])), (th, .inl (cT, 12, .inr (.inr (.inr (.inr ft))))), (t2, .inr (7, [.int (-1), .int 0, .int 0, .int 0, .int 0]))] [] [(cT, .object "LockRooms$Thing")])) (va_Qi (fun (r : Int32) (_ : Unit) => r = (-1)) (fun (_ : Unit) (_ : State) => True) (va_A [] sz)) 0 0 (va_A [] sz) := by
  refine Met.ofW (cc := cX3_tellThing) (maxL := 4) (ret := (some .int)) (by decide) rfl ?_
  intro p e s m args below meth c s₁ B hml hv
  obtain ⟨rfl, hsz, hR0, hP, hK, hD0, hN, hH, hX0⟩ := hv
  have hx := B.exec
  have hb := B.bytes
  have hr := B.returns
  have hts := atoms_spec (ws := wsX3_tellThing) B.pre
  have hown : s.vm.findClass RX3 = some m.cls := findClass_of_methodNamed B.named
  have hlocks := B.notSynchronized
  subst hsz
  have hD := hD0.self (sz := s.heap.size)
  have hAr := zx_A hX0 hR0
  generalize hAe : va_A [] s.heap.size = A at hD hAr hH ⊢
  have hA : ∀ q : Nat, s.heap.size ≤ q → A q := fun q h => by rw [← hAe]; exact Or.inr h
  have hS : va_S A s.heap s.heap [] := va_S.rf
  have hl := lv_entry ([.ref rm, .int 2, .int 0]) (n := 4) (Nat.le_of_ble_eq_true rfl)
  rw [lg_entry_eq]
  generalize (lg_sl ([.ref rm, .int 2, .int 0]) ++ List.replicate (4 - (lg_sl ([.ref rm, .int 2, .int 0])).length) Slot.unset).toArray = ls at hl ⊢
  have hl : lv_has ls 4 [(0, .ref rm), (1, .int 2), (2, .int 0)] := hl
  refine lv_aload_n hx hb dX3_tellThing_0 rfl (lv_at hl 0 rfl) ?_
  refine lv_iload_n hx hb dX3_tellThing_1 rfl (lv_at hl 1 rfl) ?_
  have hPr := (hR0).sub (ws' := [(rm, .inr (5, [.ref lk, .ref th, .ref pl, .ref gm, .int 2, .int 10, .int 0, .int 0, .int 1, .int 0, .int 0, .int 0]))]) [0] rfl
  have hPc := hP.sub (ws' := []) [] rfl
  have hDc := hD.sub (ws' := []) [] (by decide) rfl
  have hKc := hK.sub (tys' := []) [] rfl
  have hFc := va_free (wc := []) hD hS hA [] rfl
  refine va_calli (va_runV (As := [.int 2]) (rest := []) ⟨hx, hb, hml, hown, hts⟩ (cz_QhasThing_2 l dC dI ed s.heap.size rm lk th pl gm) (cwV 1 hts gX3_tellThing_X3_hasThing rfl rfl rfl (by decide +kernel) ⟨Nat.le_of_ble_eq_true rfl, Nat.le_of_ble_eq_true rfl⟩) ⟨zb_blind, va_recv hK hR0 (ci := 5) (q0 := 0) rfl rfl, fun U hU hW => ⟨rfl, zb_mk hU hW hPr hPc hKc hDc hN hH hS hFc zx_e⟩⟩ rfl rfl hl.1 rfl (lv_room (Nat.le_of_ble_eq_true rfl)) dX3_tellThing_2 ⟨Nat.le_of_ble_eq_true rfl, Nat.le_of_ble_eq_true rfl⟩) hS (fun q _ h => hFc q h) hFc (fun r2 u t H1 locs ht hvm hw hB hz1 hk1 hS => ?_)
  obtain rfl : r2 = 1 := hw
  have hP := zo_K hP hk1
  refine lv_if_ne (tgt := 10) hx hb dX3_tellThing_5 (by decide) (fun _ => ?_) (fun h => absurd h (by decide))
  refine lv_aload_n hx hb dX3_tellThing_10 rfl (lv_at hl 0 rfl) ?_
  refine va_get (D := (dC, dI)) (ci := 5) (v := .ref th) (C := RX3) (T := TX3) (N := 12) hx hb hts zi_X3_tellThing_X3 hown hK (zo_R hR0 hS hAr) 0 rfl rfl 1 (by decide) (hts (.fieldLink RX3 19 "LockRooms$Room" "things" "[LLockRooms$Thing;") (by decide +kernel)) (fun _ h9 => h9) rfl dX3_tellThing_11 ?_
  refine lv_iload_n hx hb dX3_tellThing_14 rfl (lv_at hl 1 rfl) ?_
  refine va_aldq hx hb hK (zo_R hR0 hS hAr) 1 0 rfl rfl (by unfold vp_in; decide) dX3_tellThing_15 ?_
  refine zo_q (v := .ref t2) (by rw [show Int32.toNatClampNeg 2 = 2 from by decide, hkt2]; rfl) ?_
  refine lv_astore_n (lv' := [(3, .ref t2), (0, .ref rm), (1, .int 2), (2, .int 0)]) hx hb dX3_tellThing_16 rfl hl (by decide) rfl (fun ls hl => ?_)
  refine lv_iload_n hx hb dX3_tellThing_17 rfl (lv_at hl 3 rfl) ?_
  refine lv_tableIn (off := 34) (tgt := 52) hx hb dX3_tellThing_18 (by decide) (by decide) rfl (by decide) ?_
  refine lv_aload_n hx hb dX3_tellThing_52 rfl (lv_at hl 0 rfl) ?_
  refine va_get (D := (dC, dI)) (ci := 7) (v := .int (-1)) (C := RX5) (T := TX5) (N := 5) hx hb hts zi_X3_tellThing_X5 hown hK (zo_R hR0 hS hAr) 2 rfl rfl 0 (by decide) (hts (.fieldLink RX3 90 "LockRooms$Thing" "place" "I") (by decide +kernel)) (fun _ h9 => h9) rfl dX3_tellThing_53 ?_
  refine W.widen (k := 0) (n := 0) (Nat.le_of_ble_eq_true rfl) (Nat.le_of_ble_eq_true rfl) ?_
  exact W.iret hx hb hr (fun t ht hW => ⟨⟨(-1), (), rfl, rfl, trivial⟩, hS.F ht⟩) hS.2.2 dX3_tellThing_56
set_option maxHeartbeats 4000000 in
set_option maxRecDepth 100000 in
theorem cz_QtellThing_2_1 (l : Launch) (dC : Nat → ClassId) (dI : Nat → Nat → Nat) (ed sz : Nat) (rm : Nat) (lk : Nat) (th : Nat) (pl : Nat) (gm : Nat) (cT : ClassId) (ft : Nat → Option Nat) (t2 : Nat) (hkt2 : ft 2 = some t2) : Met l yX3_tellThing wsX3_tellThing ({ frames := 1, cells := 0, slots := 0, locals := 21 } : Jvm.Room) (va_Pc [.ref rm, .int 2, .int 1] (zB dC dI ed sz [(rm, .inr (5, [.ref lk, .ref th, .ref pl, .ref gm, .int 2, .int 10, .int 0, .int 0, .int 1, .int 0, .int 0, .int 0])), (th, .inl (cT, 12, .inr (.inr (.inr (.inr ft))))), (t2, .inr (7, [.int (-1), .int 0, .int 0, .int 0, .int 0]))] [] [(cT, .object "LockRooms$Thing")])) (va_Qi (fun (r : Int32) (_ : Unit) => r = 0) (fun (_ : Unit) (_ : State) => True) (va_A [] sz)) 0 0 (va_A [] sz) := by
  refine Met.ofW (cc := cX3_tellThing) (maxL := 4) (ret := (some .int)) (by decide) rfl ?_
  intro p e s m args below meth c s₁ B hml hv
  obtain ⟨rfl, hsz, hR0, hP, hK, hD0, hN, hH, hX0⟩ := hv
  have hx := B.exec
  have hb := B.bytes
  have hr := B.returns
  have hts := atoms_spec (ws := wsX3_tellThing) B.pre
  have hown : s.vm.findClass RX3 = some m.cls := findClass_of_methodNamed B.named
  have hlocks := B.notSynchronized
  subst hsz
  have hD := hD0.self (sz := s.heap.size)
  have hAr := zx_A hX0 hR0
  generalize hAe : va_A [] s.heap.size = A at hD hAr hH ⊢
  have hA : ∀ q : Nat, s.heap.size ≤ q → A q := fun q h => by rw [← hAe]; exact Or.inr h
  have hS : va_S A s.heap s.heap [] := va_S.rf
  have hl := lv_entry ([.ref rm, .int 2, .int 1]) (n := 4) (Nat.le_of_ble_eq_true rfl)
  rw [lg_entry_eq]
  generalize (lg_sl ([.ref rm, .int 2, .int 1]) ++ List.replicate (4 - (lg_sl ([.ref rm, .int 2, .int 1])).length) Slot.unset).toArray = ls at hl ⊢
  have hl : lv_has ls 4 [(0, .ref rm), (1, .int 2), (2, .int 1)] := hl
  refine lv_aload_n hx hb dX3_tellThing_0 rfl (lv_at hl 0 rfl) ?_
  refine lv_iload_n hx hb dX3_tellThing_1 rfl (lv_at hl 1 rfl) ?_
  have hPr := (hR0).sub (ws' := [(rm, .inr (5, [.ref lk, .ref th, .ref pl, .ref gm, .int 2, .int 10, .int 0, .int 0, .int 1, .int 0, .int 0, .int 0]))]) [0] rfl
  have hPc := hP.sub (ws' := []) [] rfl
  have hDc := hD.sub (ws' := []) [] (by decide) rfl
  have hKc := hK.sub (tys' := []) [] rfl
  have hFc := va_free (wc := []) hD hS hA [] rfl
  refine va_calli (va_runV (As := [.int 2]) (rest := []) ⟨hx, hb, hml, hown, hts⟩ (cz_QhasThing_2 l dC dI ed s.heap.size rm lk th pl gm) (cwV 1 hts gX3_tellThing_X3_hasThing rfl rfl rfl (by decide +kernel) ⟨Nat.le_of_ble_eq_true rfl, Nat.le_of_ble_eq_true rfl⟩) ⟨zb_blind, va_recv hK hR0 (ci := 5) (q0 := 0) rfl rfl, fun U hU hW => ⟨rfl, zb_mk hU hW hPr hPc hKc hDc hN hH hS hFc zx_e⟩⟩ rfl rfl hl.1 rfl (lv_room (Nat.le_of_ble_eq_true rfl)) dX3_tellThing_2 ⟨Nat.le_of_ble_eq_true rfl, Nat.le_of_ble_eq_true rfl⟩) hS (fun q _ h => hFc q h) hFc (fun r2 u t H1 locs ht hvm hw hB hz1 hk1 hS => ?_)
  obtain rfl : r2 = 1 := hw
  have hP := zo_K hP hk1
  refine lv_if_ne (tgt := 10) hx hb dX3_tellThing_5 (by decide) (fun _ => ?_) (fun h => absurd h (by decide))
  refine lv_aload_n hx hb dX3_tellThing_10 rfl (lv_at hl 0 rfl) ?_
  refine va_get (D := (dC, dI)) (ci := 5) (v := .ref th) (C := RX3) (T := TX3) (N := 12) hx hb hts zi_X3_tellThing_X3 hown hK (zo_R hR0 hS hAr) 0 rfl rfl 1 (by decide) (hts (.fieldLink RX3 19 "LockRooms$Room" "things" "[LLockRooms$Thing;") (by decide +kernel)) (fun _ h9 => h9) rfl dX3_tellThing_11 ?_
  refine lv_iload_n hx hb dX3_tellThing_14 rfl (lv_at hl 1 rfl) ?_
  refine va_aldq hx hb hK (zo_R hR0 hS hAr) 1 0 rfl rfl (by unfold vp_in; decide) dX3_tellThing_15 ?_
  refine zo_q (v := .ref t2) (by rw [show Int32.toNatClampNeg 2 = 2 from by decide, hkt2]; rfl) ?_
  refine lv_astore_n (lv' := [(3, .ref t2), (0, .ref rm), (1, .int 2), (2, .int 1)]) hx hb dX3_tellThing_16 rfl hl (by decide) rfl (fun ls hl => ?_)
  refine lv_iload_n hx hb dX3_tellThing_17 rfl (lv_at hl 3 rfl) ?_
  refine lv_tableIn (off := 39) (tgt := 57) hx hb dX3_tellThing_18 (by decide) (by decide) rfl (by decide) ?_
  refine lv_aload_n hx hb dX3_tellThing_57 rfl (lv_at hl 0 rfl) ?_
  refine va_get (D := (dC, dI)) (ci := 7) (v := .int 0) (C := RX5) (T := TX5) (N := 5) hx hb hts zi_X3_tellThing_X5 hown hK (zo_R hR0 hS hAr) 2 rfl rfl 1 (by decide) (hts (.fieldLink RX3 93 "LockRooms$Thing" "hid" "I") (by decide +kernel)) (fun _ h9 => h9) rfl dX3_tellThing_58 ?_
  refine W.widen (k := 0) (n := 0) (Nat.le_of_ble_eq_true rfl) (Nat.le_of_ble_eq_true rfl) ?_
  exact W.iret hx hb hr (fun t ht hW => ⟨⟨0, (), rfl, rfl, trivial⟩, hS.F ht⟩) hS.2.2 dX3_tellThing_61
set_option maxHeartbeats 4000000 in
set_option maxRecDepth 100000 in
theorem cz_QtellThing_2_2 (l : Launch) (dC : Nat → ClassId) (dI : Nat → Nat → Nat) (ed sz : Nat) (rm : Nat) (lk : Nat) (th : Nat) (pl : Nat) (gm : Nat) (cT : ClassId) (ft : Nat → Option Nat) (t2 : Nat) (hkt2 : ft 2 = some t2) : Met l yX3_tellThing wsX3_tellThing ({ frames := 1, cells := 0, slots := 0, locals := 21 } : Jvm.Room) (va_Pc [.ref rm, .int 2, .int 2] (zB dC dI ed sz [(rm, .inr (5, [.ref lk, .ref th, .ref pl, .ref gm, .int 2, .int 10, .int 0, .int 0, .int 1, .int 0, .int 0, .int 0])), (th, .inl (cT, 12, .inr (.inr (.inr (.inr ft))))), (t2, .inr (7, [.int (-1), .int 0, .int 0, .int 0, .int 0]))] [] [(cT, .object "LockRooms$Thing")])) (va_Qi (fun (r : Int32) (_ : Unit) => r = 0) (fun (_ : Unit) (_ : State) => True) (va_A [] sz)) 0 0 (va_A [] sz) := by
  refine Met.ofW (cc := cX3_tellThing) (maxL := 4) (ret := (some .int)) (by decide) rfl ?_
  intro p e s m args below meth c s₁ B hml hv
  obtain ⟨rfl, hsz, hR0, hP, hK, hD0, hN, hH, hX0⟩ := hv
  have hx := B.exec
  have hb := B.bytes
  have hr := B.returns
  have hts := atoms_spec (ws := wsX3_tellThing) B.pre
  have hown : s.vm.findClass RX3 = some m.cls := findClass_of_methodNamed B.named
  have hlocks := B.notSynchronized
  subst hsz
  have hD := hD0.self (sz := s.heap.size)
  have hAr := zx_A hX0 hR0
  generalize hAe : va_A [] s.heap.size = A at hD hAr hH ⊢
  have hA : ∀ q : Nat, s.heap.size ≤ q → A q := fun q h => by rw [← hAe]; exact Or.inr h
  have hS : va_S A s.heap s.heap [] := va_S.rf
  have hl := lv_entry ([.ref rm, .int 2, .int 2]) (n := 4) (Nat.le_of_ble_eq_true rfl)
  rw [lg_entry_eq]
  generalize (lg_sl ([.ref rm, .int 2, .int 2]) ++ List.replicate (4 - (lg_sl ([.ref rm, .int 2, .int 2])).length) Slot.unset).toArray = ls at hl ⊢
  have hl : lv_has ls 4 [(0, .ref rm), (1, .int 2), (2, .int 2)] := hl
  refine lv_aload_n hx hb dX3_tellThing_0 rfl (lv_at hl 0 rfl) ?_
  refine lv_iload_n hx hb dX3_tellThing_1 rfl (lv_at hl 1 rfl) ?_
  have hPr := (hR0).sub (ws' := [(rm, .inr (5, [.ref lk, .ref th, .ref pl, .ref gm, .int 2, .int 10, .int 0, .int 0, .int 1, .int 0, .int 0, .int 0]))]) [0] rfl
  have hPc := hP.sub (ws' := []) [] rfl
  have hDc := hD.sub (ws' := []) [] (by decide) rfl
  have hKc := hK.sub (tys' := []) [] rfl
  have hFc := va_free (wc := []) hD hS hA [] rfl
  refine va_calli (va_runV (As := [.int 2]) (rest := []) ⟨hx, hb, hml, hown, hts⟩ (cz_QhasThing_2 l dC dI ed s.heap.size rm lk th pl gm) (cwV 1 hts gX3_tellThing_X3_hasThing rfl rfl rfl (by decide +kernel) ⟨Nat.le_of_ble_eq_true rfl, Nat.le_of_ble_eq_true rfl⟩) ⟨zb_blind, va_recv hK hR0 (ci := 5) (q0 := 0) rfl rfl, fun U hU hW => ⟨rfl, zb_mk hU hW hPr hPc hKc hDc hN hH hS hFc zx_e⟩⟩ rfl rfl hl.1 rfl (lv_room (Nat.le_of_ble_eq_true rfl)) dX3_tellThing_2 ⟨Nat.le_of_ble_eq_true rfl, Nat.le_of_ble_eq_true rfl⟩) hS (fun q _ h => hFc q h) hFc (fun r2 u t H1 locs ht hvm hw hB hz1 hk1 hS => ?_)
  obtain rfl : r2 = 1 := hw
  have hP := zo_K hP hk1
  refine lv_if_ne (tgt := 10) hx hb dX3_tellThing_5 (by decide) (fun _ => ?_) (fun h => absurd h (by decide))
  refine lv_aload_n hx hb dX3_tellThing_10 rfl (lv_at hl 0 rfl) ?_
  refine va_get (D := (dC, dI)) (ci := 5) (v := .ref th) (C := RX3) (T := TX3) (N := 12) hx hb hts zi_X3_tellThing_X3 hown hK (zo_R hR0 hS hAr) 0 rfl rfl 1 (by decide) (hts (.fieldLink RX3 19 "LockRooms$Room" "things" "[LLockRooms$Thing;") (by decide +kernel)) (fun _ h9 => h9) rfl dX3_tellThing_11 ?_
  refine lv_iload_n hx hb dX3_tellThing_14 rfl (lv_at hl 1 rfl) ?_
  refine va_aldq hx hb hK (zo_R hR0 hS hAr) 1 0 rfl rfl (by unfold vp_in; decide) dX3_tellThing_15 ?_
  refine zo_q (v := .ref t2) (by rw [show Int32.toNatClampNeg 2 = 2 from by decide, hkt2]; rfl) ?_
  refine lv_astore_n (lv' := [(3, .ref t2), (0, .ref rm), (1, .int 2), (2, .int 2)]) hx hb dX3_tellThing_16 rfl hl (by decide) rfl (fun ls hl => ?_)
  refine lv_iload_n hx hb dX3_tellThing_17 rfl (lv_at hl 3 rfl) ?_
  refine lv_tableIn (off := 44) (tgt := 62) hx hb dX3_tellThing_18 (by decide) (by decide) rfl (by decide) ?_
  refine lv_aload_n hx hb dX3_tellThing_62 rfl (lv_at hl 0 rfl) ?_
  refine va_get (D := (dC, dI)) (ci := 7) (v := .int 0) (C := RX5) (T := TX5) (N := 5) hx hb hts zi_X3_tellThing_X5 hown hK (zo_R hR0 hS hAr) 2 rfl rfl 2 (by decide) (hts (.fieldLink RX3 207 "LockRooms$Thing" "searched" "I") (by decide +kernel)) (fun _ h9 => h9) rfl dX3_tellThing_63 ?_
  refine W.widen (k := 0) (n := 0) (Nat.le_of_ble_eq_true rfl) (Nat.le_of_ble_eq_true rfl) ?_
  exact W.iret hx hb hr (fun t ht hW => ⟨⟨0, (), rfl, rfl, trivial⟩, hS.F ht⟩) hS.2.2 dX3_tellThing_66
set_option maxHeartbeats 4000000 in
set_option maxRecDepth 100000 in
theorem cz_QtellThing_2_3 (l : Launch) (dC : Nat → ClassId) (dI : Nat → Nat → Nat) (ed sz : Nat) (rm : Nat) (lk : Nat) (th : Nat) (pl : Nat) (gm : Nat) (cT : ClassId) (ft : Nat → Option Nat) (t2 : Nat) (hkt2 : ft 2 = some t2) : Met l yX3_tellThing wsX3_tellThing ({ frames := 1, cells := 0, slots := 0, locals := 21 } : Jvm.Room) (va_Pc [.ref rm, .int 2, .int 3] (zB dC dI ed sz [(rm, .inr (5, [.ref lk, .ref th, .ref pl, .ref gm, .int 2, .int 10, .int 0, .int 0, .int 1, .int 0, .int 0, .int 0])), (th, .inl (cT, 12, .inr (.inr (.inr (.inr ft))))), (t2, .inr (7, [.int (-1), .int 0, .int 0, .int 0, .int 0]))] [] [(cT, .object "LockRooms$Thing")])) (va_Qi (fun (r : Int32) (_ : Unit) => r = 0) (fun (_ : Unit) (_ : State) => True) (va_A [] sz)) 0 0 (va_A [] sz) := by
  refine Met.ofW (cc := cX3_tellThing) (maxL := 4) (ret := (some .int)) (by decide) rfl ?_
  intro p e s m args below meth c s₁ B hml hv
  obtain ⟨rfl, hsz, hR0, hP, hK, hD0, hN, hH, hX0⟩ := hv
  have hx := B.exec
  have hb := B.bytes
  have hr := B.returns
  have hts := atoms_spec (ws := wsX3_tellThing) B.pre
  have hown : s.vm.findClass RX3 = some m.cls := findClass_of_methodNamed B.named
  have hlocks := B.notSynchronized
  subst hsz
  have hD := hD0.self (sz := s.heap.size)
  have hAr := zx_A hX0 hR0
  generalize hAe : va_A [] s.heap.size = A at hD hAr hH ⊢
  have hA : ∀ q : Nat, s.heap.size ≤ q → A q := fun q h => by rw [← hAe]; exact Or.inr h
  have hS : va_S A s.heap s.heap [] := va_S.rf
  have hl := lv_entry ([.ref rm, .int 2, .int 3]) (n := 4) (Nat.le_of_ble_eq_true rfl)
  rw [lg_entry_eq]
  generalize (lg_sl ([.ref rm, .int 2, .int 3]) ++ List.replicate (4 - (lg_sl ([.ref rm, .int 2, .int 3])).length) Slot.unset).toArray = ls at hl ⊢
  have hl : lv_has ls 4 [(0, .ref rm), (1, .int 2), (2, .int 3)] := hl
  refine lv_aload_n hx hb dX3_tellThing_0 rfl (lv_at hl 0 rfl) ?_
  refine lv_iload_n hx hb dX3_tellThing_1 rfl (lv_at hl 1 rfl) ?_
  have hPr := (hR0).sub (ws' := [(rm, .inr (5, [.ref lk, .ref th, .ref pl, .ref gm, .int 2, .int 10, .int 0, .int 0, .int 1, .int 0, .int 0, .int 0]))]) [0] rfl
  have hPc := hP.sub (ws' := []) [] rfl
  have hDc := hD.sub (ws' := []) [] (by decide) rfl
  have hKc := hK.sub (tys' := []) [] rfl
  have hFc := va_free (wc := []) hD hS hA [] rfl
  refine va_calli (va_runV (As := [.int 2]) (rest := []) ⟨hx, hb, hml, hown, hts⟩ (cz_QhasThing_2 l dC dI ed s.heap.size rm lk th pl gm) (cwV 1 hts gX3_tellThing_X3_hasThing rfl rfl rfl (by decide +kernel) ⟨Nat.le_of_ble_eq_true rfl, Nat.le_of_ble_eq_true rfl⟩) ⟨zb_blind, va_recv hK hR0 (ci := 5) (q0 := 0) rfl rfl, fun U hU hW => ⟨rfl, zb_mk hU hW hPr hPc hKc hDc hN hH hS hFc zx_e⟩⟩ rfl rfl hl.1 rfl (lv_room (Nat.le_of_ble_eq_true rfl)) dX3_tellThing_2 ⟨Nat.le_of_ble_eq_true rfl, Nat.le_of_ble_eq_true rfl⟩) hS (fun q _ h => hFc q h) hFc (fun r2 u t H1 locs ht hvm hw hB hz1 hk1 hS => ?_)
  obtain rfl : r2 = 1 := hw
  have hP := zo_K hP hk1
  refine lv_if_ne (tgt := 10) hx hb dX3_tellThing_5 (by decide) (fun _ => ?_) (fun h => absurd h (by decide))
  refine lv_aload_n hx hb dX3_tellThing_10 rfl (lv_at hl 0 rfl) ?_
  refine va_get (D := (dC, dI)) (ci := 5) (v := .ref th) (C := RX3) (T := TX3) (N := 12) hx hb hts zi_X3_tellThing_X3 hown hK (zo_R hR0 hS hAr) 0 rfl rfl 1 (by decide) (hts (.fieldLink RX3 19 "LockRooms$Room" "things" "[LLockRooms$Thing;") (by decide +kernel)) (fun _ h9 => h9) rfl dX3_tellThing_11 ?_
  refine lv_iload_n hx hb dX3_tellThing_14 rfl (lv_at hl 1 rfl) ?_
  refine va_aldq hx hb hK (zo_R hR0 hS hAr) 1 0 rfl rfl (by unfold vp_in; decide) dX3_tellThing_15 ?_
  refine zo_q (v := .ref t2) (by rw [show Int32.toNatClampNeg 2 = 2 from by decide, hkt2]; rfl) ?_
  refine lv_astore_n (lv' := [(3, .ref t2), (0, .ref rm), (1, .int 2), (2, .int 3)]) hx hb dX3_tellThing_16 rfl hl (by decide) rfl (fun ls hl => ?_)
  refine lv_iload_n hx hb dX3_tellThing_17 rfl (lv_at hl 3 rfl) ?_
  refine lv_tableIn (off := 49) (tgt := 67) hx hb dX3_tellThing_18 (by decide) (by decide) rfl (by decide) ?_
  refine lv_aload_n hx hb dX3_tellThing_67 rfl (lv_at hl 0 rfl) ?_
  refine va_get (D := (dC, dI)) (ci := 7) (v := .int 0) (C := RX5) (T := TX5) (N := 5) hx hb hts zi_X3_tellThing_X5 hown hK (zo_R hR0 hS hAr) 2 rfl rfl 3 (by decide) (hts (.fieldLink RX3 115 "LockRooms$Thing" "state" "I") (by decide +kernel)) (fun _ h9 => h9) rfl dX3_tellThing_68 ?_
  refine W.widen (k := 0) (n := 0) (Nat.le_of_ble_eq_true rfl) (Nat.le_of_ble_eq_true rfl) ?_
  exact W.iret hx hb hr (fun t ht hW => ⟨⟨0, (), rfl, rfl, trivial⟩, hS.F ht⟩) hS.2.2 dX3_tellThing_71
set_option maxHeartbeats 4000000 in
set_option maxRecDepth 100000 in
theorem cz_QtellThing_2_4 (l : Launch) (dC : Nat → ClassId) (dI : Nat → Nat → Nat) (ed sz : Nat) (rm : Nat) (lk : Nat) (th : Nat) (pl : Nat) (gm : Nat) (cT : ClassId) (ft : Nat → Option Nat) (t2 : Nat) (cL : ClassId) (fl : Nat → Option Nat) (l0 : Nat) (l1 : Nat) (hkt2 : ft 2 = some t2) (hkl0 : fl 0 = some l0) (hkl1 : fl 1 = some l1) : Met l yX3_tellThing wsX3_tellThing ({ frames := 1, cells := 0, slots := 0, locals := 22 } : Jvm.Room) (va_Pc [.ref rm, .int 2, .int 4] (zB dC dI ed sz [(rm, .inr (5, [.ref lk, .ref th, .ref pl, .ref gm, .int 2, .int 10, .int 0, .int 0, .int 1, .int 0, .int 0, .int 0])), (th, .inl (cT, 12, .inr (.inr (.inr (.inr ft))))), (t2, .inr (7, [.int (-1), .int 0, .int 0, .int 0, .int 0])), (lk, .inl (cL, 10, .inr (.inr (.inr (.inr fl))))), (l0, .inr (3, [.int 0, .int 0, .int 60, .int 0, .int 0, .int 0, .int 0, .int 0, .int 0, .int 0])), (l1, .inr (3, [.int 0, .int 0, .int 60, .int 0, .int 0, .int 0, .int 0, .int 0, .int 0, .int 0]))] [] [(cT, .object "LockRooms$Thing"), (cL, .object "LockRooms$Lock")])) (va_Qi (fun (r : Int32) (_ : Unit) => r = 1) (fun (_ : Unit) (_ : State) => True) (va_A [] sz)) 0 0 (va_A [] sz) := by
  refine Met.ofW (cc := cX3_tellThing) (maxL := 4) (ret := (some .int)) (by decide) rfl ?_
  intro p e s m args below meth c s₁ B hml hv
  obtain ⟨rfl, hsz, hR0, hP, hK, hD0, hN, hH, hX0⟩ := hv
  have hx := B.exec
  have hb := B.bytes
  have hr := B.returns
  have hts := atoms_spec (ws := wsX3_tellThing) B.pre
  have hown : s.vm.findClass RX3 = some m.cls := findClass_of_methodNamed B.named
  have hlocks := B.notSynchronized
  subst hsz
  have hD := hD0.self (sz := s.heap.size)
  have hAr := zx_A hX0 hR0
  generalize hAe : va_A [] s.heap.size = A at hD hAr hH ⊢
  have hA : ∀ q : Nat, s.heap.size ≤ q → A q := fun q h => by rw [← hAe]; exact Or.inr h
  have hS : va_S A s.heap s.heap [] := va_S.rf
  have hl := lv_entry ([.ref rm, .int 2, .int 4]) (n := 4) (Nat.le_of_ble_eq_true rfl)
  rw [lg_entry_eq]
  generalize (lg_sl ([.ref rm, .int 2, .int 4]) ++ List.replicate (4 - (lg_sl ([.ref rm, .int 2, .int 4])).length) Slot.unset).toArray = ls at hl ⊢
  have hl : lv_has ls 4 [(0, .ref rm), (1, .int 2), (2, .int 4)] := hl
  refine lv_aload_n hx hb dX3_tellThing_0 rfl (lv_at hl 0 rfl) ?_
  refine lv_iload_n hx hb dX3_tellThing_1 rfl (lv_at hl 1 rfl) ?_
  have hPr := (hR0).sub (ws' := [(rm, .inr (5, [.ref lk, .ref th, .ref pl, .ref gm, .int 2, .int 10, .int 0, .int 0, .int 1, .int 0, .int 0, .int 0]))]) [0] rfl
  have hPc := hP.sub (ws' := []) [] rfl
  have hDc := hD.sub (ws' := []) [] (by decide) rfl
  have hKc := hK.sub (tys' := []) [] rfl
  have hFc := va_free (wc := []) hD hS hA [] rfl
  refine va_calli (va_runV (As := [.int 2]) (rest := []) ⟨hx, hb, hml, hown, hts⟩ (cz_QhasThing_2 l dC dI ed s.heap.size rm lk th pl gm) (cwV 1 hts gX3_tellThing_X3_hasThing rfl rfl rfl (by decide +kernel) ⟨Nat.le_of_ble_eq_true rfl, Nat.le_of_ble_eq_true rfl⟩) ⟨zb_blind, va_recv hK hR0 (ci := 5) (q0 := 0) rfl rfl, fun U hU hW => ⟨rfl, zb_mk hU hW hPr hPc hKc hDc hN hH hS hFc zx_e⟩⟩ rfl rfl hl.1 rfl (lv_room (Nat.le_of_ble_eq_true rfl)) dX3_tellThing_2 ⟨Nat.le_of_ble_eq_true rfl, Nat.le_of_ble_eq_true rfl⟩) hS (fun q _ h => hFc q h) hFc (fun r2 u t H1 locs ht hvm hw hB hz1 hk1 hS => ?_)
  obtain rfl : r2 = 1 := hw
  have hP := zo_K hP hk1
  refine lv_if_ne (tgt := 10) hx hb dX3_tellThing_5 (by decide) (fun _ => ?_) (fun h => absurd h (by decide))
  refine lv_aload_n hx hb dX3_tellThing_10 rfl (lv_at hl 0 rfl) ?_
  refine va_get (D := (dC, dI)) (ci := 5) (v := .ref th) (C := RX3) (T := TX3) (N := 12) hx hb hts zi_X3_tellThing_X3 hown hK (zo_R hR0 hS hAr) 0 rfl rfl 1 (by decide) (hts (.fieldLink RX3 19 "LockRooms$Room" "things" "[LLockRooms$Thing;") (by decide +kernel)) (fun _ h9 => h9) rfl dX3_tellThing_11 ?_
  refine lv_iload_n hx hb dX3_tellThing_14 rfl (lv_at hl 1 rfl) ?_
  refine va_aldq hx hb hK (zo_R hR0 hS hAr) 1 0 rfl rfl (by unfold vp_in; decide) dX3_tellThing_15 ?_
  refine zo_q (v := .ref t2) (by rw [show Int32.toNatClampNeg 2 = 2 from by decide, hkt2]; rfl) ?_
  refine lv_astore_n (lv' := [(3, .ref t2), (0, .ref rm), (1, .int 2), (2, .int 4)]) hx hb dX3_tellThing_16 rfl hl (by decide) rfl (fun ls hl => ?_)
  refine lv_iload_n hx hb dX3_tellThing_17 rfl (lv_at hl 3 rfl) ?_
  refine lv_tableIn (off := 54) (tgt := 72) hx hb dX3_tellThing_18 (by decide) (by decide) rfl (by decide) ?_
  refine lv_aload_n hx hb dX3_tellThing_72 rfl (lv_at hl 0 rfl) ?_
  refine lv_aload_n hx hb dX3_tellThing_73 rfl (lv_at hl 1 rfl) ?_
  have hPr := ((zo_R hR0 hS hAr)).sub (ws' := [(rm, .inr (5, [.ref lk, .ref th, .ref pl, .ref gm, .int 2, .int 10, .int 0, .int 0, .int 1, .int 0, .int 0, .int 0])), (lk, .inl (cL, 10, .inr (.inr (.inr (.inr fl))))), (l0, .inr (3, [.int 0, .int 0, .int 60, .int 0, .int 0, .int 0, .int 0, .int 0, .int 0, .int 0])), (l1, .inr (3, [.int 0, .int 0, .int 60, .int 0, .int 0, .int 0, .int 0, .int 0, .int 0, .int 0]))]) [0, 3, 4, 5] rfl
  have hPc := hP.sub (ws' := []) [] rfl
  have hDc := hD.sub (ws' := []) [] (by decide) rfl
  have hKc := hK.sub (tys' := [(cL, .object "LockRooms$Lock")]) [1] rfl
  have hFc := va_free (wc := []) hD hS hA [] rfl
  refine va_calli (va_runV (As := []) (rest := [.ref t2]) ⟨hx, hb, hml, hown, hts⟩ (cz_QopenLocks l dC dI ed H1.size rm lk th pl gm cL fl l0 l1 hkl0 hkl1) (cwV 0 hts gX3_tellThing_X3_openLocks rfl rfl rfl (by decide +kernel) ⟨Nat.le_of_ble_eq_true rfl, Nat.le_of_ble_eq_true rfl⟩) ⟨zb_blind, va_recv hK (zo_R hR0 hS hAr) (ci := 5) (q0 := 0) rfl rfl, fun U hU hW => ⟨rfl, zb_mk hU hW hPr hPc hKc hDc hN hH hS hFc zx_e⟩⟩ rfl rfl hl.1 rfl (lv_room (Nat.le_of_ble_eq_true rfl)) dX3_tellThing_74 ⟨Nat.le_of_ble_eq_true rfl, Nat.le_of_ble_eq_true rfl⟩) hS (fun q _ h => hFc q h) hFc (fun r4 u t H3 locs ht hvm hw hB hz1 hk1 hS => ?_)
  obtain rfl : r4 = 0 := hw
  have hP := zo_K hP hk1
  have hPr := ((zo_R hR0 hS hAr)).sub (ws' := [(t2, .inr (7, [.int (-1), .int 0, .int 0, .int 0, .int 0]))]) [2] rfl
  have hPc := hP.sub (ws' := []) [] rfl
  have hDc := hD.sub (ws' := []) [] (by decide) rfl
  have hKc := hK.sub (tys' := []) [] rfl
  have hFc := va_free (wc := []) hD hS hA [] rfl
  refine va_calli (va_runV (As := [.int 0]) (rest := []) ⟨hx, hb, hml, hown, hts⟩ (cz_QcanBeReached l dC dI ed H3.size t2 0) (cwV 1 hts gX3_tellThing_X5_canBeReached rfl rfl rfl (by decide +kernel) ⟨Nat.le_of_ble_eq_true rfl, Nat.le_of_ble_eq_true rfl⟩) ⟨zb_blind, va_recv hK (zo_R hR0 hS hAr) (ci := 7) (q0 := 2) rfl rfl, fun U hU hW => ⟨rfl, zb_mk hU hW hPr hPc hKc hDc hN hH hS hFc zx_e⟩⟩ rfl rfl hl.1 rfl (lv_room (Nat.le_of_ble_eq_true rfl)) dX3_tellThing_77 ⟨Nat.le_of_ble_eq_true rfl, Nat.le_of_ble_eq_true rfl⟩) hS (fun q _ h => hFc q h) hFc (fun r6 u t H5 locs ht hvm hw hB hz1 hk1 hS => ?_)
  obtain rfl : r6 = 1 := hw
  have hP := zo_K hP hk1
  have hPr := (zo_nil : va_P (dC, dI) vwCl [] H5)
  have hPc := hP.sub (ws' := []) [] rfl
  have hDc := hD.sub (ws' := []) [] (by decide) rfl
  have hKc := hK.sub (tys' := []) [] rfl
  have hFc := va_free (wc := []) hD hS hA [] rfl
  refine va_calli (va_runSN (As := [.int 1]) (rest := []) ⟨hx, hb, hml, hown, hts⟩ (cz_oneIf_1 l dC dI ed H5.size ) ⟨(va_cnB 1 hts gX3_tellThing_X6_oneIf_n147 rfl rfl rfl (hN.2.1 ("LockRooms$Room", 147, yX6_oneIf, "LockRooms") (List.mem_of_getElem? (i := 8) rfl)) (hts (.initialized RX6) (by decide +kernel)) (by decide +kernel) ⟨Nat.le_of_ble_eq_true rfl, Nat.le_of_ble_eq_true rfl⟩), (hts (.static yX6_oneIf) (by decide +kernel)), trivial⟩ ⟨zb_blind, fun U hU hW => ⟨rfl, zb_mk hU hW hPr hPc hKc hDc hN hH hS hFc zx_e⟩⟩ rfl rfl hl.1 rfl (lv_room (Nat.le_of_ble_eq_true rfl)) dX3_tellThing_80 ⟨Nat.le_of_ble_eq_true rfl, Nat.le_of_ble_eq_true rfl⟩) hS (fun q _ h => hFc q h) hFc (fun r8 u t H7 locs ht hvm hw hB hz1 hk1 hS => ?_)
  obtain rfl : r8 = 1 := hw
  have hP := zo_K hP hk1
  refine W.widen (k := 0) (n := 0) (Nat.le_of_ble_eq_true rfl) (Nat.le_of_ble_eq_true rfl) ?_
  exact W.iret hx hb hr (fun t ht hW => ⟨⟨1, (), rfl, rfl, trivial⟩, hS.F ht⟩) hS.2.2 dX3_tellThing_83
set_option maxHeartbeats 4000000 in
set_option maxRecDepth 100000 in
theorem cz_QtellThing_2_5 (l : Launch) (dC : Nat → ClassId) (dI : Nat → Nat → Nat) (ed sz : Nat) (rm : Nat) (lk : Nat) (th : Nat) (pl : Nat) (gm : Nat) (cT : ClassId) (ft : Nat → Option Nat) (t2 : Nat) (cL : ClassId) (fl : Nat → Option Nat) (l0 : Nat) (l1 : Nat) (hkt2 : ft 2 = some t2) (hkl0 : fl 0 = some l0) (hkl1 : fl 1 = some l1) : Met l yX3_tellThing wsX3_tellThing ({ frames := 2, cells := 0, slots := 0, locals := 44 } : Jvm.Room) (va_Pc [.ref rm, .int 2, .int 5] (zB dC dI ed sz [(rm, .inr (5, [.ref lk, .ref th, .ref pl, .ref gm, .int 2, .int 10, .int 0, .int 0, .int 1, .int 0, .int 0, .int 0])), (th, .inl (cT, 12, .inr (.inr (.inr (.inr ft))))), (t2, .inr (7, [.int (-1), .int 0, .int 0, .int 0, .int 0])), (lk, .inl (cL, 10, .inr (.inr (.inr (.inr fl))))), (l0, .inr (3, [.int 0, .int 0, .int 60, .int 0, .int 0, .int 0, .int 0, .int 0, .int 0, .int 0])), (l1, .inr (3, [.int 0, .int 0, .int 60, .int 0, .int 0, .int 0, .int 0, .int 0, .int 0, .int 0]))] [] [(cT, .object "LockRooms$Thing"), (cL, .object "LockRooms$Lock")])) (va_Qi (fun (r : Int32) (_ : Unit) => r = 0) (fun (_ : Unit) (_ : State) => True) (va_A [] sz)) 0 0 (va_A [] sz) := by
  refine Met.ofW (cc := cX3_tellThing) (maxL := 4) (ret := (some .int)) (by decide) rfl ?_
  intro p e s m args below meth c s₁ B hml hv
  obtain ⟨rfl, hsz, hR0, hP, hK, hD0, hN, hH, hX0⟩ := hv
  have hx := B.exec
  have hb := B.bytes
  have hr := B.returns
  have hts := atoms_spec (ws := wsX3_tellThing) B.pre
  have hown : s.vm.findClass RX3 = some m.cls := findClass_of_methodNamed B.named
  have hlocks := B.notSynchronized
  subst hsz
  have hD := hD0.self (sz := s.heap.size)
  have hAr := zx_A hX0 hR0
  generalize hAe : va_A [] s.heap.size = A at hD hAr hH ⊢
  have hA : ∀ q : Nat, s.heap.size ≤ q → A q := fun q h => by rw [← hAe]; exact Or.inr h
  have hS : va_S A s.heap s.heap [] := va_S.rf
  have hl := lv_entry ([.ref rm, .int 2, .int 5]) (n := 4) (Nat.le_of_ble_eq_true rfl)
  rw [lg_entry_eq]
  generalize (lg_sl ([.ref rm, .int 2, .int 5]) ++ List.replicate (4 - (lg_sl ([.ref rm, .int 2, .int 5])).length) Slot.unset).toArray = ls at hl ⊢
  have hl : lv_has ls 4 [(0, .ref rm), (1, .int 2), (2, .int 5)] := hl
  refine lv_aload_n hx hb dX3_tellThing_0 rfl (lv_at hl 0 rfl) ?_
  refine lv_iload_n hx hb dX3_tellThing_1 rfl (lv_at hl 1 rfl) ?_
  have hPr := (hR0).sub (ws' := [(rm, .inr (5, [.ref lk, .ref th, .ref pl, .ref gm, .int 2, .int 10, .int 0, .int 0, .int 1, .int 0, .int 0, .int 0]))]) [0] rfl
  have hPc := hP.sub (ws' := []) [] rfl
  have hDc := hD.sub (ws' := []) [] (by decide) rfl
  have hKc := hK.sub (tys' := []) [] rfl
  have hFc := va_free (wc := []) hD hS hA [] rfl
  refine va_calli (va_runV (As := [.int 2]) (rest := []) ⟨hx, hb, hml, hown, hts⟩ (cz_QhasThing_2 l dC dI ed s.heap.size rm lk th pl gm) (cwV 1 hts gX3_tellThing_X3_hasThing rfl rfl rfl (by decide +kernel) ⟨Nat.le_of_ble_eq_true rfl, Nat.le_of_ble_eq_true rfl⟩) ⟨zb_blind, va_recv hK hR0 (ci := 5) (q0 := 0) rfl rfl, fun U hU hW => ⟨rfl, zb_mk hU hW hPr hPc hKc hDc hN hH hS hFc zx_e⟩⟩ rfl rfl hl.1 rfl (lv_room (Nat.le_of_ble_eq_true rfl)) dX3_tellThing_2 ⟨Nat.le_of_ble_eq_true rfl, Nat.le_of_ble_eq_true rfl⟩) hS (fun q _ h => hFc q h) hFc (fun r2 u t H1 locs ht hvm hw hB hz1 hk1 hS => ?_)
  obtain rfl : r2 = 1 := hw
  have hP := zo_K hP hk1
  refine lv_if_ne (tgt := 10) hx hb dX3_tellThing_5 (by decide) (fun _ => ?_) (fun h => absurd h (by decide))
  refine lv_aload_n hx hb dX3_tellThing_10 rfl (lv_at hl 0 rfl) ?_
  refine va_get (D := (dC, dI)) (ci := 5) (v := .ref th) (C := RX3) (T := TX3) (N := 12) hx hb hts zi_X3_tellThing_X3 hown hK (zo_R hR0 hS hAr) 0 rfl rfl 1 (by decide) (hts (.fieldLink RX3 19 "LockRooms$Room" "things" "[LLockRooms$Thing;") (by decide +kernel)) (fun _ h9 => h9) rfl dX3_tellThing_11 ?_
  refine lv_iload_n hx hb dX3_tellThing_14 rfl (lv_at hl 1 rfl) ?_
  refine va_aldq hx hb hK (zo_R hR0 hS hAr) 1 0 rfl rfl (by unfold vp_in; decide) dX3_tellThing_15 ?_
  refine zo_q (v := .ref t2) (by rw [show Int32.toNatClampNeg 2 = 2 from by decide, hkt2]; rfl) ?_
  refine lv_astore_n (lv' := [(3, .ref t2), (0, .ref rm), (1, .int 2), (2, .int 5)]) hx hb dX3_tellThing_16 rfl hl (by decide) rfl (fun ls hl => ?_)
  refine lv_iload_n hx hb dX3_tellThing_17 rfl (lv_at hl 3 rfl) ?_
  refine lv_tableOut (tgt := 84) hx hb dX3_tellThing_18 (by decide) (by decide) ?_
  refine lv_aload_n hx hb dX3_tellThing_84 rfl (lv_at hl 1 rfl) ?_
  refine lv_iload_n hx hb dX3_tellThing_85 rfl (lv_at hl 2 rfl) ?_
  have hPr := ((zo_R hR0 hS hAr)).sub (ws' := [(rm, .inr (5, [.ref lk, .ref th, .ref pl, .ref gm, .int 2, .int 10, .int 0, .int 0, .int 1, .int 0, .int 0, .int 0])), (lk, .inl (cL, 10, .inr (.inr (.inr (.inr fl))))), (l0, .inr (3, [.int 0, .int 0, .int 60, .int 0, .int 0, .int 0, .int 0, .int 0, .int 0, .int 0])), (l1, .inr (3, [.int 0, .int 0, .int 60, .int 0, .int 0, .int 0, .int 0, .int 0, .int 0, .int 0]))]) [0, 3, 4, 5] rfl
  have hPc := hP.sub (ws' := []) [] rfl
  have hDc := hD.sub (ws' := []) [] (by decide) rfl
  have hKc := hK.sub (tys' := [(cL, .object "LockRooms$Lock")]) [1] rfl
  have hFc := va_free (wc := []) hD hS hA [] rfl
  refine va_calli (va_runV (As := [.int 2]) (rest := []) ⟨hx, hb, hml, hown, hts⟩ (cz_QlocksThatNeed_2 l dC dI ed H1.size rm lk th pl gm cL fl l0 l1 hkl0 hkl1) (cwV 1 hts gX3_tellThing_X3_locksThatNeed rfl rfl rfl (by decide +kernel) ⟨Nat.le_of_ble_eq_true rfl, Nat.le_of_ble_eq_true rfl⟩) ⟨zb_blind, va_recv hK (zo_R hR0 hS hAr) (ci := 5) (q0 := 0) rfl rfl, fun U hU hW => ⟨rfl, zb_mk hU hW hPr hPc hKc hDc hN hH hS hFc zx_e⟩⟩ rfl rfl hl.1 rfl (lv_room (Nat.le_of_ble_eq_true rfl)) dX3_tellThing_86 ⟨Nat.le_of_ble_eq_true rfl, Nat.le_of_ble_eq_true rfl⟩) hS (fun q _ h => hFc q h) hFc (fun r4 u t H3 locs ht hvm hw hB hz1 hk1 hS => ?_)
  obtain rfl : r4 = 0 := hw
  have hP := zo_K hP hk1
  refine W.widen (k := 0) (n := 0) (Nat.le_of_ble_eq_true rfl) (Nat.le_of_ble_eq_true rfl) ?_
  exact W.iret hx hb hr (fun t ht hW => ⟨⟨0, (), rfl, rfl, trivial⟩, hS.F ht⟩) hS.2.2 dX3_tellThing_89
set_option maxHeartbeats 4000000 in
set_option maxRecDepth 100000 in
theorem cz_QtellThing_3_0 (l : Launch) (dC : Nat → ClassId) (dI : Nat → Nat → Nat) (ed sz : Nat) (rm : Nat) (lk : Nat) (th : Nat) (pl : Nat) (gm : Nat) (cT : ClassId) (ft : Nat → Option Nat) (t3 : Nat) (hkt3 : ft 3 = some t3) : Met l yX3_tellThing wsX3_tellThing ({ frames := 1, cells := 0, slots := 0, locals := 21 } : Jvm.Room) (va_Pc [.ref rm, .int 3, .int 0] (zB dC dI ed sz [(rm, .inr (5, [.ref lk, .ref th, .ref pl, .ref gm, .int 2, .int 10, .int 0, .int 0, .int 1, .int 0, .int 0, .int 0])), (th, .inl (cT, 12, .inr (.inr (.inr (.inr ft))))), (t3, .inr (7, [.int (-1), .int 0, .int 0, .int 0, .int 0]))] [] [(cT, .object "LockRooms$Thing")])) (va_Qi (fun (r : Int32) (_ : Unit) => r = (-1)) (fun (_ : Unit) (_ : State) => True) (va_A [] sz)) 0 0 (va_A [] sz) := by
  refine Met.ofW (cc := cX3_tellThing) (maxL := 4) (ret := (some .int)) (by decide) rfl ?_
  intro p e s m args below meth c s₁ B hml hv
  obtain ⟨rfl, hsz, hR0, hP, hK, hD0, hN, hH, hX0⟩ := hv
  have hx := B.exec
  have hb := B.bytes
  have hr := B.returns
  have hts := atoms_spec (ws := wsX3_tellThing) B.pre
  have hown : s.vm.findClass RX3 = some m.cls := findClass_of_methodNamed B.named
  have hlocks := B.notSynchronized
  subst hsz
  have hD := hD0.self (sz := s.heap.size)
  have hAr := zx_A hX0 hR0
  generalize hAe : va_A [] s.heap.size = A at hD hAr hH ⊢
  have hA : ∀ q : Nat, s.heap.size ≤ q → A q := fun q h => by rw [← hAe]; exact Or.inr h
  have hS : va_S A s.heap s.heap [] := va_S.rf
  have hl := lv_entry ([.ref rm, .int 3, .int 0]) (n := 4) (Nat.le_of_ble_eq_true rfl)
  rw [lg_entry_eq]
  generalize (lg_sl ([.ref rm, .int 3, .int 0]) ++ List.replicate (4 - (lg_sl ([.ref rm, .int 3, .int 0])).length) Slot.unset).toArray = ls at hl ⊢
  have hl : lv_has ls 4 [(0, .ref rm), (1, .int 3), (2, .int 0)] := hl
  refine lv_aload_n hx hb dX3_tellThing_0 rfl (lv_at hl 0 rfl) ?_
  refine lv_iload_n hx hb dX3_tellThing_1 rfl (lv_at hl 1 rfl) ?_
  have hPr := (hR0).sub (ws' := [(rm, .inr (5, [.ref lk, .ref th, .ref pl, .ref gm, .int 2, .int 10, .int 0, .int 0, .int 1, .int 0, .int 0, .int 0]))]) [0] rfl
  have hPc := hP.sub (ws' := []) [] rfl
  have hDc := hD.sub (ws' := []) [] (by decide) rfl
  have hKc := hK.sub (tys' := []) [] rfl
  have hFc := va_free (wc := []) hD hS hA [] rfl
  refine va_calli (va_runV (As := [.int 3]) (rest := []) ⟨hx, hb, hml, hown, hts⟩ (cz_QhasThing_3 l dC dI ed s.heap.size rm lk th pl gm) (cwV 1 hts gX3_tellThing_X3_hasThing rfl rfl rfl (by decide +kernel) ⟨Nat.le_of_ble_eq_true rfl, Nat.le_of_ble_eq_true rfl⟩) ⟨zb_blind, va_recv hK hR0 (ci := 5) (q0 := 0) rfl rfl, fun U hU hW => ⟨rfl, zb_mk hU hW hPr hPc hKc hDc hN hH hS hFc zx_e⟩⟩ rfl rfl hl.1 rfl (lv_room (Nat.le_of_ble_eq_true rfl)) dX3_tellThing_2 ⟨Nat.le_of_ble_eq_true rfl, Nat.le_of_ble_eq_true rfl⟩) hS (fun q _ h => hFc q h) hFc (fun r2 u t H1 locs ht hvm hw hB hz1 hk1 hS => ?_)
  obtain rfl : r2 = 1 := hw
  have hP := zo_K hP hk1
  refine lv_if_ne (tgt := 10) hx hb dX3_tellThing_5 (by decide) (fun _ => ?_) (fun h => absurd h (by decide))
  refine lv_aload_n hx hb dX3_tellThing_10 rfl (lv_at hl 0 rfl) ?_
  refine va_get (D := (dC, dI)) (ci := 5) (v := .ref th) (C := RX3) (T := TX3) (N := 12) hx hb hts zi_X3_tellThing_X3 hown hK (zo_R hR0 hS hAr) 0 rfl rfl 1 (by decide) (hts (.fieldLink RX3 19 "LockRooms$Room" "things" "[LLockRooms$Thing;") (by decide +kernel)) (fun _ h9 => h9) rfl dX3_tellThing_11 ?_
  refine lv_iload_n hx hb dX3_tellThing_14 rfl (lv_at hl 1 rfl) ?_
  refine va_aldq hx hb hK (zo_R hR0 hS hAr) 1 0 rfl rfl (by unfold vp_in; decide) dX3_tellThing_15 ?_
  refine zo_q (v := .ref t3) (by rw [show Int32.toNatClampNeg 3 = 3 from by decide, hkt3]; rfl) ?_
  refine lv_astore_n (lv' := [(3, .ref t3), (0, .ref rm), (1, .int 3), (2, .int 0)]) hx hb dX3_tellThing_16 rfl hl (by decide) rfl (fun ls hl => ?_)
  refine lv_iload_n hx hb dX3_tellThing_17 rfl (lv_at hl 3 rfl) ?_
  refine lv_tableIn (off := 34) (tgt := 52) hx hb dX3_tellThing_18 (by decide) (by decide) rfl (by decide) ?_
  refine lv_aload_n hx hb dX3_tellThing_52 rfl (lv_at hl 0 rfl) ?_
  refine va_get (D := (dC, dI)) (ci := 7) (v := .int (-1)) (C := RX5) (T := TX5) (N := 5) hx hb hts zi_X3_tellThing_X5 hown hK (zo_R hR0 hS hAr) 2 rfl rfl 0 (by decide) (hts (.fieldLink RX3 90 "LockRooms$Thing" "place" "I") (by decide +kernel)) (fun _ h9 => h9) rfl dX3_tellThing_53 ?_
  refine W.widen (k := 0) (n := 0) (Nat.le_of_ble_eq_true rfl) (Nat.le_of_ble_eq_true rfl) ?_
  exact W.iret hx hb hr (fun t ht hW => ⟨⟨(-1), (), rfl, rfl, trivial⟩, hS.F ht⟩) hS.2.2 dX3_tellThing_56
set_option maxHeartbeats 4000000 in
set_option maxRecDepth 100000 in
theorem cz_QtellThing_3_1 (l : Launch) (dC : Nat → ClassId) (dI : Nat → Nat → Nat) (ed sz : Nat) (rm : Nat) (lk : Nat) (th : Nat) (pl : Nat) (gm : Nat) (cT : ClassId) (ft : Nat → Option Nat) (t3 : Nat) (hkt3 : ft 3 = some t3) : Met l yX3_tellThing wsX3_tellThing ({ frames := 1, cells := 0, slots := 0, locals := 21 } : Jvm.Room) (va_Pc [.ref rm, .int 3, .int 1] (zB dC dI ed sz [(rm, .inr (5, [.ref lk, .ref th, .ref pl, .ref gm, .int 2, .int 10, .int 0, .int 0, .int 1, .int 0, .int 0, .int 0])), (th, .inl (cT, 12, .inr (.inr (.inr (.inr ft))))), (t3, .inr (7, [.int (-1), .int 0, .int 0, .int 0, .int 0]))] [] [(cT, .object "LockRooms$Thing")])) (va_Qi (fun (r : Int32) (_ : Unit) => r = 0) (fun (_ : Unit) (_ : State) => True) (va_A [] sz)) 0 0 (va_A [] sz) := by
  refine Met.ofW (cc := cX3_tellThing) (maxL := 4) (ret := (some .int)) (by decide) rfl ?_
  intro p e s m args below meth c s₁ B hml hv
  obtain ⟨rfl, hsz, hR0, hP, hK, hD0, hN, hH, hX0⟩ := hv
  have hx := B.exec
  have hb := B.bytes
  have hr := B.returns
  have hts := atoms_spec (ws := wsX3_tellThing) B.pre
  have hown : s.vm.findClass RX3 = some m.cls := findClass_of_methodNamed B.named
  have hlocks := B.notSynchronized
  subst hsz
  have hD := hD0.self (sz := s.heap.size)
  have hAr := zx_A hX0 hR0
  generalize hAe : va_A [] s.heap.size = A at hD hAr hH ⊢
  have hA : ∀ q : Nat, s.heap.size ≤ q → A q := fun q h => by rw [← hAe]; exact Or.inr h
  have hS : va_S A s.heap s.heap [] := va_S.rf
  have hl := lv_entry ([.ref rm, .int 3, .int 1]) (n := 4) (Nat.le_of_ble_eq_true rfl)
  rw [lg_entry_eq]
  generalize (lg_sl ([.ref rm, .int 3, .int 1]) ++ List.replicate (4 - (lg_sl ([.ref rm, .int 3, .int 1])).length) Slot.unset).toArray = ls at hl ⊢
  have hl : lv_has ls 4 [(0, .ref rm), (1, .int 3), (2, .int 1)] := hl
  refine lv_aload_n hx hb dX3_tellThing_0 rfl (lv_at hl 0 rfl) ?_
  refine lv_iload_n hx hb dX3_tellThing_1 rfl (lv_at hl 1 rfl) ?_
  have hPr := (hR0).sub (ws' := [(rm, .inr (5, [.ref lk, .ref th, .ref pl, .ref gm, .int 2, .int 10, .int 0, .int 0, .int 1, .int 0, .int 0, .int 0]))]) [0] rfl
  have hPc := hP.sub (ws' := []) [] rfl
  have hDc := hD.sub (ws' := []) [] (by decide) rfl
  have hKc := hK.sub (tys' := []) [] rfl
  have hFc := va_free (wc := []) hD hS hA [] rfl
  refine va_calli (va_runV (As := [.int 3]) (rest := []) ⟨hx, hb, hml, hown, hts⟩ (cz_QhasThing_3 l dC dI ed s.heap.size rm lk th pl gm) (cwV 1 hts gX3_tellThing_X3_hasThing rfl rfl rfl (by decide +kernel) ⟨Nat.le_of_ble_eq_true rfl, Nat.le_of_ble_eq_true rfl⟩) ⟨zb_blind, va_recv hK hR0 (ci := 5) (q0 := 0) rfl rfl, fun U hU hW => ⟨rfl, zb_mk hU hW hPr hPc hKc hDc hN hH hS hFc zx_e⟩⟩ rfl rfl hl.1 rfl (lv_room (Nat.le_of_ble_eq_true rfl)) dX3_tellThing_2 ⟨Nat.le_of_ble_eq_true rfl, Nat.le_of_ble_eq_true rfl⟩) hS (fun q _ h => hFc q h) hFc (fun r2 u t H1 locs ht hvm hw hB hz1 hk1 hS => ?_)
  obtain rfl : r2 = 1 := hw
  have hP := zo_K hP hk1
  refine lv_if_ne (tgt := 10) hx hb dX3_tellThing_5 (by decide) (fun _ => ?_) (fun h => absurd h (by decide))
  refine lv_aload_n hx hb dX3_tellThing_10 rfl (lv_at hl 0 rfl) ?_
  refine va_get (D := (dC, dI)) (ci := 5) (v := .ref th) (C := RX3) (T := TX3) (N := 12) hx hb hts zi_X3_tellThing_X3 hown hK (zo_R hR0 hS hAr) 0 rfl rfl 1 (by decide) (hts (.fieldLink RX3 19 "LockRooms$Room" "things" "[LLockRooms$Thing;") (by decide +kernel)) (fun _ h9 => h9) rfl dX3_tellThing_11 ?_
  refine lv_iload_n hx hb dX3_tellThing_14 rfl (lv_at hl 1 rfl) ?_
  refine va_aldq hx hb hK (zo_R hR0 hS hAr) 1 0 rfl rfl (by unfold vp_in; decide) dX3_tellThing_15 ?_
  refine zo_q (v := .ref t3) (by rw [show Int32.toNatClampNeg 3 = 3 from by decide, hkt3]; rfl) ?_
  refine lv_astore_n (lv' := [(3, .ref t3), (0, .ref rm), (1, .int 3), (2, .int 1)]) hx hb dX3_tellThing_16 rfl hl (by decide) rfl (fun ls hl => ?_)
  refine lv_iload_n hx hb dX3_tellThing_17 rfl (lv_at hl 3 rfl) ?_
  refine lv_tableIn (off := 39) (tgt := 57) hx hb dX3_tellThing_18 (by decide) (by decide) rfl (by decide) ?_
  refine lv_aload_n hx hb dX3_tellThing_57 rfl (lv_at hl 0 rfl) ?_
  refine va_get (D := (dC, dI)) (ci := 7) (v := .int 0) (C := RX5) (T := TX5) (N := 5) hx hb hts zi_X3_tellThing_X5 hown hK (zo_R hR0 hS hAr) 2 rfl rfl 1 (by decide) (hts (.fieldLink RX3 93 "LockRooms$Thing" "hid" "I") (by decide +kernel)) (fun _ h9 => h9) rfl dX3_tellThing_58 ?_
  refine W.widen (k := 0) (n := 0) (Nat.le_of_ble_eq_true rfl) (Nat.le_of_ble_eq_true rfl) ?_
  exact W.iret hx hb hr (fun t ht hW => ⟨⟨0, (), rfl, rfl, trivial⟩, hS.F ht⟩) hS.2.2 dX3_tellThing_61
set_option maxHeartbeats 4000000 in
set_option maxRecDepth 100000 in
theorem cz_QtellThing_3_2 (l : Launch) (dC : Nat → ClassId) (dI : Nat → Nat → Nat) (ed sz : Nat) (rm : Nat) (lk : Nat) (th : Nat) (pl : Nat) (gm : Nat) (cT : ClassId) (ft : Nat → Option Nat) (t3 : Nat) (hkt3 : ft 3 = some t3) : Met l yX3_tellThing wsX3_tellThing ({ frames := 1, cells := 0, slots := 0, locals := 21 } : Jvm.Room) (va_Pc [.ref rm, .int 3, .int 2] (zB dC dI ed sz [(rm, .inr (5, [.ref lk, .ref th, .ref pl, .ref gm, .int 2, .int 10, .int 0, .int 0, .int 1, .int 0, .int 0, .int 0])), (th, .inl (cT, 12, .inr (.inr (.inr (.inr ft))))), (t3, .inr (7, [.int (-1), .int 0, .int 0, .int 0, .int 0]))] [] [(cT, .object "LockRooms$Thing")])) (va_Qi (fun (r : Int32) (_ : Unit) => r = 0) (fun (_ : Unit) (_ : State) => True) (va_A [] sz)) 0 0 (va_A [] sz) := by
  refine Met.ofW (cc := cX3_tellThing) (maxL := 4) (ret := (some .int)) (by decide) rfl ?_
  intro p e s m args below meth c s₁ B hml hv
  obtain ⟨rfl, hsz, hR0, hP, hK, hD0, hN, hH, hX0⟩ := hv
  have hx := B.exec
  have hb := B.bytes
  have hr := B.returns
  have hts := atoms_spec (ws := wsX3_tellThing) B.pre
  have hown : s.vm.findClass RX3 = some m.cls := findClass_of_methodNamed B.named
  have hlocks := B.notSynchronized
  subst hsz
  have hD := hD0.self (sz := s.heap.size)
  have hAr := zx_A hX0 hR0
  generalize hAe : va_A [] s.heap.size = A at hD hAr hH ⊢
  have hA : ∀ q : Nat, s.heap.size ≤ q → A q := fun q h => by rw [← hAe]; exact Or.inr h
  have hS : va_S A s.heap s.heap [] := va_S.rf
  have hl := lv_entry ([.ref rm, .int 3, .int 2]) (n := 4) (Nat.le_of_ble_eq_true rfl)
  rw [lg_entry_eq]
  generalize (lg_sl ([.ref rm, .int 3, .int 2]) ++ List.replicate (4 - (lg_sl ([.ref rm, .int 3, .int 2])).length) Slot.unset).toArray = ls at hl ⊢
  have hl : lv_has ls 4 [(0, .ref rm), (1, .int 3), (2, .int 2)] := hl
  refine lv_aload_n hx hb dX3_tellThing_0 rfl (lv_at hl 0 rfl) ?_
  refine lv_iload_n hx hb dX3_tellThing_1 rfl (lv_at hl 1 rfl) ?_
  have hPr := (hR0).sub (ws' := [(rm, .inr (5, [.ref lk, .ref th, .ref pl, .ref gm, .int 2, .int 10, .int 0, .int 0, .int 1, .int 0, .int 0, .int 0]))]) [0] rfl
  have hPc := hP.sub (ws' := []) [] rfl
  have hDc := hD.sub (ws' := []) [] (by decide) rfl
  have hKc := hK.sub (tys' := []) [] rfl
  have hFc := va_free (wc := []) hD hS hA [] rfl
  refine va_calli (va_runV (As := [.int 3]) (rest := []) ⟨hx, hb, hml, hown, hts⟩ (cz_QhasThing_3 l dC dI ed s.heap.size rm lk th pl gm) (cwV 1 hts gX3_tellThing_X3_hasThing rfl rfl rfl (by decide +kernel) ⟨Nat.le_of_ble_eq_true rfl, Nat.le_of_ble_eq_true rfl⟩) ⟨zb_blind, va_recv hK hR0 (ci := 5) (q0 := 0) rfl rfl, fun U hU hW => ⟨rfl, zb_mk hU hW hPr hPc hKc hDc hN hH hS hFc zx_e⟩⟩ rfl rfl hl.1 rfl (lv_room (Nat.le_of_ble_eq_true rfl)) dX3_tellThing_2 ⟨Nat.le_of_ble_eq_true rfl, Nat.le_of_ble_eq_true rfl⟩) hS (fun q _ h => hFc q h) hFc (fun r2 u t H1 locs ht hvm hw hB hz1 hk1 hS => ?_)
  obtain rfl : r2 = 1 := hw
  have hP := zo_K hP hk1
  refine lv_if_ne (tgt := 10) hx hb dX3_tellThing_5 (by decide) (fun _ => ?_) (fun h => absurd h (by decide))
  refine lv_aload_n hx hb dX3_tellThing_10 rfl (lv_at hl 0 rfl) ?_
  refine va_get (D := (dC, dI)) (ci := 5) (v := .ref th) (C := RX3) (T := TX3) (N := 12) hx hb hts zi_X3_tellThing_X3 hown hK (zo_R hR0 hS hAr) 0 rfl rfl 1 (by decide) (hts (.fieldLink RX3 19 "LockRooms$Room" "things" "[LLockRooms$Thing;") (by decide +kernel)) (fun _ h9 => h9) rfl dX3_tellThing_11 ?_
  refine lv_iload_n hx hb dX3_tellThing_14 rfl (lv_at hl 1 rfl) ?_
  refine va_aldq hx hb hK (zo_R hR0 hS hAr) 1 0 rfl rfl (by unfold vp_in; decide) dX3_tellThing_15 ?_
  refine zo_q (v := .ref t3) (by rw [show Int32.toNatClampNeg 3 = 3 from by decide, hkt3]; rfl) ?_
  refine lv_astore_n (lv' := [(3, .ref t3), (0, .ref rm), (1, .int 3), (2, .int 2)]) hx hb dX3_tellThing_16 rfl hl (by decide) rfl (fun ls hl => ?_)
  refine lv_iload_n hx hb dX3_tellThing_17 rfl (lv_at hl 3 rfl) ?_
  refine lv_tableIn (off := 44) (tgt := 62) hx hb dX3_tellThing_18 (by decide) (by decide) rfl (by decide) ?_
  refine lv_aload_n hx hb dX3_tellThing_62 rfl (lv_at hl 0 rfl) ?_
  refine va_get (D := (dC, dI)) (ci := 7) (v := .int 0) (C := RX5) (T := TX5) (N := 5) hx hb hts zi_X3_tellThing_X5 hown hK (zo_R hR0 hS hAr) 2 rfl rfl 2 (by decide) (hts (.fieldLink RX3 207 "LockRooms$Thing" "searched" "I") (by decide +kernel)) (fun _ h9 => h9) rfl dX3_tellThing_63 ?_
  refine W.widen (k := 0) (n := 0) (Nat.le_of_ble_eq_true rfl) (Nat.le_of_ble_eq_true rfl) ?_
  exact W.iret hx hb hr (fun t ht hW => ⟨⟨0, (), rfl, rfl, trivial⟩, hS.F ht⟩) hS.2.2 dX3_tellThing_66
set_option maxHeartbeats 4000000 in
set_option maxRecDepth 100000 in
theorem cz_QtellThing_3_3 (l : Launch) (dC : Nat → ClassId) (dI : Nat → Nat → Nat) (ed sz : Nat) (rm : Nat) (lk : Nat) (th : Nat) (pl : Nat) (gm : Nat) (cT : ClassId) (ft : Nat → Option Nat) (t3 : Nat) (hkt3 : ft 3 = some t3) : Met l yX3_tellThing wsX3_tellThing ({ frames := 1, cells := 0, slots := 0, locals := 21 } : Jvm.Room) (va_Pc [.ref rm, .int 3, .int 3] (zB dC dI ed sz [(rm, .inr (5, [.ref lk, .ref th, .ref pl, .ref gm, .int 2, .int 10, .int 0, .int 0, .int 1, .int 0, .int 0, .int 0])), (th, .inl (cT, 12, .inr (.inr (.inr (.inr ft))))), (t3, .inr (7, [.int (-1), .int 0, .int 0, .int 0, .int 0]))] [] [(cT, .object "LockRooms$Thing")])) (va_Qi (fun (r : Int32) (_ : Unit) => r = 0) (fun (_ : Unit) (_ : State) => True) (va_A [] sz)) 0 0 (va_A [] sz) := by
  refine Met.ofW (cc := cX3_tellThing) (maxL := 4) (ret := (some .int)) (by decide) rfl ?_
  intro p e s m args below meth c s₁ B hml hv
  obtain ⟨rfl, hsz, hR0, hP, hK, hD0, hN, hH, hX0⟩ := hv
  have hx := B.exec
  have hb := B.bytes
  have hr := B.returns
  have hts := atoms_spec (ws := wsX3_tellThing) B.pre
  have hown : s.vm.findClass RX3 = some m.cls := findClass_of_methodNamed B.named
  have hlocks := B.notSynchronized
  subst hsz
  have hD := hD0.self (sz := s.heap.size)
  have hAr := zx_A hX0 hR0
  generalize hAe : va_A [] s.heap.size = A at hD hAr hH ⊢
  have hA : ∀ q : Nat, s.heap.size ≤ q → A q := fun q h => by rw [← hAe]; exact Or.inr h
  have hS : va_S A s.heap s.heap [] := va_S.rf
  have hl := lv_entry ([.ref rm, .int 3, .int 3]) (n := 4) (Nat.le_of_ble_eq_true rfl)
  rw [lg_entry_eq]
  generalize (lg_sl ([.ref rm, .int 3, .int 3]) ++ List.replicate (4 - (lg_sl ([.ref rm, .int 3, .int 3])).length) Slot.unset).toArray = ls at hl ⊢
  have hl : lv_has ls 4 [(0, .ref rm), (1, .int 3), (2, .int 3)] := hl
  refine lv_aload_n hx hb dX3_tellThing_0 rfl (lv_at hl 0 rfl) ?_
  refine lv_iload_n hx hb dX3_tellThing_1 rfl (lv_at hl 1 rfl) ?_
  have hPr := (hR0).sub (ws' := [(rm, .inr (5, [.ref lk, .ref th, .ref pl, .ref gm, .int 2, .int 10, .int 0, .int 0, .int 1, .int 0, .int 0, .int 0]))]) [0] rfl
  have hPc := hP.sub (ws' := []) [] rfl
  have hDc := hD.sub (ws' := []) [] (by decide) rfl
  have hKc := hK.sub (tys' := []) [] rfl
  have hFc := va_free (wc := []) hD hS hA [] rfl
  refine va_calli (va_runV (As := [.int 3]) (rest := []) ⟨hx, hb, hml, hown, hts⟩ (cz_QhasThing_3 l dC dI ed s.heap.size rm lk th pl gm) (cwV 1 hts gX3_tellThing_X3_hasThing rfl rfl rfl (by decide +kernel) ⟨Nat.le_of_ble_eq_true rfl, Nat.le_of_ble_eq_true rfl⟩) ⟨zb_blind, va_recv hK hR0 (ci := 5) (q0 := 0) rfl rfl, fun U hU hW => ⟨rfl, zb_mk hU hW hPr hPc hKc hDc hN hH hS hFc zx_e⟩⟩ rfl rfl hl.1 rfl (lv_room (Nat.le_of_ble_eq_true rfl)) dX3_tellThing_2 ⟨Nat.le_of_ble_eq_true rfl, Nat.le_of_ble_eq_true rfl⟩) hS (fun q _ h => hFc q h) hFc (fun r2 u t H1 locs ht hvm hw hB hz1 hk1 hS => ?_)
  obtain rfl : r2 = 1 := hw
  have hP := zo_K hP hk1
  refine lv_if_ne (tgt := 10) hx hb dX3_tellThing_5 (by decide) (fun _ => ?_) (fun h => absurd h (by decide))
  refine lv_aload_n hx hb dX3_tellThing_10 rfl (lv_at hl 0 rfl) ?_
  refine va_get (D := (dC, dI)) (ci := 5) (v := .ref th) (C := RX3) (T := TX3) (N := 12) hx hb hts zi_X3_tellThing_X3 hown hK (zo_R hR0 hS hAr) 0 rfl rfl 1 (by decide) (hts (.fieldLink RX3 19 "LockRooms$Room" "things" "[LLockRooms$Thing;") (by decide +kernel)) (fun _ h9 => h9) rfl dX3_tellThing_11 ?_
  refine lv_iload_n hx hb dX3_tellThing_14 rfl (lv_at hl 1 rfl) ?_
  refine va_aldq hx hb hK (zo_R hR0 hS hAr) 1 0 rfl rfl (by unfold vp_in; decide) dX3_tellThing_15 ?_
  refine zo_q (v := .ref t3) (by rw [show Int32.toNatClampNeg 3 = 3 from by decide, hkt3]; rfl) ?_
  refine lv_astore_n (lv' := [(3, .ref t3), (0, .ref rm), (1, .int 3), (2, .int 3)]) hx hb dX3_tellThing_16 rfl hl (by decide) rfl (fun ls hl => ?_)
  refine lv_iload_n hx hb dX3_tellThing_17 rfl (lv_at hl 3 rfl) ?_
  refine lv_tableIn (off := 49) (tgt := 67) hx hb dX3_tellThing_18 (by decide) (by decide) rfl (by decide) ?_
  refine lv_aload_n hx hb dX3_tellThing_67 rfl (lv_at hl 0 rfl) ?_
  refine va_get (D := (dC, dI)) (ci := 7) (v := .int 0) (C := RX5) (T := TX5) (N := 5) hx hb hts zi_X3_tellThing_X5 hown hK (zo_R hR0 hS hAr) 2 rfl rfl 3 (by decide) (hts (.fieldLink RX3 115 "LockRooms$Thing" "state" "I") (by decide +kernel)) (fun _ h9 => h9) rfl dX3_tellThing_68 ?_
  refine W.widen (k := 0) (n := 0) (Nat.le_of_ble_eq_true rfl) (Nat.le_of_ble_eq_true rfl) ?_
  exact W.iret hx hb hr (fun t ht hW => ⟨⟨0, (), rfl, rfl, trivial⟩, hS.F ht⟩) hS.2.2 dX3_tellThing_71
set_option maxHeartbeats 4000000 in
set_option maxRecDepth 100000 in
theorem cz_QtellThing_3_4 (l : Launch) (dC : Nat → ClassId) (dI : Nat → Nat → Nat) (ed sz : Nat) (rm : Nat) (lk : Nat) (th : Nat) (pl : Nat) (gm : Nat) (cT : ClassId) (ft : Nat → Option Nat) (t3 : Nat) (cL : ClassId) (fl : Nat → Option Nat) (l0 : Nat) (l1 : Nat) (hkt3 : ft 3 = some t3) (hkl0 : fl 0 = some l0) (hkl1 : fl 1 = some l1) : Met l yX3_tellThing wsX3_tellThing ({ frames := 1, cells := 0, slots := 0, locals := 22 } : Jvm.Room) (va_Pc [.ref rm, .int 3, .int 4] (zB dC dI ed sz [(rm, .inr (5, [.ref lk, .ref th, .ref pl, .ref gm, .int 2, .int 10, .int 0, .int 0, .int 1, .int 0, .int 0, .int 0])), (th, .inl (cT, 12, .inr (.inr (.inr (.inr ft))))), (t3, .inr (7, [.int (-1), .int 0, .int 0, .int 0, .int 0])), (lk, .inl (cL, 10, .inr (.inr (.inr (.inr fl))))), (l0, .inr (3, [.int 0, .int 0, .int 60, .int 0, .int 0, .int 0, .int 0, .int 0, .int 0, .int 0])), (l1, .inr (3, [.int 0, .int 0, .int 60, .int 0, .int 0, .int 0, .int 0, .int 0, .int 0, .int 0]))] [] [(cT, .object "LockRooms$Thing"), (cL, .object "LockRooms$Lock")])) (va_Qi (fun (r : Int32) (_ : Unit) => r = 1) (fun (_ : Unit) (_ : State) => True) (va_A [] sz)) 0 0 (va_A [] sz) := by
  refine Met.ofW (cc := cX3_tellThing) (maxL := 4) (ret := (some .int)) (by decide) rfl ?_
  intro p e s m args below meth c s₁ B hml hv
  obtain ⟨rfl, hsz, hR0, hP, hK, hD0, hN, hH, hX0⟩ := hv
  have hx := B.exec
  have hb := B.bytes
  have hr := B.returns
  have hts := atoms_spec (ws := wsX3_tellThing) B.pre
  have hown : s.vm.findClass RX3 = some m.cls := findClass_of_methodNamed B.named
  have hlocks := B.notSynchronized
  subst hsz
  have hD := hD0.self (sz := s.heap.size)
  have hAr := zx_A hX0 hR0
  generalize hAe : va_A [] s.heap.size = A at hD hAr hH ⊢
  have hA : ∀ q : Nat, s.heap.size ≤ q → A q := fun q h => by rw [← hAe]; exact Or.inr h
  have hS : va_S A s.heap s.heap [] := va_S.rf
  have hl := lv_entry ([.ref rm, .int 3, .int 4]) (n := 4) (Nat.le_of_ble_eq_true rfl)
  rw [lg_entry_eq]
  generalize (lg_sl ([.ref rm, .int 3, .int 4]) ++ List.replicate (4 - (lg_sl ([.ref rm, .int 3, .int 4])).length) Slot.unset).toArray = ls at hl ⊢
  have hl : lv_has ls 4 [(0, .ref rm), (1, .int 3), (2, .int 4)] := hl
  refine lv_aload_n hx hb dX3_tellThing_0 rfl (lv_at hl 0 rfl) ?_
  refine lv_iload_n hx hb dX3_tellThing_1 rfl (lv_at hl 1 rfl) ?_
  have hPr := (hR0).sub (ws' := [(rm, .inr (5, [.ref lk, .ref th, .ref pl, .ref gm, .int 2, .int 10, .int 0, .int 0, .int 1, .int 0, .int 0, .int 0]))]) [0] rfl
  have hPc := hP.sub (ws' := []) [] rfl
  have hDc := hD.sub (ws' := []) [] (by decide) rfl
  have hKc := hK.sub (tys' := []) [] rfl
  have hFc := va_free (wc := []) hD hS hA [] rfl
  refine va_calli (va_runV (As := [.int 3]) (rest := []) ⟨hx, hb, hml, hown, hts⟩ (cz_QhasThing_3 l dC dI ed s.heap.size rm lk th pl gm) (cwV 1 hts gX3_tellThing_X3_hasThing rfl rfl rfl (by decide +kernel) ⟨Nat.le_of_ble_eq_true rfl, Nat.le_of_ble_eq_true rfl⟩) ⟨zb_blind, va_recv hK hR0 (ci := 5) (q0 := 0) rfl rfl, fun U hU hW => ⟨rfl, zb_mk hU hW hPr hPc hKc hDc hN hH hS hFc zx_e⟩⟩ rfl rfl hl.1 rfl (lv_room (Nat.le_of_ble_eq_true rfl)) dX3_tellThing_2 ⟨Nat.le_of_ble_eq_true rfl, Nat.le_of_ble_eq_true rfl⟩) hS (fun q _ h => hFc q h) hFc (fun r2 u t H1 locs ht hvm hw hB hz1 hk1 hS => ?_)
  obtain rfl : r2 = 1 := hw
  have hP := zo_K hP hk1
  refine lv_if_ne (tgt := 10) hx hb dX3_tellThing_5 (by decide) (fun _ => ?_) (fun h => absurd h (by decide))
  refine lv_aload_n hx hb dX3_tellThing_10 rfl (lv_at hl 0 rfl) ?_
  refine va_get (D := (dC, dI)) (ci := 5) (v := .ref th) (C := RX3) (T := TX3) (N := 12) hx hb hts zi_X3_tellThing_X3 hown hK (zo_R hR0 hS hAr) 0 rfl rfl 1 (by decide) (hts (.fieldLink RX3 19 "LockRooms$Room" "things" "[LLockRooms$Thing;") (by decide +kernel)) (fun _ h9 => h9) rfl dX3_tellThing_11 ?_
  refine lv_iload_n hx hb dX3_tellThing_14 rfl (lv_at hl 1 rfl) ?_
  refine va_aldq hx hb hK (zo_R hR0 hS hAr) 1 0 rfl rfl (by unfold vp_in; decide) dX3_tellThing_15 ?_
  refine zo_q (v := .ref t3) (by rw [show Int32.toNatClampNeg 3 = 3 from by decide, hkt3]; rfl) ?_
  refine lv_astore_n (lv' := [(3, .ref t3), (0, .ref rm), (1, .int 3), (2, .int 4)]) hx hb dX3_tellThing_16 rfl hl (by decide) rfl (fun ls hl => ?_)
  refine lv_iload_n hx hb dX3_tellThing_17 rfl (lv_at hl 3 rfl) ?_
  refine lv_tableIn (off := 54) (tgt := 72) hx hb dX3_tellThing_18 (by decide) (by decide) rfl (by decide) ?_
  refine lv_aload_n hx hb dX3_tellThing_72 rfl (lv_at hl 0 rfl) ?_
  refine lv_aload_n hx hb dX3_tellThing_73 rfl (lv_at hl 1 rfl) ?_
  have hPr := ((zo_R hR0 hS hAr)).sub (ws' := [(rm, .inr (5, [.ref lk, .ref th, .ref pl, .ref gm, .int 2, .int 10, .int 0, .int 0, .int 1, .int 0, .int 0, .int 0])), (lk, .inl (cL, 10, .inr (.inr (.inr (.inr fl))))), (l0, .inr (3, [.int 0, .int 0, .int 60, .int 0, .int 0, .int 0, .int 0, .int 0, .int 0, .int 0])), (l1, .inr (3, [.int 0, .int 0, .int 60, .int 0, .int 0, .int 0, .int 0, .int 0, .int 0, .int 0]))]) [0, 3, 4, 5] rfl
  have hPc := hP.sub (ws' := []) [] rfl
  have hDc := hD.sub (ws' := []) [] (by decide) rfl
  have hKc := hK.sub (tys' := [(cL, .object "LockRooms$Lock")]) [1] rfl
  have hFc := va_free (wc := []) hD hS hA [] rfl
  refine va_calli (va_runV (As := []) (rest := [.ref t3]) ⟨hx, hb, hml, hown, hts⟩ (cz_QopenLocks l dC dI ed H1.size rm lk th pl gm cL fl l0 l1 hkl0 hkl1) (cwV 0 hts gX3_tellThing_X3_openLocks rfl rfl rfl (by decide +kernel) ⟨Nat.le_of_ble_eq_true rfl, Nat.le_of_ble_eq_true rfl⟩) ⟨zb_blind, va_recv hK (zo_R hR0 hS hAr) (ci := 5) (q0 := 0) rfl rfl, fun U hU hW => ⟨rfl, zb_mk hU hW hPr hPc hKc hDc hN hH hS hFc zx_e⟩⟩ rfl rfl hl.1 rfl (lv_room (Nat.le_of_ble_eq_true rfl)) dX3_tellThing_74 ⟨Nat.le_of_ble_eq_true rfl, Nat.le_of_ble_eq_true rfl⟩) hS (fun q _ h => hFc q h) hFc (fun r4 u t H3 locs ht hvm hw hB hz1 hk1 hS => ?_)
  obtain rfl : r4 = 0 := hw
  have hP := zo_K hP hk1
  have hPr := ((zo_R hR0 hS hAr)).sub (ws' := [(t3, .inr (7, [.int (-1), .int 0, .int 0, .int 0, .int 0]))]) [2] rfl
  have hPc := hP.sub (ws' := []) [] rfl
  have hDc := hD.sub (ws' := []) [] (by decide) rfl
  have hKc := hK.sub (tys' := []) [] rfl
  have hFc := va_free (wc := []) hD hS hA [] rfl
  refine va_calli (va_runV (As := [.int 0]) (rest := []) ⟨hx, hb, hml, hown, hts⟩ (cz_QcanBeReached l dC dI ed H3.size t3 0) (cwV 1 hts gX3_tellThing_X5_canBeReached rfl rfl rfl (by decide +kernel) ⟨Nat.le_of_ble_eq_true rfl, Nat.le_of_ble_eq_true rfl⟩) ⟨zb_blind, va_recv hK (zo_R hR0 hS hAr) (ci := 7) (q0 := 2) rfl rfl, fun U hU hW => ⟨rfl, zb_mk hU hW hPr hPc hKc hDc hN hH hS hFc zx_e⟩⟩ rfl rfl hl.1 rfl (lv_room (Nat.le_of_ble_eq_true rfl)) dX3_tellThing_77 ⟨Nat.le_of_ble_eq_true rfl, Nat.le_of_ble_eq_true rfl⟩) hS (fun q _ h => hFc q h) hFc (fun r6 u t H5 locs ht hvm hw hB hz1 hk1 hS => ?_)
  obtain rfl : r6 = 1 := hw
  have hP := zo_K hP hk1
  have hPr := (zo_nil : va_P (dC, dI) vwCl [] H5)
  have hPc := hP.sub (ws' := []) [] rfl
  have hDc := hD.sub (ws' := []) [] (by decide) rfl
  have hKc := hK.sub (tys' := []) [] rfl
  have hFc := va_free (wc := []) hD hS hA [] rfl
  refine va_calli (va_runSN (As := [.int 1]) (rest := []) ⟨hx, hb, hml, hown, hts⟩ (cz_oneIf_1 l dC dI ed H5.size ) ⟨(va_cnB 1 hts gX3_tellThing_X6_oneIf_n147 rfl rfl rfl (hN.2.1 ("LockRooms$Room", 147, yX6_oneIf, "LockRooms") (List.mem_of_getElem? (i := 8) rfl)) (hts (.initialized RX6) (by decide +kernel)) (by decide +kernel) ⟨Nat.le_of_ble_eq_true rfl, Nat.le_of_ble_eq_true rfl⟩), (hts (.static yX6_oneIf) (by decide +kernel)), trivial⟩ ⟨zb_blind, fun U hU hW => ⟨rfl, zb_mk hU hW hPr hPc hKc hDc hN hH hS hFc zx_e⟩⟩ rfl rfl hl.1 rfl (lv_room (Nat.le_of_ble_eq_true rfl)) dX3_tellThing_80 ⟨Nat.le_of_ble_eq_true rfl, Nat.le_of_ble_eq_true rfl⟩) hS (fun q _ h => hFc q h) hFc (fun r8 u t H7 locs ht hvm hw hB hz1 hk1 hS => ?_)
  obtain rfl : r8 = 1 := hw
  have hP := zo_K hP hk1
  refine W.widen (k := 0) (n := 0) (Nat.le_of_ble_eq_true rfl) (Nat.le_of_ble_eq_true rfl) ?_
  exact W.iret hx hb hr (fun t ht hW => ⟨⟨1, (), rfl, rfl, trivial⟩, hS.F ht⟩) hS.2.2 dX3_tellThing_83
set_option maxHeartbeats 4000000 in
set_option maxRecDepth 100000 in
theorem cz_QtellThing_3_5 (l : Launch) (dC : Nat → ClassId) (dI : Nat → Nat → Nat) (ed sz : Nat) (rm : Nat) (lk : Nat) (th : Nat) (pl : Nat) (gm : Nat) (cT : ClassId) (ft : Nat → Option Nat) (t3 : Nat) (cL : ClassId) (fl : Nat → Option Nat) (l0 : Nat) (l1 : Nat) (hkt3 : ft 3 = some t3) (hkl0 : fl 0 = some l0) (hkl1 : fl 1 = some l1) : Met l yX3_tellThing wsX3_tellThing ({ frames := 2, cells := 0, slots := 0, locals := 44 } : Jvm.Room) (va_Pc [.ref rm, .int 3, .int 5] (zB dC dI ed sz [(rm, .inr (5, [.ref lk, .ref th, .ref pl, .ref gm, .int 2, .int 10, .int 0, .int 0, .int 1, .int 0, .int 0, .int 0])), (th, .inl (cT, 12, .inr (.inr (.inr (.inr ft))))), (t3, .inr (7, [.int (-1), .int 0, .int 0, .int 0, .int 0])), (lk, .inl (cL, 10, .inr (.inr (.inr (.inr fl))))), (l0, .inr (3, [.int 0, .int 0, .int 60, .int 0, .int 0, .int 0, .int 0, .int 0, .int 0, .int 0])), (l1, .inr (3, [.int 0, .int 0, .int 60, .int 0, .int 0, .int 0, .int 0, .int 0, .int 0, .int 0]))] [] [(cT, .object "LockRooms$Thing"), (cL, .object "LockRooms$Lock")])) (va_Qi (fun (r : Int32) (_ : Unit) => r = 0) (fun (_ : Unit) (_ : State) => True) (va_A [] sz)) 0 0 (va_A [] sz) := by
  refine Met.ofW (cc := cX3_tellThing) (maxL := 4) (ret := (some .int)) (by decide) rfl ?_
  intro p e s m args below meth c s₁ B hml hv
  obtain ⟨rfl, hsz, hR0, hP, hK, hD0, hN, hH, hX0⟩ := hv
  have hx := B.exec
  have hb := B.bytes
  have hr := B.returns
  have hts := atoms_spec (ws := wsX3_tellThing) B.pre
  have hown : s.vm.findClass RX3 = some m.cls := findClass_of_methodNamed B.named
  have hlocks := B.notSynchronized
  subst hsz
  have hD := hD0.self (sz := s.heap.size)
  have hAr := zx_A hX0 hR0
  generalize hAe : va_A [] s.heap.size = A at hD hAr hH ⊢
  have hA : ∀ q : Nat, s.heap.size ≤ q → A q := fun q h => by rw [← hAe]; exact Or.inr h
  have hS : va_S A s.heap s.heap [] := va_S.rf
  have hl := lv_entry ([.ref rm, .int 3, .int 5]) (n := 4) (Nat.le_of_ble_eq_true rfl)
  rw [lg_entry_eq]
  generalize (lg_sl ([.ref rm, .int 3, .int 5]) ++ List.replicate (4 - (lg_sl ([.ref rm, .int 3, .int 5])).length) Slot.unset).toArray = ls at hl ⊢
  have hl : lv_has ls 4 [(0, .ref rm), (1, .int 3), (2, .int 5)] := hl
  refine lv_aload_n hx hb dX3_tellThing_0 rfl (lv_at hl 0 rfl) ?_
  refine lv_iload_n hx hb dX3_tellThing_1 rfl (lv_at hl 1 rfl) ?_
  have hPr := (hR0).sub (ws' := [(rm, .inr (5, [.ref lk, .ref th, .ref pl, .ref gm, .int 2, .int 10, .int 0, .int 0, .int 1, .int 0, .int 0, .int 0]))]) [0] rfl
  have hPc := hP.sub (ws' := []) [] rfl
  have hDc := hD.sub (ws' := []) [] (by decide) rfl
  have hKc := hK.sub (tys' := []) [] rfl
  have hFc := va_free (wc := []) hD hS hA [] rfl
  refine va_calli (va_runV (As := [.int 3]) (rest := []) ⟨hx, hb, hml, hown, hts⟩ (cz_QhasThing_3 l dC dI ed s.heap.size rm lk th pl gm) (cwV 1 hts gX3_tellThing_X3_hasThing rfl rfl rfl (by decide +kernel) ⟨Nat.le_of_ble_eq_true rfl, Nat.le_of_ble_eq_true rfl⟩) ⟨zb_blind, va_recv hK hR0 (ci := 5) (q0 := 0) rfl rfl, fun U hU hW => ⟨rfl, zb_mk hU hW hPr hPc hKc hDc hN hH hS hFc zx_e⟩⟩ rfl rfl hl.1 rfl (lv_room (Nat.le_of_ble_eq_true rfl)) dX3_tellThing_2 ⟨Nat.le_of_ble_eq_true rfl, Nat.le_of_ble_eq_true rfl⟩) hS (fun q _ h => hFc q h) hFc (fun r2 u t H1 locs ht hvm hw hB hz1 hk1 hS => ?_)
  obtain rfl : r2 = 1 := hw
  have hP := zo_K hP hk1
  refine lv_if_ne (tgt := 10) hx hb dX3_tellThing_5 (by decide) (fun _ => ?_) (fun h => absurd h (by decide))
  refine lv_aload_n hx hb dX3_tellThing_10 rfl (lv_at hl 0 rfl) ?_
  refine va_get (D := (dC, dI)) (ci := 5) (v := .ref th) (C := RX3) (T := TX3) (N := 12) hx hb hts zi_X3_tellThing_X3 hown hK (zo_R hR0 hS hAr) 0 rfl rfl 1 (by decide) (hts (.fieldLink RX3 19 "LockRooms$Room" "things" "[LLockRooms$Thing;") (by decide +kernel)) (fun _ h9 => h9) rfl dX3_tellThing_11 ?_
  refine lv_iload_n hx hb dX3_tellThing_14 rfl (lv_at hl 1 rfl) ?_
  refine va_aldq hx hb hK (zo_R hR0 hS hAr) 1 0 rfl rfl (by unfold vp_in; decide) dX3_tellThing_15 ?_
  refine zo_q (v := .ref t3) (by rw [show Int32.toNatClampNeg 3 = 3 from by decide, hkt3]; rfl) ?_
  refine lv_astore_n (lv' := [(3, .ref t3), (0, .ref rm), (1, .int 3), (2, .int 5)]) hx hb dX3_tellThing_16 rfl hl (by decide) rfl (fun ls hl => ?_)
  refine lv_iload_n hx hb dX3_tellThing_17 rfl (lv_at hl 3 rfl) ?_
  refine lv_tableOut (tgt := 84) hx hb dX3_tellThing_18 (by decide) (by decide) ?_
  refine lv_aload_n hx hb dX3_tellThing_84 rfl (lv_at hl 1 rfl) ?_
  refine lv_iload_n hx hb dX3_tellThing_85 rfl (lv_at hl 2 rfl) ?_
  have hPr := ((zo_R hR0 hS hAr)).sub (ws' := [(rm, .inr (5, [.ref lk, .ref th, .ref pl, .ref gm, .int 2, .int 10, .int 0, .int 0, .int 1, .int 0, .int 0, .int 0])), (lk, .inl (cL, 10, .inr (.inr (.inr (.inr fl))))), (l0, .inr (3, [.int 0, .int 0, .int 60, .int 0, .int 0, .int 0, .int 0, .int 0, .int 0, .int 0])), (l1, .inr (3, [.int 0, .int 0, .int 60, .int 0, .int 0, .int 0, .int 0, .int 0, .int 0, .int 0]))]) [0, 3, 4, 5] rfl
  have hPc := hP.sub (ws' := []) [] rfl
  have hDc := hD.sub (ws' := []) [] (by decide) rfl
  have hKc := hK.sub (tys' := [(cL, .object "LockRooms$Lock")]) [1] rfl
  have hFc := va_free (wc := []) hD hS hA [] rfl
  refine va_calli (va_runV (As := [.int 3]) (rest := []) ⟨hx, hb, hml, hown, hts⟩ (cz_QlocksThatNeed_3 l dC dI ed H1.size rm lk th pl gm cL fl l0 l1 hkl0 hkl1) (cwV 1 hts gX3_tellThing_X3_locksThatNeed rfl rfl rfl (by decide +kernel) ⟨Nat.le_of_ble_eq_true rfl, Nat.le_of_ble_eq_true rfl⟩) ⟨zb_blind, va_recv hK (zo_R hR0 hS hAr) (ci := 5) (q0 := 0) rfl rfl, fun U hU hW => ⟨rfl, zb_mk hU hW hPr hPc hKc hDc hN hH hS hFc zx_e⟩⟩ rfl rfl hl.1 rfl (lv_room (Nat.le_of_ble_eq_true rfl)) dX3_tellThing_86 ⟨Nat.le_of_ble_eq_true rfl, Nat.le_of_ble_eq_true rfl⟩) hS (fun q _ h => hFc q h) hFc (fun r4 u t H3 locs ht hvm hw hB hz1 hk1 hS => ?_)
  obtain rfl : r4 = 0 := hw
  have hP := zo_K hP hk1
  refine W.widen (k := 0) (n := 0) (Nat.le_of_ble_eq_true rfl) (Nat.le_of_ble_eq_true rfl) ?_
  exact W.iret hx hb hr (fun t ht hW => ⟨⟨0, (), rfl, rfl, trivial⟩, hS.F ht⟩) hS.2.2 dX3_tellThing_89
set_option maxHeartbeats 4000000 in
set_option maxRecDepth 100000 in
theorem cz_QtellThing_4_0 (l : Launch) (dC : Nat → ClassId) (dI : Nat → Nat → Nat) (ed sz : Nat) (rm : Nat) (lk : Nat) (th : Nat) (pl : Nat) (gm : Nat) (cT : ClassId) (ft : Nat → Option Nat) (t4 : Nat) (hkt4 : ft 4 = some t4) : Met l yX3_tellThing wsX3_tellThing ({ frames := 1, cells := 0, slots := 0, locals := 21 } : Jvm.Room) (va_Pc [.ref rm, .int 4, .int 0] (zB dC dI ed sz [(rm, .inr (5, [.ref lk, .ref th, .ref pl, .ref gm, .int 2, .int 10, .int 0, .int 0, .int 1, .int 0, .int 0, .int 0])), (th, .inl (cT, 12, .inr (.inr (.inr (.inr ft))))), (t4, .inr (7, [.int (-1), .int 0, .int 0, .int 0, .int 0]))] [] [(cT, .object "LockRooms$Thing")])) (va_Qi (fun (r : Int32) (_ : Unit) => r = (-1)) (fun (_ : Unit) (_ : State) => True) (va_A [] sz)) 0 0 (va_A [] sz) := by
  refine Met.ofW (cc := cX3_tellThing) (maxL := 4) (ret := (some .int)) (by decide) rfl ?_
  intro p e s m args below meth c s₁ B hml hv
  obtain ⟨rfl, hsz, hR0, hP, hK, hD0, hN, hH, hX0⟩ := hv
  have hx := B.exec
  have hb := B.bytes
  have hr := B.returns
  have hts := atoms_spec (ws := wsX3_tellThing) B.pre
  have hown : s.vm.findClass RX3 = some m.cls := findClass_of_methodNamed B.named
  have hlocks := B.notSynchronized
  subst hsz
  have hD := hD0.self (sz := s.heap.size)
  have hAr := zx_A hX0 hR0
  generalize hAe : va_A [] s.heap.size = A at hD hAr hH ⊢
  have hA : ∀ q : Nat, s.heap.size ≤ q → A q := fun q h => by rw [← hAe]; exact Or.inr h
  have hS : va_S A s.heap s.heap [] := va_S.rf
  have hl := lv_entry ([.ref rm, .int 4, .int 0]) (n := 4) (Nat.le_of_ble_eq_true rfl)
  rw [lg_entry_eq]
  generalize (lg_sl ([.ref rm, .int 4, .int 0]) ++ List.replicate (4 - (lg_sl ([.ref rm, .int 4, .int 0])).length) Slot.unset).toArray = ls at hl ⊢
  have hl : lv_has ls 4 [(0, .ref rm), (1, .int 4), (2, .int 0)] := hl
  refine lv_aload_n hx hb dX3_tellThing_0 rfl (lv_at hl 0 rfl) ?_
  refine lv_iload_n hx hb dX3_tellThing_1 rfl (lv_at hl 1 rfl) ?_
  have hPr := (hR0).sub (ws' := [(rm, .inr (5, [.ref lk, .ref th, .ref pl, .ref gm, .int 2, .int 10, .int 0, .int 0, .int 1, .int 0, .int 0, .int 0]))]) [0] rfl
  have hPc := hP.sub (ws' := []) [] rfl
  have hDc := hD.sub (ws' := []) [] (by decide) rfl
  have hKc := hK.sub (tys' := []) [] rfl
  have hFc := va_free (wc := []) hD hS hA [] rfl
  refine va_calli (va_runV (As := [.int 4]) (rest := []) ⟨hx, hb, hml, hown, hts⟩ (cz_QhasThing_4 l dC dI ed s.heap.size rm lk th pl gm) (cwV 1 hts gX3_tellThing_X3_hasThing rfl rfl rfl (by decide +kernel) ⟨Nat.le_of_ble_eq_true rfl, Nat.le_of_ble_eq_true rfl⟩) ⟨zb_blind, va_recv hK hR0 (ci := 5) (q0 := 0) rfl rfl, fun U hU hW => ⟨rfl, zb_mk hU hW hPr hPc hKc hDc hN hH hS hFc zx_e⟩⟩ rfl rfl hl.1 rfl (lv_room (Nat.le_of_ble_eq_true rfl)) dX3_tellThing_2 ⟨Nat.le_of_ble_eq_true rfl, Nat.le_of_ble_eq_true rfl⟩) hS (fun q _ h => hFc q h) hFc (fun r2 u t H1 locs ht hvm hw hB hz1 hk1 hS => ?_)
  obtain rfl : r2 = 1 := hw
  have hP := zo_K hP hk1
  refine lv_if_ne (tgt := 10) hx hb dX3_tellThing_5 (by decide) (fun _ => ?_) (fun h => absurd h (by decide))
  refine lv_aload_n hx hb dX3_tellThing_10 rfl (lv_at hl 0 rfl) ?_
  refine va_get (D := (dC, dI)) (ci := 5) (v := .ref th) (C := RX3) (T := TX3) (N := 12) hx hb hts zi_X3_tellThing_X3 hown hK (zo_R hR0 hS hAr) 0 rfl rfl 1 (by decide) (hts (.fieldLink RX3 19 "LockRooms$Room" "things" "[LLockRooms$Thing;") (by decide +kernel)) (fun _ h9 => h9) rfl dX3_tellThing_11 ?_
  refine lv_iload_n hx hb dX3_tellThing_14 rfl (lv_at hl 1 rfl) ?_
  refine va_aldq hx hb hK (zo_R hR0 hS hAr) 1 0 rfl rfl (by unfold vp_in; decide) dX3_tellThing_15 ?_
  refine zo_q (v := .ref t4) (by rw [show Int32.toNatClampNeg 4 = 4 from by decide, hkt4]; rfl) ?_
  refine lv_astore_n (lv' := [(3, .ref t4), (0, .ref rm), (1, .int 4), (2, .int 0)]) hx hb dX3_tellThing_16 rfl hl (by decide) rfl (fun ls hl => ?_)
  refine lv_iload_n hx hb dX3_tellThing_17 rfl (lv_at hl 3 rfl) ?_
  refine lv_tableIn (off := 34) (tgt := 52) hx hb dX3_tellThing_18 (by decide) (by decide) rfl (by decide) ?_
  refine lv_aload_n hx hb dX3_tellThing_52 rfl (lv_at hl 0 rfl) ?_
  refine va_get (D := (dC, dI)) (ci := 7) (v := .int (-1)) (C := RX5) (T := TX5) (N := 5) hx hb hts zi_X3_tellThing_X5 hown hK (zo_R hR0 hS hAr) 2 rfl rfl 0 (by decide) (hts (.fieldLink RX3 90 "LockRooms$Thing" "place" "I") (by decide +kernel)) (fun _ h9 => h9) rfl dX3_tellThing_53 ?_
  refine W.widen (k := 0) (n := 0) (Nat.le_of_ble_eq_true rfl) (Nat.le_of_ble_eq_true rfl) ?_
  exact W.iret hx hb hr (fun t ht hW => ⟨⟨(-1), (), rfl, rfl, trivial⟩, hS.F ht⟩) hS.2.2 dX3_tellThing_56
set_option maxHeartbeats 4000000 in
set_option maxRecDepth 100000 in
theorem cz_QtellThing_4_1 (l : Launch) (dC : Nat → ClassId) (dI : Nat → Nat → Nat) (ed sz : Nat) (rm : Nat) (lk : Nat) (th : Nat) (pl : Nat) (gm : Nat) (cT : ClassId) (ft : Nat → Option Nat) (t4 : Nat) (hkt4 : ft 4 = some t4) : Met l yX3_tellThing wsX3_tellThing ({ frames := 1, cells := 0, slots := 0, locals := 21 } : Jvm.Room) (va_Pc [.ref rm, .int 4, .int 1] (zB dC dI ed sz [(rm, .inr (5, [.ref lk, .ref th, .ref pl, .ref gm, .int 2, .int 10, .int 0, .int 0, .int 1, .int 0, .int 0, .int 0])), (th, .inl (cT, 12, .inr (.inr (.inr (.inr ft))))), (t4, .inr (7, [.int (-1), .int 0, .int 0, .int 0, .int 0]))] [] [(cT, .object "LockRooms$Thing")])) (va_Qi (fun (r : Int32) (_ : Unit) => r = 0) (fun (_ : Unit) (_ : State) => True) (va_A [] sz)) 0 0 (va_A [] sz) := by
  refine Met.ofW (cc := cX3_tellThing) (maxL := 4) (ret := (some .int)) (by decide) rfl ?_
  intro p e s m args below meth c s₁ B hml hv
  obtain ⟨rfl, hsz, hR0, hP, hK, hD0, hN, hH, hX0⟩ := hv
  have hx := B.exec
  have hb := B.bytes
  have hr := B.returns
  have hts := atoms_spec (ws := wsX3_tellThing) B.pre
  have hown : s.vm.findClass RX3 = some m.cls := findClass_of_methodNamed B.named
  have hlocks := B.notSynchronized
  subst hsz
  have hD := hD0.self (sz := s.heap.size)
  have hAr := zx_A hX0 hR0
  generalize hAe : va_A [] s.heap.size = A at hD hAr hH ⊢
  have hA : ∀ q : Nat, s.heap.size ≤ q → A q := fun q h => by rw [← hAe]; exact Or.inr h
  have hS : va_S A s.heap s.heap [] := va_S.rf
  have hl := lv_entry ([.ref rm, .int 4, .int 1]) (n := 4) (Nat.le_of_ble_eq_true rfl)
  rw [lg_entry_eq]
  generalize (lg_sl ([.ref rm, .int 4, .int 1]) ++ List.replicate (4 - (lg_sl ([.ref rm, .int 4, .int 1])).length) Slot.unset).toArray = ls at hl ⊢
  have hl : lv_has ls 4 [(0, .ref rm), (1, .int 4), (2, .int 1)] := hl
  refine lv_aload_n hx hb dX3_tellThing_0 rfl (lv_at hl 0 rfl) ?_
  refine lv_iload_n hx hb dX3_tellThing_1 rfl (lv_at hl 1 rfl) ?_
  have hPr := (hR0).sub (ws' := [(rm, .inr (5, [.ref lk, .ref th, .ref pl, .ref gm, .int 2, .int 10, .int 0, .int 0, .int 1, .int 0, .int 0, .int 0]))]) [0] rfl
  have hPc := hP.sub (ws' := []) [] rfl
  have hDc := hD.sub (ws' := []) [] (by decide) rfl
  have hKc := hK.sub (tys' := []) [] rfl
  have hFc := va_free (wc := []) hD hS hA [] rfl
  refine va_calli (va_runV (As := [.int 4]) (rest := []) ⟨hx, hb, hml, hown, hts⟩ (cz_QhasThing_4 l dC dI ed s.heap.size rm lk th pl gm) (cwV 1 hts gX3_tellThing_X3_hasThing rfl rfl rfl (by decide +kernel) ⟨Nat.le_of_ble_eq_true rfl, Nat.le_of_ble_eq_true rfl⟩) ⟨zb_blind, va_recv hK hR0 (ci := 5) (q0 := 0) rfl rfl, fun U hU hW => ⟨rfl, zb_mk hU hW hPr hPc hKc hDc hN hH hS hFc zx_e⟩⟩ rfl rfl hl.1 rfl (lv_room (Nat.le_of_ble_eq_true rfl)) dX3_tellThing_2 ⟨Nat.le_of_ble_eq_true rfl, Nat.le_of_ble_eq_true rfl⟩) hS (fun q _ h => hFc q h) hFc (fun r2 u t H1 locs ht hvm hw hB hz1 hk1 hS => ?_)
  obtain rfl : r2 = 1 := hw
  have hP := zo_K hP hk1
  refine lv_if_ne (tgt := 10) hx hb dX3_tellThing_5 (by decide) (fun _ => ?_) (fun h => absurd h (by decide))
  refine lv_aload_n hx hb dX3_tellThing_10 rfl (lv_at hl 0 rfl) ?_
  refine va_get (D := (dC, dI)) (ci := 5) (v := .ref th) (C := RX3) (T := TX3) (N := 12) hx hb hts zi_X3_tellThing_X3 hown hK (zo_R hR0 hS hAr) 0 rfl rfl 1 (by decide) (hts (.fieldLink RX3 19 "LockRooms$Room" "things" "[LLockRooms$Thing;") (by decide +kernel)) (fun _ h9 => h9) rfl dX3_tellThing_11 ?_
  refine lv_iload_n hx hb dX3_tellThing_14 rfl (lv_at hl 1 rfl) ?_
  refine va_aldq hx hb hK (zo_R hR0 hS hAr) 1 0 rfl rfl (by unfold vp_in; decide) dX3_tellThing_15 ?_
  refine zo_q (v := .ref t4) (by rw [show Int32.toNatClampNeg 4 = 4 from by decide, hkt4]; rfl) ?_
  refine lv_astore_n (lv' := [(3, .ref t4), (0, .ref rm), (1, .int 4), (2, .int 1)]) hx hb dX3_tellThing_16 rfl hl (by decide) rfl (fun ls hl => ?_)
  refine lv_iload_n hx hb dX3_tellThing_17 rfl (lv_at hl 3 rfl) ?_
  refine lv_tableIn (off := 39) (tgt := 57) hx hb dX3_tellThing_18 (by decide) (by decide) rfl (by decide) ?_
  refine lv_aload_n hx hb dX3_tellThing_57 rfl (lv_at hl 0 rfl) ?_
  refine va_get (D := (dC, dI)) (ci := 7) (v := .int 0) (C := RX5) (T := TX5) (N := 5) hx hb hts zi_X3_tellThing_X5 hown hK (zo_R hR0 hS hAr) 2 rfl rfl 1 (by decide) (hts (.fieldLink RX3 93 "LockRooms$Thing" "hid" "I") (by decide +kernel)) (fun _ h9 => h9) rfl dX3_tellThing_58 ?_
  refine W.widen (k := 0) (n := 0) (Nat.le_of_ble_eq_true rfl) (Nat.le_of_ble_eq_true rfl) ?_
  exact W.iret hx hb hr (fun t ht hW => ⟨⟨0, (), rfl, rfl, trivial⟩, hS.F ht⟩) hS.2.2 dX3_tellThing_61
set_option maxHeartbeats 4000000 in
set_option maxRecDepth 100000 in
theorem cz_QtellThing_4_2 (l : Launch) (dC : Nat → ClassId) (dI : Nat → Nat → Nat) (ed sz : Nat) (rm : Nat) (lk : Nat) (th : Nat) (pl : Nat) (gm : Nat) (cT : ClassId) (ft : Nat → Option Nat) (t4 : Nat) (hkt4 : ft 4 = some t4) : Met l yX3_tellThing wsX3_tellThing ({ frames := 1, cells := 0, slots := 0, locals := 21 } : Jvm.Room) (va_Pc [.ref rm, .int 4, .int 2] (zB dC dI ed sz [(rm, .inr (5, [.ref lk, .ref th, .ref pl, .ref gm, .int 2, .int 10, .int 0, .int 0, .int 1, .int 0, .int 0, .int 0])), (th, .inl (cT, 12, .inr (.inr (.inr (.inr ft))))), (t4, .inr (7, [.int (-1), .int 0, .int 0, .int 0, .int 0]))] [] [(cT, .object "LockRooms$Thing")])) (va_Qi (fun (r : Int32) (_ : Unit) => r = 0) (fun (_ : Unit) (_ : State) => True) (va_A [] sz)) 0 0 (va_A [] sz) := by
  refine Met.ofW (cc := cX3_tellThing) (maxL := 4) (ret := (some .int)) (by decide) rfl ?_
  intro p e s m args below meth c s₁ B hml hv
  obtain ⟨rfl, hsz, hR0, hP, hK, hD0, hN, hH, hX0⟩ := hv
  have hx := B.exec
  have hb := B.bytes
  have hr := B.returns
  have hts := atoms_spec (ws := wsX3_tellThing) B.pre
  have hown : s.vm.findClass RX3 = some m.cls := findClass_of_methodNamed B.named
  have hlocks := B.notSynchronized
  subst hsz
  have hD := hD0.self (sz := s.heap.size)
  have hAr := zx_A hX0 hR0
  generalize hAe : va_A [] s.heap.size = A at hD hAr hH ⊢
  have hA : ∀ q : Nat, s.heap.size ≤ q → A q := fun q h => by rw [← hAe]; exact Or.inr h
  have hS : va_S A s.heap s.heap [] := va_S.rf
  have hl := lv_entry ([.ref rm, .int 4, .int 2]) (n := 4) (Nat.le_of_ble_eq_true rfl)
  rw [lg_entry_eq]
  generalize (lg_sl ([.ref rm, .int 4, .int 2]) ++ List.replicate (4 - (lg_sl ([.ref rm, .int 4, .int 2])).length) Slot.unset).toArray = ls at hl ⊢
  have hl : lv_has ls 4 [(0, .ref rm), (1, .int 4), (2, .int 2)] := hl
  refine lv_aload_n hx hb dX3_tellThing_0 rfl (lv_at hl 0 rfl) ?_
  refine lv_iload_n hx hb dX3_tellThing_1 rfl (lv_at hl 1 rfl) ?_
  have hPr := (hR0).sub (ws' := [(rm, .inr (5, [.ref lk, .ref th, .ref pl, .ref gm, .int 2, .int 10, .int 0, .int 0, .int 1, .int 0, .int 0, .int 0]))]) [0] rfl
  have hPc := hP.sub (ws' := []) [] rfl
  have hDc := hD.sub (ws' := []) [] (by decide) rfl
  have hKc := hK.sub (tys' := []) [] rfl
  have hFc := va_free (wc := []) hD hS hA [] rfl
  refine va_calli (va_runV (As := [.int 4]) (rest := []) ⟨hx, hb, hml, hown, hts⟩ (cz_QhasThing_4 l dC dI ed s.heap.size rm lk th pl gm) (cwV 1 hts gX3_tellThing_X3_hasThing rfl rfl rfl (by decide +kernel) ⟨Nat.le_of_ble_eq_true rfl, Nat.le_of_ble_eq_true rfl⟩) ⟨zb_blind, va_recv hK hR0 (ci := 5) (q0 := 0) rfl rfl, fun U hU hW => ⟨rfl, zb_mk hU hW hPr hPc hKc hDc hN hH hS hFc zx_e⟩⟩ rfl rfl hl.1 rfl (lv_room (Nat.le_of_ble_eq_true rfl)) dX3_tellThing_2 ⟨Nat.le_of_ble_eq_true rfl, Nat.le_of_ble_eq_true rfl⟩) hS (fun q _ h => hFc q h) hFc (fun r2 u t H1 locs ht hvm hw hB hz1 hk1 hS => ?_)
  obtain rfl : r2 = 1 := hw
  have hP := zo_K hP hk1
  refine lv_if_ne (tgt := 10) hx hb dX3_tellThing_5 (by decide) (fun _ => ?_) (fun h => absurd h (by decide))
  refine lv_aload_n hx hb dX3_tellThing_10 rfl (lv_at hl 0 rfl) ?_
  refine va_get (D := (dC, dI)) (ci := 5) (v := .ref th) (C := RX3) (T := TX3) (N := 12) hx hb hts zi_X3_tellThing_X3 hown hK (zo_R hR0 hS hAr) 0 rfl rfl 1 (by decide) (hts (.fieldLink RX3 19 "LockRooms$Room" "things" "[LLockRooms$Thing;") (by decide +kernel)) (fun _ h9 => h9) rfl dX3_tellThing_11 ?_
  refine lv_iload_n hx hb dX3_tellThing_14 rfl (lv_at hl 1 rfl) ?_
  refine va_aldq hx hb hK (zo_R hR0 hS hAr) 1 0 rfl rfl (by unfold vp_in; decide) dX3_tellThing_15 ?_
  refine zo_q (v := .ref t4) (by rw [show Int32.toNatClampNeg 4 = 4 from by decide, hkt4]; rfl) ?_
  refine lv_astore_n (lv' := [(3, .ref t4), (0, .ref rm), (1, .int 4), (2, .int 2)]) hx hb dX3_tellThing_16 rfl hl (by decide) rfl (fun ls hl => ?_)
  refine lv_iload_n hx hb dX3_tellThing_17 rfl (lv_at hl 3 rfl) ?_
  refine lv_tableIn (off := 44) (tgt := 62) hx hb dX3_tellThing_18 (by decide) (by decide) rfl (by decide) ?_
  refine lv_aload_n hx hb dX3_tellThing_62 rfl (lv_at hl 0 rfl) ?_
  refine va_get (D := (dC, dI)) (ci := 7) (v := .int 0) (C := RX5) (T := TX5) (N := 5) hx hb hts zi_X3_tellThing_X5 hown hK (zo_R hR0 hS hAr) 2 rfl rfl 2 (by decide) (hts (.fieldLink RX3 207 "LockRooms$Thing" "searched" "I") (by decide +kernel)) (fun _ h9 => h9) rfl dX3_tellThing_63 ?_
  refine W.widen (k := 0) (n := 0) (Nat.le_of_ble_eq_true rfl) (Nat.le_of_ble_eq_true rfl) ?_
  exact W.iret hx hb hr (fun t ht hW => ⟨⟨0, (), rfl, rfl, trivial⟩, hS.F ht⟩) hS.2.2 dX3_tellThing_66
set_option maxHeartbeats 4000000 in
set_option maxRecDepth 100000 in
theorem cz_QtellThing_4_3 (l : Launch) (dC : Nat → ClassId) (dI : Nat → Nat → Nat) (ed sz : Nat) (rm : Nat) (lk : Nat) (th : Nat) (pl : Nat) (gm : Nat) (cT : ClassId) (ft : Nat → Option Nat) (t4 : Nat) (hkt4 : ft 4 = some t4) : Met l yX3_tellThing wsX3_tellThing ({ frames := 1, cells := 0, slots := 0, locals := 21 } : Jvm.Room) (va_Pc [.ref rm, .int 4, .int 3] (zB dC dI ed sz [(rm, .inr (5, [.ref lk, .ref th, .ref pl, .ref gm, .int 2, .int 10, .int 0, .int 0, .int 1, .int 0, .int 0, .int 0])), (th, .inl (cT, 12, .inr (.inr (.inr (.inr ft))))), (t4, .inr (7, [.int (-1), .int 0, .int 0, .int 0, .int 0]))] [] [(cT, .object "LockRooms$Thing")])) (va_Qi (fun (r : Int32) (_ : Unit) => r = 0) (fun (_ : Unit) (_ : State) => True) (va_A [] sz)) 0 0 (va_A [] sz) := by
  refine Met.ofW (cc := cX3_tellThing) (maxL := 4) (ret := (some .int)) (by decide) rfl ?_
  intro p e s m args below meth c s₁ B hml hv
  obtain ⟨rfl, hsz, hR0, hP, hK, hD0, hN, hH, hX0⟩ := hv
  have hx := B.exec
  have hb := B.bytes
  have hr := B.returns
  have hts := atoms_spec (ws := wsX3_tellThing) B.pre
  have hown : s.vm.findClass RX3 = some m.cls := findClass_of_methodNamed B.named
  have hlocks := B.notSynchronized
  subst hsz
  have hD := hD0.self (sz := s.heap.size)
  have hAr := zx_A hX0 hR0
  generalize hAe : va_A [] s.heap.size = A at hD hAr hH ⊢
  have hA : ∀ q : Nat, s.heap.size ≤ q → A q := fun q h => by rw [← hAe]; exact Or.inr h
  have hS : va_S A s.heap s.heap [] := va_S.rf
  have hl := lv_entry ([.ref rm, .int 4, .int 3]) (n := 4) (Nat.le_of_ble_eq_true rfl)
  rw [lg_entry_eq]
  generalize (lg_sl ([.ref rm, .int 4, .int 3]) ++ List.replicate (4 - (lg_sl ([.ref rm, .int 4, .int 3])).length) Slot.unset).toArray = ls at hl ⊢
  have hl : lv_has ls 4 [(0, .ref rm), (1, .int 4), (2, .int 3)] := hl
  refine lv_aload_n hx hb dX3_tellThing_0 rfl (lv_at hl 0 rfl) ?_
  refine lv_iload_n hx hb dX3_tellThing_1 rfl (lv_at hl 1 rfl) ?_
  have hPr := (hR0).sub (ws' := [(rm, .inr (5, [.ref lk, .ref th, .ref pl, .ref gm, .int 2, .int 10, .int 0, .int 0, .int 1, .int 0, .int 0, .int 0]))]) [0] rfl
  have hPc := hP.sub (ws' := []) [] rfl
  have hDc := hD.sub (ws' := []) [] (by decide) rfl
  have hKc := hK.sub (tys' := []) [] rfl
  have hFc := va_free (wc := []) hD hS hA [] rfl
  refine va_calli (va_runV (As := [.int 4]) (rest := []) ⟨hx, hb, hml, hown, hts⟩ (cz_QhasThing_4 l dC dI ed s.heap.size rm lk th pl gm) (cwV 1 hts gX3_tellThing_X3_hasThing rfl rfl rfl (by decide +kernel) ⟨Nat.le_of_ble_eq_true rfl, Nat.le_of_ble_eq_true rfl⟩) ⟨zb_blind, va_recv hK hR0 (ci := 5) (q0 := 0) rfl rfl, fun U hU hW => ⟨rfl, zb_mk hU hW hPr hPc hKc hDc hN hH hS hFc zx_e⟩⟩ rfl rfl hl.1 rfl (lv_room (Nat.le_of_ble_eq_true rfl)) dX3_tellThing_2 ⟨Nat.le_of_ble_eq_true rfl, Nat.le_of_ble_eq_true rfl⟩) hS (fun q _ h => hFc q h) hFc (fun r2 u t H1 locs ht hvm hw hB hz1 hk1 hS => ?_)
  obtain rfl : r2 = 1 := hw
  have hP := zo_K hP hk1
  refine lv_if_ne (tgt := 10) hx hb dX3_tellThing_5 (by decide) (fun _ => ?_) (fun h => absurd h (by decide))
  refine lv_aload_n hx hb dX3_tellThing_10 rfl (lv_at hl 0 rfl) ?_
  refine va_get (D := (dC, dI)) (ci := 5) (v := .ref th) (C := RX3) (T := TX3) (N := 12) hx hb hts zi_X3_tellThing_X3 hown hK (zo_R hR0 hS hAr) 0 rfl rfl 1 (by decide) (hts (.fieldLink RX3 19 "LockRooms$Room" "things" "[LLockRooms$Thing;") (by decide +kernel)) (fun _ h9 => h9) rfl dX3_tellThing_11 ?_
  refine lv_iload_n hx hb dX3_tellThing_14 rfl (lv_at hl 1 rfl) ?_
  refine va_aldq hx hb hK (zo_R hR0 hS hAr) 1 0 rfl rfl (by unfold vp_in; decide) dX3_tellThing_15 ?_
  refine zo_q (v := .ref t4) (by rw [show Int32.toNatClampNeg 4 = 4 from by decide, hkt4]; rfl) ?_
  refine lv_astore_n (lv' := [(3, .ref t4), (0, .ref rm), (1, .int 4), (2, .int 3)]) hx hb dX3_tellThing_16 rfl hl (by decide) rfl (fun ls hl => ?_)
  refine lv_iload_n hx hb dX3_tellThing_17 rfl (lv_at hl 3 rfl) ?_
  refine lv_tableIn (off := 49) (tgt := 67) hx hb dX3_tellThing_18 (by decide) (by decide) rfl (by decide) ?_
  refine lv_aload_n hx hb dX3_tellThing_67 rfl (lv_at hl 0 rfl) ?_
  refine va_get (D := (dC, dI)) (ci := 7) (v := .int 0) (C := RX5) (T := TX5) (N := 5) hx hb hts zi_X3_tellThing_X5 hown hK (zo_R hR0 hS hAr) 2 rfl rfl 3 (by decide) (hts (.fieldLink RX3 115 "LockRooms$Thing" "state" "I") (by decide +kernel)) (fun _ h9 => h9) rfl dX3_tellThing_68 ?_
  refine W.widen (k := 0) (n := 0) (Nat.le_of_ble_eq_true rfl) (Nat.le_of_ble_eq_true rfl) ?_
  exact W.iret hx hb hr (fun t ht hW => ⟨⟨0, (), rfl, rfl, trivial⟩, hS.F ht⟩) hS.2.2 dX3_tellThing_71
set_option maxHeartbeats 4000000 in
set_option maxRecDepth 100000 in
theorem cz_QtellThing_4_4 (l : Launch) (dC : Nat → ClassId) (dI : Nat → Nat → Nat) (ed sz : Nat) (rm : Nat) (lk : Nat) (th : Nat) (pl : Nat) (gm : Nat) (cT : ClassId) (ft : Nat → Option Nat) (t4 : Nat) (cL : ClassId) (fl : Nat → Option Nat) (l0 : Nat) (l1 : Nat) (hkt4 : ft 4 = some t4) (hkl0 : fl 0 = some l0) (hkl1 : fl 1 = some l1) : Met l yX3_tellThing wsX3_tellThing ({ frames := 1, cells := 0, slots := 0, locals := 22 } : Jvm.Room) (va_Pc [.ref rm, .int 4, .int 4] (zB dC dI ed sz [(rm, .inr (5, [.ref lk, .ref th, .ref pl, .ref gm, .int 2, .int 10, .int 0, .int 0, .int 1, .int 0, .int 0, .int 0])), (th, .inl (cT, 12, .inr (.inr (.inr (.inr ft))))), (t4, .inr (7, [.int (-1), .int 0, .int 0, .int 0, .int 0])), (lk, .inl (cL, 10, .inr (.inr (.inr (.inr fl))))), (l0, .inr (3, [.int 0, .int 0, .int 60, .int 0, .int 0, .int 0, .int 0, .int 0, .int 0, .int 0])), (l1, .inr (3, [.int 0, .int 0, .int 60, .int 0, .int 0, .int 0, .int 0, .int 0, .int 0, .int 0]))] [] [(cT, .object "LockRooms$Thing"), (cL, .object "LockRooms$Lock")])) (va_Qi (fun (r : Int32) (_ : Unit) => r = 1) (fun (_ : Unit) (_ : State) => True) (va_A [] sz)) 0 0 (va_A [] sz) := by
  refine Met.ofW (cc := cX3_tellThing) (maxL := 4) (ret := (some .int)) (by decide) rfl ?_
  intro p e s m args below meth c s₁ B hml hv
  obtain ⟨rfl, hsz, hR0, hP, hK, hD0, hN, hH, hX0⟩ := hv
  have hx := B.exec
  have hb := B.bytes
  have hr := B.returns
  have hts := atoms_spec (ws := wsX3_tellThing) B.pre
  have hown : s.vm.findClass RX3 = some m.cls := findClass_of_methodNamed B.named
  have hlocks := B.notSynchronized
  subst hsz
  have hD := hD0.self (sz := s.heap.size)
  have hAr := zx_A hX0 hR0
  generalize hAe : va_A [] s.heap.size = A at hD hAr hH ⊢
  have hA : ∀ q : Nat, s.heap.size ≤ q → A q := fun q h => by rw [← hAe]; exact Or.inr h
  have hS : va_S A s.heap s.heap [] := va_S.rf
  have hl := lv_entry ([.ref rm, .int 4, .int 4]) (n := 4) (Nat.le_of_ble_eq_true rfl)
  rw [lg_entry_eq]
  generalize (lg_sl ([.ref rm, .int 4, .int 4]) ++ List.replicate (4 - (lg_sl ([.ref rm, .int 4, .int 4])).length) Slot.unset).toArray = ls at hl ⊢
  have hl : lv_has ls 4 [(0, .ref rm), (1, .int 4), (2, .int 4)] := hl
  refine lv_aload_n hx hb dX3_tellThing_0 rfl (lv_at hl 0 rfl) ?_
  refine lv_iload_n hx hb dX3_tellThing_1 rfl (lv_at hl 1 rfl) ?_
  have hPr := (hR0).sub (ws' := [(rm, .inr (5, [.ref lk, .ref th, .ref pl, .ref gm, .int 2, .int 10, .int 0, .int 0, .int 1, .int 0, .int 0, .int 0]))]) [0] rfl
  have hPc := hP.sub (ws' := []) [] rfl
  have hDc := hD.sub (ws' := []) [] (by decide) rfl
  have hKc := hK.sub (tys' := []) [] rfl
  have hFc := va_free (wc := []) hD hS hA [] rfl
  refine va_calli (va_runV (As := [.int 4]) (rest := []) ⟨hx, hb, hml, hown, hts⟩ (cz_QhasThing_4 l dC dI ed s.heap.size rm lk th pl gm) (cwV 1 hts gX3_tellThing_X3_hasThing rfl rfl rfl (by decide +kernel) ⟨Nat.le_of_ble_eq_true rfl, Nat.le_of_ble_eq_true rfl⟩) ⟨zb_blind, va_recv hK hR0 (ci := 5) (q0 := 0) rfl rfl, fun U hU hW => ⟨rfl, zb_mk hU hW hPr hPc hKc hDc hN hH hS hFc zx_e⟩⟩ rfl rfl hl.1 rfl (lv_room (Nat.le_of_ble_eq_true rfl)) dX3_tellThing_2 ⟨Nat.le_of_ble_eq_true rfl, Nat.le_of_ble_eq_true rfl⟩) hS (fun q _ h => hFc q h) hFc (fun r2 u t H1 locs ht hvm hw hB hz1 hk1 hS => ?_)
  obtain rfl : r2 = 1 := hw
  have hP := zo_K hP hk1
  refine lv_if_ne (tgt := 10) hx hb dX3_tellThing_5 (by decide) (fun _ => ?_) (fun h => absurd h (by decide))
  refine lv_aload_n hx hb dX3_tellThing_10 rfl (lv_at hl 0 rfl) ?_
  refine va_get (D := (dC, dI)) (ci := 5) (v := .ref th) (C := RX3) (T := TX3) (N := 12) hx hb hts zi_X3_tellThing_X3 hown hK (zo_R hR0 hS hAr) 0 rfl rfl 1 (by decide) (hts (.fieldLink RX3 19 "LockRooms$Room" "things" "[LLockRooms$Thing;") (by decide +kernel)) (fun _ h9 => h9) rfl dX3_tellThing_11 ?_
  refine lv_iload_n hx hb dX3_tellThing_14 rfl (lv_at hl 1 rfl) ?_
  refine va_aldq hx hb hK (zo_R hR0 hS hAr) 1 0 rfl rfl (by unfold vp_in; decide) dX3_tellThing_15 ?_
  refine zo_q (v := .ref t4) (by rw [show Int32.toNatClampNeg 4 = 4 from by decide, hkt4]; rfl) ?_
  refine lv_astore_n (lv' := [(3, .ref t4), (0, .ref rm), (1, .int 4), (2, .int 4)]) hx hb dX3_tellThing_16 rfl hl (by decide) rfl (fun ls hl => ?_)
  refine lv_iload_n hx hb dX3_tellThing_17 rfl (lv_at hl 3 rfl) ?_
  refine lv_tableIn (off := 54) (tgt := 72) hx hb dX3_tellThing_18 (by decide) (by decide) rfl (by decide) ?_
  refine lv_aload_n hx hb dX3_tellThing_72 rfl (lv_at hl 0 rfl) ?_
  refine lv_aload_n hx hb dX3_tellThing_73 rfl (lv_at hl 1 rfl) ?_
  have hPr := ((zo_R hR0 hS hAr)).sub (ws' := [(rm, .inr (5, [.ref lk, .ref th, .ref pl, .ref gm, .int 2, .int 10, .int 0, .int 0, .int 1, .int 0, .int 0, .int 0])), (lk, .inl (cL, 10, .inr (.inr (.inr (.inr fl))))), (l0, .inr (3, [.int 0, .int 0, .int 60, .int 0, .int 0, .int 0, .int 0, .int 0, .int 0, .int 0])), (l1, .inr (3, [.int 0, .int 0, .int 60, .int 0, .int 0, .int 0, .int 0, .int 0, .int 0, .int 0]))]) [0, 3, 4, 5] rfl
  have hPc := hP.sub (ws' := []) [] rfl
  have hDc := hD.sub (ws' := []) [] (by decide) rfl
  have hKc := hK.sub (tys' := [(cL, .object "LockRooms$Lock")]) [1] rfl
  have hFc := va_free (wc := []) hD hS hA [] rfl
  refine va_calli (va_runV (As := []) (rest := [.ref t4]) ⟨hx, hb, hml, hown, hts⟩ (cz_QopenLocks l dC dI ed H1.size rm lk th pl gm cL fl l0 l1 hkl0 hkl1) (cwV 0 hts gX3_tellThing_X3_openLocks rfl rfl rfl (by decide +kernel) ⟨Nat.le_of_ble_eq_true rfl, Nat.le_of_ble_eq_true rfl⟩) ⟨zb_blind, va_recv hK (zo_R hR0 hS hAr) (ci := 5) (q0 := 0) rfl rfl, fun U hU hW => ⟨rfl, zb_mk hU hW hPr hPc hKc hDc hN hH hS hFc zx_e⟩⟩ rfl rfl hl.1 rfl (lv_room (Nat.le_of_ble_eq_true rfl)) dX3_tellThing_74 ⟨Nat.le_of_ble_eq_true rfl, Nat.le_of_ble_eq_true rfl⟩) hS (fun q _ h => hFc q h) hFc (fun r4 u t H3 locs ht hvm hw hB hz1 hk1 hS => ?_)
  obtain rfl : r4 = 0 := hw
  have hP := zo_K hP hk1
  have hPr := ((zo_R hR0 hS hAr)).sub (ws' := [(t4, .inr (7, [.int (-1), .int 0, .int 0, .int 0, .int 0]))]) [2] rfl
  have hPc := hP.sub (ws' := []) [] rfl
  have hDc := hD.sub (ws' := []) [] (by decide) rfl
  have hKc := hK.sub (tys' := []) [] rfl
  have hFc := va_free (wc := []) hD hS hA [] rfl
  refine va_calli (va_runV (As := [.int 0]) (rest := []) ⟨hx, hb, hml, hown, hts⟩ (cz_QcanBeReached l dC dI ed H3.size t4 0) (cwV 1 hts gX3_tellThing_X5_canBeReached rfl rfl rfl (by decide +kernel) ⟨Nat.le_of_ble_eq_true rfl, Nat.le_of_ble_eq_true rfl⟩) ⟨zb_blind, va_recv hK (zo_R hR0 hS hAr) (ci := 7) (q0 := 2) rfl rfl, fun U hU hW => ⟨rfl, zb_mk hU hW hPr hPc hKc hDc hN hH hS hFc zx_e⟩⟩ rfl rfl hl.1 rfl (lv_room (Nat.le_of_ble_eq_true rfl)) dX3_tellThing_77 ⟨Nat.le_of_ble_eq_true rfl, Nat.le_of_ble_eq_true rfl⟩) hS (fun q _ h => hFc q h) hFc (fun r6 u t H5 locs ht hvm hw hB hz1 hk1 hS => ?_)
  obtain rfl : r6 = 1 := hw
  have hP := zo_K hP hk1
  have hPr := (zo_nil : va_P (dC, dI) vwCl [] H5)
  have hPc := hP.sub (ws' := []) [] rfl
  have hDc := hD.sub (ws' := []) [] (by decide) rfl
  have hKc := hK.sub (tys' := []) [] rfl
  have hFc := va_free (wc := []) hD hS hA [] rfl
  refine va_calli (va_runSN (As := [.int 1]) (rest := []) ⟨hx, hb, hml, hown, hts⟩ (cz_oneIf_1 l dC dI ed H5.size ) ⟨(va_cnB 1 hts gX3_tellThing_X6_oneIf_n147 rfl rfl rfl (hN.2.1 ("LockRooms$Room", 147, yX6_oneIf, "LockRooms") (List.mem_of_getElem? (i := 8) rfl)) (hts (.initialized RX6) (by decide +kernel)) (by decide +kernel) ⟨Nat.le_of_ble_eq_true rfl, Nat.le_of_ble_eq_true rfl⟩), (hts (.static yX6_oneIf) (by decide +kernel)), trivial⟩ ⟨zb_blind, fun U hU hW => ⟨rfl, zb_mk hU hW hPr hPc hKc hDc hN hH hS hFc zx_e⟩⟩ rfl rfl hl.1 rfl (lv_room (Nat.le_of_ble_eq_true rfl)) dX3_tellThing_80 ⟨Nat.le_of_ble_eq_true rfl, Nat.le_of_ble_eq_true rfl⟩) hS (fun q _ h => hFc q h) hFc (fun r8 u t H7 locs ht hvm hw hB hz1 hk1 hS => ?_)
  obtain rfl : r8 = 1 := hw
  have hP := zo_K hP hk1
  refine W.widen (k := 0) (n := 0) (Nat.le_of_ble_eq_true rfl) (Nat.le_of_ble_eq_true rfl) ?_
  exact W.iret hx hb hr (fun t ht hW => ⟨⟨1, (), rfl, rfl, trivial⟩, hS.F ht⟩) hS.2.2 dX3_tellThing_83

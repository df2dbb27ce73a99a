set_option maxHeartbeats 4000000 in
set_option maxRecDepth 100000 in
theorem cz_QtellThing_7_5 (l : Launch) (dC : Nat → ClassId) (dI : Nat → Nat → Nat) (ed sz : Nat) (rm : Nat) (lk : Nat) (th : Nat) (pl : Nat) (gm : Nat) (cT : ClassId) (ft : Nat → Option Nat) (t7 : Nat) (cL : ClassId) (fl : Nat → Option Nat) (l0 : Nat) (l1 : Nat) (hkt7 : ft 7 = some t7) (hkl0 : fl 0 = some l0) (hkl1 : fl 1 = some l1) : Met l yX3_tellThing wsX3_tellThing ({ frames := 2, cells := 0, slots := 0, locals := 44 } : Jvm.Room) (va_Pc [.ref rm, .int 7, .int 5] (zB dC dI ed sz [(rm, .inr (5, [.ref lk, .ref th, .ref pl, .ref gm, .int 2, .int 10, .int 0, .int 0, .int 1, .int 0, .int 0, .int 0])), (th, .inl (cT, 12, .inr (.inr (.inr (.inr ft))))), (t7, .inr (7, [.int (-1), .int 0, .int 0, .int 0, .int 0])), (lk, .inl (cL, 10, .inr (.inr (.inr (.inr fl))))), (l0, .inr (3, [.int 0, .int 0, .int 60, .int 0, .int 0, .int 0, .int 0, .int 0, .int 0, .int 0])), (l1, .inr (3, [.int 0, .int 0, .int 60, .int 0, .int 0, .int 0, .int 0, .int 0, .int 0, .int 0]))] [] [(cT, .object "LockRooms$Thing"), (cL, .object "LockRooms$Lock")])) (va_Qi (fun (r : Int32) (_ : Unit) => r = 0) (fun (_ : Unit) (_ : State) => True) (va_A [] sz)) 0 0 (va_A [] sz) := by
  refine Met.ofW (cc := cX3_tellThing) (maxL := 4) (ret := (some .int)) (by decide) rfl ?_
  intro p e s m args below meth c s₁ B hml hv
  obtain ⟨rfl, hsz, hR0, hP, hK, hD0, hN, hH, hX0⟩ := hv
  have hx := B.exec
  have hb := B.bytes
  have hr := B.returns
  have hts := atoms_spec (ws := wsX3_tellThing) B.pre
  have hown : s.vm.findClass RX3 = some m.cls := findClass_of_methodNamed B.named
  have hlocks := B.notSynchronized
  subst hsz
  have hD := hD0.self (sz := s.heap.size)
  have hAr := zx_A hX0 hR0
  generalize hAe : va_A [] s.heap.size = A at hD hAr hH ⊢
  have hA : ∀ q : Nat, s.heap.size ≤ q → A q := fun q h => by rw [← hAe]; exact Or.inr h
  have hS : va_S A s.heap s.heap [] := va_S.rf
  have hl := lv_entry ([.ref rm, .int 7, .int 5]) (n := 4) (Nat.le_of_ble_eq_true rfl)
  rw [lg_entry_eq]
  generalize (lg_sl ([.ref rm, .int 7, .int 5]) ++ List.replicate (4 - (lg_sl ([.ref rm, .int 7, .int 5])).length) Slot.unset).toArray = ls at hl ⊢
  have hl : lv_has ls 4 [(0, .ref rm), (1, .int 7), (2, .int 5)] := hl
  refine lv_aload_n hx hb dX3_tellThing_0 rfl (lv_at hl 0 rfl) ?_
  refine lv_iload_n hx hb dX3_tellThing_1 rfl (lv_at hl 1 rfl) ?_
  have hPr := (hR0).sub (ws' := [(rm, .inr (5, [.ref lk, .ref th, .ref pl, .ref gm, .int 2, .int 10, .int 0, .int 0, .int 1, .int 0, .int 0, .int 0]))]) [0] rfl
  have hPc := hP.sub (ws' := []) [] rfl
  have hDc := hD.sub (ws' := []) [] (by decide) rfl
  have hKc := hK.sub (tys' := []) [] rfl
  have hFc := va_free (wc := []) hD hS hA [] rfl
  refine va_calli (va_runV (As := [.int 7]) (rest := []) ⟨hx, hb, hml, hown, hts⟩ (cz_QhasThing_7 l dC dI ed s.heap.size rm lk th pl gm) (cwV 1 hts gX3_tellThing_X3_hasThing rfl rfl rfl (by decide +kernel) ⟨Nat.le_of_ble_eq_true rfl, Nat.le_of_ble_eq_true rfl⟩) ⟨zb_blind, va_recv hK hR0 (ci := 5) (q0 := 0) rfl rfl, fun U hU hW => ⟨rfl, zb_mk hU hW hPr hPc hKc hDc hN hH hS hFc zx_e⟩⟩ rfl rfl hl.1 rfl (lv_room (Nat.le_of_ble_eq_true rfl)) dX3_tellThing_2 ⟨Nat.le_of_ble_eq_true rfl, Nat.le_of_ble_eq_true rfl⟩) hS (fun q _ h => hFc q h) hFc (fun r2 u t H1 locs ht hvm hw hB hz1 hk1 hS => ?_)
  obtain rfl : r2 = 1 := hw
  have hP := zo_K hP hk1
  refine lv_if_ne (tgt := 10) hx hb dX3_tellThing_5 (by decide) (fun _ => ?_) (fun h => absurd h (by decide))
  refine lv_aload_n hx hb dX3_tellThing_10 rfl (lv_at hl 0 rfl) ?_
  refine va_get (D := (dC, dI)) (ci := 5) (v := .ref th) (C := RX3) (T := TX3) (N := 12) hx hb hts zi_X3_tellThing_X3 hown hK (zo_R hR0 hS hAr) 0 rfl rfl 1 (by decide) (hts (.fieldLink RX3 19 "LockRooms$Room" "things" "[LLockRooms$Thing;") (by decide +kernel)) (fun _ h9 => h9) rfl dX3_tellThing_11 ?_
  refine lv_iload_n hx hb dX3_tellThing_14 rfl (lv_at hl 1 rfl) ?_
  refine va_aldq hx hb hK (zo_R hR0 hS hAr) 1 0 rfl rfl (by unfold vp_in; decide) dX3_tellThing_15 ?_
  refine zo_q (v := .ref t7) (by rw [show Int32.toNatClampNeg 7 = 7 from by decide, hkt7]; rfl) ?_
  refine lv_astore_n (lv' := [(3, .ref t7), (0, .ref rm), (1, .int 7), (2, .int 5)]) hx hb dX3_tellThing_16 rfl hl (by decide) rfl (fun ls hl => ?_)
  refine lv_iload_n hx hb dX3_tellThing_17 rfl (lv_at hl 3 rfl) ?_
  refine lv_tableOut (tgt := 84) hx hb dX3_tellThing_18 (by decide) (by decide) ?_
  refine lv_aload_n hx hb dX3_tellThing_84 rfl (lv_at hl 1 rfl) ?_
  refine lv_iload_n hx hb dX3_tellThing_85 rfl (lv_at hl 2 rfl) ?_
  have hPr := ((zo_R hR0 hS hAr)).sub (ws' := [(rm, .inr (5, [.ref lk, .ref th, .ref pl, .ref gm, .int 2, .int 10, .int 0, .int 0, .int 1, .int 0, .int 0, .int 0])), (lk, .inl (cL, 10, .inr (.inr (.inr (.inr fl))))), (l0, .inr (3, [.int 0, .int 0, .int 60, .int 0, .int 0, .int 0, .int 0, .int 0, .int 0, .int 0])), (l1, .inr (3, [.int 0, .int 0, .int 60, .int 0, .int 0, .int 0, .int 0, .int 0, .int 0, .int 0]))]) [0, 3, 4, 5] rfl
  have hPc := hP.sub (ws' := []) [] rfl
  have hDc := hD.sub (ws' := []) [] (by decide) rfl
  have hKc := hK.sub (tys' := [(cL, .object "LockRooms$Lock")]) [1] rfl
  have hFc := va_free (wc := []) hD hS hA [] rfl
  refine va_calli (va_runV (As := [.int 7]) (rest := []) ⟨hx, hb, hml, hown, hts⟩ (cz_QlocksThatNeed_7 l dC dI ed H1.size rm lk th pl gm cL fl l0 l1 hkl0 hkl1) (cwV 1 hts gX3_tellThing_X3_locksThatNeed rfl rfl rfl (by decide +kernel) ⟨Nat.le_of_ble_eq_true rfl, Nat.le_of_ble_eq_true rfl⟩) ⟨zb_blind, va_recv hK (zo_R hR0 hS hAr) (ci := 5) (q0 := 0) rfl rfl, fun U hU hW => ⟨rfl, zb_mk hU hW hPr hPc hKc hDc hN hH hS hFc zx_e⟩⟩ rfl rfl hl.1 rfl (lv_room (Nat.le_of_ble_eq_true rfl)) dX3_tellThing_86 ⟨Nat.le_of_ble_eq_true rfl, Nat.le_of_ble_eq_true rfl⟩) hS (fun q _ h => hFc q h) hFc (fun r4 u t H3 locs ht hvm hw hB hz1 hk1 hS => ?_)
  obtain rfl : r4 = 0 := hw
  have hP := zo_K hP hk1
  refine W.widen (k := 0) (n := 0) (Nat.le_of_ble_eq_true rfl) (Nat.le_of_ble_eq_true rfl) ?_
  exact W.iret hx hb hr (fun t ht hW => ⟨⟨0, (), rfl, rfl, trivial⟩, hS.F ht⟩) hS.2.2 dX3_tellThing_89
set_option maxHeartbeats 4000000 in
set_option maxRecDepth 100000 in
theorem cz_QtellThing_8_0 (l : Launch) (dC : Nat → ClassId) (dI : Nat → Nat → Nat) (ed sz : Nat) (rm : Nat) (lk : Nat) (th : Nat) (pl : Nat) (gm : Nat) (cT : ClassId) (ft : Nat → Option Nat) (t8 : Nat) (hkt8 : ft 8 = some t8) : Met l yX3_tellThing wsX3_tellThing ({ frames := 1, cells := 0, slots := 0, locals := 21 } : Jvm.Room) (va_Pc [.ref rm, .int 8, .int 0] (zB dC dI ed sz [(rm, .inr (5, [.ref lk, .ref th, .ref pl, .ref gm, .int 2, .int 10, .int 0, .int 0, .int 1, .int 0, .int 0, .int 0])), (th, .inl (cT, 12, .inr (.inr (.inr (.inr ft))))), (t8, .inr (7, [.int (-1), .int 0, .int 0, .int 0, .int 0]))] [] [(cT, .object "LockRooms$Thing")])) (va_Qi (fun (r : Int32) (_ : Unit) => r = (-1)) (fun (_ : Unit) (_ : State) => True) (va_A [] sz)) 0 0 (va_A [] sz) := by
  refine Met.ofW (cc := cX3_tellThing) (maxL := 4) (ret := (some .int)) (by decide) rfl ?_
  intro p e s m args below meth c s₁ B hml hv
  obtain ⟨rfl, hsz, hR0, hP, hK, hD0, hN, hH, hX0⟩ := hv
  have hx := B.exec
  have hb := B.bytes
  have hr := B.returns
  have hts := atoms_spec (ws := wsX3_tellThing) B.pre
  have hown : s.vm.findClass RX3 = some m.cls := findClass_of_methodNamed B.named
  have hlocks := B.notSynchronized
  subst hsz
  have hD := hD0.self (sz := s.heap.size)
  have hAr := zx_A hX0 hR0
  generalize hAe : va_A [] s.heap.size = A at hD hAr hH ⊢
  have hA : ∀ q : Nat, s.heap.size ≤ q → A q := fun q h => by rw [← hAe]; exact Or.inr h
  have hS : va_S A s.heap s.heap [] := va_S.rf
  have hl := lv_entry ([.ref rm, .int 8, .int 0]) (n := 4) (Nat.le_of_ble_eq_true rfl)
  rw [lg_entry_eq]
  generalize (lg_sl ([.ref rm, .int 8, .int 0]) ++ List.replicate (4 - (lg_sl ([.ref rm, .int 8, .int 0])).length) Slot.unset).toArray = ls at hl ⊢
  have hl : lv_has ls 4 [(0, .ref rm), (1, .int 8), (2, .int 0)] := hl
  refine lv_aload_n hx hb dX3_tellThing_0 rfl (lv_at hl 0 rfl) ?_
  refine lv_iload_n hx hb dX3_tellThing_1 rfl (lv_at hl 1 rfl) ?_
  have hPr := (hR0).sub (ws' := [(rm, .inr (5, [.ref lk, .ref th, .ref pl, .ref gm, .int 2, .int 10, .int 0, .int 0, .int 1, .int 0, .int 0, .int 0]))]) [0] rfl
  have hPc := hP.sub (ws' := []) [] rfl
  have hDc := hD.sub (ws' := []) [] (by decide) rfl
  have hKc := hK.sub (tys' := []) [] rfl
  have hFc := va_free (wc := []) hD hS hA [] rfl
  refine va_calli (va_runV (As := [.int 8]) (rest := []) ⟨hx, hb, hml, hown, hts⟩ (cz_QhasThing_8 l dC dI ed s.heap.size rm lk th pl gm) (cwV 1 hts gX3_tellThing_X3_hasThing rfl rfl rfl (by decide +kernel) ⟨Nat.le_of_ble_eq_true rfl, Nat.le_of_ble_eq_true rfl⟩) ⟨zb_blind, va_recv hK hR0 (ci := 5) (q0 := 0) rfl rfl, fun U hU hW => ⟨rfl, zb_mk hU hW hPr hPc hKc hDc hN hH hS hFc zx_e⟩⟩ rfl rfl hl.1 rfl (lv_room (Nat.le_of_ble_eq_true rfl)) dX3_tellThing_2 ⟨Nat.le_of_ble_eq_true rfl, Nat.le_of_ble_eq_true rfl⟩) hS (fun q _ h => hFc q h) hFc (fun r2 u t H1 locs ht hvm hw hB hz1 hk1 hS => ?_)
  obtain rfl : r2 = 1 := hw
  have hP := zo_K hP hk1
  refine lv_if_ne (tgt := 10) hx hb dX3_tellThing_5 (by decide) (fun _ => ?_) (fun h => absurd h (by decide))
  refine lv_aload_n hx hb dX3_tellThing_10 rfl (lv_at hl 0 rfl) ?_
  refine va_get (D := (dC, dI)) (ci := 5) (v := .ref th) (C := RX3) (T := TX3) (N := 12) hx hb hts zi_X3_tellThing_X3 hown hK (zo_R hR0 hS hAr) 0 rfl rfl 1 (by decide) (hts (.fieldLink RX3 19 "LockRooms$Room" "things" "[LLockRooms$Thing;") (by decide +kernel)) (fun _ h9 => h9) rfl dX3_tellThing_11 ?_
  refine lv_iload_n hx hb dX3_tellThing_14 rfl (lv_at hl 1 rfl) ?_
  refine va_aldq hx hb hK (zo_R hR0 hS hAr) 1 0 rfl rfl (by unfold vp_in; decide) dX3_tellThing_15 ?_
  refine zo_q (v := .ref t8) (by rw [show Int32.toNatClampNeg 8 = 8 from by decide, hkt8]; rfl) ?_
  refine lv_astore_n (lv' := [(3, .ref t8), (0, .ref rm), (1, .int 8), (2, .int 0)]) hx hb dX3_tellThing_16 rfl hl (by decide) rfl (fun ls hl => ?_)
  refine lv_iload_n hx hb dX3_tellThing_17 rfl (lv_at hl 3 rfl) ?_
  refine lv_tableIn (off := 34) (tgt := 52) hx hb dX3_tellThing_18 (by decide) (by decide) rfl (by decide) ?_
  refine lv_aload_n hx hb dX3_tellThing_52 rfl (lv_at hl 0 rfl) ?_
  refine va_get (D := (dC, dI)) (ci := 7) (v := .int (-1)) (C := RX5) (T := TX5) (N := 5) hx hb hts zi_X3_tellThing_X5 hown hK (zo_R hR0 hS hAr) 2 rfl rfl 0 (by decide) (hts (.fieldLink RX3 90 "LockRooms$Thing" "place" "I") (by decide +kernel)) (fun _ h9 => h9) rfl dX3_tellThing_53 ?_
  refine W.widen (k := 0) (n := 0) (Nat.le_of_ble_eq_true rfl) (Nat.le_of_ble_eq_true rfl) ?_
  exact W.iret hx hb hr (fun t ht hW => ⟨⟨(-1), (), rfl, rfl, trivial⟩, hS.F ht⟩) hS.2.2 dX3_tellThing_56
set_option maxHeartbeats 4000000 in
set_option maxRecDepth 100000 in
theorem cz_QtellThing_8_1 (l : Launch) (dC : Nat → ClassId) (dI : Nat → Nat → Nat) (ed sz : Nat) (rm : Nat) (lk : Nat) (th : Nat) (pl : Nat) (gm : Nat) (cT : ClassId) (ft : Nat → Option Nat) (t8 : Nat) (hkt8 : ft 8 = some t8) : Met l yX3_tellThing wsX3_tellThing ({ frames := 1, cells := 0, slots := 0, locals := 21 } : Jvm.Room) (va_Pc [.ref rm, .int 8, .int 1] (zB dC dI ed sz [(rm, .inr (5, [.ref lk, .ref th, .ref pl, .ref gm, .int 2, .int 10, .int 0, .int 0, .int 1, .int 0, .int 0, .int 0])), (th, .inl (cT, 12, .inr (.inr (.inr (.inr ft))))), (t8, .inr (7, [.int (-1), .int 0, .int 0, .int 0, .int 0]))] [] [(cT, .object "LockRooms$Thing")])) (va_Qi (fun (r : Int32) (_ : Unit) => r = 0) (fun (_ : Unit) (_ : State) => True) (va_A [] sz)) 0 0 (va_A [] sz) := by
  refine Met.ofW (cc := cX3_tellThing) (maxL := 4) (ret := (some .int)) (by decide) rfl ?_
  intro p e s m args below meth c s₁ B hml hv
  obtain ⟨rfl, hsz, hR0, hP, hK, hD0, hN, hH, hX0⟩ := hv
  have hx := B.exec
  have hb := B.bytes
  have hr := B.returns
  have hts := atoms_spec (ws := wsX3_tellThing) B.pre
  have hown : s.vm.findClass RX3 = some m.cls := findClass_of_methodNamed B.named
  have hlocks := B.notSynchronized
  subst hsz
  have hD := hD0.self (sz := s.heap.size)
  have hAr := zx_A hX0 hR0
  generalize hAe : va_A [] s.heap.size = A at hD hAr hH ⊢
  have hA : ∀ q : Nat, s.heap.size ≤ q → A q := fun q h => by rw [← hAe]; exact Or.inr h
  have hS : va_S A s.heap s.heap [] := va_S.rf
  have hl := lv_entry ([.ref rm, .int 8, .int 1]) (n := 4) (Nat.le_of_ble_eq_true rfl)
  rw [lg_entry_eq]
  generalize (lg_sl ([.ref rm, .int 8, .int 1]) ++ List.replicate (4 - (lg_sl ([.ref rm, .int 8, .int 1])).length) Slot.unset).toArray = ls at hl ⊢
  have hl : lv_has ls 4 [(0, .ref rm), (1, .int 8), (2, .int 1)] := hl
  refine lv_aload_n hx hb dX3_tellThing_0 rfl (lv_at hl 0 rfl) ?_
  refine lv_iload_n hx hb dX3_tellThing_1 rfl (lv_at hl 1 rfl) ?_
  have hPr := (hR0).sub (ws' := [(rm, .inr (5, [.ref lk, .ref th, .ref pl, .ref gm, .int 2, .int 10, .int 0, .int 0, .int 1, .int 0, .int 0, .int 0]))]) [0] rfl
  have hPc := hP.sub (ws' := []) [] rfl
  have hDc := hD.sub (ws' := []) [] (by decide) rfl
  have hKc := hK.sub (tys' := []) [] rfl
  have hFc := va_free (wc := []) hD hS hA [] rfl
  refine va_calli (va_runV (As := [.int 8]) (rest := []) ⟨hx, hb, hml, hown, hts⟩ (cz_QhasThing_8 l dC dI ed s.heap.size rm lk th pl gm) (cwV 1 hts gX3_tellThing_X3_hasThing rfl rfl rfl (by decide +kernel) ⟨Nat.le_of_ble_eq_true rfl, Nat.le_of_ble_eq_true rfl⟩) ⟨zb_blind, va_recv hK hR0 (ci := 5) (q0 := 0) rfl rfl, fun U hU hW => ⟨rfl, zb_mk hU hW hPr hPc hKc hDc hN hH hS hFc zx_e⟩⟩ rfl rfl hl.1 rfl (lv_room (Nat.le_of_ble_eq_true rfl)) dX3_tellThing_2 ⟨Nat.le_of_ble_eq_true rfl, Nat.le_of_ble_eq_true rfl⟩) hS (fun q _ h => hFc q h) hFc (fun r2 u t H1 locs ht hvm hw hB hz1 hk1 hS => ?_)
  obtain rfl : r2 = 1 := hw
  have hP := zo_K hP hk1
  refine lv_if_ne (tgt := 10) hx hb dX3_tellThing_5 (by decide) (fun _ => ?_) (fun h => absurd h (by decide))
  refine lv_aload_n hx hb dX3_tellThing_10 rfl (lv_at hl 0 rfl) ?_
  refine va_get (D := (dC, dI)) (ci := 5) (v := .ref th) (C := RX3) (T := TX3) (N := 12) hx hb hts zi_X3_tellThing_X3 hown hK (zo_R hR0 hS hAr) 0 rfl rfl 1 (by decide) (hts (.fieldLink RX3 19 "LockRooms$Room" "things" "[LLockRooms$Thing;") (by decide +kernel)) (fun _ h9 => h9) rfl dX3_tellThing_11 ?_
  refine lv_iload_n hx hb dX3_tellThing_14 rfl (lv_at hl 1 rfl) ?_
  refine va_aldq hx hb hK (zo_R hR0 hS hAr) 1 0 rfl rfl (by unfold vp_in; decide) dX3_tellThing_15 ?_
  refine zo_q (v := .ref t8) (by rw [show Int32.toNatClampNeg 8 = 8 from by decide, hkt8]; rfl) ?_
  refine lv_astore_n (lv' := [(3, .ref t8), (0, .ref rm), (1, .int 8), (2, .int 1)]) hx hb dX3_tellThing_16 rfl hl (by decide) rfl (fun ls hl => ?_)
  refine lv_iload_n hx hb dX3_tellThing_17 rfl (lv_at hl 3 rfl) ?_
  refine lv_tableIn (off := 39) (tgt := 57) hx hb dX3_tellThing_18 (by decide) (by decide) rfl (by decide) ?_
  refine lv_aload_n hx hb dX3_tellThing_57 rfl (lv_at hl 0 rfl) ?_
  refine va_get (D := (dC, dI)) (ci := 7) (v := .int 0) (C := RX5) (T := TX5) (N := 5) hx hb hts zi_X3_tellThing_X5 hown hK (zo_R hR0 hS hAr) 2 rfl rfl 1 (by decide) (hts (.fieldLink RX3 93 "LockRooms$Thing" "hid" "I") (by decide +kernel)) (fun _ h9 => h9) rfl dX3_tellThing_58 ?_
  refine W.widen (k := 0) (n := 0) (Nat.le_of_ble_eq_true rfl) (Nat.le_of_ble_eq_true rfl) ?_
  exact W.iret hx hb hr (fun t ht hW => ⟨⟨0, (), rfl, rfl, trivial⟩, hS.F ht⟩) hS.2.2 dX3_tellThing_61
set_option maxHeartbeats 4000000 in
set_option maxRecDepth 100000 in
theorem cz_QtellThing_8_2 (l : Launch) (dC : Nat → ClassId) (dI : Nat → Nat → Nat) (ed sz : Nat) (rm : Nat) (lk : Nat) (th : Nat) (pl : Nat) (gm : Nat) (cT : ClassId) (ft : Nat → Option Nat) (t8 : Nat) (hkt8 : ft 8 = some t8) : Met l yX3_tellThing wsX3_tellThing ({ frames := 1, cells := 0, slots := 0, locals := 21 } : Jvm.Room) (va_Pc [.ref rm, .int 8, .int 2] (zB dC dI ed sz [(rm, .inr (5, [.ref lk, .ref th, .ref pl, .ref gm, .int 2, .int 10, .int 0, .int 0, .int 1, .int 0, .int 0, .int 0])), (th, .inl (cT, 12, .inr (.inr (.inr (.inr ft))))), (t8, .inr (7, [.int (-1), .int 0, .int 0, .int 0, .int 0]))] [] [(cT, .object "LockRooms$Thing")])) (va_Qi (fun (r : Int32) (_ : Unit) => r = 0) (fun (_ : Unit) (_ : State) => True) (va_A [] sz)) 0 0 (va_A [] sz) := by
  refine Met.ofW (cc := cX3_tellThing) (maxL := 4) (ret := (some .int)) (by decide) rfl ?_
  intro p e s m args below meth c s₁ B hml hv
  obtain ⟨rfl, hsz, hR0, hP, hK, hD0, hN, hH, hX0⟩ := hv
  have hx := B.exec
  have hb := B.bytes
  have hr := B.returns
  have hts := atoms_spec (ws := wsX3_tellThing) B.pre
  have hown : s.vm.findClass RX3 = some m.cls := findClass_of_methodNamed B.named
  have hlocks := B.notSynchronized
  subst hsz
  have hD := hD0.self (sz := s.heap.size)
  have hAr := zx_A hX0 hR0
  generalize hAe : va_A [] s.heap.size = A at hD hAr hH ⊢
  have hA : ∀ q : Nat, s.heap.size ≤ q → A q := fun q h => by rw [← hAe]; exact Or.inr h
  have hS : va_S A s.heap s.heap [] := va_S.rf
  have hl := lv_entry ([.ref rm, .int 8, .int 2]) (n := 4) (Nat.le_of_ble_eq_true rfl)
  rw [lg_entry_eq]
  generalize (lg_sl ([.ref rm, .int 8, .int 2]) ++ List.replicate (4 - (lg_sl ([.ref rm, .int 8, .int 2])).length) Slot.unset).toArray = ls at hl ⊢
  have hl : lv_has ls 4 [(0, .ref rm), (1, .int 8), (2, .int 2)] := hl
  refine lv_aload_n hx hb dX3_tellThing_0 rfl (lv_at hl 0 rfl) ?_
  refine lv_iload_n hx hb dX3_tellThing_1 rfl (lv_at hl 1 rfl) ?_
  have hPr := (hR0).sub (ws' := [(rm, .inr (5, [.ref lk, .ref th, .ref pl, .ref gm, .int 2, .int 10, .int 0, .int 0, .int 1, .int 0, .int 0, .int 0]))]) [0] rfl
  have hPc := hP.sub (ws' := []) [] rfl
  have hDc := hD.sub (ws' := []) [] (by decide) rfl
  have hKc := hK.sub (tys' := []) [] rfl
  have hFc := va_free (wc := []) hD hS hA [] rfl
  refine va_calli (va_runV (As := [.int 8]) (rest := []) ⟨hx, hb, hml, hown, hts⟩ (cz_QhasThing_8 l dC dI ed s.heap.size rm lk th pl gm) (cwV 1 hts gX3_tellThing_X3_hasThing rfl rfl rfl (by decide +kernel) ⟨Nat.le_of_ble_eq_true rfl, Nat.le_of_ble_eq_true rfl⟩) ⟨zb_blind, va_recv hK hR0 (ci := 5) (q0 := 0) rfl rfl, fun U hU hW => ⟨rfl, zb_mk hU hW hPr hPc hKc hDc hN hH hS hFc zx_e⟩⟩ rfl rfl hl.1 rfl (lv_room (Nat.le_of_ble_eq_true rfl)) dX3_tellThing_2 ⟨Nat.le_of_ble_eq_true rfl, Nat.le_of_ble_eq_true rfl⟩) hS (fun q _ h => hFc q h) hFc (fun r2 u t H1 locs ht hvm hw hB hz1 hk1 hS => ?_)
  obtain rfl : r2 = 1 := hw
  have hP := zo_K hP hk1
  refine lv_if_ne (tgt := 10) hx hb dX3_tellThing_5 (by decide) (fun _ => ?_) (fun h => absurd h (by decide))
  refine lv_aload_n hx hb dX3_tellThing_10 rfl (lv_at hl 0 rfl) ?_
  refine va_get (D := (dC, dI)) (ci := 5) (v := .ref th) (C := RX3) (T := TX3) (N := 12) hx hb hts zi_X3_tellThing_X3 hown hK (zo_R hR0 hS hAr) 0 rfl rfl 1 (by decide) (hts (.fieldLink RX3 19 "LockRooms$Room" "things" "[LLockRooms$Thing;") (by decide +kernel)) (fun _ h9 => h9) rfl dX3_tellThing_11 ?_
  refine lv_iload_n hx hb dX3_tellThing_14 rfl (lv_at hl 1 rfl) ?_
  refine va_aldq hx hb hK (zo_R hR0 hS hAr) 1 0 rfl rfl (by unfold vp_in; decide) dX3_tellThing_15 ?_
  refine zo_q (v := .ref t8) (by rw [show Int32.toNatClampNeg 8 = 8 from by decide, hkt8]; rfl) ?_
  refine lv_astore_n (lv' := [(3, .ref t8), (0, .ref rm), (1, .int 8), (2, .int 2)]) hx hb dX3_tellThing_16 rfl hl (by decide) rfl (fun ls hl => ?_)
  refine lv_iload_n hx hb dX3_tellThing_17 rfl (lv_at hl 3 rfl) ?_
  refine lv_tableIn (off := 44) (tgt := 62) hx hb dX3_tellThing_18 (by decide) (by decide) rfl (by decide) ?_
  refine lv_aload_n hx hb dX3_tellThing_62 rfl (lv_at hl 0 rfl) ?_
  refine va_get (D := (dC, dI)) (ci := 7) (v := .int 0) (C := RX5) (T := TX5) (N := 5) hx hb hts zi_X3_tellThing_X5 hown hK (zo_R hR0 hS hAr) 2 rfl rfl 2 (by decide) (hts (.fieldLink RX3 207 "LockRooms$Thing" "searched" "I") (by decide +kernel)) (fun _ h9 => h9) rfl dX3_tellThing_63 ?_
  refine W.widen (k := 0) (n := 0) (Nat.le_of_ble_eq_true rfl) (Nat.le_of_ble_eq_true rfl) ?_
  exact W.iret hx hb hr (fun t ht hW => ⟨⟨0, (), rfl, rfl, trivial⟩, hS.F ht⟩) hS.2.2 dX3_tellThing_66
set_option maxHeartbeats 4000000 in
set_option maxRecDepth 100000 in
theorem cz_QtellThing_8_3 (l : Launch) (dC : Nat → ClassId) (dI : Nat → Nat → Nat) (ed sz : Nat) (rm : Nat) (lk : Nat) (th : Nat) (pl : Nat) (gm : Nat) (cT : ClassId) (ft : Nat → Option Nat) (t8 : Nat) (hkt8 : ft 8 = some t8) : Met l yX3_tellThing wsX3_tellThing ({ frames := 1, cells := 0, slots := 0, locals := 21 } : Jvm.Room) (va_Pc [.ref rm, .int 8, .int 3] (zB dC dI ed sz [(rm, .inr (5, [.ref lk, .ref th, .ref pl, .ref gm, .int 2, .int 10, .int 0, .int 0, .int 1, .int 0, .int 0, .int 0])), (th, .inl (cT, 12, .inr (.inr (.inr (.inr ft))))), (t8, .inr (7, [.int (-1), .int 0, .int 0, .int 0, .int 0]))] [] [(cT, .object "LockRooms$Thing")])) (va_Qi (fun (r : Int32) (_ : Unit) => r = 0) (fun (_ : Unit) (_ : State) => True) (va_A [] sz)) 0 0 (va_A [] sz) := by
  refine Met.ofW (cc := cX3_tellThing) (maxL := 4) (ret := (some .int)) (by decide) rfl ?_
  intro p e s m args below meth c s₁ B hml hv
  obtain ⟨rfl, hsz, hR0, hP, hK, hD0, hN, hH, hX0⟩ := hv
  have hx := B.exec
  have hb := B.bytes
  have hr := B.returns
  have hts := atoms_spec (ws := wsX3_tellThing) B.pre
  have hown : s.vm.findClass RX3 = some m.cls := findClass_of_methodNamed B.named
  have hlocks := B.notSynchronized
  subst hsz
  have hD := hD0.self (sz := s.heap.size)
  have hAr := zx_A hX0 hR0
  generalize hAe : va_A [] s.heap.size = A at hD hAr hH ⊢
  have hA : ∀ q : Nat, s.heap.size ≤ q → A q := fun q h => by rw [← hAe]; exact Or.inr h
  have hS : va_S A s.heap s.heap [] := va_S.rf
  have hl := lv_entry ([.ref rm, .int 8, .int 3]) (n := 4) (Nat.le_of_ble_eq_true rfl)
  rw [lg_entry_eq]
  generalize (lg_sl ([.ref rm, .int 8, .int 3]) ++ List.replicate (4 - (lg_sl ([.ref rm, .int 8, .int 3])).length) Slot.unset).toArray = ls at hl ⊢
  have hl : lv_has ls 4 [(0, .ref rm), (1, .int 8), (2, .int 3)] := hl
  refine lv_aload_n hx hb dX3_tellThing_0 rfl (lv_at hl 0 rfl) ?_
  refine lv_iload_n hx hb dX3_tellThing_1 rfl (lv_at hl 1 rfl) ?_
  have hPr := (hR0).sub (ws' := [(rm, .inr (5, [.ref lk, .ref th, .ref pl, .ref gm, .int 2, .int 10, .int 0, .int 0, .int 1, .int 0, .int 0, .int 0]))]) [0] rfl
  have hPc := hP.sub (ws' := []) [] rfl
  have hDc := hD.sub (ws' := []) [] (by decide) rfl
  have hKc := hK.sub (tys' := []) [] rfl
  have hFc := va_free (wc := []) hD hS hA [] rfl
  refine va_calli (va_runV (As := [.int 8]) (rest := []) ⟨hx, hb, hml, hown, hts⟩ (cz_QhasThing_8 l dC dI ed s.heap.size rm lk th pl gm) (cwV 1 hts gX3_tellThing_X3_hasThing rfl rfl rfl (by decide +kernel) ⟨Nat.le_of_ble_eq_true rfl, Nat.le_of_ble_eq_true rfl⟩) ⟨zb_blind, va_recv hK hR0 (ci := 5) (q0 := 0) rfl rfl, fun U hU hW => ⟨rfl, zb_mk hU hW hPr hPc hKc hDc hN hH hS hFc zx_e⟩⟩ rfl rfl hl.1 rfl (lv_room (Nat.le_of_ble_eq_true rfl)) dX3_tellThing_2 ⟨Nat.le_of_ble_eq_true rfl, Nat.le_of_ble_eq_true rfl⟩) hS (fun q _ h => hFc q h) hFc (fun r2 u t H1 locs ht hvm hw hB hz1 hk1 hS => ?_)
  obtain rfl : r2 = 1 := hw
  have hP := zo_K hP hk1
  refine lv_if_ne (tgt := 10) hx hb dX3_tellThing_5 (by decide) (fun _ => ?_) (fun h => absurd h (by decide))
  refine lv_aload_n hx hb dX3_tellThing_10 rfl (lv_at hl 0 rfl) ?_
  refine va_get (D := (dC, dI)) (ci := 5) (v := .ref th) (C := RX3) (T := TX3) (N := 12) hx hb hts zi_X3_tellThing_X3 hown hK (zo_R hR0 hS hAr) 0 rfl rfl 1 (by decide) (hts (.fieldLink RX3 19 "LockRooms$Room" "things" "[LLockRooms$Thing;") (by decide +kernel)) (fun _ h9 => h9) rfl dX3_tellThing_11 ?_
  refine lv_iload_n hx hb dX3_tellThing_14 rfl (lv_at hl 1 rfl) ?_
  refine va_aldq hx hb hK (zo_R hR0 hS hAr) 1 0 rfl rfl (by unfold vp_in; decide) dX3_tellThing_15 ?_
  refine zo_q (v := .ref t8) (by rw [show Int32.toNatClampNeg 8 = 8 from by decide, hkt8]; rfl) ?_
  refine lv_astore_n (lv' := [(3, .ref t8), (0, .ref rm), (1, .int 8), (2, .int 3)]) hx hb dX3_tellThing_16 rfl hl (by decide) rfl (fun ls hl => ?_)
  refine lv_iload_n hx hb dX3_tellThing_17 rfl (lv_at hl 3 rfl) ?_
  refine lv_tableIn (off := 49) (tgt := 67) hx hb dX3_tellThing_18 (by decide) (by decide) rfl (by decide) ?_
  refine lv_aload_n hx hb dX3_tellThing_67 rfl (lv_at hl 0 rfl) ?_
  refine va_get (D := (dC, dI)) (ci := 7) (v := .int 0) (C := RX5) (T := TX5) (N := 5) hx hb hts zi_X3_tellThing_X5 hown hK (zo_R hR0 hS hAr) 2 rfl rfl 3 (by decide) (hts (.fieldLink RX3 115 "LockRooms$Thing" "state" "I") (by decide +kernel)) (fun _ h9 => h9) rfl dX3_tellThing_68 ?_
  refine W.widen (k := 0) (n := 0) (Nat.le_of_ble_eq_true rfl) (Nat.le_of_ble_eq_true rfl) ?_
  exact W.iret hx hb hr (fun t ht hW => ⟨⟨0, (), rfl, rfl, trivial⟩, hS.F ht⟩) hS.2.2 dX3_tellThing_71
set_option maxHeartbeats 4000000 in
set_option maxRecDepth 100000 in
theorem cz_QtellThing_8_4 (l : Launch) (dC : Nat → ClassId) (dI : Nat → Nat → Nat) (ed sz : Nat) (rm : Nat) (lk : Nat) (th : Nat) (pl : Nat) (gm : Nat) (cT : ClassId) (ft : Nat → Option Nat) (t8 : Nat) (cL : ClassId) (fl : Nat → Option Nat) (l0 : Nat) (l1 : Nat) (hkt8 : ft 8 = some t8) (hkl0 : fl 0 = some l0) (hkl1 : fl 1 = some l1) : Met l yX3_tellThing wsX3_tellThing ({ frames := 1, cells := 0, slots := 0, locals := 22 } : Jvm.Room) (va_Pc [.ref rm, .int 8, .int 4] (zB dC dI ed sz [(rm, .inr (5, [.ref lk, .ref th, .ref pl, .ref gm, .int 2, .int 10, .int 0, .int 0, .int 1, .int 0, .int 0, .int 0])), (th, .inl (cT, 12, .inr (.inr (.inr (.inr ft))))), (t8, .inr (7, [.int (-1), .int 0, .int 0, .int 0, .int 0])), (lk, .inl (cL, 10, .inr (.inr (.inr (.inr fl))))), (l0, .inr (3, [.int 0, .int 0, .int 60, .int 0, .int 0, .int 0, .int 0, .int 0, .int 0, .int 0])), (l1, .inr (3, [.int 0, .int 0, .int 60, .int 0, .int 0, .int 0, .int 0, .int 0, .int 0, .int 0]))] [] [(cT, .object "LockRooms$Thing"), (cL, .object "LockRooms$Lock")])) (va_Qi (fun (r : Int32) (_ : Unit) => r = 1) (fun (_ : Unit) (_ : State) => True) (va_A [] sz)) 0 0 (va_A [] sz) := by
  refine Met.ofW (cc := cX3_tellThing) (maxL := 4) (ret := (some .int)) (by decide) rfl ?_
  intro p e s m args below meth c s₁ B hml hv
  obtain ⟨rfl, hsz, hR0, hP, hK, hD0, hN, hH, hX0⟩ := hv
  have hx := B.exec
  have hb := B.bytes
  have hr := B.returns
  have hts := atoms_spec (ws := wsX3_tellThing) B.pre
  have hown : s.vm.findClass RX3 = some m.cls := findClass_of_methodNamed B.named
  have hlocks := B.notSynchronized
  subst hsz
  have hD := hD0.self (sz := s.heap.size)
  have hAr := zx_A hX0 hR0
  generalize hAe : va_A [] s.heap.size = A at hD hAr hH ⊢
  have hA : ∀ q : Nat, s.heap.size ≤ q → A q := fun q h => by rw [← hAe]; exact Or.inr h
  have hS : va_S A s.heap s.heap [] := va_S.rf
  have hl := lv_entry ([.ref rm, .int 8, .int 4]) (n := 4) (Nat.le_of_ble_eq_true rfl)
  rw [lg_entry_eq]
  generalize (lg_sl ([.ref rm, .int 8, .int 4]) ++ List.replicate (4 - (lg_sl ([.ref rm, .int 8, .int 4])).length) Slot.unset).toArray = ls at hl ⊢
  have hl : lv_has ls 4 [(0, .ref rm), (1, .int 8), (2, .int 4)] := hl
  refine lv_aload_n hx hb dX3_tellThing_0 rfl (lv_at hl 0 rfl) ?_
  refine lv_iload_n hx hb dX3_tellThing_1 rfl (lv_at hl 1 rfl) ?_
  have hPr := (hR0).sub (ws' := [(rm, .inr (5, [.ref lk, .ref th, .ref pl, .ref gm, .int 2, .int 10, .int 0, .int 0, .int 1, .int 0, .int 0, .int 0]))]) [0] rfl
  have hPc := hP.sub (ws' := []) [] rfl
  have hDc := hD.sub (ws' := []) [] (by decide) rfl
  have hKc := hK.sub (tys' := []) [] rfl
  have hFc := va_free (wc := []) hD hS hA [] rfl
  refine va_calli (va_runV (As := [.int 8]) (rest := []) ⟨hx, hb, hml, hown, hts⟩ (cz_QhasThing_8 l dC dI ed s.heap.size rm lk th pl gm) (cwV 1 hts gX3_tellThing_X3_hasThing rfl rfl rfl (by decide +kernel) ⟨Nat.le_of_ble_eq_true rfl, Nat.le_of_ble_eq_true rfl⟩) ⟨zb_blind, va_recv hK hR0 (ci := 5) (q0 := 0) rfl rfl, fun U hU hW => ⟨rfl, zb_mk hU hW hPr hPc hKc hDc hN hH hS hFc zx_e⟩⟩ rfl rfl hl.1 rfl (lv_room (Nat.le_of_ble_eq_true rfl)) dX3_tellThing_2 ⟨Nat.le_of_ble_eq_true rfl, Nat.le_of_ble_eq_true rfl⟩) hS (fun q _ h => hFc q h) hFc (fun r2 u t H1 locs ht hvm hw hB hz1 hk1 hS => ?_)
  obtain rfl : r2 = 1 := hw
  have hP := zo_K hP hk1
  refine lv_if_ne (tgt := 10) hx hb dX3_tellThing_5 (by decide) (fun _ => ?_) (fun h => absurd h (by decide))
  refine lv_aload_n hx hb dX3_tellThing_10 rfl (lv_at hl 0 rfl) ?_
  refine va_get (D := (dC, dI)) (ci := 5) (v := .ref th) (C := RX3) (T := TX3) (N := 12) hx hb hts zi_X3_tellThing_X3 hown hK (zo_R hR0 hS hAr) 0 rfl rfl 1 (by decide) (hts (.fieldLink RX3 19 "LockRooms$Room" "things" "[LLockRooms$Thing;") (by decide +kernel)) (fun _ h9 => h9) rfl dX3_tellThing_11 ?_
  refine lv_iload_n hx hb dX3_tellThing_14 rfl (lv_at hl 1 rfl) ?_
  refine va_aldq hx hb hK (zo_R hR0 hS hAr) 1 0 rfl rfl (by unfold vp_in; decide) dX3_tellThing_15 ?_
  refine zo_q (v := .ref t8) (by rw [show Int32.toNatClampNeg 8 = 8 from by decide, hkt8]; rfl) ?_
  refine lv_astore_n (lv' := [(3, .ref t8), (0, .ref rm), (1, .int 8), (2, .int 4)]) hx hb dX3_tellThing_16 rfl hl (by decide) rfl (fun ls hl => ?_)
  refine lv_iload_n hx hb dX3_tellThing_17 rfl (lv_at hl 3 rfl) ?_
  refine lv_tableIn (off := 54) (tgt := 72) hx hb dX3_tellThing_18 (by decide) (by decide) rfl (by decide) ?_
  refine lv_aload_n hx hb dX3_tellThing_72 rfl (lv_at hl 0 rfl) ?_
  refine lv_aload_n hx hb dX3_tellThing_73 rfl (lv_at hl 1 rfl) ?_
  have hPr := ((zo_R hR0 hS hAr)).sub (ws' := [(rm, .inr (5, [.ref lk, .ref th, .ref pl, .ref gm, .int 2, .int 10, .int 0, .int 0, .int 1, .int 0, .int 0, .int 0])), (lk, .inl (cL, 10, .inr (.inr (.inr (.inr fl))))), (l0, .inr (3, [.int 0, .int 0, .int 60, .int 0, .int 0, .int 0, .int 0, .int 0, .int 0, .int 0])), (l1, .inr (3, [.int 0, .int 0, .int 60, .int 0, .int 0, .int 0, .int 0, .int 0, .int 0, .int 0]))]) [0, 3, 4, 5] rfl
  have hPc := hP.sub (ws' := []) [] rfl
  have hDc := hD.sub (ws' := []) [] (by decide) rfl
  have hKc := hK.sub (tys' := [(cL, .object "LockRooms$Lock")]) [1] rfl
  have hFc := va_free (wc := []) hD hS hA [] rfl
  refine va_calli (va_runV (As := []) (rest := [.ref t8]) ⟨hx, hb, hml, hown, hts⟩ (cz_QopenLocks l dC dI ed H1.size rm lk th pl gm cL fl l0 l1 hkl0 hkl1) (cwV 0 hts gX3_tellThing_X3_openLocks rfl rfl rfl (by decide +kernel) ⟨Nat.le_of_ble_eq_true rfl, Nat.le_of_ble_eq_true rfl⟩) ⟨zb_blind, va_recv hK (zo_R hR0 hS hAr) (ci := 5) (q0 := 0) rfl rfl, fun U hU hW => ⟨rfl, zb_mk hU hW hPr hPc hKc hDc hN hH hS hFc zx_e⟩⟩ rfl rfl hl.1 rfl (lv_room (Nat.le_of_ble_eq_true rfl)) dX3_tellThing_74 ⟨Nat.le_of_ble_eq_true rfl, Nat.le_of_ble_eq_true rfl⟩) hS (fun q _ h => hFc q h) hFc (fun r4 u t H3 locs ht hvm hw hB hz1 hk1 hS => ?_)
  obtain rfl : r4 = 0 := hw
  have hP := zo_K hP hk1
  have hPr := ((zo_R hR0 hS hAr)).sub (ws' := [(t8, .inr (7, [.int (-1), .int 0, .int 0, .int 0, .int 0]))]) [2] rfl
  have hPc := hP.sub (ws' := []) [] rfl
  have hDc := hD.sub (ws' := []) [] (by decide) rfl
  have hKc := hK.sub (tys' := []) [] rfl
  have hFc := va_free (wc := []) hD hS hA [] rfl
  refine va_calli (va_runV (As := [.int 0]) (rest := []) ⟨hx, hb, hml, hown, hts⟩ (cz_QcanBeReached l dC dI ed H3.size t8 0) (cwV 1 hts gX3_tellThing_X5_canBeReached rfl rfl rfl (by decide +kernel) ⟨Nat.le_of_ble_eq_true rfl, Nat.le_of_ble_eq_true rfl⟩) ⟨zb_blind, va_recv hK (zo_R hR0 hS hAr) (ci := 7) (q0 := 2) rfl rfl, fun U hU hW => ⟨rfl, zb_mk hU hW hPr hPc hKc hDc hN hH hS hFc zx_e⟩⟩ rfl rfl hl.1 rfl (lv_room (Nat.le_of_ble_eq_true rfl)) dX3_tellThing_77 ⟨Nat.le_of_ble_eq_true rfl, Nat.le_of_ble_eq_true rfl⟩) hS (fun q _ h => hFc q h) hFc (fun r6 u t H5 locs ht hvm hw hB hz1 hk1 hS => ?_)
  obtain rfl : r6 = 1 := hw
  have hP := zo_K hP hk1
  have hPr := (zo_nil : va_P (dC, dI) vwCl [] H5)
  have hPc := hP.sub (ws' := []) [] rfl
  have hDc := hD.sub (ws' := []) [] (by decide) rfl
  have hKc := hK.sub (tys' := []) [] rfl
  have hFc := va_free (wc := []) hD hS hA [] rfl
  refine va_calli (va_runSN (As := [.int 1]) (rest := []) ⟨hx, hb, hml, hown, hts⟩ (cz_oneIf_1 l dC dI ed H5.size ) ⟨(va_cnB 1 hts gX3_tellThing_X6_oneIf_n147 rfl rfl rfl (hN.2.1 ("LockRooms$Room", 147, yX6_oneIf, "LockRooms") (List.mem_of_getElem? (i := 8) rfl)) (hts (.initialized RX6) (by decide +kernel)) (by decide +kernel) ⟨Nat.le_of_ble_eq_true rfl, Nat.le_of_ble_eq_true rfl⟩), (hts (.static yX6_oneIf) (by decide +kernel)), trivial⟩ ⟨zb_blind, fun U hU hW => ⟨rfl, zb_mk hU hW hPr hPc hKc hDc hN hH hS hFc zx_e⟩⟩ rfl rfl hl.1 rfl (lv_room (Nat.le_of_ble_eq_true rfl)) dX3_tellThing_80 ⟨Nat.le_of_ble_eq_true rfl, Nat.le_of_ble_eq_true rfl⟩) hS (fun q _ h => hFc q h) hFc (fun r8 u t H7 locs ht hvm hw hB hz1 hk1 hS => ?_)
  obtain rfl : r8 = 1 := hw
  have hP := zo_K hP hk1
  refine W.widen (k := 0) (n := 0) (Nat.le_of_ble_eq_true rfl) (Nat.le_of_ble_eq_true rfl) ?_
  exact W.iret hx hb hr (fun t ht hW => ⟨⟨1, (), rfl, rfl, trivial⟩, hS.F ht⟩) hS.2.2 dX3_tellThing_83
set_option maxHeartbeats 4000000 in
set_option maxRecDepth 100000 in
theorem cz_QtellThing_8_5 (l : Launch) (dC : Nat → ClassId) (dI : Nat → Nat → Nat) (ed sz : Nat) (rm : Nat) (lk : Nat) (th : Nat) (pl : Nat) (gm : Nat) (cT : ClassId) (ft : Nat → Option Nat) (t8 : Nat) (cL : ClassId) (fl : Nat → Option Nat) (l0 : Nat) (l1 : Nat) (hkt8 : ft 8 = some t8) (hkl0 : fl 0 = some l0) (hkl1 : fl 1 = some l1) : Met l yX3_tellThing wsX3_tellThing ({ frames := 2, cells := 0, slots := 0, locals := 44 } : Jvm.Room) (va_Pc [.ref rm, .int 8, .int 5] (zB dC dI ed sz [(rm, .inr (5, [.ref lk, .ref th, .ref pl, .ref gm, .int 2, .int 10, .int 0, .int 0, .int 1, .int 0, .int 0, .int 0])), (th, .inl (cT, 12, .inr (.inr (.inr (.inr ft))))), (t8, .inr (7, [.int (-1), .int 0, .int 0, .int 0, .int 0])), (lk, .inl (cL, 10, .inr (.inr (.inr (.inr fl))))), (l0, .inr (3, [.int 0, .int 0, .int 60, .int 0, .int 0, .int 0, .int 0, .int 0, .int 0, .int 0])), (l1, .inr (3, [.int 0, .int 0, .int 60, .int 0, .int 0, .int 0, .int 0, .int 0, .int 0, .int 0]))] [] [(cT, .object "LockRooms$Thing"), (cL, .object "LockRooms$Lock")])) (va_Qi (fun (r : Int32) (_ : Unit) => r = 0) (fun (_ : Unit) (_ : State) => True) (va_A [] sz)) 0 0 (va_A [] sz) := by
  refine Met.ofW (cc := cX3_tellThing) (maxL := 4) (ret := (some .int)) (by decide) rfl ?_
  intro p e s m args below meth c s₁ B hml hv
  obtain ⟨rfl, hsz, hR0, hP, hK, hD0, hN, hH, hX0⟩ := hv
  have hx := B.exec
  have hb := B.bytes
  have hr := B.returns
  have hts := atoms_spec (ws := wsX3_tellThing) B.pre
  have hown : s.vm.findClass RX3 = some m.cls := findClass_of_methodNamed B.named
  have hlocks := B.notSynchronized
  subst hsz
  have hD := hD0.self (sz := s.heap.size)
  have hAr := zx_A hX0 hR0
  generalize hAe : va_A [] s.heap.size = A at hD hAr hH ⊢
  have hA : ∀ q : Nat, s.heap.size ≤ q → A q := fun q h => by rw [← hAe]; exact Or.inr h
  have hS : va_S A s.heap s.heap [] := va_S.rf
  have hl := lv_entry ([.ref rm, .int 8, .int 5]) (n := 4) (Nat.le_of_ble_eq_true rfl)
  rw [lg_entry_eq]
  generalize (lg_sl ([.ref rm, .int 8, .int 5]) ++ List.replicate (4 - (lg_sl ([.ref rm, .int 8, .int 5])).length) Slot.unset).toArray = ls at hl ⊢
  have hl : lv_has ls 4 [(0, .ref rm), (1, .int 8), (2, .int 5)] := hl
  refine lv_aload_n hx hb dX3_tellThing_0 rfl (lv_at hl 0 rfl) ?_
  refine lv_iload_n hx hb dX3_tellThing_1 rfl (lv_at hl 1 rfl) ?_
  have hPr := (hR0).sub (ws' := [(rm, .inr (5, [.ref lk, .ref th, .ref pl, .ref gm, .int 2, .int 10, .int 0, .int 0, .int 1, .int 0, .int 0, .int 0]))]) [0] rfl
  have hPc := hP.sub (ws' := []) [] rfl
  have hDc := hD.sub (ws' := []) [] (by decide) rfl
  have hKc := hK.sub (tys' := []) [] rfl
  have hFc := va_free (wc := []) hD hS hA [] rfl
  refine va_calli (va_runV (As := [.int 8]) (rest := []) ⟨hx, hb, hml, hown, hts⟩ (cz_QhasThing_8 l dC dI ed s.heap.size rm lk th pl gm) (cwV 1 hts gX3_tellThing_X3_hasThing rfl rfl rfl (by decide +kernel) ⟨Nat.le_of_ble_eq_true rfl, Nat.le_of_ble_eq_true rfl⟩) ⟨zb_blind, va_recv hK hR0 (ci := 5) (q0 := 0) rfl rfl, fun U hU hW => ⟨rfl, zb_mk hU hW hPr hPc hKc hDc hN hH hS hFc zx_e⟩⟩ rfl rfl hl.1 rfl (lv_room (Nat.le_of_ble_eq_true rfl)) dX3_tellThing_2 ⟨Nat.le_of_ble_eq_true rfl, Nat.le_of_ble_eq_true rfl⟩) hS (fun q _ h => hFc q h) hFc (fun r2 u t H1 locs ht hvm hw hB hz1 hk1 hS => ?_)
  obtain rfl : r2 = 1 := hw
  have hP := zo_K hP hk1
  refine lv_if_ne (tgt := 10) hx hb dX3_tellThing_5 (by decide) (fun _ => ?_) (fun h => absurd h (by decide))
  refine lv_aload_n hx hb dX3_tellThing_10 rfl (lv_at hl 0 rfl) ?_
  refine va_get (D := (dC, dI)) (ci := 5) (v := .ref th) (C := RX3) (T := TX3) (N := 12) hx hb hts zi_X3_tellThing_X3 hown hK (zo_R hR0 hS hAr) 0 rfl rfl 1 (by decide) (hts (.fieldLink RX3 19 "LockRooms$Room" "things" "[LLockRooms$Thing;") (by decide +kernel)) (fun _ h9 => h9) rfl dX3_tellThing_11 ?_
  refine lv_iload_n hx hb dX3_tellThing_14 rfl (lv_at hl 1 rfl) ?_
  refine va_aldq hx hb hK (zo_R hR0 hS hAr) 1 0 rfl rfl (by unfold vp_in; decide) dX3_tellThing_15 ?_
  refine zo_q (v := .ref t8) (by rw [show Int32.toNatClampNeg 8 = 8 from by decide, hkt8]; rfl) ?_
  refine lv_astore_n (lv' := [(3, .ref t8), (0, .ref rm), (1, .int 8), (2, .int 5)]) hx hb dX3_tellThing_16 rfl hl (by decide) rfl (fun ls hl => ?_)
  refine lv_iload_n hx hb dX3_tellThing_17 rfl (lv_at hl 3 rfl) ?_
  refine lv_tableOut (tgt := 84) hx hb dX3_tellThing_18 (by decide) (by decide) ?_
  refine lv_aload_n hx hb dX3_tellThing_84 rfl (lv_at hl 1 rfl) ?_
  refine lv_iload_n hx hb dX3_tellThing_85 rfl (lv_at hl 2 rfl) ?_
  have hPr := ((zo_R hR0 hS hAr)).sub (ws' := [(rm, .inr (5, [.ref lk, .ref th, .ref pl, .ref gm, .int 2, .int 10, .int 0, .int 0, .int 1, .int 0, .int 0, .int 0])), (lk, .inl (cL, 10, .inr (.inr (.inr (.inr fl))))), (l0, .inr (3, [.int 0, .int 0, .int 60, .int 0, .int 0, .int 0, .int 0, .int 0, .int 0, .int 0])), (l1, .inr (3, [.int 0, .int 0, .int 60, .int 0, .int 0, .int 0, .int 0, .int 0, .int 0, .int 0]))]) [0, 3, 4, 5] rfl
  have hPc := hP.sub (ws' := []) [] rfl
  have hDc := hD.sub (ws' := []) [] (by decide) rfl
  have hKc := hK.sub (tys' := [(cL, .object "LockRooms$Lock")]) [1] rfl
  have hFc := va_free (wc := []) hD hS hA [] rfl
  refine va_calli (va_runV (As := [.int 8]) (rest := []) ⟨hx, hb, hml, hown, hts⟩ (cz_QlocksThatNeed_8 l dC dI ed H1.size rm lk th pl gm cL fl l0 l1 hkl0 hkl1) (cwV 1 hts gX3_tellThing_X3_locksThatNeed rfl rfl rfl (by decide +kernel) ⟨Nat.le_of_ble_eq_true rfl, Nat.le_of_ble_eq_true rfl⟩) ⟨zb_blind, va_recv hK (zo_R hR0 hS hAr) (ci := 5) (q0 := 0) rfl rfl, fun U hU hW => ⟨rfl, zb_mk hU hW hPr hPc hKc hDc hN hH hS hFc zx_e⟩⟩ rfl rfl hl.1 rfl (lv_room (Nat.le_of_ble_eq_true rfl)) dX3_tellThing_86 ⟨Nat.le_of_ble_eq_true rfl, Nat.le_of_ble_eq_true rfl⟩) hS (fun q _ h => hFc q h) hFc (fun r4 u t H3 locs ht hvm hw hB hz1 hk1 hS => ?_)
  obtain rfl : r4 = 0 := hw
  have hP := zo_K hP hk1
  refine W.widen (k := 0) (n := 0) (Nat.le_of_ble_eq_true rfl) (Nat.le_of_ble_eq_true rfl) ?_
  exact W.iret hx hb hr (fun t ht hW => ⟨⟨0, (), rfl, rfl, trivial⟩, hS.F ht⟩) hS.2.2 dX3_tellThing_89
set_option maxHeartbeats 4000000 in
set_option maxRecDepth 100000 in
theorem cz_QtellThing_9_0 (l : Launch) (dC : Nat → ClassId) (dI : Nat → Nat → Nat) (ed sz : Nat) (rm : Nat) (lk : Nat) (th : Nat) (pl : Nat) (gm : Nat) (cT : ClassId) (ft : Nat → Option Nat) (t9 : Nat) (hkt9 : ft 9 = some t9) : Met l yX3_tellThing wsX3_tellThing ({ frames := 1, cells := 0, slots := 0, locals := 21 } : Jvm.Room) (va_Pc [.ref rm, .int 9, .int 0] (zB dC dI ed sz [(rm, .inr (5, [.ref lk, .ref th, .ref pl, .ref gm, .int 2, .int 10, .int 0, .int 0, .int 1, .int 0, .int 0, .int 0])), (th, .inl (cT, 12, .inr (.inr (.inr (.inr ft))))), (t9, .inr (7, [.int (-1), .int 0, .int 0, .int 0, .int 0]))] [] [(cT, .object "LockRooms$Thing")])) (va_Qi (fun (r : Int32) (_ : Unit) => r = (-1)) (fun (_ : Unit) (_ : State) => True) (va_A [] sz)) 0 0 (va_A [] sz) := by
  refine Met.ofW (cc := cX3_tellThing) (maxL := 4) (ret := (some .int)) (by decide) rfl ?_
  intro p e s m args below meth c s₁ B hml hv
  obtain ⟨rfl, hsz, hR0, hP, hK, hD0, hN, hH, hX0⟩ := hv
  have hx := B.exec
  have hb := B.bytes
  have hr := B.returns
  have hts := atoms_spec (ws := wsX3_tellThing) B.pre
  have hown : s.vm.findClass RX3 = some m.cls := findClass_of_methodNamed B.named
  have hlocks := B.notSynchronized
  subst hsz
  have hD := hD0.self (sz := s.heap.size)
  have hAr := zx_A hX0 hR0
  generalize hAe : va_A [] s.heap.size = A at hD hAr hH ⊢
  have hA : ∀ q : Nat, s.heap.size ≤ q → A q := fun q h => by rw [← hAe]; exact Or.inr h
  have hS : va_S A s.heap s.heap [] := va_S.rf
  have hl := lv_entry ([.ref rm, .int 9, .int 0]) (n := 4) (Nat.le_of_ble_eq_true rfl)
  rw [lg_entry_eq]
  generalize (lg_sl ([.ref rm, .int 9, .int 0]) ++ List.replicate (4 - (lg_sl ([.ref rm, .int 9, .int 0])).length) Slot.unset).toArray = ls at hl ⊢
  have hl : lv_has ls 4 [(0, .ref rm), (1, .int 9), (2, .int 0)] := hl
  refine lv_aload_n hx hb dX3_tellThing_0 rfl (lv_at hl 0 rfl) ?_
  refine lv_iload_n hx hb dX3_tellThing_1 rfl (lv_at hl 1 rfl) ?_
  have hPr := (hR0).sub (ws' := [(rm, .inr (5, [.ref lk, .ref th, .ref pl, .ref gm, .int 2, .int 10, .int 0, .int 0, .int 1, .int 0, .int 0, .int 0]))]) [0] rfl
  have hPc := hP.sub (ws' := []) [] rfl
  have hDc := hD.sub (ws' := []) [] (by decide) rfl
  have hKc := hK.sub (tys' := []) [] rfl
  have hFc := va_free (wc := []) hD hS hA [] rfl
  refine va_calli (va_runV (As := [.int 9]) (rest := []) ⟨hx, hb, hml, hown, hts⟩ (cz_QhasThing_9 l dC dI ed s.heap.size rm lk th pl gm) (cwV 1 hts gX3_tellThing_X3_hasThing rfl rfl rfl (by decide +kernel) ⟨Nat.le_of_ble_eq_true rfl, Nat.le_of_ble_eq_true rfl⟩) ⟨zb_blind, va_recv hK hR0 (ci := 5) (q0 := 0) rfl rfl, fun U hU hW => ⟨rfl, zb_mk hU hW hPr hPc hKc hDc hN hH hS hFc zx_e⟩⟩ rfl rfl hl.1 rfl (lv_room (Nat.le_of_ble_eq_true rfl)) dX3_tellThing_2 ⟨Nat.le_of_ble_eq_true rfl, Nat.le_of_ble_eq_true rfl⟩) hS (fun q _ h => hFc q h) hFc (fun r2 u t H1 locs ht hvm hw hB hz1 hk1 hS => ?_)
  obtain rfl : r2 = 1 := hw
  have hP := zo_K hP hk1
  refine lv_if_ne (tgt := 10) hx hb dX3_tellThing_5 (by decide) (fun _ => ?_) (fun h => absurd h (by decide))
  refine lv_aload_n hx hb dX3_tellThing_10 rfl (lv_at hl 0 rfl) ?_
  refine va_get (D := (dC, dI)) (ci := 5) (v := .ref th) (C := RX3) (T := TX3) (N := 12) hx hb hts zi_X3_tellThing_X3 hown hK (zo_R hR0 hS hAr) 0 rfl rfl 1 (by decide) (hts (.fieldLink RX3 19 "LockRooms$Room" "things" "[LLockRooms$Thing;") (by decide +kernel)) (fun _ h9 => h9) rfl dX3_tellThing_11 ?_
  refine lv_iload_n hx hb dX3_tellThing_14 rfl (lv_at hl 1 rfl) ?_
  refine va_aldq hx hb hK (zo_R hR0 hS hAr) 1 0 rfl rfl (by unfold vp_in; decide) dX3_tellThing_15 ?_
  refine zo_q (v := .ref t9) (by rw [show Int32.toNatClampNeg 9 = 9 from by decide, hkt9]; rfl) ?_
  refine lv_astore_n (lv' := [(3, .ref t9), (0, .ref rm), (1, .int 9), (2, .int 0)]) hx hb dX3_tellThing_16 rfl hl (by decide) rfl (fun ls hl => ?_)
  refine lv_iload_n hx hb dX3_tellThing_17 rfl (lv_at hl 3 rfl) ?_
  refine lv_tableIn (off := 34) (tgt := 52) hx hb dX3_tellThing_18 (by decide) (by decide) rfl (by decide) ?_
  refine lv_aload_n hx hb dX3_tellThing_52 rfl (lv_at hl 0 rfl) ?_
  refine va_get (D := (dC, dI)) (ci := 7) (v := .int (-1)) (C := RX5) (T := TX5) (N := 5) hx hb hts zi_X3_tellThing_X5 hown hK (zo_R hR0 hS hAr) 2 rfl rfl 0 (by decide) (hts (.fieldLink RX3 90 "LockRooms$Thing" "place" "I") (by decide +kernel)) (fun _ h9 => h9) rfl dX3_tellThing_53 ?_
  refine W.widen (k := 0) (n := 0) (Nat.le_of_ble_eq_true rfl) (Nat.le_of_ble_eq_true rfl) ?_
  exact W.iret hx hb hr (fun t ht hW => ⟨⟨(-1), (), rfl, rfl, trivial⟩, hS.F ht⟩) hS.2.2 dX3_tellThing_56
set_option maxHeartbeats 4000000 in
set_option maxRecDepth 100000 in
theorem cz_QtellThing_9_1 (l : Launch) (dC : Nat → ClassId) (dI : Nat → Nat → Nat) (ed sz : Nat) (rm : Nat) (lk : Nat) (th : Nat) (pl : Nat) (gm : Nat) (cT : ClassId) (ft : Nat → Option Nat) (t9 : Nat) (hkt9 : ft 9 = some t9) : Met l yX3_tellThing wsX3_tellThing ({ frames := 1, cells := 0, slots := 0, locals := 21 } : Jvm.Room) (va_Pc [.ref rm, .int 9, .int 1] (zB dC dI ed sz [(rm, .inr (5, [.ref lk, .ref th, .ref pl, .ref gm, .int 2, .int 10, .int 0, .int 0, .int 1, .int 0, .int 0, .int 0])), (th, .inl (cT, 12, .inr (.inr (.inr (.inr ft))))), (t9, .inr (7, [.int (-1), .int 0, .int 0, .int 0, .int 0]))] [] [(cT, .object "LockRooms$Thing")])) (va_Qi (fun (r : Int32) (_ : Unit) => r = 0) (fun (_ : Unit) (_ : State) => True) (va_A [] sz)) 0 0 (va_A [] sz) := by
  refine Met.ofW (cc := cX3_tellThing) (maxL := 4) (ret := (some .int)) (by decide) rfl ?_
  intro p e s m args below meth c s₁ B hml hv
  obtain ⟨rfl, hsz, hR0, hP, hK, hD0, hN, hH, hX0⟩ := hv
  have hx := B.exec
  have hb := B.bytes
  have hr := B.returns
  have hts := atoms_spec (ws := wsX3_tellThing) B.pre
  have hown : s.vm.findClass RX3 = some m.cls := findClass_of_methodNamed B.named
  have hlocks := B.notSynchronized
  subst hsz
  have hD := hD0.self (sz := s.heap.size)
  have hAr := zx_A hX0 hR0
  generalize hAe : va_A [] s.heap.size = A at hD hAr hH ⊢
  have hA : ∀ q : Nat, s.heap.size ≤ q → A q := fun q h => by rw [← hAe]; exact Or.inr h
  have hS : va_S A s.heap s.heap [] := va_S.rf
  have hl := lv_entry ([.ref rm, .int 9, .int 1]) (n := 4) (Nat.le_of_ble_eq_true rfl)
  rw [lg_entry_eq]
  generalize (lg_sl ([.ref rm, .int 9, .int 1]) ++ List.replicate (4 - (lg_sl ([.ref rm, .int 9, .int 1])).length) Slot.unset).toArray = ls at hl ⊢
  have hl : lv_has ls 4 [(0, .ref rm), (1, .int 9), (2, .int 1)] := hl
  refine lv_aload_n hx hb dX3_tellThing_0 rfl (lv_at hl 0 rfl) ?_
  refine lv_iload_n hx hb dX3_tellThing_1 rfl (lv_at hl 1 rfl) ?_
  have hPr := (hR0).sub (ws' := [(rm, .inr (5, [.ref lk, .ref th, .ref pl, .ref gm, .int 2, .int 10, .int 0, .int 0, .int 1, .int 0, .int 0, .int 0]))]) [0] rfl
  have hPc := hP.sub (ws' := []) [] rfl
  have hDc := hD.sub (ws' := []) [] (by decide) rfl
  have hKc := hK.sub (tys' := []) [] rfl
  have hFc := va_free (wc := []) hD hS hA [] rfl
  refine va_calli (va_runV (As := [.int 9]) (rest := []) ⟨hx, hb, hml, hown, hts⟩ (cz_QhasThing_9 l dC dI ed s.heap.size rm lk th pl gm) (cwV 1 hts gX3_tellThing_X3_hasThing rfl rfl rfl (by decide +kernel) ⟨Nat.le_of_ble_eq_true rfl, Nat.le_of_ble_eq_true rfl⟩) ⟨zb_blind, va_recv hK hR0 (ci := 5) (q0 := 0) rfl rfl, fun U hU hW => ⟨rfl, zb_mk hU hW hPr hPc hKc hDc hN hH hS hFc zx_e⟩⟩ rfl rfl hl.1 rfl (lv_room (Nat.le_of_ble_eq_true rfl)) dX3_tellThing_2 ⟨Nat.le_of_ble_eq_true rfl, Nat.le_of_ble_eq_true rfl⟩) hS (fun q _ h => hFc q h) hFc (fun r2 u t H1 locs ht hvm hw hB hz1 hk1 hS => ?_)
  obtain rfl : r2 = 1 := hw
  have hP := zo_K hP hk1
  refine lv_if_ne (tgt := 10) hx hb dX3_tellThing_5 (by decide) (fun _ => ?_) (fun h => absurd h (by decide))
  refine lv_aload_n hx hb dX3_tellThing_10 rfl (lv_at hl 0 rfl) ?_
  refine va_get (D := (dC, dI)) (ci := 5) (v := .ref th) (C := RX3) (T := TX3) (N := 12) hx hb hts zi_X3_tellThing_X3 hown hK (zo_R hR0 hS hAr) 0 rfl rfl 1 (by decide) (hts (.fieldLink RX3 19 "LockRooms$Room" "things" "[LLockRooms$Thing;") (by decide +kernel)) (fun _ h9 => h9) rfl dX3_tellThing_11 ?_
  refine lv_iload_n hx hb dX3_tellThing_14 rfl (lv_at hl 1 rfl) ?_
  refine va_aldq hx hb hK (zo_R hR0 hS hAr) 1 0 rfl rfl (by unfold vp_in; decide) dX3_tellThing_15 ?_
  refine zo_q (v := .ref t9) (by rw [show Int32.toNatClampNeg 9 = 9 from by decide, hkt9]; rfl) ?_
  refine lv_astore_n (lv' := [(3, .ref t9), (0, .ref rm), (1, .int 9), (2, .int 1)]) hx hb dX3_tellThing_16 rfl hl (by decide) rfl (fun ls hl => ?_)
  refine lv_iload_n hx hb dX3_tellThing_17 rfl (lv_at hl 3 rfl) ?_
  refine lv_tableIn (off := 39) (tgt := 57) hx hb dX3_tellThing_18 (by decide) (by decide) rfl (by decide) ?_
  refine lv_aload_n hx hb dX3_tellThing_57 rfl (lv_at hl 0 rfl) ?_
  refine va_get (D := (dC, dI)) (ci := 7) (v := .int 0) (C := RX5) (T := TX5) (N := 5) hx hb hts zi_X3_tellThing_X5 hown hK (zo_R hR0 hS hAr) 2 rfl rfl 1 (by decide) (hts (.fieldLink RX3 93 "LockRooms$Thing" "hid" "I") (by decide +kernel)) (fun _ h9 => h9) rfl dX3_tellThing_58 ?_
  refine W.widen (k := 0) (n := 0) (Nat.le_of_ble_eq_true rfl) (Nat.le_of_ble_eq_true rfl) ?_
  exact W.iret hx hb hr (fun t ht hW => ⟨⟨0, (), rfl, rfl, trivial⟩, hS.F ht⟩) hS.2.2 dX3_tellThing_61
set_option maxHeartbeats 4000000 in
set_option maxRecDepth 100000 in
theorem cz_QtellThing_9_2 (l : Launch) (dC : Nat → ClassId) (dI : Nat → Nat → Nat) (ed sz : Nat) (rm : Nat) (lk : Nat) (th : Nat) (pl : Nat) (gm : Nat) (cT : ClassId) (ft : Nat → Option Nat) (t9 : Nat) (hkt9 : ft 9 = some t9) : Met l yX3_tellThing wsX3_tellThing ({ frames := 1, cells := 0, slots := 0, locals := 21 } : Jvm.Room) (va_Pc [.ref rm, .int 9, .int 2] (zB dC dI ed sz [(rm, .inr (5, [.ref lk, .ref th, .ref pl, .ref gm, .int 2, .int 10, .int 0, .int 0, .int 1, .int 0, .int 0, .int 0])), (th, .inl (cT, 12, .inr (.inr (.inr (.inr ft))))), (t9, .inr (7, [.int (-1), .int 0, .int 0, .int 0, .int 0]))] [] [(cT, .object "LockRooms$Thing")])) (va_Qi (fun (r : Int32) (_ : Unit) => r = 0) (fun (_ : Unit) (_ : State) => True) (va_A [] sz)) 0 0 (va_A [] sz) := by
  refine Met.ofW (cc := cX3_tellThing) (maxL := 4) (ret := (some .int)) (by decide) rfl ?_
  intro p e s m args below meth c s₁ B hml hv
  obtain ⟨rfl, hsz, hR0, hP, hK, hD0, hN, hH, hX0⟩ := hv
  have hx := B.exec
  have hb := B.bytes
  have hr := B.returns
  have hts := atoms_spec (ws := wsX3_tellThing) B.pre
  have hown : s.vm.findClass RX3 = some m.cls := findClass_of_methodNamed B.named
  have hlocks := B.notSynchronized
  subst hsz
  have hD := hD0.self (sz := s.heap.size)
  have hAr := zx_A hX0 hR0
  generalize hAe : va_A [] s.heap.size = A at hD hAr hH ⊢
  have hA : ∀ q : Nat, s.heap.size ≤ q → A q := fun q h => by rw [← hAe]; exact Or.inr h
  have hS : va_S A s.heap s.heap [] := va_S.rf
  have hl := lv_entry ([.ref rm, .int 9, .int 2]) (n := 4) (Nat.le_of_ble_eq_true rfl)
  rw [lg_entry_eq]
  generalize (lg_sl ([.ref rm, .int 9, .int 2]) ++ List.replicate (4 - (lg_sl ([.ref rm, .int 9, .int 2])).length) Slot.unset).toArray = ls at hl ⊢
  have hl : lv_has ls 4 [(0, .ref rm), (1, .int 9), (2, .int 2)] := hl
  refine lv_aload_n hx hb dX3_tellThing_0 rfl (lv_at hl 0 rfl) ?_
  refine lv_iload_n hx hb dX3_tellThing_1 rfl (lv_at hl 1 rfl) ?_
  have hPr := (hR0).sub (ws' := [(rm, .inr (5, [.ref lk, .ref th, .ref pl, .ref gm, .int 2, .int 10, .int 0, .int 0, .int 1, .int 0, .int 0, .int 0]))]) [0] rfl
  have hPc := hP.sub (ws' := []) [] rfl
  have hDc := hD.sub (ws' := []) [] (by decide) rfl
  have hKc := hK.sub (tys' := []) [] rfl
  have hFc := va_free (wc := []) hD hS hA [] rfl
  refine va_calli (va_runV (As := [.int 9]) (rest := []) ⟨hx, hb, hml, hown, hts⟩ (cz_QhasThing_9 l dC dI ed s.heap.size rm lk th pl gm) (cwV 1 hts gX3_tellThing_X3_hasThing rfl rfl rfl (by decide +kernel) ⟨Nat.le_of_ble_eq_true rfl, Nat.le_of_ble_eq_true rfl⟩) ⟨zb_blind, va_recv hK hR0 (ci := 5) (q0 := 0) rfl rfl, fun U hU hW => ⟨rfl, zb_mk hU hW hPr hPc hKc hDc hN hH hS hFc zx_e⟩⟩ rfl rfl hl.1 rfl (lv_room (Nat.le_of_ble_eq_true rfl)) dX3_tellThing_2 ⟨Nat.le_of_ble_eq_true rfl, Nat.le_of_ble_eq_true rfl⟩) hS (fun q _ h => hFc q h) hFc (fun r2 u t H1 locs ht hvm hw hB hz1 hk1 hS => ?_)
  obtain rfl : r2 = 1 := hw
  have hP := zo_K hP hk1
  refine lv_if_ne (tgt := 10) hx hb dX3_tellThing_5 (by decide) (fun _ => ?_) (fun h => absurd h (by decide))
  refine lv_aload_n hx hb dX3_tellThing_10 rfl (lv_at hl 0 rfl) ?_
  refine va_get (D := (dC, dI)) (ci := 5) (v := .ref th) (C := RX3) (T := TX3) (N := 12) hx hb hts zi_X3_tellThing_X3 hown hK (zo_R hR0 hS hAr) 0 rfl rfl 1 (by decide) (hts (.fieldLink RX3 19 "LockRooms$Room" "things" "[LLockRooms$Thing;") (by decide +kernel)) (fun _ h9 => h9) rfl dX3_tellThing_11 ?_
  refine lv_iload_n hx hb dX3_tellThing_14 rfl (lv_at hl 1 rfl) ?_
  refine va_aldq hx hb hK (zo_R hR0 hS hAr) 1 0 rfl rfl (by unfold vp_in; decide) dX3_tellThing_15 ?_
  refine zo_q (v := .ref t9) (by rw [show Int32.toNatClampNeg 9 = 9 from by decide, hkt9]; rfl) ?_
  refine lv_astore_n (lv' := [(3, .ref t9), (0, .ref rm), (1, .int 9), (2, .int 2)]) hx hb dX3_tellThing_16 rfl hl (by decide) rfl (fun ls hl => ?_)
  refine lv_iload_n hx hb dX3_tellThing_17 rfl (lv_at hl 3 rfl) ?_
  refine lv_tableIn (off := 44) (tgt := 62) hx hb dX3_tellThing_18 (by decide) (by decide) rfl (by decide) ?_
  refine lv_aload_n hx hb dX3_tellThing_62 rfl (lv_at hl 0 rfl) ?_
  refine va_get (D := (dC, dI)) (ci := 7) (v := .int 0) (C := RX5) (T := TX5) (N := 5) hx hb hts zi_X3_tellThing_X5 hown hK (zo_R hR0 hS hAr) 2 rfl rfl 2 (by decide) (hts (.fieldLink RX3 207 "LockRooms$Thing" "searched" "I") (by decide +kernel)) (fun _ h9 => h9) rfl dX3_tellThing_63 ?_
  refine W.widen (k := 0) (n := 0) (Nat.le_of_ble_eq_true rfl) (Nat.le_of_ble_eq_true rfl) ?_
  exact W.iret hx hb hr (fun t ht hW => ⟨⟨0, (), rfl, rfl, trivial⟩, hS.F ht⟩) hS.2.2 dX3_tellThing_66
set_option maxHeartbeats 4000000 in
set_option maxRecDepth 100000 in
theorem cz_QtellThing_9_3 (l : Launch) (dC : Nat → ClassId) (dI : Nat → Nat → Nat) (ed sz : Nat) (rm : Nat) (lk : Nat) (th : Nat) (pl : Nat) (gm : Nat) (cT : ClassId) (ft : Nat → Option Nat) (t9 : Nat) (hkt9 : ft 9 = some t9) : Met l yX3_tellThing wsX3_tellThing ({ frames := 1, cells := 0, slots := 0, locals := 21 } : Jvm.Room) (va_Pc [.ref rm, .int 9, .int 3] (zB dC dI ed sz [(rm, .inr (5, [.ref lk, .ref th, .ref pl, .ref gm, .int 2, .int 10, .int 0, .int 0, .int 1, .int 0, .int 0, .int 0])), (th, .inl (cT, 12, .inr (.inr (.inr (.inr ft))))), (t9, .inr (7, [.int (-1), .int 0, .int 0, .int 0, .int 0]))] [] [(cT, .object "LockRooms$Thing")])) (va_Qi (fun (r : Int32) (_ : Unit) => r = 0) (fun (_ : Unit) (_ : State) => True) (va_A [] sz)) 0 0 (va_A [] sz) := by
  refine Met.ofW (cc := cX3_tellThing) (maxL := 4) (ret := (some .int)) (by decide) rfl ?_
  intro p e s m args below meth c s₁ B hml hv
  obtain ⟨rfl, hsz, hR0, hP, hK, hD0, hN, hH, hX0⟩ := hv
  have hx := B.exec
  have hb := B.bytes
  have hr := B.returns
  have hts := atoms_spec (ws := wsX3_tellThing) B.pre
  have hown : s.vm.findClass RX3 = some m.cls := findClass_of_methodNamed B.named
  have hlocks := B.notSynchronized
  subst hsz
  have hD := hD0.self (sz := s.heap.size)
  have hAr := zx_A hX0 hR0
  generalize hAe : va_A [] s.heap.size = A at hD hAr hH ⊢
  have hA : ∀ q : Nat, s.heap.size ≤ q → A q := fun q h => by rw [← hAe]; exact Or.inr h
  have hS : va_S A s.heap s.heap [] := va_S.rf
  have hl := lv_entry ([.ref rm, .int 9, .int 3]) (n := 4) (Nat.le_of_ble_eq_true rfl)
  rw [lg_entry_eq]
  generalize (lg_sl ([.ref rm, .int 9, .int 3]) ++ List.replicate (4 - (lg_sl ([.ref rm, .int 9, .int 3])).length) Slot.unset).toArray = ls at hl ⊢
  have hl : lv_has ls 4 [(0, .ref rm), (1, .int 9), (2, .int 3)] := hl
  refine lv_aload_n hx hb dX3_tellThing_0 rfl (lv_at hl 0 rfl) ?_
  refine lv_iload_n hx hb dX3_tellThing_1 rfl (lv_at hl 1 rfl) ?_
  have hPr := (hR0).sub (ws' := [(rm, .inr (5, [.ref lk, .ref th, .ref pl, .ref gm, .int 2, .int 10, .int 0, .int 0, .int 1, .int 0, .int 0, .int 0]))]) [0] rfl
  have hPc := hP.sub (ws' := []) [] rfl
  have hDc := hD.sub (ws' := []) [] (by decide) rfl
  have hKc := hK.sub (tys' := []) [] rfl
  have hFc := va_free (wc := []) hD hS hA [] rfl
  refine va_calli (va_runV (As := [.int 9]) (rest := []) ⟨hx, hb, hml, hown, hts⟩ (cz_QhasThing_9 l dC dI ed s.heap.size rm lk th pl gm) (cwV 1 hts gX3_tellThing_X3_hasThing rfl rfl rfl (by decide +kernel) ⟨Nat.le_of_ble_eq_true rfl, Nat.le_of_ble_eq_true rfl⟩) ⟨zb_blind, va_recv hK hR0 (ci := 5) (q0 := 0) rfl rfl, fun U hU hW => ⟨rfl, zb_mk hU hW hPr hPc hKc hDc hN hH hS hFc zx_e⟩⟩ rfl rfl hl.1 rfl (lv_room (Nat.le_of_ble_eq_true rfl)) dX3_tellThing_2 ⟨Nat.le_of_ble_eq_true rfl, Nat.le_of_ble_eq_true rfl⟩) hS (fun q _ h => hFc q h) hFc (fun r2 u t H1 locs ht hvm hw hB hz1 hk1 hS => ?_)
  obtain rfl : r2 = 1 := hw
  have hP := zo_K hP hk1
  refine lv_if_ne (tgt := 10) hx hb dX3_tellThing_5 (by decide) (fun _ => ?_) (fun h => absurd h (by decide))
  refine lv_aload_n hx hb dX3_tellThing_10 rfl (lv_at hl 0 rfl) ?_
  refine va_get (D := (dC, dI)) (ci := 5) (v := .ref th) (C := RX3) (T := TX3) (N := 12) hx hb hts zi_X3_tellThing_X3 hown hK (zo_R hR0 hS hAr) 0 rfl rfl 1 (by decide) (hts (.fieldLink RX3 19 "LockRooms$Room" "things" "[LLockRooms$Thing;") (by decide +kernel)) (fun _ h9 => h9) rfl dX3_tellThing_11 ?_
  refine lv_iload_n hx hb dX3_tellThing_14 rfl (lv_at hl 1 rfl) ?_
  refine va_aldq hx hb hK (zo_R hR0 hS hAr) 1 0 rfl rfl (by unfold vp_in; decide) dX3_tellThing_15 ?_
  refine zo_q (v := .ref t9) (by rw [show Int32.toNatClampNeg 9 = 9 from by decide, hkt9]; rfl) ?_
  refine lv_astore_n (lv' := [(3, .ref t9), (0, .ref rm), (1, .int 9), (2, .int 3)]) hx hb dX3_tellThing_16 rfl hl (by decide) rfl (fun ls hl => ?_)
  refine lv_iload_n hx hb dX3_tellThing_17 rfl (lv_at hl 3 rfl) ?_
  refine lv_tableIn (off := 49) (tgt := 67) hx hb dX3_tellThing_18 (by decide) (by decide) rfl (by decide) ?_
  refine lv_aload_n hx hb dX3_tellThing_67 rfl (lv_at hl 0 rfl) ?_
  refine va_get (D := (dC, dI)) (ci := 7) (v := .int 0) (C := RX5) (T := TX5) (N := 5) hx hb hts zi_X3_tellThing_X5 hown hK (zo_R hR0 hS hAr) 2 rfl rfl 3 (by decide) (hts (.fieldLink RX3 115 "LockRooms$Thing" "state" "I") (by decide +kernel)) (fun _ h9 => h9) rfl dX3_tellThing_68 ?_
  refine W.widen (k := 0) (n := 0) (Nat.le_of_ble_eq_true rfl) (Nat.le_of_ble_eq_true rfl) ?_
  exact W.iret hx hb hr (fun t ht hW => ⟨⟨0, (), rfl, rfl, trivial⟩, hS.F ht⟩) hS.2.2 dX3_tellThing_71
set_option maxHeartbeats 4000000 in
set_option maxRecDepth 100000 in
theorem cz_QtellThing_9_4 (l : Launch) (dC : Nat → ClassId) (dI : Nat → Nat → Nat) (ed sz : Nat) (rm : Nat) (lk : Nat) (th : Nat) (pl : Nat) (gm : Nat) (cT : ClassId) (ft : Nat → Option Nat) (t9 : Nat) (cL : ClassId) (fl : Nat → Option Nat) (l0 : Nat) (l1 : Nat) (hkt9 : ft 9 = some t9) (hkl0 : fl 0 = some l0) (hkl1 : fl 1 = some l1) : Met l yX3_tellThing wsX3_tellThing ({ frames := 1, cells := 0, slots := 0, locals := 22 } : Jvm.Room) (va_Pc [.ref rm, .int 9, .int 4] (zB dC dI ed sz [(rm, .inr (5, [.ref lk, .ref th, .ref pl, .ref gm, .int 2, .int 10, .int 0, .int 0, .int 1, .int 0, .int 0, .int 0])), (th, .inl (cT, 12, .inr (.inr (.inr (.inr ft))))), (t9, .inr (7, [.int (-1), .int 0, .int 0, .int 0, .int 0])), (lk, .inl (cL, 10, .inr (.inr (.inr (.inr fl))))), (l0, .inr (3, [.int 0, .int 0, .int 60, .int 0, .int 0, .int 0, .int 0, .int 0, .int 0, .int 0])), (l1, .inr (3, [.int 0, .int 0, .int 60, .int 0, .int 0, .int 0, .int 0, .int 0, .int 0, .int 0]))] [] [(cT, .object "LockRooms$Thing"), (cL, .object "LockRooms$Lock")])) (va_Qi (fun (r : Int32) (_ : Unit) => r = 1) (fun (_ : Unit) (_ : State) => True) (va_A [] sz)) 0 0 (va_A [] sz) := by
  refine Met.ofW (cc := cX3_tellThing) (maxL := 4) (ret := (some .int)) (by decide) rfl ?_
  intro p e s m args below meth c s₁ B hml hv
  obtain ⟨rfl, hsz, hR0, hP, hK, hD0, hN, hH, hX0⟩ := hv
  have hx := B.exec
  have hb := B.bytes
  have hr := B.returns
  have hts := atoms_spec (ws := wsX3_tellThing) B.pre
  have hown : s.vm.findClass RX3 = some m.cls := findClass_of_methodNamed B.named
  have hlocks := B.notSynchronized
  subst hsz
  have hD := hD0.self (sz := s.heap.size)
  have hAr := zx_A hX0 hR0
  generalize hAe : va_A [] s.heap.size = A at hD hAr hH ⊢
  have hA : ∀ q : Nat, s.heap.size ≤ q → A q := fun q h => by rw [← hAe]; exact Or.inr h
  have hS : va_S A s.heap s.heap [] := va_S.rf
  have hl := lv_entry ([.ref rm, .int 9, .int 4]) (n := 4) (Nat.le_of_ble_eq_true rfl)
  rw [lg_entry_eq]
  generalize (lg_sl ([.ref rm, .int 9, .int 4]) ++ List.replicate (4 - (lg_sl ([.ref rm, .int 9, .int 4])).length) Slot.unset).toArray = ls at hl ⊢
  have hl : lv_has ls 4 [(0, .ref rm), (1, .int 9), (2, .int 4)] := hl
  refine lv_aload_n hx hb dX3_tellThing_0 rfl (lv_at hl 0 rfl) ?_
  refine lv_iload_n hx hb dX3_tellThing_1 rfl (lv_at hl 1 rfl) ?_
  have hPr := (hR0).sub (ws' := [(rm, .inr (5, [.ref lk, .ref th, .ref pl, .ref gm, .int 2, .int 10, .int 0, .int 0, .int 1, .int 0, .int 0, .int 0]))]) [0] rfl
  have hPc := hP.sub (ws' := []) [] rfl
  have hDc := hD.sub (ws' := []) [] (by decide) rfl
  have hKc := hK.sub (tys' := []) [] rfl
  have hFc := va_free (wc := []) hD hS hA [] rfl
  refine va_calli (va_runV (As := [.int 9]) (rest := []) ⟨hx, hb, hml, hown, hts⟩ (cz_QhasThing_9 l dC dI ed s.heap.size rm lk th pl gm) (cwV 1 hts gX3_tellThing_X3_hasThing rfl rfl rfl (by decide +kernel) ⟨Nat.le_of_ble_eq_true rfl, Nat.le_of_ble_eq_true rfl⟩) ⟨zb_blind, va_recv hK hR0 (ci := 5) (q0 := 0) rfl rfl, fun U hU hW => ⟨rfl, zb_mk hU hW hPr hPc hKc hDc hN hH hS hFc zx_e⟩⟩ rfl rfl hl.1 rfl (lv_room (Nat.le_of_ble_eq_true rfl)) dX3_tellThing_2 ⟨Nat.le_of_ble_eq_true rfl, Nat.le_of_ble_eq_true rfl⟩) hS (fun q _ h => hFc q h) hFc (fun r2 u t H1 locs ht hvm hw hB hz1 hk1 hS => ?_)
  obtain rfl : r2 = 1 := hw
  have hP := zo_K hP hk1
  refine lv_if_ne (tgt := 10) hx hb dX3_tellThing_5 (by decide) (fun _ => ?_) (fun h => absurd h (by decide))
  refine lv_aload_n hx hb dX3_tellThing_10 rfl (lv_at hl 0 rfl) ?_
  refine va_get (D := (dC, dI)) (ci := 5) (v := .ref th) (C := RX3) (T := TX3) (N := 12) hx hb hts zi_X3_tellThing_X3 hown hK (zo_R hR0 hS hAr) 0 rfl rfl 1 (by decide) (hts (.fieldLink RX3 19 "LockRooms$Room" "things" "[LLockRooms$Thing;") (by decide +kernel)) (fun _ h9 => h9) rfl dX3_tellThing_11 ?_
  refine lv_iload_n hx hb dX3_tellThing_14 rfl (lv_at hl 1 rfl) ?_
  refine va_aldq hx hb hK (zo_R hR0 hS hAr) 1 0 rfl rfl (by unfold vp_in; decide) dX3_tellThing_15 ?_
  refine zo_q (v := .ref t9) (by rw [show Int32.toNatClampNeg 9 = 9 from by decide, hkt9]; rfl) ?_
  refine lv_astore_n (lv' := [(3, .ref t9), (0, .ref rm), (1, .int 9), (2, .int 4)]) hx hb dX3_tellThing_16 rfl hl (by decide) rfl (fun ls hl => ?_)
  refine lv_iload_n hx hb dX3_tellThing_17 rfl (lv_at hl 3 rfl) ?_
  refine lv_tableIn (off := 54) (tgt := 72) hx hb dX3_tellThing_18 (by decide) (by decide) rfl (by decide) ?_
  refine lv_aload_n hx hb dX3_tellThing_72 rfl (lv_at hl 0 rfl) ?_
  refine lv_aload_n hx hb dX3_tellThing_73 rfl (lv_at hl 1 rfl) ?_
  have hPr := ((zo_R hR0 hS hAr)).sub (ws' := [(rm, .inr (5, [.ref lk, .ref th, .ref pl, .ref gm, .int 2, .int 10, .int 0, .int 0, .int 1, .int 0, .int 0, .int 0])), (lk, .inl (cL, 10, .inr (.inr (.inr (.inr fl))))), (l0, .inr (3, [.int 0, .int 0, .int 60, .int 0, .int 0, .int 0, .int 0, .int 0, .int 0, .int 0])), (l1, .inr (3, [.int 0, .int 0, .int 60, .int 0, .int 0, .int 0, .int 0, .int 0, .int 0, .int 0]))]) [0, 3, 4, 5] rfl
  have hPc := hP.sub (ws' := []) [] rfl
  have hDc := hD.sub (ws' := []) [] (by decide) rfl
  have hKc := hK.sub (tys' := [(cL, .object "LockRooms$Lock")]) [1] rfl
  have hFc := va_free (wc := []) hD hS hA [] rfl
  refine va_calli (va_runV (As := []) (rest := [.ref t9]) ⟨hx, hb, hml, hown, hts⟩ (cz_QopenLocks l dC dI ed H1.size rm lk th pl gm cL fl l0 l1 hkl0 hkl1) (cwV 0 hts gX3_tellThing_X3_openLocks rfl rfl rfl (by decide +kernel) ⟨Nat.le_of_ble_eq_true rfl, Nat.le_of_ble_eq_true rfl⟩) ⟨zb_blind, va_recv hK (zo_R hR0 hS hAr) (ci := 5) (q0 := 0) rfl rfl, fun U hU hW => ⟨rfl, zb_mk hU hW hPr hPc hKc hDc hN hH hS hFc zx_e⟩⟩ rfl rfl hl.1 rfl (lv_room (Nat.le_of_ble_eq_true rfl)) dX3_tellThing_74 ⟨Nat.le_of_ble_eq_true rfl, Nat.le_of_ble_eq_true rfl⟩) hS (fun q _ h => hFc q h) hFc (fun r4 u t H3 locs ht hvm hw hB hz1 hk1 hS => ?_)
  obtain rfl : r4 = 0 := hw
  have hP := zo_K hP hk1
  have hPr := ((zo_R hR0 hS hAr)).sub (ws' := [(t9, .inr (7, [.int (-1), .int 0, .int 0, .int 0, .int 0]))]) [2] rfl
  have hPc := hP.sub (ws' := []) [] rfl
  have hDc := hD.sub (ws' := []) [] (by decide) rfl
  have hKc := hK.sub (tys' := []) [] rfl
  have hFc := va_free (wc := []) hD hS hA [] rfl
  refine va_calli (va_runV (As := [.int 0]) (rest := []) ⟨hx, hb, hml, hown, hts⟩ (cz_QcanBeReached l dC dI ed H3.size t9 0) (cwV 1 hts gX3_tellThing_X5_canBeReached rfl rfl rfl (by decide +kernel) ⟨Nat.le_of_ble_eq_true rfl, Nat.le_of_ble_eq_true rfl⟩) ⟨zb_blind, va_recv hK (zo_R hR0 hS hAr) (ci := 7) (q0 := 2) rfl rfl, fun U hU hW => ⟨rfl, zb_mk hU hW hPr hPc hKc hDc hN hH hS hFc zx_e⟩⟩ rfl rfl hl.1 rfl (lv_room (Nat.le_of_ble_eq_true rfl)) dX3_tellThing_77 ⟨Nat.le_of_ble_eq_true rfl, Nat.le_of_ble_eq_true rfl⟩) hS (fun q _ h => hFc q h) hFc (fun r6 u t H5 locs ht hvm hw hB hz1 hk1 hS => ?_)
  obtain rfl : r6 = 1 := hw
  have hP := zo_K hP hk1
  have hPr := (zo_nil : va_P (dC, dI) vwCl [] H5)
  have hPc := hP.sub (ws' := []) [] rfl
  have hDc := hD.sub (ws' := []) [] (by decide) rfl
  have hKc := hK.sub (tys' := []) [] rfl
  have hFc := va_free (wc := []) hD hS hA [] rfl
  refine va_calli (va_runSN (As := [.int 1]) (rest := []) ⟨hx, hb, hml, hown, hts⟩ (cz_oneIf_1 l dC dI ed H5.size ) ⟨(va_cnB 1 hts gX3_tellThing_X6_oneIf_n147 rfl rfl rfl (hN.2.1 ("LockRooms$Room", 147, yX6_oneIf, "LockRooms") (List.mem_of_getElem? (i := 8) rfl)) (hts (.initialized RX6) (by decide +kernel)) (by decide +kernel) ⟨Nat.le_of_ble_eq_true rfl, Nat.le_of_ble_eq_true rfl⟩), (hts (.static yX6_oneIf) (by decide +kernel)), trivial⟩ ⟨zb_blind, fun U hU hW => ⟨rfl, zb_mk hU hW hPr hPc hKc hDc hN hH hS hFc zx_e⟩⟩ rfl rfl hl.1 rfl (lv_room (Nat.le_of_ble_eq_true rfl)) dX3_tellThing_80 ⟨Nat.le_of_ble_eq_true rfl, Nat.le_of_ble_eq_true rfl⟩) hS (fun q _ h => hFc q h) hFc (fun r8 u t H7 locs ht hvm hw hB hz1 hk1 hS => ?_)
  obtain rfl : r8 = 1 := hw
  have hP := zo_K hP hk1
  refine W.widen (k := 0) (n := 0) (Nat.le_of_ble_eq_true rfl) (Nat.le_of_ble_eq_true rfl) ?_
  exact W.iret hx hb hr (fun t ht hW => ⟨⟨1, (), rfl, rfl, trivial⟩, hS.F ht⟩) hS.2.2 dX3_tellThing_83
set_option maxHeartbeats 4000000 in
set_option maxRecDepth 100000 in
theorem cz_QtellThing_9_5 (l : Launch) (dC : Nat → ClassId) (dI : Nat → Nat → Nat) (ed sz : Nat) (rm : Nat) (lk : Nat) (th : Nat) (pl : Nat) (gm : Nat) (cT : ClassId) (ft : Nat → Option Nat) (t9 : Nat) (cL : ClassId) (fl : Nat → Option Nat) (l0 : Nat) (l1 : Nat) (hkt9 : ft 9 = some t9) (hkl0 : fl 0 = some l0) (hkl1 : fl 1 = some l1) : Met l yX3_tellThing wsX3_tellThing ({ frames := 2, cells := 0, slots := 0, locals := 44 } : Jvm.Room) (va_Pc [.ref rm, .int 9, .int 5] (zB dC dI ed sz [(rm, .inr (5, [.ref lk, .ref th, .ref pl, .ref gm, .int 2, .int 10, .int 0, .int 0, .int 1, .int 0, .int 0, .int 0])), (th, .inl (cT, 12, .inr (.inr (.inr (.inr ft))))), (t9, .inr (7, [.int (-1), .int 0, .int 0, .int 0, .int 0])), (lk, .inl (cL, 10, .inr (.inr (.inr (.inr fl))))), (l0, .inr (3, [.int 0, .int 0, .int 60, .int 0, .int 0, .int 0, .int 0, .int 0, .int 0, .int 0])), (l1, .inr (3, [.int 0, .int 0, .int 60, .int 0, .int 0, .int 0, .int 0, .int 0, .int 0, .int 0]))] [] [(cT, .object "LockRooms$Thing"), (cL, .object "LockRooms$Lock")])) (va_Qi (fun (r : Int32) (_ : Unit) => r = 0) (fun (_ : Unit) (_ : State) => True) (va_A [] sz)) 0 0 (va_A [] sz) := by
  refine Met.ofW (cc := cX3_tellThing) (maxL := 4) (ret := (some .int)) (by decide) rfl ?_
  intro p e s m args below meth c s₁ B hml hv
  obtain ⟨rfl, hsz, hR0, hP, hK, hD0, hN, hH, hX0⟩ := hv
  have hx := B.exec
  have hb := B.bytes
  have hr := B.returns
  have hts := atoms_spec (ws := wsX3_tellThing) B.pre
  have hown : s.vm.findClass RX3 = some m.cls := findClass_of_methodNamed B.named
  have hlocks := B.notSynchronized
  subst hsz
  have hD := hD0.self (sz := s.heap.size)
  have hAr := zx_A hX0 hR0
  generalize hAe : va_A [] s.heap.size = A at hD hAr hH ⊢
  have hA : ∀ q : Nat, s.heap.size ≤ q → A q := fun q h => by rw [← hAe]; exact Or.inr h
  have hS : va_S A s.heap s.heap [] := va_S.rf
  have hl := lv_entry ([.ref rm, .int 9, .int 5]) (n := 4) (Nat.le_of_ble_eq_true rfl)
  rw [lg_entry_eq]
  generalize (lg_sl ([.ref rm, .int 9, .int 5]) ++ List.replicate (4 - (lg_sl ([.ref rm, .int 9, .int 5])).length) Slot.unset).toArray = ls at hl ⊢
  have hl : lv_has ls 4 [(0, .ref rm), (1, .int 9), (2, .int 5)] := hl
  refine lv_aload_n hx hb dX3_tellThing_0 rfl (lv_at hl 0 rfl) ?_
  refine lv_iload_n hx hb dX3_tellThing_1 rfl (lv_at hl 1 rfl) ?_
  have hPr := (hR0).sub (ws' := [(rm, .inr (5, [.ref lk, .ref th, .ref pl, .ref gm, .int 2, .int 10, .int 0, .int 0, .int 1, .int 0, .int 0, .int 0]))]) [0] rfl
  have hPc := hP.sub (ws' := []) [] rfl
  have hDc := hD.sub (ws' := []) [] (by decide) rfl
  have hKc := hK.sub (tys' := []) [] rfl
  have hFc := va_free (wc := []) hD hS hA [] rfl
  refine va_calli (va_runV (As := [.int 9]) (rest := []) ⟨hx, hb, hml, hown, hts⟩ (cz_QhasThing_9 l dC dI ed s.heap.size rm lk th pl gm) (cwV 1 hts gX3_tellThing_X3_hasThing rfl rfl rfl (by decide +kernel) ⟨Nat.le_of_ble_eq_true rfl, Nat.le_of_ble_eq_true rfl⟩) ⟨zb_blind, va_recv hK hR0 (ci := 5) (q0 := 0) rfl rfl, fun U hU hW => ⟨rfl, zb_mk hU hW hPr hPc hKc hDc hN hH hS hFc zx_e⟩⟩ rfl rfl hl.1 rfl (lv_room (Nat.le_of_ble_eq_true rfl)) dX3_tellThing_2 ⟨Nat.le_of_ble_eq_true rfl, Nat.le_of_ble_eq_true rfl⟩) hS (fun q _ h => hFc q h) hFc (fun r2 u t H1 locs ht hvm hw hB hz1 hk1 hS => ?_)
  obtain rfl : r2 = 1 := hw
  have hP := zo_K hP hk1
  refine lv_if_ne (tgt := 10) hx hb dX3_tellThing_5 (by decide) (fun _ => ?_) (fun h => absurd h (by decide))
  refine lv_aload_n hx hb dX3_tellThing_10 rfl (lv_at hl 0 rfl) ?_
  refine va_get (D := (dC, dI)) (ci := 5) (v := .ref th) (C := RX3) (T := TX3) (N := 12) hx hb hts zi_X3_tellThing_X3 hown hK (zo_R hR0 hS hAr) 0 rfl rfl 1 (by decide) (hts (.fieldLink RX3 19 "LockRooms$Room" "things" "[LLockRooms$Thing;") (by decide +kernel)) (fun _ h9 => h9) rfl dX3_tellThing_11 ?_
  refine lv_iload_n hx hb dX3_tellThing_14 rfl (lv_at hl 1 rfl) ?_
  refine va_aldq hx hb hK (zo_R hR0 hS hAr) 1 0 rfl rfl (by unfold vp_in; decide) dX3_tellThing_15 ?_
  refine zo_q (v := .ref t9) (by rw [show Int32.toNatClampNeg 9 = 9 from by decide, hkt9]; rfl) ?_
  refine lv_astore_n (lv' := [(3, .ref t9), (0, .ref rm), (1, .int 9), (2, .int 5)]) hx hb dX3_tellThing_16 rfl hl (by decide) rfl (fun ls hl => ?_)
  refine lv_iload_n hx hb dX3_tellThing_17 rfl (lv_at hl 3 rfl) ?_
  refine lv_tableOut (tgt := 84) hx hb dX3_tellThing_18 (by decide) (by decide) ?_
  refine lv_aload_n hx hb dX3_tellThing_84 rfl (lv_at hl 1 rfl) ?_
  refine lv_iload_n hx hb dX3_tellThing_85 rfl (lv_at hl 2 rfl) ?_
  have hPr := ((zo_R hR0 hS hAr)).sub (ws' := [(rm, .inr (5, [.ref lk, .ref th, .ref pl, .ref gm, .int 2, .int 10, .int 0, .int 0, .int 1, .int 0, .int 0, .int 0])), (lk, .inl (cL, 10, .inr (.inr (.inr (.inr fl))))), (l0, .inr (3, [.int 0, .int 0, .int 60, .int 0, .int 0, .int 0, .int 0, .int 0, .int 0, .int 0])), (l1, .inr (3, [.int 0, .int 0, .int 60, .int 0, .int 0, .int 0, .int 0, .int 0, .int 0, .int 0]))]) [0, 3, 4, 5] rfl
  have hPc := hP.sub (ws' := []) [] rfl
  have hDc := hD.sub (ws' := []) [] (by decide) rfl
  have hKc := hK.sub (tys' := [(cL, .object "LockRooms$Lock")]) [1] rfl
  have hFc := va_free (wc := []) hD hS hA [] rfl
  refine va_calli (va_runV (As := [.int 9]) (rest := []) ⟨hx, hb, hml, hown, hts⟩ (cz_QlocksThatNeed_9 l dC dI ed H1.size rm lk th pl gm cL fl l0 l1 hkl0 hkl1) (cwV 1 hts gX3_tellThing_X3_locksThatNeed rfl rfl rfl (by decide +kernel) ⟨Nat.le_of_ble_eq_true rfl, Nat.le_of_ble_eq_true rfl⟩) ⟨zb_blind, va_recv hK (zo_R hR0 hS hAr) (ci := 5) (q0 := 0) rfl rfl, fun U hU hW => ⟨rfl, zb_mk hU hW hPr hPc hKc hDc hN hH hS hFc zx_e⟩⟩ rfl rfl hl.1 rfl (lv_room (Nat.le_of_ble_eq_true rfl)) dX3_tellThing_86 ⟨Nat.le_of_ble_eq_true rfl, Nat.le_of_ble_eq_true rfl⟩) hS (fun q _ h => hFc q h) hFc (fun r4 u t H3 locs ht hvm hw hB hz1 hk1 hS => ?_)
  obtain rfl : r4 = 0 := hw
  have hP := zo_K hP hk1
  refine W.widen (k := 0) (n := 0) (Nat.le_of_ble_eq_true rfl) (Nat.le_of_ble_eq_true rfl) ?_
  exact W.iret hx hb hr (fun t ht hW => ⟨⟨0, (), rfl, rfl, trivial⟩, hS.F ht⟩) hS.2.2 dX3_tellThing_89
set_option maxHeartbeats 4000000 in
set_option maxRecDepth 100000 in
theorem cz_QendOfStands (l : Launch) (dC : Nat → ClassId) (dI : Nat → Nat → Nat) (ed sz : Nat) (rm : Nat) (lk : Nat) (th : Nat) (pl : Nat) (gm : Nat) (st : Nat) : Met l yX4_endOfStands wsX4_endOfStands ({ frames := 1, cells := 0, slots := 0, locals := 13 } : Jvm.Room) (va_Pc [.ref st, .ref rm] (zB dC dI ed sz [(rm, .inr (5, [.ref lk, .ref th, .ref pl, .ref gm, .int 2, .int 10, .int 0, .int 0, .int 1, .int 0, .int 0, .int 0]))] [] [])) (va_Qi (fun (r : Int32) (_ : Unit) => r = 4) (fun (_ : Unit) (_ : State) => True) (va_A [] sz)) 0 0 (va_A [] sz) := by
  refine Met.ofW (cc := cX4_endOfStands) (maxL := 2) (ret := (some .int)) (by decide) rfl ?_
  intro p e s m args below meth c s₁ B hml hv
  obtain ⟨rfl, hsz, hR0, hP, hK, hD0, hN, hH, hX0⟩ := hv
  have hx := B.exec
  have hb := B.bytes
  have hr := B.returns
  have hts := atoms_spec (ws := wsX4_endOfStands) B.pre
  have hown : s.vm.findClass RX4 = some m.cls := findClass_of_methodNamed B.named
  have hlocks := B.notSynchronized
  subst hsz
  have hD := hD0.self (sz := s.heap.size)
  have hAr := zx_A hX0 hR0
  generalize hAe : va_A [] s.heap.size = A at hD hAr hH ⊢
  have hA : ∀ q : Nat, s.heap.size ≤ q → A q := fun q h => by rw [← hAe]; exact Or.inr h
  have hS : va_S A s.heap s.heap [] := va_S.rf
  have hl := lv_entry ([.ref st, .ref rm]) (n := 2) (Nat.le_of_ble_eq_true rfl)
  rw [lg_entry_eq]
  generalize (lg_sl ([.ref st, .ref rm]) ++ List.replicate (2 - (lg_sl ([.ref st, .ref rm])).length) Slot.unset).toArray = ls at hl ⊢
  have hl : lv_has ls 2 [(0, .ref st), (1, .ref rm)] := hl
  refine lv_iconst (v := 1) hx hb dX4_endOfStands_0 (by decide) ?_
  refine lv_aload_n hx hb dX4_endOfStands_1 rfl (lv_at hl 1 rfl) ?_
  refine va_get (D := (dC, dI)) (ci := 5) (v := .int 2) (C := RX3) (T := TX3) (N := 12) hx hb hts zi_X4_endOfStands_X3 hown hK hR0 0 rfl rfl 4 (by decide) (hts (.fieldLink RX4 51 "LockRooms$Room" "lockCount" "I") (by decide +kernel)) (fun _ h9 => h9) rfl dX4_endOfStands_2 ?_
  refine lv_ishl hx hb dX4_endOfStands_5 ?_
  refine zo_i (v := 4) (by decide) ?_
  refine lv_sipush (v := 1024) hx hb dX4_endOfStands_6 (by decide) ?_
  refine va_mmin hx hb (hml.trans hl.1.symm) hown (hts (.methodLink RX4 58 Lib.Math.min.name) (by decide +kernel)) (hts (.static Lib.Math.min.name) (by decide +kernel)) (hts (.initialized "java/lang/Math") (by decide +kernel)) (hts (.code Lib.Math.min.name Lib.Math.min.code 2 (some .int)) (by decide +kernel)) (Nat.le_of_ble_eq_true rfl) (Nat.le_of_ble_eq_true rfl) (Nat.le_of_ble_eq_true rfl) (Nat.le_of_ble_eq_true rfl) dX4_endOfStands_9 ?_
  refine zo_i (v := 4) (by decide) ?_
  refine W.widen (k := 0) (n := 0) (Nat.le_of_ble_eq_true rfl) (Nat.le_of_ble_eq_true rfl) ?_
  exact W.iret hx hb hr (fun t ht hW => ⟨⟨4, (), rfl, rfl, trivial⟩, hS.F ht⟩) hS.2.2 dX4_endOfStands_12
set_option maxHeartbeats 4000000 in
set_option maxRecDepth 100000 in
theorem cz_QyetBehind_0 (l : Launch) (dC : Nat → ClassId) (dI : Nat → Nat → Nat) (ed sz : Nat) (st : Nat) (a1 : Nat) (a2 : Nat) (a3 : Nat) (cJ : ClassId) (f3 : Nat → Int32) (hf3_0 : f3 0 = 1) : Met l yX4_yetBehind wsX4_yetBehind ({ frames := 0, cells := 0, slots := 0, locals := 0 } : Jvm.Room) (va_Pc [.ref st, .int 0] (zB dC dI ed sz [(st, .inr (6, [.ref a1, .ref a2, .ref a3])), (a3, .inl (cJ, 1024, .inl f3))] [] [(cJ, .int)])) (va_Qi (fun (r : Int32) (_ : Unit) => r = 1) (fun (_ : Unit) (_ : State) => True) (va_A [] sz)) 0 0 (va_A [] sz) := by
  refine Met.ofW (cc := cX4_yetBehind) (maxL := 2) (ret := (some .int)) (by decide) rfl ?_
  intro p e s m args below meth c s₁ B hml hv
  obtain ⟨rfl, hsz, hR0, hP, hK, hD0, hN, hH, hX0⟩ := hv
  have hx := B.exec
  have hb := B.bytes
  have hr := B.returns
  have hts := atoms_spec (ws := wsX4_yetBehind) B.pre
  have hown : s.vm.findClass RX4 = some m.cls := findClass_of_methodNamed B.named
  have hlocks := B.notSynchronized
  subst hsz
  have hD := hD0.self (sz := s.heap.size)
  have hAr := zx_A hX0 hR0
  generalize hAe : va_A [] s.heap.size = A at hD hAr hH ⊢
  have hA : ∀ q : Nat, s.heap.size ≤ q → A q := fun q h => by rw [← hAe]; exact Or.inr h
  have hS : va_S A s.heap s.heap [] := va_S.rf
  have hl := lv_entry ([.ref st, .int 0]) (n := 2) (Nat.le_of_ble_eq_true rfl)
  rw [lg_entry_eq]
  generalize (lg_sl ([.ref st, .int 0]) ++ List.replicate (2 - (lg_sl ([.ref st, .int 0])).length) Slot.unset).toArray = ls at hl ⊢
  have hl : lv_has ls 2 [(0, .ref st), (1, .int 0)] := hl
  refine lv_iload_n hx hb dX4_yetBehind_0 rfl (lv_at hl 1 rfl) ?_
  refine lv_if_lt (tgt := 20) hx hb dX4_yetBehind_1 (by decide) (fun h => absurd h (by decide)) (fun _ => ?_)
  refine lv_iload_n hx hb dX4_yetBehind_4 rfl (lv_at hl 1 rfl) ?_
  refine lv_sipush (v := 1024) hx hb dX4_yetBehind_5 (by decide) ?_
  refine lv_icmp_ge (tgt := 20) hx hb dX4_yetBehind_8 (by decide) (fun h => absurd h (by decide)) (fun _ => ?_)
  refine lv_aload_n hx hb dX4_yetBehind_11 rfl (lv_at hl 0 rfl) ?_
  refine va_get (D := (dC, dI)) (ci := 6) (v := .ref a3) (C := RX4) (T := TX4) (N := 3) hx hb hts zi_X4_yetBehind_X4 hown hK hR0 0 rfl rfl 2 (by decide) (hts (.fieldLink RX4 19 "LockRooms$Stands" "yet" "[I") (by decide +kernel)) (fun _ h9 => h9) rfl dX4_yetBehind_12 ?_
  refine lv_iload_n hx hb dX4_yetBehind_15 rfl (lv_at hl 1 rfl) ?_
  refine va_iald hx hb hK hR0 1 0 rfl rfl (by unfold vp_in; decide) dX4_yetBehind_16 ?_
  refine zo_i (v := 1) (by rw [show Int32.toNatClampNeg 0 = 0 from by decide]; exact hf3_0) ?_
  refine lv_goto (tgt := 21) hx hb dX4_yetBehind_17 (by decide) ?_
  refine W.widen (k := 0) (n := 0) (Nat.le_of_ble_eq_true rfl) (Nat.le_of_ble_eq_true rfl) ?_
  exact W.iret hx hb hr (fun t ht hW => ⟨⟨1, (), rfl, rfl, trivial⟩, hS.F ht⟩) hS.2.2 dX4_yetBehind_21
set_option maxHeartbeats 4000000 in
set_option maxRecDepth 100000 in
theorem cz_QyetBehind_1 (l : Launch) (dC : Nat → ClassId) (dI : Nat → Nat → Nat) (ed sz : Nat) (st : Nat) (a1 : Nat) (a2 : Nat) (a3 : Nat) (cJ : ClassId) (f3 : Nat → Int32) (hf3_1 : f3 1 = 0) : Met l yX4_yetBehind wsX4_yetBehind ({ frames := 0, cells := 0, slots := 0, locals := 0 } : Jvm.Room) (va_Pc [.ref st, .int 1] (zB dC dI ed sz [(st, .inr (6, [.ref a1, .ref a2, .ref a3])), (a3, .inl (cJ, 1024, .inl f3))] [] [(cJ, .int)])) (va_Qi (fun (r : Int32) (_ : Unit) => r = 0) (fun (_ : Unit) (_ : State) => True) (va_A [] sz)) 0 0 (va_A [] sz) := by
  refine Met.ofW (cc := cX4_yetBehind) (maxL := 2) (ret := (some .int)) (by decide) rfl ?_
  intro p e s m args below meth c s₁ B hml hv
  obtain ⟨rfl, hsz, hR0, hP, hK, hD0, hN, hH, hX0⟩ := hv
  have hx := B.exec
  have hb := B.bytes
  have hr := B.returns
  have hts := atoms_spec (ws := wsX4_yetBehind) B.pre
  have hown : s.vm.findClass RX4 = some m.cls := findClass_of_methodNamed B.named
  have hlocks := B.notSynchronized
  subst hsz
  have hD := hD0.self (sz := s.heap.size)
  have hAr := zx_A hX0 hR0
  generalize hAe : va_A [] s.heap.size = A at hD hAr hH ⊢
  have hA : ∀ q : Nat, s.heap.size ≤ q → A q := fun q h => by rw [← hAe]; exact Or.inr h
  have hS : va_S A s.heap s.heap [] := va_S.rf
  have hl := lv_entry ([.ref st, .int 1]) (n := 2) (Nat.le_of_ble_eq_true rfl)
  rw [lg_entry_eq]
  generalize (lg_sl ([.ref st, .int 1]) ++ List.replicate (2 - (lg_sl ([.ref st, .int 1])).length) Slot.unset).toArray = ls at hl ⊢
  have hl : lv_has ls 2 [(0, .ref st), (1, .int 1)] := hl
  refine lv_iload_n hx hb dX4_yetBehind_0 rfl (lv_at hl 1 rfl) ?_
  refine lv_if_lt (tgt := 20) hx hb dX4_yetBehind_1 (by decide) (fun h => absurd h (by decide)) (fun _ => ?_)
  refine lv_iload_n hx hb dX4_yetBehind_4 rfl (lv_at hl 1 rfl) ?_
  refine lv_sipush (v := 1024) hx hb dX4_yetBehind_5 (by decide) ?_
  refine lv_icmp_ge (tgt := 20) hx hb dX4_yetBehind_8 (by decide) (fun h => absurd h (by decide)) (fun _ => ?_)
  refine lv_aload_n hx hb dX4_yetBehind_11 rfl (lv_at hl 0 rfl) ?_
  refine va_get (D := (dC, dI)) (ci := 6) (v := .ref a3) (C := RX4) (T := TX4) (N := 3) hx hb hts zi_X4_yetBehind_X4 hown hK hR0 0 rfl rfl 2 (by decide) (hts (.fieldLink RX4 19 "LockRooms$Stands" "yet" "[I") (by decide +kernel)) (fun _ h9 => h9) rfl dX4_yetBehind_12 ?_
  refine lv_iload_n hx hb dX4_yetBehind_15 rfl (lv_at hl 1 rfl) ?_
  refine va_iald hx hb hK hR0 1 0 rfl rfl (by unfold vp_in; decide) dX4_yetBehind_16 ?_
  refine zo_i (v := 0) (by rw [show Int32.toNatClampNeg 1 = 1 from by decide]; exact hf3_1) ?_
  refine lv_goto (tgt := 21) hx hb dX4_yetBehind_17 (by decide) ?_
  refine W.widen (k := 0) (n := 0) (Nat.le_of_ble_eq_true rfl) (Nat.le_of_ble_eq_true rfl) ?_
  exact W.iret hx hb hr (fun t ht hW => ⟨⟨0, (), rfl, rfl, trivial⟩, hS.F ht⟩) hS.2.2 dX4_yetBehind_21
set_option maxHeartbeats 4000000 in
set_option maxRecDepth 100000 in
theorem cz_QyetBehind_2 (l : Launch) (dC : Nat → ClassId) (dI : Nat → Nat → Nat) (ed sz : Nat) (st : Nat) (a1 : Nat) (a2 : Nat) (a3 : Nat) (cJ : ClassId) (f3 : Nat → Int32) (hf3_2 : f3 2 = 1) : Met l yX4_yetBehind wsX4_yetBehind ({ frames := 0, cells := 0, slots := 0, locals := 0 } : Jvm.Room) (va_Pc [.ref st, .int 2] (zB dC dI ed sz [(st, .inr (6, [.ref a1, .ref a2, .ref a3])), (a3, .inl (cJ, 1024, .inl f3))] [] [(cJ, .int)])) (va_Qi (fun (r : Int32) (_ : Unit) => r = 1) (fun (_ : Unit) (_ : State) => True) (va_A [] sz)) 0 0 (va_A [] sz) := by
  refine Met.ofW (cc := cX4_yetBehind) (maxL := 2) (ret := (some .int)) (by decide) rfl ?_
  intro p e s m args below meth c s₁ B hml hv
  obtain ⟨rfl, hsz, hR0, hP, hK, hD0, hN, hH, hX0⟩ := hv
  have hx := B.exec
  have hb := B.bytes
  have hr := B.returns
  have hts := atoms_spec (ws := wsX4_yetBehind) B.pre
  have hown : s.vm.findClass RX4 = some m.cls := findClass_of_methodNamed B.named
  have hlocks := B.notSynchronized
  subst hsz
  have hD := hD0.self (sz := s.heap.size)
  have hAr := zx_A hX0 hR0
  generalize hAe : va_A [] s.heap.size = A at hD hAr hH ⊢
  have hA : ∀ q : Nat, s.heap.size ≤ q → A q := fun q h => by rw [← hAe]; exact Or.inr h
  have hS : va_S A s.heap s.heap [] := va_S.rf
  have hl := lv_entry ([.ref st, .int 2]) (n := 2) (Nat.le_of_ble_eq_true rfl)
  rw [lg_entry_eq]
  generalize (lg_sl ([.ref st, .int 2]) ++ List.replicate (2 - (lg_sl ([.ref st, .int 2])).length) Slot.unset).toArray = ls at hl ⊢
  have hl : lv_has ls 2 [(0, .ref st), (1, .int 2)] := hl
  refine lv_iload_n hx hb dX4_yetBehind_0 rfl (lv_at hl 1 rfl) ?_
  refine lv_if_lt (tgt := 20) hx hb dX4_yetBehind_1 (by decide) (fun h => absurd h (by decide)) (fun _ => ?_)
  refine lv_iload_n hx hb dX4_yetBehind_4 rfl (lv_at hl 1 rfl) ?_
  refine lv_sipush (v := 1024) hx hb dX4_yetBehind_5 (by decide) ?_
  refine lv_icmp_ge (tgt := 20) hx hb dX4_yetBehind_8 (by decide) (fun h => absurd h (by decide)) (fun _ => ?_)
  refine lv_aload_n hx hb dX4_yetBehind_11 rfl (lv_at hl 0 rfl) ?_
  refine va_get (D := (dC, dI)) (ci := 6) (v := .ref a3) (C := RX4) (T := TX4) (N := 3) hx hb hts zi_X4_yetBehind_X4 hown hK hR0 0 rfl rfl 2 (by decide) (hts (.fieldLink RX4 19 "LockRooms$Stands" "yet" "[I") (by decide +kernel)) (fun _ h9 => h9) rfl dX4_yetBehind_12 ?_
  refine lv_iload_n hx hb dX4_yetBehind_15 rfl (lv_at hl 1 rfl) ?_
  refine va_iald hx hb hK hR0 1 0 rfl rfl (by unfold vp_in; decide) dX4_yetBehind_16 ?_
  refine zo_i (v := 1) (by rw [show Int32.toNatClampNeg 2 = 2 from by decide]; exact hf3_2) ?_
  refine lv_goto (tgt := 21) hx hb dX4_yetBehind_17 (by decide) ?_
  refine W.widen (k := 0) (n := 0) (Nat.le_of_ble_eq_true rfl) (Nat.le_of_ble_eq_true rfl) ?_
  exact W.iret hx hb hr (fun t ht hW => ⟨⟨1, (), rfl, rfl, trivial⟩, hS.F ht⟩) hS.2.2 dX4_yetBehind_21
set_option maxHeartbeats 4000000 in
set_option maxRecDepth 100000 in
theorem cz_QyetBehind_3 (l : Launch) (dC : Nat → ClassId) (dI : Nat → Nat → Nat) (ed sz : Nat) (st : Nat) (a1 : Nat) (a2 : Nat) (a3 : Nat) (cJ : ClassId) (f3 : Nat → Int32) (hf3_3 : f3 3 = 0) : Met l yX4_yetBehind wsX4_yetBehind ({ frames := 0, cells := 0, slots := 0, locals := 0 } : Jvm.Room) (va_Pc [.ref st, .int 3] (zB dC dI ed sz [(st, .inr (6, [.ref a1, .ref a2, .ref a3])), (a3, .inl (cJ, 1024, .inl f3))] [] [(cJ, .int)])) (va_Qi (fun (r : Int32) (_ : Unit) => r = 0) (fun (_ : Unit) (_ : State) => True) (va_A [] sz)) 0 0 (va_A [] sz) := by
  refine Met.ofW (cc := cX4_yetBehind) (maxL := 2) (ret := (some .int)) (by decide) rfl ?_
  intro p e s m args below meth c s₁ B hml hv
  obtain ⟨rfl, hsz, hR0, hP, hK, hD0, hN, hH, hX0⟩ := hv
  have hx := B.exec
  have hb := B.bytes
  have hr := B.returns
  have hts := atoms_spec (ws := wsX4_yetBehind) B.pre
  have hown : s.vm.findClass RX4 = some m.cls := findClass_of_methodNamed B.named
  have hlocks := B.notSynchronized
  subst hsz
  have hD := hD0.self (sz := s.heap.size)
  have hAr := zx_A hX0 hR0
  generalize hAe : va_A [] s.heap.size = A at hD hAr hH ⊢
  have hA : ∀ q : Nat, s.heap.size ≤ q → A q := fun q h => by rw [← hAe]; exact Or.inr h
  have hS : va_S A s.heap s.heap [] := va_S.rf
  have hl := lv_entry ([.ref st, .int 3]) (n := 2) (Nat.le_of_ble_eq_true rfl)
  rw [lg_entry_eq]
  generalize (lg_sl ([.ref st, .int 3]) ++ List.replicate (2 - (lg_sl ([.ref st, .int 3])).length) Slot.unset).toArray = ls at hl ⊢
  have hl : lv_has ls 2 [(0, .ref st), (1, .int 3)] := hl
  refine lv_iload_n hx hb dX4_yetBehind_0 rfl (lv_at hl 1 rfl) ?_
  refine lv_if_lt (tgt := 20) hx hb dX4_yetBehind_1 (by decide) (fun h => absurd h (by decide)) (fun _ => ?_)
  refine lv_iload_n hx hb dX4_yetBehind_4 rfl (lv_at hl 1 rfl) ?_
  refine lv_sipush (v := 1024) hx hb dX4_yetBehind_5 (by decide) ?_
  refine lv_icmp_ge (tgt := 20) hx hb dX4_yetBehind_8 (by decide) (fun h => absurd h (by decide)) (fun _ => ?_)
  refine lv_aload_n hx hb dX4_yetBehind_11 rfl (lv_at hl 0 rfl) ?_
  refine va_get (D := (dC, dI)) (ci := 6) (v := .ref a3) (C := RX4) (T := TX4) (N := 3) hx hb hts zi_X4_yetBehind_X4 hown hK hR0 0 rfl rfl 2 (by decide) (hts (.fieldLink RX4 19 "LockRooms$Stands" "yet" "[I") (by decide +kernel)) (fun _ h9 => h9) rfl dX4_yetBehind_12 ?_
  refine lv_iload_n hx hb dX4_yetBehind_15 rfl (lv_at hl 1 rfl) ?_
  refine va_iald hx hb hK hR0 1 0 rfl rfl (by unfold vp_in; decide) dX4_yetBehind_16 ?_
  refine zo_i (v := 0) (by rw [show Int32.toNatClampNeg 3 = 3 from by decide]; exact hf3_3) ?_
  refine lv_goto (tgt := 21) hx hb dX4_yetBehind_17 (by decide) ?_
  refine W.widen (k := 0) (n := 0) (Nat.le_of_ble_eq_true rfl) (Nat.le_of_ble_eq_true rfl) ?_
  exact W.iret hx hb hr (fun t ht hW => ⟨⟨0, (), rfl, rfl, trivial⟩, hS.F ht⟩) hS.2.2 dX4_yetBehind_21
set_option maxRecDepth 20000 in
theorem zi_X4_leastYet_X4 : ∀ w ∈ u_ws RX4 TX4 3, w ∈ wsX4_leastYet := by decide +kernel
set_option maxHeartbeats 4000000 in
set_option maxRecDepth 100000 in
theorem cz_QleastYet_2 (l : Launch) (dC : Nat → ClassId) (dI : Nat → Nat → Nat) (ed sz : Nat) (st : Nat) (a1 : Nat) (a2 : Nat) (a3 : Nat) (rm : Nat) (lk : Nat) (th : Nat) (pl : Nat) (gm : Nat) (cI : ClassId) (f2 : Nat → Int32) (cJ : ClassId) (f3 : Nat → Int32) (hf2_2 : f2 2 = 1) (hf3_3 : f3 3 = 0) : Met l yX4_leastYet wsX4_leastYet ({ frames := 1, cells := 0, slots := 0, locals := 21 } : Jvm.Room) (va_Pc [.ref st, .ref rm, .int 2] (zB dC dI ed sz [(st, .inr (6, [.ref a1, .ref a2, .ref a3])), (rm, .inr (5, [.ref lk, .ref th, .ref pl, .ref gm, .int 2, .int 10, .int 0, .int 0, .int 1, .int 0, .int 0, .int 0])), (a2, .inl (cI, 1024, .inl f2)), (a3, .inl (cJ, 1024, .inl f3))] [] [(cI, .int), (cJ, .int)])) (va_Qi (fun (r : Int32) (_ : Unit) => r = 1) (fun (_ : Unit) (_ : State) => True) (va_A [] sz)) 0 0 (va_A [] sz) := by
  refine Met.ofW (cc := cX4_leastYet) (maxL := 6) (ret := (some .int)) (by decide) rfl ?_
  intro p e s m args below meth c s₁ B hml hv
  obtain ⟨rfl, hsz, hR0, hP, hK, hD0, hN, hH, hX0⟩ := hv
  have hx := B.exec
  have hb := B.bytes
  have hr := B.returns
  have hts := atoms_spec (ws := wsX4_leastYet) B.pre
  have hown : s.vm.findClass RX4 = some m.cls := findClass_of_methodNamed B.named
  have hlocks := B.notSynchronized
  subst hsz
  have hD := hD0.self (sz := s.heap.size)
  have hAr := zx_A hX0 hR0
  generalize hAe : va_A [] s.heap.size = A at hD hAr hH ⊢
  have hA : ∀ q : Nat, s.heap.size ≤ q → A q := fun q h => by rw [← hAe]; exact Or.inr h
  have hS : va_S A s.heap s.heap [] := va_S.rf
  have hl := lv_entry ([.ref st, .ref rm, .int 2]) (n := 6) (Nat.le_of_ble_eq_true rfl)
  rw [lg_entry_eq]
  generalize (lg_sl ([.ref st, .ref rm, .int 2]) ++ List.replicate (6 - (lg_sl ([.ref st, .ref rm, .int 2])).length) Slot.unset).toArray = ls at hl ⊢
  have hl : lv_has ls 6 [(0, .ref st), (1, .ref rm), (2, .int 2)] := hl
  refine lv_iconst (v := (-1)) hx hb dX4_leastYet_0 (by decide) ?_
  refine lv_istore_n (lv' := [(3, .int (-1)), (0, .ref st), (1, .ref rm), (2, .int 2)]) hx hb dX4_leastYet_1 rfl hl (by decide) rfl (fun ls hl => ?_)
  refine lv_iconst (v := 0) hx hb dX4_leastYet_2 (by decide) ?_
  refine lv_istore (lv' := [(4, .int 0), (3, .int (-1)), (0, .ref st), (1, .ref rm), (2, .int 2)]) hx hb dX4_leastYet_3 hl (by decide) rfl (fun ls hl => ?_)
  refine lv_iload hx hb dX4_leastYet_5 (lv_at hl 0 rfl) ?_
  refine lv_aload_n hx hb dX4_leastYet_7 rfl (lv_at hl 3 rfl) ?_
  refine va_get (D := (dC, dI)) (ci := 5) (v := .int 2) (C := RX3) (T := TX3) (N := 12) hx hb hts zi_X4_leastYet_X3 hown hK hR0 1 rfl rfl 4 (by decide) (hts (.fieldLink RX4 51 "LockRooms$Room" "lockCount" "I") (by decide +kernel)) (fun _ h9 => h9) rfl dX4_leastYet_8 ?_
  refine lv_icmp_ge (tgt := 74) hx hb dX4_leastYet_11 (by decide) (fun h => absurd h (by decide)) (fun _ => ?_)
  refine lv_aload_n hx hb dX4_leastYet_14 rfl (lv_at hl 2 rfl) ?_
  refine va_get (D := (dC, dI)) (ci := 6) (v := .ref a2) (C := RX4) (T := TX4) (N := 3) hx hb hts zi_X4_leastYet_X4 hown hK hR0 0 rfl rfl 1 (by decide) (hts (.fieldLink RX4 15 "LockRooms$Stands" "ways" "[I") (by decide +kernel)) (fun _ h9 => h9) rfl dX4_leastYet_15 ?_
  refine lv_iload_n hx hb dX4_leastYet_18 rfl (lv_at hl 4 rfl) ?_
  refine va_iald hx hb hK hR0 2 0 rfl rfl (by unfold vp_in; decide) dX4_leastYet_19 ?_
  refine zo_i (v := 1) (by rw [show Int32.toNatClampNeg 2 = 2 from by decide]; exact hf2_2) ?_
  refine lv_iload hx hb dX4_leastYet_20 (lv_at hl 0 rfl) ?_
  have hPr := (zo_nil : va_P (dC, dI) vwCl [] s.heap)
  have hPc := hP.sub (ws' := []) [] rfl
  have hDc := hD.sub (ws' := []) [] (by decide) rfl
  have hKc := hK.sub (tys' := []) [] rfl
  have hFc := va_free (wc := []) hD hS hA [] rfl
  refine va_calli (va_runSN (As := [.int 1, .int 0]) (rest := []) ⟨hx, hb, hml, hown, hts⟩ (cz_QisIn l dC dI ed s.heap.size 1 0) ⟨(va_cnB 2 hts gX4_leastYet_X6_isIn_n54 rfl rfl rfl (hN.2.1 ("LockRooms$Stands", 54, yX6_isIn, "LockRooms") (List.mem_of_getElem? (i := 6) rfl)) (hts (.initialized RX6) (by decide +kernel)) (by decide +kernel) ⟨Nat.le_of_ble_eq_true rfl, Nat.le_of_ble_eq_true rfl⟩), (hts (.static yX6_isIn) (by decide +kernel)), trivial⟩ ⟨zb_blind, fun U hU hW => ⟨rfl, zb_mk hU hW hPr hPc hKc hDc hN hH hS hFc zx_e⟩⟩ rfl rfl hl.1 rfl (lv_room (Nat.le_of_ble_eq_true rfl)) dX4_leastYet_22 ⟨Nat.le_of_ble_eq_true rfl, Nat.le_of_ble_eq_true rfl⟩) hS (fun q _ h => hFc q h) hFc (fun r2 u t H1 locs ht hvm hw hB hz1 hk1 hS => ?_)
  obtain rfl : r2 = 1 := hw.trans (by decide +kernel)
  have hP := zo_K hP hk1
  refine lv_if_eq (tgt := 41) hx hb dX4_leastYet_25 (by decide) (fun h => absurd h (by decide)) (fun _ => ?_)
  refine lv_aload_n hx hb dX4_leastYet_28 rfl (lv_at hl 2 rfl) ?_
  refine lv_iload_n hx hb dX4_leastYet_29 rfl (lv_at hl 4 rfl) ?_
  refine lv_iconst (v := 1) hx hb dX4_leastYet_30 (by decide) ?_
  refine lv_iload hx hb dX4_leastYet_31 (lv_at hl 0 rfl) ?_
  refine lv_ishl hx hb dX4_leastYet_33 ?_
  refine zo_i (v := 1) (by decide) ?_
  refine lv_ior hx hb dX4_leastYet_34 ?_
  refine zo_i (v := 3) (by decide) ?_
  have hPr := ((zo_R hR0 hS hAr)).sub (ws' := [(st, .inr (6, [.ref a1, .ref a2, .ref a3])), (a3, .inl (cJ, 1024, .inl f3))]) [0, 3] rfl
  have hPc := hP.sub (ws' := []) [] rfl
  have hDc := hD.sub (ws' := []) [] (by decide) rfl
  have hKc := hK.sub (tys' := [(cJ, .int)]) [1] rfl
  have hFc := va_free (wc := []) hD hS hA [] rfl
  refine va_calli (va_runV (As := [.int 3]) (rest := []) ⟨hx, hb, hml, hown, hts⟩ (cz_QyetBehind_3 l dC dI ed H1.size st a1 a2 a3 cJ f3 hf3_3) (cwV 1 hts gX4_leastYet_X4_yetBehind rfl rfl rfl (by decide +kernel) ⟨Nat.le_of_ble_eq_true rfl, Nat.le_of_ble_eq_true rfl⟩) ⟨zb_blind, va_recv hK (zo_R hR0 hS hAr) (ci := 6) (q0 := 0) rfl rfl, fun U hU hW => ⟨rfl, zb_mk hU hW hPr hPc hKc hDc hN hH hS hFc zx_e⟩⟩ rfl rfl hl.1 rfl (lv_room (Nat.le_of_ble_eq_true rfl)) dX4_leastYet_35 ⟨Nat.le_of_ble_eq_true rfl, Nat.le_of_ble_eq_true rfl⟩) hS (fun q _ h => hFc q h) hFc (fun r4 u t H3 locs ht hvm hw hB hz1 hk1 hS => ?_)
  obtain rfl : r4 = 0 := hw
  have hP := zo_K hP hk1
  refine lv_goto (tgt := 42) hx hb dX4_leastYet_38 (by decide) ?_
  refine lv_istore (lv' := [(5, .int 0), (4, .int 0), (3, .int (-1)), (0, .ref st), (1, .ref rm), (2, .int 2)]) hx hb dX4_leastYet_42 hl (by decide) rfl (fun ls hl => ?_)
  refine lv_iload hx hb dX4_leastYet_44 (lv_at hl 0 rfl) ?_
  refine lv_iconst (v := (-1)) hx hb dX4_leastYet_46 (by decide) ?_
  refine lv_icmp_eq (tgt := 68) hx hb dX4_leastYet_47 (by decide) (fun h => absurd h (by decide)) (fun _ => ?_)
  refine lv_iload_n hx hb dX4_leastYet_50 rfl (lv_at hl 2 rfl) ?_
  refine lv_iconst (v := (-1)) hx hb dX4_leastYet_51 (by decide) ?_
  refine lv_icmp_eq (tgt := 63) hx hb dX4_leastYet_52 (by decide) (fun _ => ?_) (fun h => absurd h (by decide))
  refine lv_iload hx hb dX4_leastYet_63 (lv_at hl 0 rfl) ?_
  refine lv_iconst (v := 1) hx hb dX4_leastYet_65 (by decide) ?_
  refine lv_iadd hx hb dX4_leastYet_66 ?_
  refine zo_i (v := 1) (by decide) ?_
  refine lv_istore_n (lv' := [(3, .int 1), (5, .int 0), (4, .int 0), (0, .ref st), (1, .ref rm), (2, .int 2)]) hx hb dX4_leastYet_67 rfl hl (by decide) rfl (fun ls hl => ?_)
  refine lv_iinc (v := 1) (lv' := [(4, .int 1), (3, .int 1), (5, .int 0), (0, .ref st), (1, .ref rm), (2, .int 2)]) hx hb dX4_leastYet_68 hl (k := 2) rfl (by decide) (by decide) rfl (fun ls hl => ?_)
  refine lv_goto (tgt := 5) hx hb dX4_leastYet_71 (by decide) ?_
  refine lv_iload hx hb dX4_leastYet_5 (lv_at hl 0 rfl) ?_
  refine lv_aload_n hx hb dX4_leastYet_7 rfl (lv_at hl 4 rfl) ?_
  refine va_get (D := (dC, dI)) (ci := 5) (v := .int 2) (C := RX3) (T := TX3) (N := 12) hx hb hts zi_X4_leastYet_X3 hown hK (zo_R hR0 hS hAr) 1 rfl rfl 4 (by decide) (hts (.fieldLink RX4 51 "LockRooms$Room" "lockCount" "I") (by decide +kernel)) (fun _ h9 => h9) rfl dX4_leastYet_8 ?_
  refine lv_icmp_ge (tgt := 74) hx hb dX4_leastYet_11 (by decide) (fun h => absurd h (by decide)) (fun _ => ?_)
  refine lv_aload_n hx hb dX4_leastYet_14 rfl (lv_at hl 3 rfl) ?_
  refine va_get (D := (dC, dI)) (ci := 6) (v := .ref a2) (C := RX4) (T := TX4) (N := 3) hx hb hts zi_X4_leastYet_X4 hown hK (zo_R hR0 hS hAr) 0 rfl rfl 1 (by decide) (hts (.fieldLink RX4 15 "LockRooms$Stands" "ways" "[I") (by decide +kernel)) (fun _ h9 => h9) rfl dX4_leastYet_15 ?_
  refine lv_iload_n hx hb dX4_leastYet_18 rfl (lv_at hl 5 rfl) ?_
  refine va_iald hx hb hK (zo_R hR0 hS hAr) 2 0 rfl rfl (by unfold vp_in; decide) dX4_leastYet_19 ?_
  refine zo_i (v := 1) (by rw [show Int32.toNatClampNeg 2 = 2 from by decide]; exact hf2_2) ?_
  refine lv_iload hx hb dX4_leastYet_20 (lv_at hl 0 rfl) ?_
  have hPr := (zo_nil : va_P (dC, dI) vwCl [] H3)
  have hPc := hP.sub (ws' := []) [] rfl
  have hDc := hD.sub (ws' := []) [] (by decide) rfl
  have hKc := hK.sub (tys' := []) [] rfl
  have hFc := va_free (wc := []) hD hS hA [] rfl
  refine va_calli (va_runSN (As := [.int 1, .int 1]) (rest := []) ⟨hx, hb, hml, hown, hts⟩ (cz_QisIn l dC dI ed H3.size 1 1) ⟨(va_cnB 2 hts gX4_leastYet_X6_isIn_n54 rfl rfl rfl (hN.2.1 ("LockRooms$Stands", 54, yX6_isIn, "LockRooms") (List.mem_of_getElem? (i := 6) rfl)) (hts (.initialized RX6) (by decide +kernel)) (by decide +kernel) ⟨Nat.le_of_ble_eq_true rfl, Nat.le_of_ble_eq_true rfl⟩), (hts (.static yX6_isIn) (by decide +kernel)), trivial⟩ ⟨zb_blind, fun U hU hW => ⟨rfl, zb_mk hU hW hPr hPc hKc hDc hN hH hS hFc zx_e⟩⟩ rfl rfl hl.1 rfl (lv_room (Nat.le_of_ble_eq_true rfl)) dX4_leastYet_22 ⟨Nat.le_of_ble_eq_true rfl, Nat.le_of_ble_eq_true rfl⟩) hS (fun q _ h => hFc q h) hFc (fun r6 u t H5 locs ht hvm hw hB hz1 hk1 hS => ?_)
  obtain rfl : r6 = 0 := hw.trans (by decide +kernel)
  have hP := zo_K hP hk1
  refine lv_if_eq (tgt := 41) hx hb dX4_leastYet_25 (by decide) (fun _ => ?_) (fun h => absurd h (by decide))
  refine lv_iconst (v := (-1)) hx hb dX4_leastYet_41 (by decide) ?_
  refine lv_istore (lv' := [(5, .int (-1)), (4, .int 1), (3, .int 1), (0, .ref st), (1, .ref rm), (2, .int 2)]) hx hb dX4_leastYet_42 hl (by decide) rfl (fun ls hl => ?_)
  refine lv_iload hx hb dX4_leastYet_44 (lv_at hl 0 rfl) ?_
  refine lv_iconst (v := (-1)) hx hb dX4_leastYet_46 (by decide) ?_
  refine lv_icmp_eq (tgt := 68) hx hb dX4_leastYet_47 (by decide) (fun _ => ?_) (fun h => absurd h (by decide))
  refine lv_iinc (v := 2) (lv' := [(4, .int 2), (5, .int (-1)), (3, .int 1), (0, .ref st), (1, .ref rm), (2, .int 2)]) hx hb dX4_leastYet_68 hl (k := 1) rfl (by decide) (by decide) rfl (fun ls hl => ?_)
  refine lv_goto (tgt := 5) hx hb dX4_leastYet_71 (by decide) ?_
  refine lv_iload hx hb dX4_leastYet_5 (lv_at hl 0 rfl) ?_
  refine lv_aload_n hx hb dX4_leastYet_7 rfl (lv_at hl 4 rfl) ?_
  refine va_get (D := (dC, dI)) (ci := 5) (v := .int 2) (C := RX3) (T := TX3) (N := 12) hx hb hts zi_X4_leastYet_X3 hown hK (zo_R hR0 hS hAr) 1 rfl rfl 4 (by decide) (hts (.fieldLink RX4 51 "LockRooms$Room" "lockCount" "I") (by decide +kernel)) (fun _ h9 => h9) rfl dX4_leastYet_8 ?_
  refine lv_icmp_ge (tgt := 74) hx hb dX4_leastYet_11 (by decide) (fun _ => ?_) (fun h => absurd h (by decide))
  refine lv_iload_n hx hb dX4_leastYet_74 rfl (lv_at hl 2 rfl) ?_
  refine W.widen (k := 0) (n := 0) (Nat.le_of_ble_eq_true rfl) (Nat.le_of_ble_eq_true rfl) ?_
  exact W.iret hx hb hr (fun t ht hW => ⟨⟨1, (), rfl, rfl, trivial⟩, hS.F ht⟩) hS.2.2 dX4_leastYet_75

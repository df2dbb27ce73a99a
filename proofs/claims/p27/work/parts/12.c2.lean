set_option maxRecDepth 20000 in
theorem zi_X3_forgetLastMinute_X3 : ∀ w ∈ u_ws RX3 TX3 12, w ∈ wsX3_forgetLastMinute := by decide +kernel
set_option maxHeartbeats 4000000 in
set_option maxRecDepth 100000 in
theorem cz_Rforget (l : Launch) (dC : Nat → ClassId) (dI : Nat → Nat → Nat) (ed sz : Nat) (rm : Nat) (lk : Nat) (th : Nat) (pl : Nat) (gm : Nat) (cP : ClassId) (fp : Nat → Option Nat) (p0 : Nat) (y8 : Int32) (y9 : Int32) (y10 : Int32) (y11 : Int32) (w : Int32) (hkp : fp 0 = some p0) : Met l yX3_forgetLastMinute wsX3_forgetLastMinute ({ frames := 1, cells := 0, slots := 0, locals := 20 } : Jvm.Room) (va_Pc [.ref rm] (zB dC dI ed sz [(rm, .inr (5, [.ref lk, .ref th, .ref pl, .ref gm, .int 0, .int 0, .int 1, .int (-1), .int y8, .int y9, .int y10, .int y11])), (pl, .inl (cP, 6, .inr (.inr (.inr (.inr fp)))))] [(p0, .inr (4, [.int 1, .int (-1), .int (-1), .int w]))] [(cP, .object "LockRooms$Player")])) (va_Qv (fun (_ : Unit) => True) (fun (_ : Unit) (t : State) => va_P (dC, dI) vwCl [(p0, .inr (4, [.int 1, .int (-1), .int (-1), .int w]))] t.heap ∧ va_D (va_A [(p0, .inr (4, [.int 1, .int (-1), .int (-1), .int w]))] sz) [(p0, .inr (4, [.int 1, .int (-1), .int (-1), .int w]))] ∧ va_K (dC, dI) vwCl [] t) (va_A [(p0, .inr (4, [.int 1, .int (-1), .int (-1), .int w]))] sz)) 0 0 (va_A [(p0, .inr (4, [.int 1, .int (-1), .int (-1), .int w]))] sz) := by
  refine Met.ofW (cc := cX3_forgetLastMinute) (maxL := 2) (ret := none) (by decide) rfl ?_
  intro p e s m args below meth c s₁ B hml hv
  obtain ⟨rfl, hsz, hR0, hP, hK, hD0, hN, hH, hX0⟩ := hv
  have hx := B.exec
  have hb := B.bytes
  have hr := B.returns
  have hts := atoms_spec (ws := wsX3_forgetLastMinute) B.pre
  have hown : s.vm.findClass RX3 = some m.cls := findClass_of_methodNamed B.named
  have hlocks := B.notSynchronized
  subst hsz
  have hD := hD0.self (sz := s.heap.size)
  have hAr := zx_A hX0 hR0
  generalize hAe : va_A [(p0, .inr (4, [.int 1, .int (-1), .int (-1), .int w]))] s.heap.size = A at hD hAr hH ⊢
  have hA : ∀ q : Nat, s.heap.size ≤ q → A q := fun q h => by rw [← hAe]; exact Or.inr h
  have hS : va_S A s.heap s.heap [] := va_S.rf
  have hl := lv_entry ([.ref rm]) (n := 2) (Nat.le_of_ble_eq_true rfl)
  rw [lg_entry_eq]
  generalize (lg_sl ([.ref rm]) ++ List.replicate (2 - (lg_sl ([.ref rm])).length) Slot.unset).toArray = ls at hl ⊢
  have hl : lv_has ls 2 [(0, .ref rm)] := hl
  refine lv_iconst (v := 0) hx hb dX3_forgetLastMinute_0 (by decide) ?_
  refine lv_istore_n (lv' := [(1, .int 0), (0, .ref rm)]) hx hb dX3_forgetLastMinute_1 rfl hl (by decide) rfl (fun ls hl => ?_)
  refine lv_iload_n hx hb dX3_forgetLastMinute_2 rfl (lv_at hl 0 rfl) ?_
  refine lv_aload_n hx hb dX3_forgetLastMinute_3 rfl (lv_at hl 1 rfl) ?_
  refine va_get (D := (dC, dI)) (ci := 5) (v := .int 0) (C := RX3) (T := TX3) (N := 12) hx hb hts zi_X3_forgetLastMinute_X3 hown hK hR0 0 rfl rfl 4 (by decide) (hts (.fieldLink RX3 47 "LockRooms$Room" "lockCount" "I") (by decide +kernel)) (fun _ h9 => h9) rfl dX3_forgetLastMinute_4 ?_
  refine lv_icmp_ge (tgt := 26) hx hb dX3_forgetLastMinute_7 (by decide) (fun _ => ?_) (fun h => absurd h (by decide))
  refine lv_iconst (v := 0) hx hb dX3_forgetLastMinute_26 (by decide) ?_
  refine lv_istore_n (lv' := [(1, .int 0), (0, .ref rm)]) hx hb dX3_forgetLastMinute_27 rfl hl (by decide) rfl (fun ls hl => ?_)
  refine lv_iload_n hx hb dX3_forgetLastMinute_28 rfl (lv_at hl 0 rfl) ?_
  refine lv_aload_n hx hb dX3_forgetLastMinute_29 rfl (lv_at hl 1 rfl) ?_
  refine va_get (D := (dC, dI)) (ci := 5) (v := .int 0) (C := RX3) (T := TX3) (N := 12) hx hb hts zi_X3_forgetLastMinute_X3 hown hK hR0 0 rfl rfl 5 (by decide) (hts (.fieldLink RX3 54 "LockRooms$Room" "thingCount" "I") (by decide +kernel)) (fun _ h9 => h9) rfl dX3_forgetLastMinute_30 ?_
  refine lv_icmp_ge (tgt := 52) hx hb dX3_forgetLastMinute_33 (by decide) (fun _ => ?_) (fun h => absurd h (by decide))
  refine lv_iconst (v := 0) hx hb dX3_forgetLastMinute_52 (by decide) ?_
  refine lv_istore_n (lv' := [(1, .int 0), (0, .ref rm)]) hx hb dX3_forgetLastMinute_53 rfl hl (by decide) rfl (fun ls hl => ?_)
  refine lv_iload_n hx hb dX3_forgetLastMinute_54 rfl (lv_at hl 0 rfl) ?_
  refine lv_aload_n hx hb dX3_forgetLastMinute_55 rfl (lv_at hl 1 rfl) ?_
  refine va_get (D := (dC, dI)) (ci := 5) (v := .int 1) (C := RX3) (T := TX3) (N := 12) hx hb hts zi_X3_forgetLastMinute_X3 hown hK hR0 0 rfl rfl 6 (by decide) (hts (.fieldLink RX3 60 "LockRooms$Room" "playerCount" "I") (by decide +kernel)) (fun _ h9 => h9) rfl dX3_forgetLastMinute_56 ?_
  refine lv_icmp_ge (tgt := 77) hx hb dX3_forgetLastMinute_59 (by decide) (fun h => absurd h (by decide)) (fun _ => ?_)
  refine lv_aload_n hx hb dX3_forgetLastMinute_62 rfl (lv_at hl 1 rfl) ?_
  refine va_get (D := (dC, dI)) (ci := 5) (v := .ref pl) (C := RX3) (T := TX3) (N := 12) hx hb hts zi_X3_forgetLastMinute_X3 hown hK hR0 0 rfl rfl 2 (by decide) (hts (.fieldLink RX3 25 "LockRooms$Room" "players" "[LLockRooms$Player;") (by decide +kernel)) (fun _ h9 => h9) rfl dX3_forgetLastMinute_63 ?_
  refine lv_iload_n hx hb dX3_forgetLastMinute_66 rfl (lv_at hl 0 rfl) ?_
  refine va_aldq hx hb hK hR0 1 0 rfl rfl (by unfold vp_in; decide) dX3_forgetLastMinute_67 ?_
  refine zo_q (v := .ref p0) (by rw [show Int32.toNatClampNeg 0 = 0 from by decide, hkp]; rfl) ?_
  have hPr := (zo_nil : va_P (dC, dI) vwCl [] s.heap)
  have hPc := hP.sub (ws' := [(p0, .inr (4, [.int 1, .int (-1), .int (-1), .int w]))]) [0] rfl
  have hDc := hD.sub (ws' := [(p0, .inr (4, [.int 1, .int (-1), .int (-1), .int w]))]) [0] (by decide) rfl
  have hKc := hK.sub (tys' := []) [] rfl
  have hFc := va_free (wc := [(p0, .inr (4, [.int 1, .int (-1), .int (-1), .int w]))]) hD hS hA [0] rfl
  refine va_callv (va_runV (As := []) (rest := []) ⟨hx, hb, hml, hown, hts⟩ (cz_Rrest l dC dI ed s.heap.size p0 1 (-1) (-1) w) (cwV 0 hts gX3_forgetLastMinute_X2_rest rfl rfl rfl (by decide +kernel) ⟨Nat.le_of_ble_eq_true rfl, Nat.le_of_ble_eq_true rfl⟩) ⟨zb_blind, va_recv hK hP (ci := 4) (q0 := 0) rfl rfl, fun U hU hW => ⟨rfl, zb_mk hU hW hPr hPc hKc hDc hN hH hS hFc zx_nil⟩⟩ rfl rfl hl.1 rfl (lv_room (Nat.le_of_ble_eq_true rfl)) dX3_forgetLastMinute_68 ⟨Nat.le_of_ble_eq_true rfl, Nat.le_of_ble_eq_true rfl⟩) hS (fun q _ h => hFc q h) hFc (fun u t H1 locs ht hvm hw hB hz1 hk1 hS => ?_)
  obtain ⟨hP1, hD1, hK1⟩ := hB
  rw [ht] at hP1
  obtain ⟨hP, hD⟩ := va_join (wr := []) (w1 := [(p0, .inr (4, [.int 1, .int (-1), .int (-1), .int w]))]) hP hD [0] [] rfl rfl (by decide) (by decide) hk1 hFc hP1 hD1
  have hP : va_P (dC, dI) vwCl [(p0, .inr (4, [.int 1, .int (-1), .int (-1), .int w]))] H1 := hP
  have hD : va_D A [(p0, .inr (4, [.int 1, .int (-1), .int (-1), .int w]))] := hD
  refine lv_iinc (v := 1) (lv' := [(1, .int 1), (0, .ref rm)]) hx hb dX3_forgetLastMinute_71 hl (k := 0) rfl (by decide) (by decide) rfl (fun ls hl => ?_)
  refine lv_goto (tgt := 54) hx hb dX3_forgetLastMinute_74 (by decide) ?_
  refine lv_iload_n hx hb dX3_forgetLastMinute_54 rfl (lv_at hl 0 rfl) ?_
  refine lv_aload_n hx hb dX3_forgetLastMinute_55 rfl (lv_at hl 1 rfl) ?_
  refine va_get (D := (dC, dI)) (ci := 5) (v := .int 1) (C := RX3) (T := TX3) (N := 12) hx hb hts zi_X3_forgetLastMinute_X3 hown hK (zo_R hR0 hS hAr) 0 rfl rfl 6 (by decide) (hts (.fieldLink RX3 60 "LockRooms$Room" "playerCount" "I") (by decide +kernel)) (fun _ h9 => h9) rfl dX3_forgetLastMinute_56 ?_
  refine lv_icmp_ge (tgt := 77) hx hb dX3_forgetLastMinute_59 (by decide) (fun _ => ?_) (fun h => absurd h (by decide))
  refine W.widen (k := 0) (n := 0) (Nat.le_of_ble_eq_true rfl) (Nat.le_of_ble_eq_true rfl) ?_
  have hP9 := hP.sub (ws' := [(p0, .inr (4, [.int 1, .int (-1), .int (-1), .int w]))]) [0] rfl
  have hD9 := hD.sub (ws' := [(p0, .inr (4, [.int 1, .int (-1), .int (-1), .int w]))]) [0] (by decide) rfl
  have hK9 := hK.sub (tys' := []) [] rfl
  exact W.vret hx hb hr (fun t ht hW => ⟨⟨(), rfl, trivial, ⟨by rw [ht]; exact hP9, hD9, va_K.moved hW.alike hK9⟩⟩, hS.F ht⟩) hS.2.2 dX3_forgetLastMinute_77
set_option maxRecDepth 20000 in
theorem zi_X3_takeTurn_X2 : ∀ w ∈ u_ws RX2 TX2 4, w ∈ wsX3_takeTurn := by decide +kernel
set_option maxRecDepth 20000 in
theorem zi_X3_takeTurn_X3 : ∀ w ∈ u_ws RX3 TX3 12, w ∈ wsX3_takeTurn := by decide +kernel
set_option maxHeartbeats 4000000 in
set_option maxRecDepth 100000 in
theorem cz_RtakeTurn (l : Launch) (dC : Nat → ClassId) (dI : Nat → Nat → Nat) (ed sz : Nat) (rm : Nat) (lk : Nat) (th : Nat) (pl : Nat) (gm : Nat) (p0 : Nat) (y9 : Int32) (w : Int32) : Met l yX3_takeTurn wsX3_takeTurn ({ frames := 2, cells := 0, slots := 0, locals := 45 } : Jvm.Room) (va_Pc [.ref rm, .ref p0] (zB dC dI ed sz [] [(rm, .inr (5, [.ref lk, .ref th, .ref pl, .ref gm, .int 0, .int 0, .int 1, .int (-1), .int 1, .int y9, .int 18, .int w])), (p0, .inr (4, [.int 1, .int (-1), .int (-1), .int w]))] [])) (va_Qi (fun (r : Int32) (_ : Unit) => r = 0) (fun (_ : Unit) (t : State) => ∃ (w1 : Int32), (w1 = (w + 1)) ∧ va_P (dC, dI) vwCl [(rm, .inr (5, [.ref lk, .ref th, .ref pl, .ref gm, .int 0, .int 0, .int 1, .int (-1), .int 1, .int y9, .int 18, .int w1])), (p0, .inr (4, [.int 1, .int (-1), .int (-1), .int w1]))] t.heap ∧ va_D (va_A [(rm, .inr (5, [.ref lk, .ref th, .ref pl, .ref gm, .int 0, .int 0, .int 1, .int (-1), .int 1, .int y9, .int 18, .int w])), (p0, .inr (4, [.int 1, .int (-1), .int (-1), .int w]))] sz) [(rm, .inr (5, [.ref lk, .ref th, .ref pl, .ref gm, .int 0, .int 0, .int 1, .int (-1), .int 1, .int y9, .int 18, .int w1])), (p0, .inr (4, [.int 1, .int (-1), .int (-1), .int w1]))] ∧ va_K (dC, dI) vwCl [] t) (va_A [(rm, .inr (5, [.ref lk, .ref th, .ref pl, .ref gm, .int 0, .int 0, .int 1, .int (-1), .int 1, .int y9, .int 18, .int w])), (p0, .inr (4, [.int 1, .int (-1), .int (-1), .int w]))] sz)) 0 0 (va_A [(rm, .inr (5, [.ref lk, .ref th, .ref pl, .ref gm, .int 0, .int 0, .int 1, .int (-1), .int 1, .int y9, .int 18, .int w])), (p0, .inr (4, [.int 1, .int (-1), .int (-1), .int w]))] sz) := by
  refine Met.ofW (cc := cX3_takeTurn) (maxL := 4) (ret := (some .boolean)) (by decide) rfl ?_
  intro p e s m args below meth c s₁ B hml hv
  obtain ⟨rfl, hsz, hR0, hP, hK, hD0, hN, hH, hX0⟩ := hv
  have hx := B.exec
  have hb := B.bytes
  have hr := B.returns
  have hts := atoms_spec (ws := wsX3_takeTurn) B.pre
  have hown : s.vm.findClass RX3 = some m.cls := findClass_of_methodNamed B.named
  have hlocks := B.notSynchronized
  subst hsz
  have hD := hD0.self (sz := s.heap.size)
  have hAr := zx_A hX0 hR0
  generalize hAe : va_A [(rm, .inr (5, [.ref lk, .ref th, .ref pl, .ref gm, .int 0, .int 0, .int 1, .int (-1), .int 1, .int y9, .int 18, .int w])), (p0, .inr (4, [.int 1, .int (-1), .int (-1), .int w]))] s.heap.size = A at hD hAr hH ⊢
  have hA : ∀ q : Nat, s.heap.size ≤ q → A q := fun q h => by rw [← hAe]; exact Or.inr h
  have hS : va_S A s.heap s.heap [] := va_S.rf
  have hl := lv_entry ([.ref rm, .ref p0]) (n := 4) (Nat.le_of_ble_eq_true rfl)
  rw [lg_entry_eq]
  generalize (lg_sl ([.ref rm, .ref p0]) ++ List.replicate (4 - (lg_sl ([.ref rm, .ref p0])).length) Slot.unset).toArray = ls at hl ⊢
  have hl : lv_has ls 4 [(0, .ref rm), (1, .ref p0)] := hl
  refine lv_aload_n hx hb dX3_takeTurn_0 rfl (lv_at hl 0 rfl) ?_
  have hPr := (hP).sub (ws' := [(rm, .inr (5, [.ref lk, .ref th, .ref pl, .ref gm, .int 0, .int 0, .int 1, .int (-1), .int 1, .int y9, .int 18, .int w]))]) [0] rfl
  have hPc := hP.sub (ws' := []) [] rfl
  have hDc := hD.sub (ws' := []) [] (by decide) rfl
  have hKc := hK.sub (tys' := []) [] rfl
  have hFc := va_free (wc := []) hD hS hA [] rfl
  refine va_calli (va_runV (As := []) (rest := []) ⟨hx, hb, hml, hown, hts⟩ (cz_RfindWork l dC dI ed s.heap.size rm lk th pl gm 1 1 y9 18 w) (cwV 0 hts gX3_takeTurn_X3_findWork rfl rfl rfl (by decide +kernel) ⟨Nat.le_of_ble_eq_true rfl, Nat.le_of_ble_eq_true rfl⟩) ⟨zb_blind, va_recv hK hP (ci := 5) (q0 := 0) rfl rfl, fun U hU hW => ⟨rfl, zb_mk hU hW hPr hPc hKc hDc hN hH hS hFc zx_e⟩⟩ rfl rfl hl.1 rfl (lv_room (Nat.le_of_ble_eq_true rfl)) dX3_takeTurn_1 ⟨Nat.le_of_ble_eq_true rfl, Nat.le_of_ble_eq_true rfl⟩) hS (fun q _ h => hFc q h) hFc (fun r2 u t H1 locs ht hvm hw hB hz1 hk1 hS => ?_)
  obtain rfl : r2 = (-1) := hw
  have hP := zo_K hP hk1
  refine lv_istore_n (lv' := [(2, .int (-1)), (0, .ref rm), (1, .ref p0)]) hx hb dX3_takeTurn_4 rfl hl (by decide) rfl (fun ls hl => ?_)
  refine lv_aload_n hx hb dX3_takeTurn_5 rfl (lv_at hl 1 rfl) ?_
  refine lv_iload_n hx hb dX3_takeTurn_6 rfl (lv_at hl 0 rfl) ?_
  have hPr := (hP).sub (ws' := [(rm, .inr (5, [.ref lk, .ref th, .ref pl, .ref gm, .int 0, .int 0, .int 1, .int (-1), .int 1, .int y9, .int 18, .int w]))]) [0] rfl
  have hPc := hP.sub (ws' := []) [] rfl
  have hDc := hD.sub (ws' := []) [] (by decide) rfl
  have hKc := hK.sub (tys' := []) [] rfl
  have hFc := va_free (wc := []) hD hS hA [] rfl
  refine va_calli (va_runV (As := [.int (-1)]) (rest := []) ⟨hx, hb, hml, hown, hts⟩ (cz_RhasLock l dC dI ed H1.size rm lk th pl gm 1 1 y9 18 w) (cwV 1 hts gX3_takeTurn_X3_hasLock rfl rfl rfl (by decide +kernel) ⟨Nat.le_of_ble_eq_true rfl, Nat.le_of_ble_eq_true rfl⟩) ⟨zb_blind, va_recv hK hP (ci := 5) (q0 := 0) rfl rfl, fun U hU hW => ⟨rfl, zb_mk hU hW hPr hPc hKc hDc hN hH hS hFc zx_e⟩⟩ rfl rfl hl.1 rfl (lv_room (Nat.le_of_ble_eq_true rfl)) dX3_takeTurn_7 ⟨Nat.le_of_ble_eq_true rfl, Nat.le_of_ble_eq_true rfl⟩) hS (fun q _ h => hFc q h) hFc (fun r4 u t H3 locs ht hvm hw hB hz1 hk1 hS => ?_)
  obtain rfl : r4 = 0 := hw
  have hP := zo_K hP hk1
  refine lv_if_eq (tgt := 34) hx hb dX3_takeTurn_10 (by decide) (fun _ => ?_) (fun h => absurd h (by decide))
  refine lv_aload_n hx hb dX3_takeTurn_34 rfl (lv_at hl 1 rfl) ?_
  have hPr := (hP).sub (ws' := [(rm, .inr (5, [.ref lk, .ref th, .ref pl, .ref gm, .int 0, .int 0, .int 1, .int (-1), .int 1, .int y9, .int 18, .int w]))]) [0] rfl
  have hPc := hP.sub (ws' := []) [] rfl
  have hDc := hD.sub (ws' := []) [] (by decide) rfl
  have hKc := hK.sub (tys' := []) [] rfl
  have hFc := va_free (wc := []) hD hS hA [] rfl
  refine va_calli (va_runV (As := []) (rest := []) ⟨hx, hb, hml, hown, hts⟩ (cz_RfindSearch l dC dI ed H3.size rm lk th pl gm 1 1 y9 18 w) (cwV 0 hts gX3_takeTurn_X3_findSearch rfl rfl rfl (by decide +kernel) ⟨Nat.le_of_ble_eq_true rfl, Nat.le_of_ble_eq_true rfl⟩) ⟨zb_blind, va_recv hK hP (ci := 5) (q0 := 0) rfl rfl, fun U hU hW => ⟨rfl, zb_mk hU hW hPr hPc hKc hDc hN hH hS hFc zx_e⟩⟩ rfl rfl hl.1 rfl (lv_room (Nat.le_of_ble_eq_true rfl)) dX3_takeTurn_35 ⟨Nat.le_of_ble_eq_true rfl, Nat.le_of_ble_eq_true rfl⟩) hS (fun q _ h => hFc q h) hFc (fun r6 u t H5 locs ht hvm hw hB hz1 hk1 hS => ?_)
  obtain rfl : r6 = (-1) := hw
  have hP := zo_K hP hk1
  refine lv_istore_n (lv' := [(3, .int (-1)), (2, .int (-1)), (0, .ref rm), (1, .ref p0)]) hx hb dX3_takeTurn_38 rfl hl (by decide) rfl (fun ls hl => ?_)
  refine lv_aload_n hx hb dX3_takeTurn_39 rfl (lv_at hl 2 rfl) ?_
  refine lv_iload_n hx hb dX3_takeTurn_40 rfl (lv_at hl 0 rfl) ?_
  have hPr := (hP).sub (ws' := [(rm, .inr (5, [.ref lk, .ref th, .ref pl, .ref gm, .int 0, .int 0, .int 1, .int (-1), .int 1, .int y9, .int 18, .int w]))]) [0] rfl
  have hPc := hP.sub (ws' := []) [] rfl
  have hDc := hD.sub (ws' := []) [] (by decide) rfl
  have hKc := hK.sub (tys' := []) [] rfl
  have hFc := va_free (wc := []) hD hS hA [] rfl
  refine va_calli (va_runV (As := [.int (-1)]) (rest := []) ⟨hx, hb, hml, hown, hts⟩ (cz_RhasThing l dC dI ed H5.size rm lk th pl gm 1 1 y9 18 w) (cwV 1 hts gX3_takeTurn_X3_hasThing rfl rfl rfl (by decide +kernel) ⟨Nat.le_of_ble_eq_true rfl, Nat.le_of_ble_eq_true rfl⟩) ⟨zb_blind, va_recv hK hP (ci := 5) (q0 := 0) rfl rfl, fun U hU hW => ⟨rfl, zb_mk hU hW hPr hPc hKc hDc hN hH hS hFc zx_e⟩⟩ rfl rfl hl.1 rfl (lv_room (Nat.le_of_ble_eq_true rfl)) dX3_takeTurn_41 ⟨Nat.le_of_ble_eq_true rfl, Nat.le_of_ble_eq_true rfl⟩) hS (fun q _ h => hFc q h) hFc (fun r8 u t H7 locs ht hvm hw hB hz1 hk1 hS => ?_)
  obtain rfl : r8 = 0 := hw
  have hP := zo_K hP hk1
  refine lv_if_eq (tgt := 69) hx hb dX3_takeTurn_44 (by decide) (fun _ => ?_) (fun h => absurd h (by decide))
  refine lv_aload_n hx hb dX3_takeTurn_69 rfl (lv_at hl 3 rfl) ?_
  refine lv_dup hx hb dX3_takeTurn_70 rfl ?_
  refine va_get (D := (dC, dI)) (ci := 4) (v := .int w) (C := RX2) (T := TX2) (N := 4) hx hb hts zi_X3_takeTurn_X2 hown hK hP 1 rfl rfl 3 (by decide) (hts (.fieldLink RX3 192 "LockRooms$Player" "idled" "I") (by decide +kernel)) (fun _ h9 => h9) rfl dX3_takeTurn_71 ?_
  refine lv_iconst (v := 1) hx hb dX3_takeTurn_74 (by decide) ?_
  refine lv_iadd hx hb dX3_takeTurn_75 ?_
  refine va_put (D := (dC, dI)) (ci := 4) (v := .int (w + 1)) (ty := .int) (C := RX2) (T := TX2) (N := 4) hx hb hts zi_X3_takeTurn_X2 tyX2 tyX2_ok nmX2 hown hK hP hD hS 1 rfl rfl 3 (by decide) (hts (.fieldLink RX3 192 "LockRooms$Player" "idled" "I") (by decide +kernel)) (fun _ h9 => h9) rfl (by decide +kernel) rfl rfl (Nat.le_of_ble_eq_true rfl) dX3_takeTurn_76 (fun H9 locs hP hD hS => ?_)
  have hP : va_P (dC, dI) vwCl [(rm, .inr (5, [.ref lk, .ref th, .ref pl, .ref gm, .int 0, .int 0, .int 1, .int (-1), .int 1, .int y9, .int 18, .int w])), (p0, .inr (4, [.int 1, .int (-1), .int (-1), .int (w + 1)]))] H9 := hP
  have hD : va_D A [(rm, .inr (5, [.ref lk, .ref th, .ref pl, .ref gm, .int 0, .int 0, .int 1, .int (-1), .int 1, .int y9, .int 18, .int w])), (p0, .inr (4, [.int 1, .int (-1), .int (-1), .int (w + 1)]))] := hD
  refine lv_aload_n hx hb dX3_takeTurn_79 rfl (lv_at hl 2 rfl) ?_
  refine lv_dup hx hb dX3_takeTurn_80 rfl ?_
  refine va_get (D := (dC, dI)) (ci := 5) (v := .int w) (C := RX3) (T := TX3) (N := 12) hx hb hts zi_X3_takeTurn_X3 hown hK hP 0 rfl rfl 11 (by decide) (hts (.fieldLink RX3 75 "LockRooms$Room" "idledEver" "I") (by decide +kernel)) (fun _ h9 => h9) rfl dX3_takeTurn_81 ?_
  refine lv_iconst (v := 1) hx hb dX3_takeTurn_84 (by decide) ?_
  refine lv_iadd hx hb dX3_takeTurn_85 ?_
  refine va_put (D := (dC, dI)) (ci := 5) (v := .int (w + 1)) (ty := .int) (C := RX3) (T := TX3) (N := 12) hx hb hts zi_X3_takeTurn_X3 tyX3 tyX3_ok nmX3 hown hK hP hD hS 0 rfl rfl 11 (by decide) (hts (.fieldLink RX3 75 "LockRooms$Room" "idledEver" "I") (by decide +kernel)) (fun _ h9 => h9) rfl (by decide +kernel) rfl rfl (Nat.le_of_ble_eq_true rfl) dX3_takeTurn_86 (fun H10 locs hP hD hS => ?_)
  have hP : va_P (dC, dI) vwCl [(rm, .inr (5, [.ref lk, .ref th, .ref pl, .ref gm, .int 0, .int 0, .int 1, .int (-1), .int 1, .int y9, .int 18, .int (w + 1)])), (p0, .inr (4, [.int 1, .int (-1), .int (-1), .int (w + 1)]))] H10 := hP
  have hD : va_D A [(rm, .inr (5, [.ref lk, .ref th, .ref pl, .ref gm, .int 0, .int 0, .int 1, .int (-1), .int 1, .int y9, .int 18, .int (w + 1)])), (p0, .inr (4, [.int 1, .int (-1), .int (-1), .int (w + 1)]))] := hD
  refine lv_iconst (v := 0) hx hb dX3_takeTurn_89 (by decide) ?_
  refine W.widen (k := 0) (n := 0) (Nat.le_of_ble_eq_true rfl) (Nat.le_of_ble_eq_true rfl) ?_
  have hP9 := hP.sub (ws' := [(rm, .inr (5, [.ref lk, .ref th, .ref pl, .ref gm, .int 0, .int 0, .int 1, .int (-1), .int 1, .int y9, .int 18, .int (w + 1)])), (p0, .inr (4, [.int 1, .int (-1), .int (-1), .int (w + 1)]))]) [0, 1] rfl
  have hD9 := hD.sub (ws' := [(rm, .inr (5, [.ref lk, .ref th, .ref pl, .ref gm, .int 0, .int 0, .int 1, .int (-1), .int 1, .int y9, .int 18, .int (w + 1)])), (p0, .inr (4, [.int 1, .int (-1), .int (-1), .int (w + 1)]))]) [0, 1] (by decide) rfl
  have hK9 := hK.sub (tys' := []) [] rfl
  exact W.zret hx hb hr (by decide) (fun t ht hW => ⟨⟨0, (), rfl, rfl, ⟨(w + 1), rfl, by rw [ht]; exact hP9, hD9, va_K.moved hW.alike hK9⟩⟩, hS.F ht⟩) hS.2.2 dX3_takeTurn_90
set_option maxRecDepth 20000 in
theorem zi_X0_endLost_X0 : ∀ w ∈ u_ws RX0 TX0 7, w ∈ wsX0_endLost := by decide +kernel
set_option maxHeartbeats 4000000 in
set_option maxRecDepth 100000 in
theorem cz_RendLost (l : Launch) (dC : Nat → ClassId) (dI : Nat → Nat → Nat) (ed sz : Nat) (gm : Nat) : Met l yX0_endLost wsX0_endLost ({ frames := 0, cells := 0, slots := 0, locals := 0 } : Jvm.Room) (va_Pc [.ref gm] (zB dC dI ed sz [] [(gm, .inr (2, [.int 1, .int 60, .int 0, .int 0, .int 0, .int (-1), .long 0]))] [])) (va_Qv (fun (_ : Unit) => True) (fun (_ : Unit) (t : State) => va_P (dC, dI) vwCl [(gm, .inr (2, [.int 0, .int 60, .int 0, .int 0, .int 1, .int (-1), .long 0]))] t.heap ∧ va_D (va_A [(gm, .inr (2, [.int 1, .int 60, .int 0, .int 0, .int 0, .int (-1), .long 0]))] sz) [(gm, .inr (2, [.int 0, .int 60, .int 0, .int 0, .int 1, .int (-1), .long 0]))] ∧ va_K (dC, dI) vwCl [] t) (va_A [(gm, .inr (2, [.int 1, .int 60, .int 0, .int 0, .int 0, .int (-1), .long 0]))] sz)) 0 0 (va_A [(gm, .inr (2, [.int 1, .int 60, .int 0, .int 0, .int 0, .int (-1), .long 0]))] sz) := by
  refine Met.ofW (cc := cX0_endLost) (maxL := 1) (ret := none) (by decide) rfl ?_
  intro p e s m args below meth c s₁ B hml hv
  obtain ⟨rfl, hsz, hR0, hP, hK, hD0, hN, hH, hX0⟩ := hv
  have hx := B.exec
  have hb := B.bytes
  have hr := B.returns
  have hts := atoms_spec (ws := wsX0_endLost) B.pre
  have hown : s.vm.findClass RX0 = some m.cls := findClass_of_methodNamed B.named
  have hlocks := B.notSynchronized
  subst hsz
  have hD := hD0.self (sz := s.heap.size)
  have hAr := zx_A hX0 hR0
  generalize hAe : va_A [(gm, .inr (2, [.int 1, .int 60, .int 0, .int 0, .int 0, .int (-1), .long 0]))] s.heap.size = A at hD hAr hH ⊢
  have hA : ∀ q : Nat, s.heap.size ≤ q → A q := fun q h => by rw [← hAe]; exact Or.inr h
  have hS : va_S A s.heap s.heap [] := va_S.rf
  have hl := lv_entry ([.ref gm]) (n := 1) (Nat.le_of_ble_eq_true rfl)
  rw [lg_entry_eq]
  generalize (lg_sl ([.ref gm]) ++ List.replicate (1 - (lg_sl ([.ref gm])).length) Slot.unset).toArray = ls at hl ⊢
  have hl : lv_has ls 1 [(0, .ref gm)] := hl
  refine lv_aload_n hx hb dX0_endLost_0 rfl (lv_at hl 0 rfl) ?_
  refine lv_iconst (v := 0) hx hb dX0_endLost_1 (by decide) ?_
  refine va_put (D := (dC, dI)) (ci := 2) (v := .int 0) (ty := .boolean) (C := RX0) (T := TX0) (N := 7) hx hb hts zi_X0_endLost_X0 tyX0 tyX0_ok nmX0 hown hK hP hD hS 0 rfl rfl 0 (by decide) (hts (.fieldLink RX0 15 "LockRooms$Games" "isRunning" "Z") (by decide +kernel)) (fun _ h9 => h9) rfl (by decide +kernel) (by decide) (by decide) (Nat.le_of_ble_eq_true rfl) dX0_endLost_2 (fun H1 locs hP hD hS => ?_)
  have hP : va_P (dC, dI) vwCl [(gm, .inr (2, [.int 0, .int 60, .int 0, .int 0, .int 0, .int (-1), .long 0]))] H1 := hP
  have hD : va_D A [(gm, .inr (2, [.int 0, .int 60, .int 0, .int 0, .int 0, .int (-1), .long 0]))] := hD
  refine lv_aload_n hx hb dX0_endLost_5 rfl (lv_at hl 0 rfl) ?_
  refine lv_dup hx hb dX0_endLost_6 rfl ?_
  refine va_get (D := (dC, dI)) (ci := 2) (v := .int 0) (C := RX0) (T := TX0) (N := 7) hx hb hts zi_X0_endLost_X0 hown hK hP 0 rfl rfl 4 (by decide) (hts (.fieldLink RX0 28 "LockRooms$Games" "lost" "I") (by decide +kernel)) (fun _ h9 => h9) rfl dX0_endLost_7 ?_
  refine lv_iconst (v := 1) hx hb dX0_endLost_10 (by decide) ?_
  refine lv_iadd hx hb dX0_endLost_11 ?_
  refine zo_i (v := 1) (by decide) ?_
  refine va_put (D := (dC, dI)) (ci := 2) (v := .int 1) (ty := .int) (C := RX0) (T := TX0) (N := 7) hx hb hts zi_X0_endLost_X0 tyX0 tyX0_ok nmX0 hown hK hP hD hS 0 rfl rfl 4 (by decide) (hts (.fieldLink RX0 28 "LockRooms$Games" "lost" "I") (by decide +kernel)) (fun _ h9 => h9) rfl (by decide +kernel) rfl rfl (Nat.le_of_ble_eq_true rfl) dX0_endLost_12 (fun H2 locs hP hD hS => ?_)
  have hP : va_P (dC, dI) vwCl [(gm, .inr (2, [.int 0, .int 60, .int 0, .int 0, .int 1, .int (-1), .long 0]))] H2 := hP
  have hD : va_D A [(gm, .inr (2, [.int 0, .int 60, .int 0, .int 0, .int 1, .int (-1), .long 0]))] := hD
  refine W.widen (k := 0) (n := 0) (Nat.le_of_ble_eq_true rfl) (Nat.le_of_ble_eq_true rfl) ?_
  have hP9 := hP.sub (ws' := [(gm, .inr (2, [.int 0, .int 60, .int 0, .int 0, .int 1, .int (-1), .long 0]))]) [0] rfl
  have hD9 := hD.sub (ws' := [(gm, .inr (2, [.int 0, .int 60, .int 0, .int 0, .int 1, .int (-1), .long 0]))]) [0] (by decide) rfl
  have hK9 := hK.sub (tys' := []) [] rfl
  exact W.vret hx hb hr (fun t ht hW => ⟨⟨(), rfl, trivial, ⟨by rw [ht]; exact hP9, hD9, va_K.moved hW.alike hK9⟩⟩, hS.F ht⟩) hS.2.2 dX0_endLost_15
set_option maxRecDepth 20000 in
theorem zi_X3_loseGame_X3 : ∀ w ∈ u_ws RX3 TX3 12, w ∈ wsX3_loseGame := by decide +kernel
set_option maxHeartbeats 4000000 in
set_option maxRecDepth 100000 in
theorem cz_RloseGame (l : Launch) (dC : Nat → ClassId) (dI : Nat → Nat → Nat) (ed sz : Nat) (rm : Nat) (lk : Nat) (th : Nat) (pl : Nat) (gm : Nat) : Met l yX3_loseGame wsX3_loseGame ({ frames := 1, cells := 0, slots := 0, locals := 20 } : Jvm.Room) (va_Pc [.ref rm] (zB dC dI ed sz [] [(rm, .inr (5, [.ref lk, .ref th, .ref pl, .ref gm, .int 0, .int 0, .int 1, .int (-1), .int 1, .int 60, .int 18, .int 60])), (gm, .inr (2, [.int 1, .int 60, .int 0, .int 0, .int 0, .int (-1), .long 0]))] [])) (va_Qv (fun (_ : Unit) => True) (fun (_ : Unit) (t : State) => va_P (dC, dI) vwCl [(rm, .inr (5, [.ref lk, .ref th, .ref pl, .ref gm, .int 0, .int 0, .int 0, .int (-1), .int 1, .int 60, .int 18, .int 60])), (gm, .inr (2, [.int 0, .int 60, .int 0, .int 0, .int 1, .int (-1), .long 0]))] t.heap ∧ va_D (va_A [(rm, .inr (5, [.ref lk, .ref th, .ref pl, .ref gm, .int 0, .int 0, .int 1, .int (-1), .int 1, .int 60, .int 18, .int 60])), (gm, .inr (2, [.int 1, .int 60, .int 0, .int 0, .int 0, .int (-1), .long 0]))] sz) [(rm, .inr (5, [.ref lk, .ref th, .ref pl, .ref gm, .int 0, .int 0, .int 0, .int (-1), .int 1, .int 60, .int 18, .int 60])), (gm, .inr (2, [.int 0, .int 60, .int 0, .int 0, .int 1, .int (-1), .long 0]))] ∧ va_K (dC, dI) vwCl [] t) (va_A [(rm, .inr (5, [.ref lk, .ref th, .ref pl, .ref gm, .int 0, .int 0, .int 1, .int (-1), .int 1, .int 60, .int 18, .int 60])), (gm, .inr (2, [.int 1, .int 60, .int 0, .int 0, .int 0, .int (-1), .long 0]))] sz)) 0 0 (va_A [(rm, .inr (5, [.ref lk, .ref th, .ref pl, .ref gm, .int 0, .int 0, .int 1, .int (-1), .int 1, .int 60, .int 18, .int 60])), (gm, .inr (2, [.int 1, .int 60, .int 0, .int 0, .int 0, .int (-1), .long 0]))] sz) := by
  refine Met.ofW (cc := cX3_loseGame) (maxL := 1) (ret := none) (by decide) rfl ?_
  intro p e s m args below meth c s₁ B hml hv
  obtain ⟨rfl, hsz, hR0, hP, hK, hD0, hN, hH, hX0⟩ := hv
  have hx := B.exec
  have hb := B.bytes
  have hr := B.returns
  have hts := atoms_spec (ws := wsX3_loseGame) B.pre
  have hown : s.vm.findClass RX3 = some m.cls := findClass_of_methodNamed B.named
  have hlocks := B.notSynchronized
  subst hsz
  have hD := hD0.self (sz := s.heap.size)
  have hAr := zx_A hX0 hR0
  generalize hAe : va_A [(rm, .inr (5, [.ref lk, .ref th, .ref pl, .ref gm, .int 0, .int 0, .int 1, .int (-1), .int 1, .int 60, .int 18, .int 60])), (gm, .inr (2, [.int 1, .int 60, .int 0, .int 0, .int 0, .int (-1), .long 0]))] s.heap.size = A at hD hAr hH ⊢
  have hA : ∀ q : Nat, s.heap.size ≤ q → A q := fun q h => by rw [← hAe]; exact Or.inr h
  have hS : va_S A s.heap s.heap [] := va_S.rf
  have hl := lv_entry ([.ref rm]) (n := 1) (Nat.le_of_ble_eq_true rfl)
  rw [lg_entry_eq]
  generalize (lg_sl ([.ref rm]) ++ List.replicate (1 - (lg_sl ([.ref rm])).length) Slot.unset).toArray = ls at hl ⊢
  have hl : lv_has ls 1 [(0, .ref rm)] := hl
  refine lv_aload_n hx hb dX3_loseGame_0 rfl (lv_at hl 0 rfl) ?_
  refine va_get (D := (dC, dI)) (ci := 5) (v := .ref gm) (C := RX3) (T := TX3) (N := 12) hx hb hts zi_X3_loseGame_X3 hown hK hP 0 rfl rfl 3 (by decide) (hts (.fieldLink RX3 32 "LockRooms$Room" "games" "LLockRooms$Games;") (by decide +kernel)) (fun _ h9 => h9) rfl dX3_loseGame_1 ?_
  have hPr := (zo_nil : va_P (dC, dI) vwCl [] s.heap)
  have hPc := hP.sub (ws' := [(gm, .inr (2, [.int 1, .int 60, .int 0, .int 0, .int 0, .int (-1), .long 0]))]) [1] rfl
  have hDc := hD.sub (ws' := [(gm, .inr (2, [.int 1, .int 60, .int 0, .int 0, .int 0, .int (-1), .long 0]))]) [1] (by decide) rfl
  have hKc := hK.sub (tys' := []) [] rfl
  have hFc := va_free (wc := [(gm, .inr (2, [.int 1, .int 60, .int 0, .int 0, .int 0, .int (-1), .long 0]))]) hD hS hA [1] rfl
  refine va_callv (va_runV (As := []) (rest := []) ⟨hx, hb, hml, hown, hts⟩ (cz_RendLost l dC dI ed s.heap.size gm) (cwV 0 hts gX3_loseGame_X0_endLost rfl rfl rfl (by decide +kernel) ⟨Nat.le_of_ble_eq_true rfl, Nat.le_of_ble_eq_true rfl⟩) ⟨zb_blind, va_recv hK hP (ci := 2) (q0 := 1) rfl rfl, fun U hU hW => ⟨rfl, zb_mk hU hW hPr hPc hKc hDc hN hH hS hFc zx_nil⟩⟩ rfl rfl hl.1 rfl (lv_room (Nat.le_of_ble_eq_true rfl)) dX3_loseGame_4 ⟨Nat.le_of_ble_eq_true rfl, Nat.le_of_ble_eq_true rfl⟩) hS (fun q _ h => hFc q h) hFc (fun u t H1 locs ht hvm hw hB hz1 hk1 hS => ?_)
  obtain ⟨hP1, hD1, hK1⟩ := hB
  rw [ht] at hP1
  obtain ⟨hP, hD⟩ := va_join (wr := [(rm, .inr (5, [.ref lk, .ref th, .ref pl, .ref gm, .int 0, .int 0, .int 1, .int (-1), .int 1, .int 60, .int 18, .int 60]))]) (w1 := [(gm, .inr (2, [.int 0, .int 60, .int 0, .int 0, .int 1, .int (-1), .long 0]))]) hP hD [1] [0] rfl rfl (by decide) (by decide) hk1 hFc hP1 hD1
  have hP : va_P (dC, dI) vwCl [(rm, .inr (5, [.ref lk, .ref th, .ref pl, .ref gm, .int 0, .int 0, .int 1, .int (-1), .int 1, .int 60, .int 18, .int 60])), (gm, .inr (2, [.int 0, .int 60, .int 0, .int 0, .int 1, .int (-1), .long 0]))] H1 := hP
  have hD : va_D A [(rm, .inr (5, [.ref lk, .ref th, .ref pl, .ref gm, .int 0, .int 0, .int 1, .int (-1), .int 1, .int 60, .int 18, .int 60])), (gm, .inr (2, [.int 0, .int 60, .int 0, .int 0, .int 1, .int (-1), .long 0]))] := hD
  refine lv_aload_n hx hb dX3_loseGame_7 rfl (lv_at hl 0 rfl) ?_
  refine lv_iconst (v := 0) hx hb dX3_loseGame_8 (by decide) ?_
  refine va_put (D := (dC, dI)) (ci := 5) (v := .int 0) (ty := .int) (C := RX3) (T := TX3) (N := 12) hx hb hts zi_X3_loseGame_X3 tyX3 tyX3_ok nmX3 hown hK hP hD hS 0 rfl rfl 6 (by decide) (hts (.fieldLink RX3 60 "LockRooms$Room" "playerCount" "I") (by decide +kernel)) (fun _ h9 => h9) rfl (by decide +kernel) rfl rfl (Nat.le_of_ble_eq_true rfl) dX3_loseGame_9 (fun H4 locs hP hD hS => ?_)
  have hP : va_P (dC, dI) vwCl [(rm, .inr (5, [.ref lk, .ref th, .ref pl, .ref gm, .int 0, .int 0, .int 0, .int (-1), .int 1, .int 60, .int 18, .int 60])), (gm, .inr (2, [.int 0, .int 60, .int 0, .int 0, .int 1, .int (-1), .long 0]))] H4 := hP
  have hD : va_D A [(rm, .inr (5, [.ref lk, .ref th, .ref pl, .ref gm, .int 0, .int 0, .int 0, .int (-1), .int 1, .int 60, .int 18, .int 60])), (gm, .inr (2, [.int 0, .int 60, .int 0, .int 0, .int 1, .int (-1), .long 0]))] := hD
  refine W.widen (k := 0) (n := 0) (Nat.le_of_ble_eq_true rfl) (Nat.le_of_ble_eq_true rfl) ?_
  have hP9 := hP.sub (ws' := [(rm, .inr (5, [.ref lk, .ref th, .ref pl, .ref gm, .int 0, .int 0, .int 0, .int (-1), .int 1, .int 60, .int 18, .int 60])), (gm, .inr (2, [.int 0, .int 60, .int 0, .int 0, .int 1, .int (-1), .long 0]))]) [0, 1] rfl
  have hD9 := hD.sub (ws' := [(rm, .inr (5, [.ref lk, .ref th, .ref pl, .ref gm, .int 0, .int 0, .int 0, .int (-1), .int 1, .int 60, .int 18, .int 60])), (gm, .inr (2, [.int 0, .int 60, .int 0, .int 0, .int 1, .int (-1), .long 0]))]) [0, 1] (by decide) rfl
  have hK9 := hK.sub (tys' := []) [] rfl
  exact W.vret hx hb hr (fun t ht hW => ⟨⟨(), rfl, trivial, ⟨by rw [ht]; exact hP9, hD9, va_K.moved hW.alike hK9⟩⟩, hS.F ht⟩) hS.2.2 dX3_loseGame_12
set_option maxHeartbeats 4000000 in
set_option maxRecDepth 100000 in
theorem cz_RlastMinute (l : Launch) (dC : Nat → ClassId) (dI : Nat → Nat → Nat) (ed sz : Nat) (rm : Nat) (lk : Nat) (th : Nat) (pl : Nat) (gm : Nat) (cP : ClassId) (fp : Nat → Option Nat) (p0 : Nat) (hkp : fp 0 = some p0) : Met l yX3_letMinuteGoBy wsX3_letMinuteGoBy ({ frames := 3, cells := 0, slots := 0, locals := 68 } : Jvm.Room) (va_Pc [.ref rm] (zB dC dI ed sz [(pl, .inl (cP, 6, .inr (.inr (.inr (.inr fp)))))] [(rm, .inr (5, [.ref lk, .ref th, .ref pl, .ref gm, .int 0, .int 0, .int 1, .int (-1), .int 1, .int 59, .int 18, .int 59])), (gm, .inr (2, [.int 1, .int 59, .int 0, .int 0, .int 0, .int (-1), .long 0])), (p0, .inr (4, [.int 1, .int (-1), .int (-1), .int 59]))] [(cP, .object "LockRooms$Player")])) (va_Qi (fun (r : Int32) (_ : Unit) => r = 0) (fun (_ : Unit) (t : State) => va_P (dC, dI) vwCl [(rm, .inr (5, [.ref lk, .ref th, .ref pl, .ref gm, .int 0, .int 0, .int 0, .int (-1), .int 1, .int 60, .int 18, .int 60])), (gm, .inr (2, [.int 0, .int 60, .int 0, .int 0, .int 1, .int (-1), .long 0])), (p0, .inr (4, [.int 1, .int (-1), .int (-1), .int 60]))] t.heap ∧ va_D (va_A [(rm, .inr (5, [.ref lk, .ref th, .ref pl, .ref gm, .int 0, .int 0, .int 1, .int (-1), .int 1, .int 59, .int 18, .int 59])), (gm, .inr (2, [.int 1, .int 59, .int 0, .int 0, .int 0, .int (-1), .long 0])), (p0, .inr (4, [.int 1, .int (-1), .int (-1), .int 59]))] sz) [(rm, .inr (5, [.ref lk, .ref th, .ref pl, .ref gm, .int 0, .int 0, .int 0, .int (-1), .int 1, .int 60, .int 18, .int 60])), (gm, .inr (2, [.int 0, .int 60, .int 0, .int 0, .int 1, .int (-1), .long 0])), (p0, .inr (4, [.int 1, .int (-1), .int (-1), .int 60]))] ∧ va_K (dC, dI) vwCl [] t) (va_A [(rm, .inr (5, [.ref lk, .ref th, .ref pl, .ref gm, .int 0, .int 0, .int 1, .int (-1), .int 1, .int 59, .int 18, .int 59])), (gm, .inr (2, [.int 1, .int 59, .int 0, .int 0, .int 0, .int (-1), .long 0])), (p0, .inr (4, [.int 1, .int (-1), .int (-1), .int 59]))] sz)) 0 0 (va_A [(rm, .inr (5, [.ref lk, .ref th, .ref pl, .ref gm, .int 0, .int 0, .int 1, .int (-1), .int 1, .int 59, .int 18, .int 59])), (gm, .inr (2, [.int 1, .int 59, .int 0, .int 0, .int 0, .int (-1), .long 0])), (p0, .inr (4, [.int 1, .int (-1), .int (-1), .int 59]))] sz) := by
  refine Met.ofW (cc := cX3_letMinuteGoBy) (maxL := 3) (ret := (some .int)) (by decide) rfl ?_
  intro p e s m args below meth c s₁ B hml hv
  obtain ⟨rfl, hsz, hR0, hP, hK, hD0, hN, hH, hX0⟩ := hv
  have hx := B.exec
  have hb := B.bytes
  have hr := B.returns
  have hts := atoms_spec (ws := wsX3_letMinuteGoBy) B.pre
  have hown : s.vm.findClass RX3 = some m.cls := findClass_of_methodNamed B.named
  have hlocks := B.notSynchronized
  subst hsz
  have hD := hD0.self (sz := s.heap.size)
  have hAr := zx_A hX0 hR0
  generalize hAe : va_A [(rm, .inr (5, [.ref lk, .ref th, .ref pl, .ref gm, .int 0, .int 0, .int 1, .int (-1), .int 1, .int 59, .int 18, .int 59])), (gm, .inr (2, [.int 1, .int 59, .int 0, .int 0, .int 0, .int (-1), .long 0])), (p0, .inr (4, [.int 1, .int (-1), .int (-1), .int 59]))] s.heap.size = A at hD hAr hH ⊢
  have hA : ∀ q : Nat, s.heap.size ≤ q → A q := fun q h => by rw [← hAe]; exact Or.inr h
  have hS : va_S A s.heap s.heap [] := va_S.rf
  have hl := lv_entry ([.ref rm]) (n := 3) (Nat.le_of_ble_eq_true rfl)
  rw [lg_entry_eq]
  generalize (lg_sl ([.ref rm]) ++ List.replicate (3 - (lg_sl ([.ref rm])).length) Slot.unset).toArray = ls at hl ⊢
  have hl : lv_has ls 3 [(0, .ref rm)] := hl
  refine lv_aload_n hx hb dX3_letMinuteGoBy_0 rfl (lv_at hl 0 rfl) ?_
  refine lv_dup hx hb dX3_letMinuteGoBy_1 rfl ?_
  refine va_get (D := (dC, dI)) (ci := 5) (v := .int 59) (C := RX3) (T := TX3) (N := 12) hx hb hts zi_X3_letMinuteGoBy_X3 hown hK hP 0 rfl rfl 9 (by decide) (hts (.fieldLink RX3 69 "LockRooms$Room" "now" "I") (by decide +kernel)) (fun _ h9 => h9) rfl dX3_letMinuteGoBy_2 ?_
  refine lv_iconst (v := 1) hx hb dX3_letMinuteGoBy_5 (by decide) ?_
  refine lv_iadd hx hb dX3_letMinuteGoBy_6 ?_
  refine zo_i (v := 60) (by decide) ?_
  refine va_put (D := (dC, dI)) (ci := 5) (v := .int 60) (ty := .int) (C := RX3) (T := TX3) (N := 12) hx hb hts zi_X3_letMinuteGoBy_X3 tyX3 tyX3_ok nmX3 hown hK hP hD hS 0 rfl rfl 9 (by decide) (hts (.fieldLink RX3 69 "LockRooms$Room" "now" "I") (by decide +kernel)) (fun _ h9 => h9) rfl (by decide +kernel) rfl rfl (Nat.le_of_ble_eq_true rfl) dX3_letMinuteGoBy_7 (fun H1 locs hP hD hS => ?_)
  have hP : va_P (dC, dI) vwCl [(rm, .inr (5, [.ref lk, .ref th, .ref pl, .ref gm, .int 0, .int 0, .int 1, .int (-1), .int 1, .int 60, .int 18, .int 59])), (gm, .inr (2, [.int 1, .int 59, .int 0, .int 0, .int 0, .int (-1), .long 0])), (p0, .inr (4, [.int 1, .int (-1), .int (-1), .int 59]))] H1 := hP
  have hD : va_D A [(rm, .inr (5, [.ref lk, .ref th, .ref pl, .ref gm, .int 0, .int 0, .int 1, .int (-1), .int 1, .int 60, .int 18, .int 59])), (gm, .inr (2, [.int 1, .int 59, .int 0, .int 0, .int 0, .int (-1), .long 0])), (p0, .inr (4, [.int 1, .int (-1), .int (-1), .int 59]))] := hD
  refine lv_aload_n hx hb dX3_letMinuteGoBy_10 rfl (lv_at hl 0 rfl) ?_
  refine va_get (D := (dC, dI)) (ci := 5) (v := .ref gm) (C := RX3) (T := TX3) (N := 12) hx hb hts zi_X3_letMinuteGoBy_X3 hown hK hP 0 rfl rfl 3 (by decide) (hts (.fieldLink RX3 32 "LockRooms$Room" "games" "LLockRooms$Games;") (by decide +kernel)) (fun _ h9 => h9) rfl dX3_letMinuteGoBy_11 ?_
  refine va_get (D := (dC, dI)) (ci := 2) (v := .int 1) (C := RX0) (T := TX0) (N := 7) hx hb hts zi_X3_letMinuteGoBy_X0 hown hK hP 1 rfl rfl 0 (by decide) (hts (.fieldLink RX3 134 "LockRooms$Games" "isRunning" "Z") (by decide +kernel)) (fun _ h9 => h9) rfl dX3_letMinuteGoBy_14 ?_
  refine lv_if_ne (tgt := 22) hx hb dX3_letMinuteGoBy_17 (by decide) (fun _ => ?_) (fun h => absurd h (by decide))
  refine lv_aload_n hx hb dX3_letMinuteGoBy_22 rfl (lv_at hl 0 rfl) ?_
  refine va_get (D := (dC, dI)) (ci := 5) (v := .ref gm) (C := RX3) (T := TX3) (N := 12) hx hb hts zi_X3_letMinuteGoBy_X3 hown hK hP 0 rfl rfl 3 (by decide) (hts (.fieldLink RX3 32 "LockRooms$Room" "games" "LLockRooms$Games;") (by decide +kernel)) (fun _ h9 => h9) rfl dX3_letMinuteGoBy_23 ?_
  refine lv_dup hx hb dX3_letMinuteGoBy_26 rfl ?_
  refine va_get (D := (dC, dI)) (ci := 2) (v := .int 59) (C := RX0) (T := TX0) (N := 7) hx hb hts zi_X3_letMinuteGoBy_X0 hown hK hP 1 rfl rfl 1 (by decide) (hts (.fieldLink RX3 137 "LockRooms$Games" "time" "I") (by decide +kernel)) (fun _ h9 => h9) rfl dX3_letMinuteGoBy_27 ?_
  refine lv_iconst (v := 1) hx hb dX3_letMinuteGoBy_30 (by decide) ?_
  refine lv_iadd hx hb dX3_letMinuteGoBy_31 ?_
  refine zo_i (v := 60) (by decide) ?_
  refine va_put (D := (dC, dI)) (ci := 2) (v := .int 60) (ty := .int) (C := RX0) (T := TX0) (N := 7) hx hb hts zi_X3_letMinuteGoBy_X0 tyX0 tyX0_ok nmX0 hown hK hP hD hS 1 rfl rfl 1 (by decide) (hts (.fieldLink RX3 137 "LockRooms$Games" "time" "I") (by decide +kernel)) (fun _ h9 => h9) rfl (by decide +kernel) rfl rfl (Nat.le_of_ble_eq_true rfl) dX3_letMinuteGoBy_32 (fun H2 locs hP hD hS => ?_)
  have hP : va_P (dC, dI) vwCl [(rm, .inr (5, [.ref lk, .ref th, .ref pl, .ref gm, .int 0, .int 0, .int 1, .int (-1), .int 1, .int 60, .int 18, .int 59])), (gm, .inr (2, [.int 1, .int 60, .int 0, .int 0, .int 0, .int (-1), .long 0])), (p0, .inr (4, [.int 1, .int (-1), .int (-1), .int 59]))] H2 := hP
  have hD : va_D A [(rm, .inr (5, [.ref lk, .ref th, .ref pl, .ref gm, .int 0, .int 0, .int 1, .int (-1), .int 1, .int 60, .int 18, .int 59])), (gm, .inr (2, [.int 1, .int 60, .int 0, .int 0, .int 0, .int (-1), .long 0])), (p0, .inr (4, [.int 1, .int (-1), .int (-1), .int 59]))] := hD
  refine lv_aload_n hx hb dX3_letMinuteGoBy_35 rfl (lv_at hl 0 rfl) ?_
  have hPr := (show va_P (dC, dI) vwCl [(rm, .inr (5, [.ref lk, .ref th, .ref pl, .ref gm, .int 0, .int 0, .int 1, .int (-1), .int 1, .int 60, .int 18, .int 59])), (pl, .inl (cP, 6, .inr (.inr (.inr (.inr fp)))))] H2 from (zo_cons ((hP) 0 _ rfl) (zo_cons (((zo_R hR0 hS hAr)) 0 _ rfl) (zo_nil : va_P (dC, dI) vwCl [] H2))))
  have hPc := hP.sub (ws' := [(p0, .inr (4, [.int 1, .int (-1), .int (-1), .int 59]))]) [2] rfl
  have hDc := hD.sub (ws' := [(p0, .inr (4, [.int 1, .int (-1), .int (-1), .int 59]))]) [2] (by decide) rfl
  have hKc := hK.sub (tys' := [(cP, .object "LockRooms$Player")]) [0] rfl
  have hFc := va_free (wc := [(p0, .inr (4, [.int 1, .int (-1), .int (-1), .int 59]))]) hD hS hA [2] rfl
  refine va_callv (va_runV (As := []) (rest := []) ⟨hx, hb, hml, hown, hts⟩ (cz_Rforget l dC dI ed H2.size rm lk th pl gm cP fp p0 1 60 18 59 59 hkp) (cwV 0 hts gX3_letMinuteGoBy_X3_forgetLastMinute rfl rfl rfl (by decide +kernel) ⟨Nat.le_of_ble_eq_true rfl, Nat.le_of_ble_eq_true rfl⟩) ⟨zb_blind, va_recv hK hP (ci := 5) (q0 := 0) rfl rfl, fun U hU hW => ⟨rfl, zb_mk hU hW hPr hPc hKc hDc hN hH hS hFc (zx_cons (zx_o hD 0 [2] rfl rfl (by decide)) (zx_cons (zx_r (hAr _ (List.mem_of_getElem? (i := 0) rfl)) hDc) zx_nil))⟩⟩ rfl rfl hl.1 rfl (lv_room (Nat.le_of_ble_eq_true rfl)) dX3_letMinuteGoBy_36 ⟨Nat.le_of_ble_eq_true rfl, Nat.le_of_ble_eq_true rfl⟩) hS (fun q _ h => hFc q h) hFc (fun u t H3 locs ht hvm hw hB hz1 hk1 hS => ?_)
  obtain ⟨hP1, hD1, hK1⟩ := hB
  rw [ht] at hP1
  obtain ⟨hP, hD⟩ := va_join (wr := [(rm, .inr (5, [.ref lk, .ref th, .ref pl, .ref gm, .int 0, .int 0, .int 1, .int (-1), .int 1, .int 60, .int 18, .int 59])), (gm, .inr (2, [.int 1, .int 60, .int 0, .int 0, .int 0, .int (-1), .long 0]))]) (w1 := [(p0, .inr (4, [.int 1, .int (-1), .int (-1), .int 59]))]) hP hD [2] [0, 1] rfl rfl (by decide) (by decide) hk1 hFc hP1 hD1
  have hP : va_P (dC, dI) vwCl [(rm, .inr (5, [.ref lk, .ref th, .ref pl, .ref gm, .int 0, .int 0, .int 1, .int (-1), .int 1, .int 60, .int 18, .int 59])), (gm, .inr (2, [.int 1, .int 60, .int 0, .int 0, .int 0, .int (-1), .long 0])), (p0, .inr (4, [.int 1, .int (-1), .int (-1), .int 59]))] H3 := hP
  have hD : va_D A [(rm, .inr (5, [.ref lk, .ref th, .ref pl, .ref gm, .int 0, .int 0, .int 1, .int (-1), .int 1, .int 60, .int 18, .int 59])), (gm, .inr (2, [.int 1, .int 60, .int 0, .int 0, .int 0, .int (-1), .long 0])), (p0, .inr (4, [.int 1, .int (-1), .int (-1), .int 59]))] := hD
  refine lv_iconst (v := 0) hx hb dX3_letMinuteGoBy_39 (by decide) ?_
  refine lv_istore_n (lv' := [(1, .int 0), (0, .ref rm)]) hx hb dX3_letMinuteGoBy_40 rfl hl (by decide) rfl (fun ls hl => ?_)
  refine lv_iconst (v := 0) hx hb dX3_letMinuteGoBy_41 (by decide) ?_
  refine lv_istore_n (lv' := [(2, .int 0), (1, .int 0), (0, .ref rm)]) hx hb dX3_letMinuteGoBy_42 rfl hl (by decide) rfl (fun ls hl => ?_)
  refine lv_iload_n hx hb dX3_letMinuteGoBy_43 rfl (lv_at hl 0 rfl) ?_
  refine lv_aload_n hx hb dX3_letMinuteGoBy_44 rfl (lv_at hl 2 rfl) ?_
  refine va_get (D := (dC, dI)) (ci := 5) (v := .int 1) (C := RX3) (T := TX3) (N := 12) hx hb hts zi_X3_letMinuteGoBy_X3 hown hK hP 0 rfl rfl 6 (by decide) (hts (.fieldLink RX3 60 "LockRooms$Room" "playerCount" "I") (by decide +kernel)) (fun _ h9 => h9) rfl dX3_letMinuteGoBy_45 ?_
  refine lv_icmp_ge (tgt := 73) hx hb dX3_letMinuteGoBy_48 (by decide) (fun h => absurd h (by decide)) (fun _ => ?_)
  refine lv_iload_n hx hb dX3_letMinuteGoBy_51 rfl (lv_at hl 1 rfl) ?_
  refine lv_aload_n hx hb dX3_letMinuteGoBy_52 rfl (lv_at hl 2 rfl) ?_
  refine lv_aload_n hx hb dX3_letMinuteGoBy_53 rfl (lv_at hl 2 rfl) ?_
  refine va_get (D := (dC, dI)) (ci := 5) (v := .ref pl) (C := RX3) (T := TX3) (N := 12) hx hb hts zi_X3_letMinuteGoBy_X3 hown hK hP 0 rfl rfl 2 (by decide) (hts (.fieldLink RX3 25 "LockRooms$Room" "players" "[LLockRooms$Player;") (by decide +kernel)) (fun _ h9 => h9) rfl dX3_letMinuteGoBy_54 ?_
  refine lv_iload_n hx hb dX3_letMinuteGoBy_57 rfl (lv_at hl 0 rfl) ?_
  refine va_aldq hx hb hK (zo_R hR0 hS hAr) 0 0 rfl rfl (by unfold vp_in; decide) dX3_letMinuteGoBy_58 ?_
  refine zo_q (v := .ref p0) (by rw [show Int32.toNatClampNeg 0 = 0 from by decide, hkp]; rfl) ?_
  have hPr := (zo_nil : va_P (dC, dI) vwCl [] H3)
  have hPc := hP.sub (ws' := [(rm, .inr (5, [.ref lk, .ref th, .ref pl, .ref gm, .int 0, .int 0, .int 1, .int (-1), .int 1, .int 60, .int 18, .int 59])), (p0, .inr (4, [.int 1, .int (-1), .int (-1), .int 59]))]) [0, 2] rfl
  have hDc := hD.sub (ws' := [(rm, .inr (5, [.ref lk, .ref th, .ref pl, .ref gm, .int 0, .int 0, .int 1, .int (-1), .int 1, .int 60, .int 18, .int 59])), (p0, .inr (4, [.int 1, .int (-1), .int (-1), .int 59]))]) [0, 2] (by decide) rfl
  have hKc := hK.sub (tys' := []) [] rfl
  have hFc := va_free (wc := [(rm, .inr (5, [.ref lk, .ref th, .ref pl, .ref gm, .int 0, .int 0, .int 1, .int (-1), .int 1, .int 60, .int 18, .int 59])), (p0, .inr (4, [.int 1, .int (-1), .int (-1), .int 59]))]) hD hS hA [0, 2] rfl
  refine va_calli (va_runV (As := [.ref p0]) (rest := [.int 0]) ⟨hx, hb, hml, hown, hts⟩ (cz_RtakeTurn l dC dI ed H3.size rm lk th pl gm p0 60 59) (cwV 1 hts gX3_letMinuteGoBy_X3_takeTurn rfl rfl rfl (by decide +kernel) ⟨Nat.le_of_ble_eq_true rfl, Nat.le_of_ble_eq_true rfl⟩) ⟨zb_blind, va_recv hK hP (ci := 5) (q0 := 0) rfl rfl, fun U hU hW => ⟨rfl, zb_mk hU hW hPr hPc hKc hDc hN hH hS hFc zx_nil⟩⟩ rfl rfl hl.1 rfl (lv_room (Nat.le_of_ble_eq_true rfl)) dX3_letMinuteGoBy_59 ⟨Nat.le_of_ble_eq_true rfl, Nat.le_of_ble_eq_true rfl⟩) hS (fun q _ h => hFc q h) hFc (fun r7 u t H6 locs ht hvm hw hB hz1 hk1 hS => ?_)
  obtain rfl : r7 = 0 := hw
  obtain ⟨w1_8, hf8_0, hP1, hD1, hK1⟩ := hB
  obtain rfl : w1_8 = 60 := hf8_0.trans (by first | rfl | decide +kernel)
  rw [ht] at hP1
  obtain ⟨hP, hD⟩ := va_join (wr := [(gm, .inr (2, [.int 1, .int 60, .int 0, .int 0, .int 0, .int (-1), .long 0]))]) (w1 := [(rm, .inr (5, [.ref lk, .ref th, .ref pl, .ref gm, .int 0, .int 0, .int 1, .int (-1), .int 1, .int 60, .int 18, .int 60])), (p0, .inr (4, [.int 1, .int (-1), .int (-1), .int 60]))]) hP hD [0, 2] [1] rfl rfl (by decide) (by decide) hk1 hFc hP1 hD1
  have hP : va_P (dC, dI) vwCl [(gm, .inr (2, [.int 1, .int 60, .int 0, .int 0, .int 0, .int (-1), .long 0])), (rm, .inr (5, [.ref lk, .ref th, .ref pl, .ref gm, .int 0, .int 0, .int 1, .int (-1), .int 1, .int 60, .int 18, .int 60])), (p0, .inr (4, [.int 1, .int (-1), .int (-1), .int 60]))] H6 := hP
  have hD : va_D A [(gm, .inr (2, [.int 1, .int 60, .int 0, .int 0, .int 0, .int (-1), .long 0])), (rm, .inr (5, [.ref lk, .ref th, .ref pl, .ref gm, .int 0, .int 0, .int 1, .int (-1), .int 1, .int 60, .int 18, .int 60])), (p0, .inr (4, [.int 1, .int (-1), .int (-1), .int 60]))] := hD
  have hPr := (zo_nil : va_P (dC, dI) vwCl [] H6)
  have hPc := hP.sub (ws' := []) [] rfl
  have hDc := hD.sub (ws' := []) [] (by decide) rfl
  have hKc := hK.sub (tys' := []) [] rfl
  have hFc := va_free (wc := []) hD hS hA [] rfl
  refine va_calli (va_runSN (As := [.int 0]) (rest := [.int 0]) ⟨hx, hb, hml, hown, hts⟩ (cz_oneIf_0 l dC dI ed H6.size ) ⟨(va_cnB 1 hts gX3_letMinuteGoBy_X6_oneIf_n147 rfl rfl rfl (hN.2.1 ("LockRooms$Room", 147, yX6_oneIf, "LockRooms") (List.mem_of_getElem? (i := 8) rfl)) (hts (.initialized RX6) (by decide +kernel)) (by decide +kernel) ⟨Nat.le_of_ble_eq_true rfl, Nat.le_of_ble_eq_true rfl⟩), (hts (.static yX6_oneIf) (by decide +kernel)), trivial⟩ ⟨zb_blind, fun U hU hW => ⟨rfl, zb_mk hU hW hPr hPc hKc hDc hN hH hS hFc zx_e⟩⟩ rfl rfl hl.1 rfl (lv_room (Nat.le_of_ble_eq_true rfl)) dX3_letMinuteGoBy_62 ⟨Nat.le_of_ble_eq_true rfl, Nat.le_of_ble_eq_true rfl⟩) hS (fun q _ h => hFc q h) hFc (fun r10 u t H9 locs ht hvm hw hB hz1 hk1 hS => ?_)
  obtain rfl : r10 = 0 := hw
  have hP := zo_K hP hk1
  refine lv_iadd hx hb dX3_letMinuteGoBy_65 ?_
  refine zo_i (v := 0) (by decide) ?_
  refine lv_istore_n (lv' := [(1, .int 0), (2, .int 0), (0, .ref rm)]) hx hb dX3_letMinuteGoBy_66 rfl hl (by decide) rfl (fun ls hl => ?_)
  refine lv_iinc (v := 1) (lv' := [(2, .int 1), (1, .int 0), (0, .ref rm)]) hx hb dX3_letMinuteGoBy_67 hl (k := 1) rfl (by decide) (by decide) rfl (fun ls hl => ?_)
  refine lv_goto (tgt := 43) hx hb dX3_letMinuteGoBy_70 (by decide) ?_
  refine lv_iload_n hx hb dX3_letMinuteGoBy_43 rfl (lv_at hl 0 rfl) ?_
  refine lv_aload_n hx hb dX3_letMinuteGoBy_44 rfl (lv_at hl 2 rfl) ?_
  refine va_get (D := (dC, dI)) (ci := 5) (v := .int 1) (C := RX3) (T := TX3) (N := 12) hx hb hts zi_X3_letMinuteGoBy_X3 hown hK hP 1 rfl rfl 6 (by decide) (hts (.fieldLink RX3 60 "LockRooms$Room" "playerCount" "I") (by decide +kernel)) (fun _ h9 => h9) rfl dX3_letMinuteGoBy_45 ?_
  refine lv_icmp_ge (tgt := 73) hx hb dX3_letMinuteGoBy_48 (by decide) (fun _ => ?_) (fun h => absurd h (by decide))
  refine lv_aload_n hx hb dX3_letMinuteGoBy_73 rfl (lv_at hl 2 rfl) ?_
  refine va_get (D := (dC, dI)) (ci := 5) (v := .ref gm) (C := RX3) (T := TX3) (N := 12) hx hb hts zi_X3_letMinuteGoBy_X3 hown hK hP 1 rfl rfl 3 (by decide) (hts (.fieldLink RX3 32 "LockRooms$Room" "games" "LLockRooms$Games;") (by decide +kernel)) (fun _ h9 => h9) rfl dX3_letMinuteGoBy_74 ?_
  refine va_get (D := (dC, dI)) (ci := 2) (v := .int 1) (C := RX0) (T := TX0) (N := 7) hx hb hts zi_X3_letMinuteGoBy_X0 hown hK hP 0 rfl rfl 0 (by decide) (hts (.fieldLink RX3 134 "LockRooms$Games" "isRunning" "Z") (by decide +kernel)) (fun _ h9 => h9) rfl dX3_letMinuteGoBy_77 ?_
  refine lv_if_eq (tgt := 99) hx hb dX3_letMinuteGoBy_80 (by decide) (fun h => absurd h (by decide)) (fun _ => ?_)
  refine lv_aload_n hx hb dX3_letMinuteGoBy_83 rfl (lv_at hl 2 rfl) ?_
  refine va_get (D := (dC, dI)) (ci := 5) (v := .ref gm) (C := RX3) (T := TX3) (N := 12) hx hb hts zi_X3_letMinuteGoBy_X3 hown hK hP 1 rfl rfl 3 (by decide) (hts (.fieldLink RX3 32 "LockRooms$Room" "games" "LLockRooms$Games;") (by decide +kernel)) (fun _ h9 => h9) rfl dX3_letMinuteGoBy_84 ?_
  refine va_get (D := (dC, dI)) (ci := 2) (v := .int 60) (C := RX0) (T := TX0) (N := 7) hx hb hts zi_X3_letMinuteGoBy_X0 hown hK hP 0 rfl rfl 1 (by decide) (hts (.fieldLink RX3 137 "LockRooms$Games" "time" "I") (by decide +kernel)) (fun _ h9 => h9) rfl dX3_letMinuteGoBy_87 ?_
  refine lv_bipush (v := 60) hx hb dX3_letMinuteGoBy_90 (by decide) ?_
  refine lv_icmp_lt (tgt := 99) hx hb dX3_letMinuteGoBy_92 (by decide) (fun h => absurd h (by decide)) (fun _ => ?_)
  refine lv_aload_n hx hb dX3_letMinuteGoBy_95 rfl (lv_at hl 2 rfl) ?_
  have hPr := (zo_nil : va_P (dC, dI) vwCl [] H9)
  have hPc := hP.sub (ws' := [(rm, .inr (5, [.ref lk, .ref th, .ref pl, .ref gm, .int 0, .int 0, .int 1, .int (-1), .int 1, .int 60, .int 18, .int 60])), (gm, .inr (2, [.int 1, .int 60, .int 0, .int 0, .int 0, .int (-1), .long 0]))]) [1, 0] rfl
  have hDc := hD.sub (ws' := [(rm, .inr (5, [.ref lk, .ref th, .ref pl, .ref gm, .int 0, .int 0, .int 1, .int (-1), .int 1, .int 60, .int 18, .int 60])), (gm, .inr (2, [.int 1, .int 60, .int 0, .int 0, .int 0, .int (-1), .long 0]))]) [1, 0] (by decide) rfl
  have hKc := hK.sub (tys' := []) [] rfl
  have hFc := va_free (wc := [(rm, .inr (5, [.ref lk, .ref th, .ref pl, .ref gm, .int 0, .int 0, .int 1, .int (-1), .int 1, .int 60, .int 18, .int 60])), (gm, .inr (2, [.int 1, .int 60, .int 0, .int 0, .int 0, .int (-1), .long 0]))]) hD hS hA [1, 0] rfl
  refine va_callv (va_runV (As := []) (rest := []) ⟨hx, hb, hml, hown, hts⟩ (cz_RloseGame l dC dI ed H9.size rm lk th pl gm) (cwV 0 hts gX3_letMinuteGoBy_X3_loseGame rfl rfl rfl (by decide +kernel) ⟨Nat.le_of_ble_eq_true rfl, Nat.le_of_ble_eq_true rfl⟩) ⟨zb_blind, va_recv hK hP (ci := 5) (q0 := 1) rfl rfl, fun U hU hW => ⟨rfl, zb_mk hU hW hPr hPc hKc hDc hN hH hS hFc zx_nil⟩⟩ rfl rfl hl.1 rfl (lv_room (Nat.le_of_ble_eq_true rfl)) dX3_letMinuteGoBy_96 ⟨Nat.le_of_ble_eq_true rfl, Nat.le_of_ble_eq_true rfl⟩) hS (fun q _ h => hFc q h) hFc (fun u t H11 locs ht hvm hw hB hz1 hk1 hS => ?_)
  obtain ⟨hP1, hD1, hK1⟩ := hB
  rw [ht] at hP1
  obtain ⟨hP, hD⟩ := va_join (wr := [(p0, .inr (4, [.int 1, .int (-1), .int (-1), .int 60]))]) (w1 := [(rm, .inr (5, [.ref lk, .ref th, .ref pl, .ref gm, .int 0, .int 0, .int 0, .int (-1), .int 1, .int 60, .int 18, .int 60])), (gm, .inr (2, [.int 0, .int 60, .int 0, .int 0, .int 1, .int (-1), .long 0]))]) hP hD [1, 0] [2] rfl rfl (by decide) (by decide) hk1 hFc hP1 hD1
  have hP : va_P (dC, dI) vwCl [(p0, .inr (4, [.int 1, .int (-1), .int (-1), .int 60])), (rm, .inr (5, [.ref lk, .ref th, .ref pl, .ref gm, .int 0, .int 0, .int 0, .int (-1), .int 1, .int 60, .int 18, .int 60])), (gm, .inr (2, [.int 0, .int 60, .int 0, .int 0, .int 1, .int (-1), .long 0]))] H11 := hP
  have hD : va_D A [(p0, .inr (4, [.int 1, .int (-1), .int (-1), .int 60])), (rm, .inr (5, [.ref lk, .ref th, .ref pl, .ref gm, .int 0, .int 0, .int 0, .int (-1), .int 1, .int 60, .int 18, .int 60])), (gm, .inr (2, [.int 0, .int 60, .int 0, .int 0, .int 1, .int (-1), .long 0]))] := hD
  refine lv_iload_n hx hb dX3_letMinuteGoBy_99 rfl (lv_at hl 1 rfl) ?_
  refine W.widen (k := 0) (n := 0) (Nat.le_of_ble_eq_true rfl) (Nat.le_of_ble_eq_true rfl) ?_
  have hP9 := hP.sub (ws' := [(rm, .inr (5, [.ref lk, .ref th, .ref pl, .ref gm, .int 0, .int 0, .int 0, .int (-1), .int 1, .int 60, .int 18, .int 60])), (gm, .inr (2, [.int 0, .int 60, .int 0, .int 0, .int 1, .int (-1), .long 0])), (p0, .inr (4, [.int 1, .int (-1), .int (-1), .int 60]))]) [1, 2, 0] rfl
  have hD9 := hD.sub (ws' := [(rm, .inr (5, [.ref lk, .ref th, .ref pl, .ref gm, .int 0, .int 0, .int 0, .int (-1), .int 1, .int 60, .int 18, .int 60])), (gm, .inr (2, [.int 0, .int 60, .int 0, .int 0, .int 1, .int (-1), .long 0])), (p0, .inr (4, [.int 1, .int (-1), .int (-1), .int 60]))]) [1, 2, 0] (by decide) rfl
  have hK9 := hK.sub (tys' := []) [] rfl
  exact W.iret hx hb hr (fun t ht hW => ⟨⟨0, (), rfl, rfl, ⟨by rw [ht]; exact hP9, hD9, va_K.moved hW.alike hK9⟩⟩, hS.F ht⟩) hS.2.2 dX3_letMinuteGoBy_100
set_option maxHeartbeats 4000000 in
set_option maxRecDepth 100000 in
theorem cz_RmidMinute (l : Launch) (dC : Nat → ClassId) (dI : Nat → Nat → Nat) (ed sz : Nat) (rm : Nat) (lk : Nat) (th : Nat) (pl : Nat) (gm : Nat) (cP : ClassId) (fp : Nat → Option Nat) (p0 : Nat) (w : Int32) (hkp : fp 0 = some p0) (hq60 : ¬ 60 ≤ w + 1) : Met l yX3_letMinuteGoBy wsX3_letMinuteGoBy ({ frames := 3, cells := 0, slots := 0, locals := 68 } : Jvm.Room) (va_Pc [.ref rm] (zB dC dI ed sz [(pl, .inl (cP, 6, .inr (.inr (.inr (.inr fp)))))] [(rm, .inr (5, [.ref lk, .ref th, .ref pl, .ref gm, .int 0, .int 0, .int 1, .int (-1), .int 1, .int w, .int 18, .int w])), (gm, .inr (2, [.int 1, .int w, .int 0, .int 0, .int 0, .int (-1), .long 0])), (p0, .inr (4, [.int 1, .int (-1), .int (-1), .int w]))] [(cP, .object "LockRooms$Player")])) (va_Qi (fun (r : Int32) (_ : Unit) => r = 0) (fun (_ : Unit) (t : State) => ∃ (w1 : Int32), (w1 = (w + 1)) ∧ va_P (dC, dI) vwCl [(rm, .inr (5, [.ref lk, .ref th, .ref pl, .ref gm, .int 0, .int 0, .int 1, .int (-1), .int 1, .int w1, .int 18, .int w1])), (gm, .inr (2, [.int 1, .int w1, .int 0, .int 0, .int 0, .int (-1), .long 0])), (p0, .inr (4, [.int 1, .int (-1), .int (-1), .int w1]))] t.heap ∧ va_D (va_A [(rm, .inr (5, [.ref lk, .ref th, .ref pl, .ref gm, .int 0, .int 0, .int 1, .int (-1), .int 1, .int w, .int 18, .int w])), (gm, .inr (2, [.int 1, .int w, .int 0, .int 0, .int 0, .int (-1), .long 0])), (p0, .inr (4, [.int 1, .int (-1), .int (-1), .int w]))] sz) [(rm, .inr (5, [.ref lk, .ref th, .ref pl, .ref gm, .int 0, .int 0, .int 1, .int (-1), .int 1, .int w1, .int 18, .int w1])), (gm, .inr (2, [.int 1, .int w1, .int 0, .int 0, .int 0, .int (-1), .long 0])), (p0, .inr (4, [.int 1, .int (-1), .int (-1), .int w1]))] ∧ va_K (dC, dI) vwCl [] t) (va_A [(rm, .inr (5, [.ref lk, .ref th, .ref pl, .ref gm, .int 0, .int 0, .int 1, .int (-1), .int 1, .int w, .int 18, .int w])), (gm, .inr (2, [.int 1, .int w, .int 0, .int 0, .int 0, .int (-1), .long 0])), (p0, .inr (4, [.int 1, .int (-1), .int (-1), .int w]))] sz)) 0 0 (va_A [(rm, .inr (5, [.ref lk, .ref th, .ref pl, .ref gm, .int 0, .int 0, .int 1, .int (-1), .int 1, .int w, .int 18, .int w])), (gm, .inr (2, [.int 1, .int w, .int 0, .int 0, .int 0, .int (-1), .long 0])), (p0, .inr (4, [.int 1, .int (-1), .int (-1), .int w]))] sz) := by
  refine Met.ofW (cc := cX3_letMinuteGoBy) (maxL := 3) (ret := (some .int)) (by decide) rfl ?_
  intro p e s m args below meth c s₁ B hml hv
  obtain ⟨rfl, hsz, hR0, hP, hK, hD0, hN, hH, hX0⟩ := hv
  have hx := B.exec
  have hb := B.bytes
  have hr := B.returns
  have hts := atoms_spec (ws := wsX3_letMinuteGoBy) B.pre
  have hown : s.vm.findClass RX3 = some m.cls := findClass_of_methodNamed B.named
  have hlocks := B.notSynchronized
  subst hsz
  have hD := hD0.self (sz := s.heap.size)
  have hAr := zx_A hX0 hR0
  generalize hAe : va_A [(rm, .inr (5, [.ref lk, .ref th, .ref pl, .ref gm, .int 0, .int 0, .int 1, .int (-1), .int 1, .int w, .int 18, .int w])), (gm, .inr (2, [.int 1, .int w, .int 0, .int 0, .int 0, .int (-1), .long 0])), (p0, .inr (4, [.int 1, .int (-1), .int (-1), .int w]))] s.heap.size = A at hD hAr hH ⊢
  have hA : ∀ q : Nat, s.heap.size ≤ q → A q := fun q h => by rw [← hAe]; exact Or.inr h
  have hS : va_S A s.heap s.heap [] := va_S.rf
  have hl := lv_entry ([.ref rm]) (n := 3) (Nat.le_of_ble_eq_true rfl)
  rw [lg_entry_eq]
  generalize (lg_sl ([.ref rm]) ++ List.replicate (3 - (lg_sl ([.ref rm])).length) Slot.unset).toArray = ls at hl ⊢
  have hl : lv_has ls 3 [(0, .ref rm)] := hl
  refine lv_aload_n hx hb dX3_letMinuteGoBy_0 rfl (lv_at hl 0 rfl) ?_
  refine lv_dup hx hb dX3_letMinuteGoBy_1 rfl ?_
  refine va_get (D := (dC, dI)) (ci := 5) (v := .int w) (C := RX3) (T := TX3) (N := 12) hx hb hts zi_X3_letMinuteGoBy_X3 hown hK hP 0 rfl rfl 9 (by decide) (hts (.fieldLink RX3 69 "LockRooms$Room" "now" "I") (by decide +kernel)) (fun _ h9 => h9) rfl dX3_letMinuteGoBy_2 ?_
  refine lv_iconst (v := 1) hx hb dX3_letMinuteGoBy_5 (by decide) ?_
  refine lv_iadd hx hb dX3_letMinuteGoBy_6 ?_
  refine va_put (D := (dC, dI)) (ci := 5) (v := .int (w + 1)) (ty := .int) (C := RX3) (T := TX3) (N := 12) hx hb hts zi_X3_letMinuteGoBy_X3 tyX3 tyX3_ok nmX3 hown hK hP hD hS 0 rfl rfl 9 (by decide) (hts (.fieldLink RX3 69 "LockRooms$Room" "now" "I") (by decide +kernel)) (fun _ h9 => h9) rfl (by decide +kernel) rfl rfl (Nat.le_of_ble_eq_true rfl) dX3_letMinuteGoBy_7 (fun H1 locs hP hD hS => ?_)
  have hP : va_P (dC, dI) vwCl [(rm, .inr (5, [.ref lk, .ref th, .ref pl, .ref gm, .int 0, .int 0, .int 1, .int (-1), .int 1, .int (w + 1), .int 18, .int w])), (gm, .inr (2, [.int 1, .int w, .int 0, .int 0, .int 0, .int (-1), .long 0])), (p0, .inr (4, [.int 1, .int (-1), .int (-1), .int w]))] H1 := hP
  have hD : va_D A [(rm, .inr (5, [.ref lk, .ref th, .ref pl, .ref gm, .int 0, .int 0, .int 1, .int (-1), .int 1, .int (w + 1), .int 18, .int w])), (gm, .inr (2, [.int 1, .int w, .int 0, .int 0, .int 0, .int (-1), .long 0])), (p0, .inr (4, [.int 1, .int (-1), .int (-1), .int w]))] := hD
  refine lv_aload_n hx hb dX3_letMinuteGoBy_10 rfl (lv_at hl 0 rfl) ?_
  refine va_get (D := (dC, dI)) (ci := 5) (v := .ref gm) (C := RX3) (T := TX3) (N := 12) hx hb hts zi_X3_letMinuteGoBy_X3 hown hK hP 0 rfl rfl 3 (by decide) (hts (.fieldLink RX3 32 "LockRooms$Room" "games" "LLockRooms$Games;") (by decide +kernel)) (fun _ h9 => h9) rfl dX3_letMinuteGoBy_11 ?_
  refine va_get (D := (dC, dI)) (ci := 2) (v := .int 1) (C := RX0) (T := TX0) (N := 7) hx hb hts zi_X3_letMinuteGoBy_X0 hown hK hP 1 rfl rfl 0 (by decide) (hts (.fieldLink RX3 134 "LockRooms$Games" "isRunning" "Z") (by decide +kernel)) (fun _ h9 => h9) rfl dX3_letMinuteGoBy_14 ?_
  refine lv_if_ne (tgt := 22) hx hb dX3_letMinuteGoBy_17 (by decide) (fun _ => ?_) (fun h => absurd h (by decide))
  refine lv_aload_n hx hb dX3_letMinuteGoBy_22 rfl (lv_at hl 0 rfl) ?_
  refine va_get (D := (dC, dI)) (ci := 5) (v := .ref gm) (C := RX3) (T := TX3) (N := 12) hx hb hts zi_X3_letMinuteGoBy_X3 hown hK hP 0 rfl rfl 3 (by decide) (hts (.fieldLink RX3 32 "LockRooms$Room" "games" "LLockRooms$Games;") (by decide +kernel)) (fun _ h9 => h9) rfl dX3_letMinuteGoBy_23 ?_
  refine lv_dup hx hb dX3_letMinuteGoBy_26 rfl ?_
  refine va_get (D := (dC, dI)) (ci := 2) (v := .int w) (C := RX0) (T := TX0) (N := 7) hx hb hts zi_X3_letMinuteGoBy_X0 hown hK hP 1 rfl rfl 1 (by decide) (hts (.fieldLink RX3 137 "LockRooms$Games" "time" "I") (by decide +kernel)) (fun _ h9 => h9) rfl dX3_letMinuteGoBy_27 ?_
  refine lv_iconst (v := 1) hx hb dX3_letMinuteGoBy_30 (by decide) ?_
  refine lv_iadd hx hb dX3_letMinuteGoBy_31 ?_
  refine va_put (D := (dC, dI)) (ci := 2) (v := .int (w + 1)) (ty := .int) (C := RX0) (T := TX0) (N := 7) hx hb hts zi_X3_letMinuteGoBy_X0 tyX0 tyX0_ok nmX0 hown hK hP hD hS 1 rfl rfl 1 (by decide) (hts (.fieldLink RX3 137 "LockRooms$Games" "time" "I") (by decide +kernel)) (fun _ h9 => h9) rfl (by decide +kernel) rfl rfl (Nat.le_of_ble_eq_true rfl) dX3_letMinuteGoBy_32 (fun H2 locs hP hD hS => ?_)
  have hP : va_P (dC, dI) vwCl [(rm, .inr (5, [.ref lk, .ref th, .ref pl, .ref gm, .int 0, .int 0, .int 1, .int (-1), .int 1, .int (w + 1), .int 18, .int w])), (gm, .inr (2, [.int 1, .int (w + 1), .int 0, .int 0, .int 0, .int (-1), .long 0])), (p0, .inr (4, [.int 1, .int (-1), .int (-1), .int w]))] H2 := hP
  have hD : va_D A [(rm, .inr (5, [.ref lk, .ref th, .ref pl, .ref gm, .int 0, .int 0, .int 1, .int (-1), .int 1, .int (w + 1), .int 18, .int w])), (gm, .inr (2, [.int 1, .int (w + 1), .int 0, .int 0, .int 0, .int (-1), .long 0])), (p0, .inr (4, [.int 1, .int (-1), .int (-1), .int w]))] := hD
  refine lv_aload_n hx hb dX3_letMinuteGoBy_35 rfl (lv_at hl 0 rfl) ?_
  have hPr := (show va_P (dC, dI) vwCl [(rm, .inr (5, [.ref lk, .ref th, .ref pl, .ref gm, .int 0, .int 0, .int 1, .int (-1), .int 1, .int (w + 1), .int 18, .int w])), (pl, .inl (cP, 6, .inr (.inr (.inr (.inr fp)))))] H2 from (zo_cons ((hP) 0 _ rfl) (zo_cons (((zo_R hR0 hS hAr)) 0 _ rfl) (zo_nil : va_P (dC, dI) vwCl [] H2))))
  have hPc := hP.sub (ws' := [(p0, .inr (4, [.int 1, .int (-1), .int (-1), .int w]))]) [2] rfl
  have hDc := hD.sub (ws' := [(p0, .inr (4, [.int 1, .int (-1), .int (-1), .int w]))]) [2] (by decide) rfl
  have hKc := hK.sub (tys' := [(cP, .object "LockRooms$Player")]) [0] rfl
  have hFc := va_free (wc := [(p0, .inr (4, [.int 1, .int (-1), .int (-1), .int w]))]) hD hS hA [2] rfl
  refine va_callv (va_runV (As := []) (rest := []) ⟨hx, hb, hml, hown, hts⟩ (cz_Rforget l dC dI ed H2.size rm lk th pl gm cP fp p0 1 (w + 1) 18 w w hkp) (cwV 0 hts gX3_letMinuteGoBy_X3_forgetLastMinute rfl rfl rfl (by decide +kernel) ⟨Nat.le_of_ble_eq_true rfl, Nat.le_of_ble_eq_true rfl⟩) ⟨zb_blind, va_recv hK hP (ci := 5) (q0 := 0) rfl rfl, fun U hU hW => ⟨rfl, zb_mk hU hW hPr hPc hKc hDc hN hH hS hFc (zx_cons (zx_o hD 0 [2] rfl rfl (by decide)) (zx_cons (zx_r (hAr _ (List.mem_of_getElem? (i := 0) rfl)) hDc) zx_nil))⟩⟩ rfl rfl hl.1 rfl (lv_room (Nat.le_of_ble_eq_true rfl)) dX3_letMinuteGoBy_36 ⟨Nat.le_of_ble_eq_true rfl, Nat.le_of_ble_eq_true rfl⟩) hS (fun q _ h => hFc q h) hFc (fun u t H3 locs ht hvm hw hB hz1 hk1 hS => ?_)
  obtain ⟨hP1, hD1, hK1⟩ := hB
  rw [ht] at hP1
  obtain ⟨hP, hD⟩ := va_join (wr := [(rm, .inr (5, [.ref lk, .ref th, .ref pl, .ref gm, .int 0, .int 0, .int 1, .int (-1), .int 1, .int (w + 1), .int 18, .int w])), (gm, .inr (2, [.int 1, .int (w + 1), .int 0, .int 0, .int 0, .int (-1), .long 0]))]) (w1 := [(p0, .inr (4, [.int 1, .int (-1), .int (-1), .int w]))]) hP hD [2] [0, 1] rfl rfl (by decide) (by decide) hk1 hFc hP1 hD1
  have hP : va_P (dC, dI) vwCl [(rm, .inr (5, [.ref lk, .ref th, .ref pl, .ref gm, .int 0, .int 0, .int 1, .int (-1), .int 1, .int (w + 1), .int 18, .int w])), (gm, .inr (2, [.int 1, .int (w + 1), .int 0, .int 0, .int 0, .int (-1), .long 0])), (p0, .inr (4, [.int 1, .int (-1), .int (-1), .int w]))] H3 := hP
  have hD : va_D A [(rm, .inr (5, [.ref lk, .ref th, .ref pl, .ref gm, .int 0, .int 0, .int 1, .int (-1), .int 1, .int (w + 1), .int 18, .int w])), (gm, .inr (2, [.int 1, .int (w + 1), .int 0, .int 0, .int 0, .int (-1), .long 0])), (p0, .inr (4, [.int 1, .int (-1), .int (-1), .int w]))] := hD
  refine lv_iconst (v := 0) hx hb dX3_letMinuteGoBy_39 (by decide) ?_
  refine lv_istore_n (lv' := [(1, .int 0), (0, .ref rm)]) hx hb dX3_letMinuteGoBy_40 rfl hl (by decide) rfl (fun ls hl => ?_)
  refine lv_iconst (v := 0) hx hb dX3_letMinuteGoBy_41 (by decide) ?_
  refine lv_istore_n (lv' := [(2, .int 0), (1, .int 0), (0, .ref rm)]) hx hb dX3_letMinuteGoBy_42 rfl hl (by decide) rfl (fun ls hl => ?_)
  refine lv_iload_n hx hb dX3_letMinuteGoBy_43 rfl (lv_at hl 0 rfl) ?_
  refine lv_aload_n hx hb dX3_letMinuteGoBy_44 rfl (lv_at hl 2 rfl) ?_
  refine va_get (D := (dC, dI)) (ci := 5) (v := .int 1) (C := RX3) (T := TX3) (N := 12) hx hb hts zi_X3_letMinuteGoBy_X3 hown hK hP 0 rfl rfl 6 (by decide) (hts (.fieldLink RX3 60 "LockRooms$Room" "playerCount" "I") (by decide +kernel)) (fun _ h9 => h9) rfl dX3_letMinuteGoBy_45 ?_
  refine lv_icmp_ge (tgt := 73) hx hb dX3_letMinuteGoBy_48 (by decide) (fun h => absurd h (by decide)) (fun _ => ?_)
  refine lv_iload_n hx hb dX3_letMinuteGoBy_51 rfl (lv_at hl 1 rfl) ?_
  refine lv_aload_n hx hb dX3_letMinuteGoBy_52 rfl (lv_at hl 2 rfl) ?_
  refine lv_aload_n hx hb dX3_letMinuteGoBy_53 rfl (lv_at hl 2 rfl) ?_
  refine va_get (D := (dC, dI)) (ci := 5) (v := .ref pl) (C := RX3) (T := TX3) (N := 12) hx hb hts zi_X3_letMinuteGoBy_X3 hown hK hP 0 rfl rfl 2 (by decide) (hts (.fieldLink RX3 25 "LockRooms$Room" "players" "[LLockRooms$Player;") (by decide +kernel)) (fun _ h9 => h9) rfl dX3_letMinuteGoBy_54 ?_
  refine lv_iload_n hx hb dX3_letMinuteGoBy_57 rfl (lv_at hl 0 rfl) ?_
  refine va_aldq hx hb hK (zo_R hR0 hS hAr) 0 0 rfl rfl (by unfold vp_in; decide) dX3_letMinuteGoBy_58 ?_
  refine zo_q (v := .ref p0) (by rw [show Int32.toNatClampNeg 0 = 0 from by decide, hkp]; rfl) ?_
  have hPr := (zo_nil : va_P (dC, dI) vwCl [] H3)
  have hPc := hP.sub (ws' := [(rm, .inr (5, [.ref lk, .ref th, .ref pl, .ref gm, .int 0, .int 0, .int 1, .int (-1), .int 1, .int (w + 1), .int 18, .int w])), (p0, .inr (4, [.int 1, .int (-1), .int (-1), .int w]))]) [0, 2] rfl
  have hDc := hD.sub (ws' := [(rm, .inr (5, [.ref lk, .ref th, .ref pl, .ref gm, .int 0, .int 0, .int 1, .int (-1), .int 1, .int (w + 1), .int 18, .int w])), (p0, .inr (4, [.int 1, .int (-1), .int (-1), .int w]))]) [0, 2] (by decide) rfl
  have hKc := hK.sub (tys' := []) [] rfl
  have hFc := va_free (wc := [(rm, .inr (5, [.ref lk, .ref th, .ref pl, .ref gm, .int 0, .int 0, .int 1, .int (-1), .int 1, .int (w + 1), .int 18, .int w])), (p0, .inr (4, [.int 1, .int (-1), .int (-1), .int w]))]) hD hS hA [0, 2] rfl
  refine va_calli (va_runV (As := [.ref p0]) (rest := [.int 0]) ⟨hx, hb, hml, hown, hts⟩ (cz_RtakeTurn l dC dI ed H3.size rm lk th pl gm p0 (w + 1) w) (cwV 1 hts gX3_letMinuteGoBy_X3_takeTurn rfl rfl rfl (by decide +kernel) ⟨Nat.le_of_ble_eq_true rfl, Nat.le_of_ble_eq_true rfl⟩) ⟨zb_blind, va_recv hK hP (ci := 5) (q0 := 0) rfl rfl, fun U hU hW => ⟨rfl, zb_mk hU hW hPr hPc hKc hDc hN hH hS hFc zx_nil⟩⟩ rfl rfl hl.1 rfl (lv_room (Nat.le_of_ble_eq_true rfl)) dX3_letMinuteGoBy_59 ⟨Nat.le_of_ble_eq_true rfl, Nat.le_of_ble_eq_true rfl⟩) hS (fun q _ h => hFc q h) hFc (fun r7 u t H6 locs ht hvm hw hB hz1 hk1 hS => ?_)
  obtain rfl : r7 = 0 := hw
  obtain ⟨w1_8, hf8_0, hP1, hD1, hK1⟩ := hB
  obtain rfl : w1_8 = (w + 1) := hf8_0.trans (by first | rfl | decide +kernel)
  rw [ht] at hP1
  obtain ⟨hP, hD⟩ := va_join (wr := [(gm, .inr (2, [.int 1, .int (w + 1), .int 0, .int 0, .int 0, .int (-1), .long 0]))]) (w1 := [(rm, .inr (5, [.ref lk, .ref th, .ref pl, .ref gm, .int 0, .int 0, .int 1, .int (-1), .int 1, .int (w + 1), .int 18, .int (w + 1)])), (p0, .inr (4, [.int 1, .int (-1), .int (-1), .int (w + 1)]))]) hP hD [0, 2] [1] rfl rfl (by decide) (by decide) hk1 hFc hP1 hD1
  have hP : va_P (dC, dI) vwCl [(gm, .inr (2, [.int 1, .int (w + 1), .int 0, .int 0, .int 0, .int (-1), .long 0])), (rm, .inr (5, [.ref lk, .ref th, .ref pl, .ref gm, .int 0, .int 0, .int 1, .int (-1), .int 1, .int (w + 1), .int 18, .int (w + 1)])), (p0, .inr (4, [.int 1, .int (-1), .int (-1), .int (w + 1)]))] H6 := hP
  have hD : va_D A [(gm, .inr (2, [.int 1, .int (w + 1), .int 0, .int 0, .int 0, .int (-1), .long 0])), (rm, .inr (5, [.ref lk, .ref th, .ref pl, .ref gm, .int 0, .int 0, .int 1, .int (-1), .int 1, .int (w + 1), .int 18, .int (w + 1)])), (p0, .inr (4, [.int 1, .int (-1), .int (-1), .int (w + 1)]))] := hD
  have hPr := (zo_nil : va_P (dC, dI) vwCl [] H6)
  have hPc := hP.sub (ws' := []) [] rfl
  have hDc := hD.sub (ws' := []) [] (by decide) rfl
  have hKc := hK.sub (tys' := []) [] rfl
  have hFc := va_free (wc := []) hD hS hA [] rfl
  refine va_calli (va_runSN (As := [.int 0]) (rest := [.int 0]) ⟨hx, hb, hml, hown, hts⟩ (cz_oneIf_0 l dC dI ed H6.size ) ⟨(va_cnB 1 hts gX3_letMinuteGoBy_X6_oneIf_n147 rfl rfl rfl (hN.2.1 ("LockRooms$Room", 147, yX6_oneIf, "LockRooms") (List.mem_of_getElem? (i := 8) rfl)) (hts (.initialized RX6) (by decide +kernel)) (by decide +kernel) ⟨Nat.le_of_ble_eq_true rfl, Nat.le_of_ble_eq_true rfl⟩), (hts (.static yX6_oneIf) (by decide +kernel)), trivial⟩ ⟨zb_blind, fun U hU hW => ⟨rfl, zb_mk hU hW hPr hPc hKc hDc hN hH hS hFc zx_e⟩⟩ rfl rfl hl.1 rfl (lv_room (Nat.le_of_ble_eq_true rfl)) dX3_letMinuteGoBy_62 ⟨Nat.le_of_ble_eq_true rfl, Nat.le_of_ble_eq_true rfl⟩) hS (fun q _ h => hFc q h) hFc (fun r10 u t H9 locs ht hvm hw hB hz1 hk1 hS => ?_)
  obtain rfl : r10 = 0 := hw
  have hP := zo_K hP hk1
  refine lv_iadd hx hb dX3_letMinuteGoBy_65 ?_
  refine zo_i (v := 0) (by decide) ?_
  refine lv_istore_n (lv' := [(1, .int 0), (2, .int 0), (0, .ref rm)]) hx hb dX3_letMinuteGoBy_66 rfl hl (by decide) rfl (fun ls hl => ?_)
  refine lv_iinc (v := 1) (lv' := [(2, .int 1), (1, .int 0), (0, .ref rm)]) hx hb dX3_letMinuteGoBy_67 hl (k := 1) rfl (by decide) (by decide) rfl (fun ls hl => ?_)
  refine lv_goto (tgt := 43) hx hb dX3_letMinuteGoBy_70 (by decide) ?_
  refine lv_iload_n hx hb dX3_letMinuteGoBy_43 rfl (lv_at hl 0 rfl) ?_
  refine lv_aload_n hx hb dX3_letMinuteGoBy_44 rfl (lv_at hl 2 rfl) ?_
  refine va_get (D := (dC, dI)) (ci := 5) (v := .int 1) (C := RX3) (T := TX3) (N := 12) hx hb hts zi_X3_letMinuteGoBy_X3 hown hK hP 1 rfl rfl 6 (by decide) (hts (.fieldLink RX3 60 "LockRooms$Room" "playerCount" "I") (by decide +kernel)) (fun _ h9 => h9) rfl dX3_letMinuteGoBy_45 ?_
  refine lv_icmp_ge (tgt := 73) hx hb dX3_letMinuteGoBy_48 (by decide) (fun _ => ?_) (fun h => absurd h (by decide))
  refine lv_aload_n hx hb dX3_letMinuteGoBy_73 rfl (lv_at hl 2 rfl) ?_
  refine va_get (D := (dC, dI)) (ci := 5) (v := .ref gm) (C := RX3) (T := TX3) (N := 12) hx hb hts zi_X3_letMinuteGoBy_X3 hown hK hP 1 rfl rfl 3 (by decide) (hts (.fieldLink RX3 32 "LockRooms$Room" "games" "LLockRooms$Games;") (by decide +kernel)) (fun _ h9 => h9) rfl dX3_letMinuteGoBy_74 ?_
  refine va_get (D := (dC, dI)) (ci := 2) (v := .int 1) (C := RX0) (T := TX0) (N := 7) hx hb hts zi_X3_letMinuteGoBy_X0 hown hK hP 0 rfl rfl 0 (by decide) (hts (.fieldLink RX3 134 "LockRooms$Games" "isRunning" "Z") (by decide +kernel)) (fun _ h9 => h9) rfl dX3_letMinuteGoBy_77 ?_
  refine lv_if_eq (tgt := 99) hx hb dX3_letMinuteGoBy_80 (by decide) (fun h => absurd h (by decide)) (fun _ => ?_)
  refine lv_aload_n hx hb dX3_letMinuteGoBy_83 rfl (lv_at hl 2 rfl) ?_
  refine va_get (D := (dC, dI)) (ci := 5) (v := .ref gm) (C := RX3) (T := TX3) (N := 12) hx hb hts zi_X3_letMinuteGoBy_X3 hown hK hP 1 rfl rfl 3 (by decide) (hts (.fieldLink RX3 32 "LockRooms$Room" "games" "LLockRooms$Games;") (by decide +kernel)) (fun _ h9 => h9) rfl dX3_letMinuteGoBy_84 ?_
  refine va_get (D := (dC, dI)) (ci := 2) (v := .int (w + 1)) (C := RX0) (T := TX0) (N := 7) hx hb hts zi_X3_letMinuteGoBy_X0 hown hK hP 0 rfl rfl 1 (by decide) (hts (.fieldLink RX3 137 "LockRooms$Games" "time" "I") (by decide +kernel)) (fun _ h9 => h9) rfl dX3_letMinuteGoBy_87 ?_
  refine lv_bipush (v := 60) hx hb dX3_letMinuteGoBy_90 (by decide) ?_
  refine lv_icmp_lt (tgt := 99) hx hb dX3_letMinuteGoBy_92 (by decide) (fun _ => ?_) (fun h => absurd (Int32.not_le.mp hq60) h)
  refine lv_iload_n hx hb dX3_letMinuteGoBy_99 rfl (lv_at hl 1 rfl) ?_
  refine W.widen (k := 0) (n := 0) (Nat.le_of_ble_eq_true rfl) (Nat.le_of_ble_eq_true rfl) ?_
  have hP9 := hP.sub (ws' := [(rm, .inr (5, [.ref lk, .ref th, .ref pl, .ref gm, .int 0, .int 0, .int 1, .int (-1), .int 1, .int (w + 1), .int 18, .int (w + 1)])), (gm, .inr (2, [.int 1, .int (w + 1), .int 0, .int 0, .int 0, .int (-1), .long 0])), (p0, .inr (4, [.int 1, .int (-1), .int (-1), .int (w + 1)]))]) [1, 0, 2] rfl
  have hD9 := hD.sub (ws' := [(rm, .inr (5, [.ref lk, .ref th, .ref pl, .ref gm, .int 0, .int 0, .int 1, .int (-1), .int 1, .int (w + 1), .int 18, .int (w + 1)])), (gm, .inr (2, [.int 1, .int (w + 1), .int 0, .int 0, .int 0, .int (-1), .long 0])), (p0, .inr (4, [.int 1, .int (-1), .int (-1), .int (w + 1)]))]) [1, 0, 2] (by decide) rfl
  have hK9 := hK.sub (tys' := []) [] rfl
  exact W.iret hx hb hr (fun t ht hW => ⟨⟨0, (), rfl, rfl, ⟨(w + 1), rfl, by rw [ht]; exact hP9, hD9, va_K.moved hW.alike hK9⟩⟩, hS.F ht⟩) hS.2.2 dX3_letMinuteGoBy_100
set_option maxHeartbeats 4000000 in
set_option maxRecDepth 100000 in
theorem cz_RX6_endsAt (l : Launch) (dC : Nat → ClassId) (dI : Nat → Nat → Nat) (ed sz : Nat) (x : Nat) (rm : Nat) (tr : Nat) (st : Nat) (lk : Nat) (th : Nat) (pl : Nat) (gm : Nat) (cP : ClassId) (fp : Nat → Option Nat) (p0 : Nat) (tlk : Nat) (tth : Nat) (tpl : Nat) (tgm : Nat) (tcP : ClassId) (tfp : Nat → Option Nat) (tp0 : Nat) (a4 : Int32) (a5 : Int32) (a6 : Int32) (a7 : Int32) (a8 : Int32) (a9 : Int32) (a10 : Int32) (a11 : Int32) (b0 : Int32) (b1 : Int32) (b2 : Int32) (b3 : Int32) (b4 : Int32) (b5 : Int32) (b6 : Int64) (d0 : Int32) (d1 : Int32) (d2 : Int32) (d3 : Int32) (hkp : fp 0 = some p0) (hkt : tfp 0 = some tp0) : Met l yX6_endsAt wsX6_endsAt ({ frames := 4, cells := 0, slots := 0, locals := 90 } : Jvm.Room) (va_Pc [.ref x] (zB dC dI ed sz [(x, .inr (8, [.ref rm, .ref tr, .ref st])), (rm, .inr (5, [.ref lk, .ref th, .ref pl, .ref gm, .int 0, .int 0, .int 1, .int (-1), .int 1, .int 0, .int 18, .int 0])), (gm, .inr (2, [.int 1, .int 0, .int 0, .int 0, .int 0, .int (-1), .long 0])), (p0, .inr (4, [.int 1, .int (-1), .int (-1), .int 0])), (pl, .inl (cP, 6, .inr (.inr (.inr (.inr fp))))), (tpl, .inl (tcP, 6, .inr (.inr (.inr (.inr tfp)))))] [(tr, .inr (5, [.ref tlk, .ref tth, .ref tpl, .ref tgm, .int a4, .int a5, .int a6, .int a7, .int a8, .int a9, .int a10, .int a11])), (tgm, .inr (2, [.int b0, .int b1, .int b2, .int b3, .int b4, .int b5, .long b6])), (tp0, .inr (4, [.int d0, .int d1, .int d2, .int d3]))] [(cP, .object "LockRooms$Player"), (tcP, .object "LockRooms$Player")])) (va_Qi (fun (r : Int32) (_ : Unit) => r = (-1)) (fun (_ : Unit) (t : State) => va_P (dC, dI) vwCl [(tr, .inr (5, [.ref tlk, .ref tth, .ref tpl, .ref tgm, .int 0, .int 0, .int 0, .int (-1), .int 1, .int 60, .int 18, .int 60])), (tgm, .inr (2, [.int 0, .int 60, .int 0, .int 0, .int 1, .int (-1), .long 0])), (tp0, .inr (4, [.int 1, .int (-1), .int (-1), .int 60]))] t.heap ∧ va_D (va_A [(tr, .inr (5, [.ref tlk, .ref tth, .ref tpl, .ref tgm, .int a4, .int a5, .int a6, .int a7, .int a8, .int a9, .int a10, .int a11])), (tgm, .inr (2, [.int b0, .int b1, .int b2, .int b3, .int b4, .int b5, .long b6])), (tp0, .inr (4, [.int d0, .int d1, .int d2, .int d3]))] sz) [(tr, .inr (5, [.ref tlk, .ref tth, .ref tpl, .ref tgm, .int 0, .int 0, .int 0, .int (-1), .int 1, .int 60, .int 18, .int 60])), (tgm, .inr (2, [.int 0, .int 60, .int 0, .int 0, .int 1, .int (-1), .long 0])), (tp0, .inr (4, [.int 1, .int (-1), .int (-1), .int 60]))] ∧ va_K (dC, dI) vwCl [] t) (va_A [(tr, .inr (5, [.ref tlk, .ref tth, .ref tpl, .ref tgm, .int a4, .int a5, .int a6, .int a7, .int a8, .int a9, .int a10, .int a11])), (tgm, .inr (2, [.int b0, .int b1, .int b2, .int b3, .int b4, .int b5, .long b6])), (tp0, .inr (4, [.int d0, .int d1, .int d2, .int d3]))] sz)) 0 0 (va_A [(tr, .inr (5, [.ref tlk, .ref tth, .ref tpl, .ref tgm, .int a4, .int a5, .int a6, .int a7, .int a8, .int a9, .int a10, .int a11])), (tgm, .inr (2, [.int b0, .int b1, .int b2, .int b3, .int b4, .int b5, .long b6])), (tp0, .inr (4, [.int d0, .int d1, .int d2, .int d3]))] sz) := by
  refine Met.ofW (cc := cX6_endsAt) (maxL := 2) (ret := (some .int)) (by decide) rfl ?_
  intro p e s m args below meth c s₁ B hml hv
  obtain ⟨rfl, hsz, hR0, hP, hK, hD0, hN, hH, hX0⟩ := hv
  have hx := B.exec
  have hb := B.bytes
  have hr := B.returns
  have hts := atoms_spec (ws := wsX6_endsAt) B.pre
  have hown : s.vm.findClass RX6 = some m.cls := findClass_of_methodNamed B.named
  have hlocks := B.notSynchronized
  subst hsz
  have hD := hD0.self (sz := s.heap.size)
  have hAr := zx_A hX0 hR0
  generalize hAe : va_A [(tr, .inr (5, [.ref tlk, .ref tth, .ref tpl, .ref tgm, .int a4, .int a5, .int a6, .int a7, .int a8, .int a9, .int a10, .int a11])), (tgm, .inr (2, [.int b0, .int b1, .int b2, .int b3, .int b4, .int b5, .long b6])), (tp0, .inr (4, [.int d0, .int d1, .int d2, .int d3]))] s.heap.size = A at hD hAr hH ⊢
  have hA : ∀ q : Nat, s.heap.size ≤ q → A q := fun q h => by rw [← hAe]; exact Or.inr h
  have hS : va_S A s.heap s.heap [] := va_S.rf
  have hl := lv_entry ([.ref x]) (n := 2) (Nat.le_of_ble_eq_true rfl)
  rw [lg_entry_eq]
  generalize (lg_sl ([.ref x]) ++ List.replicate (2 - (lg_sl ([.ref x])).length) Slot.unset).toArray = ls at hl ⊢
  have hl : lv_has ls 2 [(0, .ref x)] := hl
  refine lv_aload_n hx hb dX6_endsAt_0 rfl (lv_at hl 0 rfl) ?_
  refine va_get (D := (dC, dI)) (ci := 8) (v := .ref rm) (C := RX6) (T := TX6) (N := 3) hx hb hts zi_X6_endsAt_X6 hown hK hR0 0 rfl rfl 0 (by decide) (hts (.fieldLink RX6 12 "LockRooms" "room" "LLockRooms$Room;") (by decide +kernel)) (fun _ h9 => h9) rfl dX6_endsAt_1 ?_
  refine va_get (D := (dC, dI)) (ci := 5) (v := .ref gm) (C := RX3) (T := TX3) (N := 12) hx hb hts zi_X6_endsAt_X3 hown hK hR0 1 rfl rfl 3 (by decide) (hts (.fieldLink RX6 41 "LockRooms$Room" "games" "LLockRooms$Games;") (by decide +kernel)) (fun _ h9 => h9) rfl dX6_endsAt_4 ?_
  refine va_get (D := (dC, dI)) (ci := 2) (v := .int 1) (C := RX0) (T := TX0) (N := 7) hx hb hts zi_X6_endsAt_X0 hown hK hR0 2 rfl rfl 0 (by decide) (hts (.fieldLink RX6 45 "LockRooms$Games" "isRunning" "Z") (by decide +kernel)) (fun _ h9 => h9) rfl dX6_endsAt_7 ?_
  refine lv_if_ne (tgt := 15) hx hb dX6_endsAt_10 (by decide) (fun _ => ?_) (fun h => absurd h (by decide))
  refine lv_aload_n hx hb dX6_endsAt_15 rfl (lv_at hl 0 rfl) ?_
  refine va_get (D := (dC, dI)) (ci := 8) (v := .ref tr) (C := RX6) (T := TX6) (N := 3) hx hb hts zi_X6_endsAt_X6 hown hK hR0 0 rfl rfl 1 (by decide) (hts (.fieldLink RX6 16 "LockRooms" "trial" "LLockRooms$Room;") (by decide +kernel)) (fun _ h9 => h9) rfl dX6_endsAt_16 ?_
  refine lv_aload_n hx hb dX6_endsAt_19 rfl (lv_at hl 0 rfl) ?_
  refine va_get (D := (dC, dI)) (ci := 8) (v := .ref rm) (C := RX6) (T := TX6) (N := 3) hx hb hts zi_X6_endsAt_X6 hown hK hR0 0 rfl rfl 0 (by decide) (hts (.fieldLink RX6 12 "LockRooms" "room" "LLockRooms$Room;") (by decide +kernel)) (fun _ h9 => h9) rfl dX6_endsAt_20 ?_
  have hPr := (hR0).sub (ws' := [(rm, .inr (5, [.ref lk, .ref th, .ref pl, .ref gm, .int 0, .int 0, .int 1, .int (-1), .int 1, .int 0, .int 18, .int 0])), (gm, .inr (2, [.int 1, .int 0, .int 0, .int 0, .int 0, .int (-1), .long 0])), (p0, .inr (4, [.int 1, .int (-1), .int (-1), .int 0])), (pl, .inl (cP, 6, .inr (.inr (.inr (.inr fp))))), (tpl, .inl (tcP, 6, .inr (.inr (.inr (.inr tfp)))))]) [1, 2, 3, 4, 5] rfl
  have hPc := hP.sub (ws' := [(tr, .inr (5, [.ref tlk, .ref tth, .ref tpl, .ref tgm, .int a4, .int a5, .int a6, .int a7, .int a8, .int a9, .int a10, .int a11])), (tgm, .inr (2, [.int b0, .int b1, .int b2, .int b3, .int b4, .int b5, .long b6])), (tp0, .inr (4, [.int d0, .int d1, .int d2, .int d3]))]) [0, 1, 2] rfl
  have hDc := hD.sub (ws' := [(tr, .inr (5, [.ref tlk, .ref tth, .ref tpl, .ref tgm, .int a4, .int a5, .int a6, .int a7, .int a8, .int a9, .int a10, .int a11])), (tgm, .inr (2, [.int b0, .int b1, .int b2, .int b3, .int b4, .int b5, .long b6])), (tp0, .inr (4, [.int d0, .int d1, .int d2, .int d3]))]) [0, 1, 2] (by decide) rfl
  have hKc := hK.sub (tys' := [(cP, .object "LockRooms$Player"), (tcP, .object "LockRooms$Player")]) [0, 1] rfl
  have hFc := va_free (wc := [(tr, .inr (5, [.ref tlk, .ref tth, .ref tpl, .ref tgm, .int a4, .int a5, .int a6, .int a7, .int a8, .int a9, .int a10, .int a11])), (tgm, .inr (2, [.int b0, .int b1, .int b2, .int b3, .int b4, .int b5, .long b6])), (tp0, .inr (4, [.int d0, .int d1, .int d2, .int d3]))]) hD hS hA [0, 1, 2] rfl
  refine va_callv (va_runV (As := [.ref rm]) (rest := []) ⟨hx, hb, hml, hown, hts⟩ (cz_R3copyFrom l dC dI ed s.heap.size tr tlk tth tpl tgm tcP tfp tp0 rm lk th pl gm cP fp p0 a4 a5 a6 a7 a8 a9 a10 a11 b0 b1 b2 b3 b4 b5 b6 d0 d1 d2 d3 hkp hkt) (cwV 1 hts gX6_endsAt_X3_copyFrom rfl rfl rfl (by decide +kernel) ⟨Nat.le_of_ble_eq_true rfl, Nat.le_of_ble_eq_true rfl⟩) ⟨zb_blind, va_recv hK hP (ci := 5) (q0 := 0) rfl rfl, fun U hU hW => ⟨rfl, zb_mk hU hW hPr hPc hKc hDc hN hH hS hFc (zx_cons (zx_r (hAr _ (List.mem_of_getElem? (i := 1) rfl)) hDc) (zx_cons (zx_r (hAr _ (List.mem_of_getElem? (i := 2) rfl)) hDc) (zx_cons (zx_r (hAr _ (List.mem_of_getElem? (i := 3) rfl)) hDc) (zx_cons (zx_r (hAr _ (List.mem_of_getElem? (i := 4) rfl)) hDc) (zx_cons (zx_r (hAr _ (List.mem_of_getElem? (i := 5) rfl)) hDc) zx_nil)))))⟩⟩ rfl rfl hl.1 rfl (lv_room (Nat.le_of_ble_eq_true rfl)) dX6_endsAt_23 ⟨Nat.le_of_ble_eq_true rfl, Nat.le_of_ble_eq_true rfl⟩) hS (fun q _ h => hFc q h) hFc (fun u t H1 locs ht hvm hw hB hz1 hk1 hS => ?_)
  obtain ⟨hP1, hD1, hK1⟩ := hB
  rw [ht] at hP1
  obtain ⟨hP, hD⟩ := va_join (wr := []) (w1 := [(tr, .inr (5, [.ref tlk, .ref tth, .ref tpl, .ref tgm, .int 0, .int 0, .int 1, .int (-1), .int 1, .int 0, .int 18, .int 0])), (tgm, .inr (2, [.int 1, .int 0, .int 0, .int 0, .int 0, .int (-1), .long 0])), (tp0, .inr (4, [.int 1, .int (-1), .int (-1), .int 0]))]) hP hD [0, 1, 2] [] rfl rfl (by decide) (by decide) hk1 hFc hP1 hD1
  have hP : va_P (dC, dI) vwCl [(tr, .inr (5, [.ref tlk, .ref tth, .ref tpl, .ref tgm, .int 0, .int 0, .int 1, .int (-1), .int 1, .int 0, .int 18, .int 0])), (tgm, .inr (2, [.int 1, .int 0, .int 0, .int 0, .int 0, .int (-1), .long 0])), (tp0, .inr (4, [.int 1, .int (-1), .int (-1), .int 0]))] H1 := hP
  have hD : va_D A [(tr, .inr (5, [.ref tlk, .ref tth, .ref tpl, .ref tgm, .int 0, .int 0, .int 1, .int (-1), .int 1, .int 0, .int 18, .int 0])), (tgm, .inr (2, [.int 1, .int 0, .int 0, .int 0, .int 0, .int (-1), .long 0])), (tp0, .inr (4, [.int 1, .int (-1), .int (-1), .int 0]))] := hD
  refine lv_iconst (v := 0) hx hb dX6_endsAt_26 (by decide) ?_
  refine lv_istore_n (lv' := [(1, .int 0), (0, .ref x)]) hx hb dX6_endsAt_27 rfl hl (by decide) rfl (fun ls hl => ?_)
  refine lv_iload_n hx hb dX6_endsAt_28 rfl (lv_at hl 0 rfl) ?_
  refine lv_bipush (v := 60) hx hb dX6_endsAt_29 (by decide) ?_
  refine lv_icmp_ge (tgt := 61) hx hb dX6_endsAt_31 (by decide) (fun h => absurd h (by decide)) (fun _ => ?_)
  refine lv_aload_n hx hb dX6_endsAt_34 rfl (lv_at hl 1 rfl) ?_
  refine va_get (D := (dC, dI)) (ci := 8) (v := .ref tr) (C := RX6) (T := TX6) (N := 3) hx hb hts zi_X6_endsAt_X6 hown hK (zo_R hR0 hS hAr) 0 rfl rfl 1 (by decide) (hts (.fieldLink RX6 16 "LockRooms" "trial" "LLockRooms$Room;") (by decide +kernel)) (fun _ h9 => h9) rfl dX6_endsAt_35 ?_
  refine va_get (D := (dC, dI)) (ci := 5) (v := .ref tgm) (C := RX3) (T := TX3) (N := 12) hx hb hts zi_X6_endsAt_X3 hown hK hP 0 rfl rfl 3 (by decide) (hts (.fieldLink RX6 41 "LockRooms$Room" "games" "LLockRooms$Games;") (by decide +kernel)) (fun _ h9 => h9) rfl dX6_endsAt_38 ?_
  refine va_get (D := (dC, dI)) (ci := 2) (v := .int 1) (C := RX0) (T := TX0) (N := 7) hx hb hts zi_X6_endsAt_X0 hown hK hP 1 rfl rfl 0 (by decide) (hts (.fieldLink RX6 45 "LockRooms$Games" "isRunning" "Z") (by decide +kernel)) (fun _ h9 => h9) rfl dX6_endsAt_41 ?_
  refine lv_if_eq (tgt := 61) hx hb dX6_endsAt_44 (by decide) (fun h => absurd h (by decide)) (fun _ => ?_)
  refine lv_aload_n hx hb dX6_endsAt_47 rfl (lv_at hl 1 rfl) ?_
  refine va_get (D := (dC, dI)) (ci := 8) (v := .ref tr) (C := RX6) (T := TX6) (N := 3) hx hb hts zi_X6_endsAt_X6 hown hK (zo_R hR0 hS hAr) 0 rfl rfl 1 (by decide) (hts (.fieldLink RX6 16 "LockRooms" "trial" "LLockRooms$Room;") (by decide +kernel)) (fun _ h9 => h9) rfl dX6_endsAt_48 ?_
  have hPr := ((zo_R hR0 hS hAr)).sub (ws' := [(tpl, .inl (tcP, 6, .inr (.inr (.inr (.inr tfp)))))]) [5] rfl
  have hPc := hP.sub (ws' := [(tr, .inr (5, [.ref tlk, .ref tth, .ref tpl, .ref tgm, .int 0, .int 0, .int 1, .int (-1), .int 1, .int 0, .int 18, .int 0])), (tgm, .inr (2, [.int 1, .int 0, .int 0, .int 0, .int 0, .int (-1), .long 0])), (tp0, .inr (4, [.int 1, .int (-1), .int (-1), .int 0]))]) [0, 1, 2] rfl
  have hDc := hD.sub (ws' := [(tr, .inr (5, [.ref tlk, .ref tth, .ref tpl, .ref tgm, .int 0, .int 0, .int 1, .int (-1), .int 1, .int 0, .int 18, .int 0])), (tgm, .inr (2, [.int 1, .int 0, .int 0, .int 0, .int 0, .int (-1), .long 0])), (tp0, .inr (4, [.int 1, .int (-1), .int (-1), .int 0]))]) [0, 1, 2] (by decide) rfl
  have hKc := hK.sub (tys' := [(tcP, .object "LockRooms$Player")]) [1] rfl
  have hFc := va_free (wc := [(tr, .inr (5, [.ref tlk, .ref tth, .ref tpl, .ref tgm, .int 0, .int 0, .int 1, .int (-1), .int 1, .int 0, .int 18, .int 0])), (tgm, .inr (2, [.int 1, .int 0, .int 0, .int 0, .int 0, .int (-1), .long 0])), (tp0, .inr (4, [.int 1, .int (-1), .int (-1), .int 0]))]) hD hS hA [0, 1, 2] rfl
  refine va_calli (va_runV (As := []) (rest := []) ⟨hx, hb, hml, hown, hts⟩ (cz_RmidMinute l dC dI ed H1.size tr tlk tth tpl tgm tcP tfp tp0 0 hkt (by decide)) (cwV 0 hts gX6_endsAt_X3_letMinuteGoBy rfl rfl rfl (by decide +kernel) ⟨Nat.le_of_ble_eq_true rfl, Nat.le_of_ble_eq_true rfl⟩) ⟨zb_blind, va_recv hK hP (ci := 5) (q0 := 0) rfl rfl, fun U hU hW => ⟨rfl, zb_mk hU hW hPr hPc hKc hDc hN hH hS hFc (zx_cons (zx_r (hAr _ (List.mem_of_getElem? (i := 5) rfl)) hDc) zx_nil)⟩⟩ rfl rfl hl.1 rfl (lv_room (Nat.le_of_ble_eq_true rfl)) dX6_endsAt_51 ⟨Nat.le_of_ble_eq_true rfl, Nat.le_of_ble_eq_true rfl⟩) hS (fun q _ h => hFc q h) hFc (fun r5 u t H4 locs ht hvm hw hB hz1 hk1 hS => ?_)
  obtain rfl : r5 = 0 := hw
  obtain ⟨w1_6, hf6_0, hP1, hD1, hK1⟩ := hB
  obtain rfl : w1_6 = 1 := hf6_0.trans (by first | rfl | decide +kernel)
  rw [ht] at hP1
  obtain ⟨hP, hD⟩ := va_join (wr := []) (w1 := [(tr, .inr (5, [.ref tlk, .ref tth, .ref tpl, .ref tgm, .int 0, .int 0, .int 1, .int (-1), .int 1, .int 1, .int 18, .int 1])), (tgm, .inr (2, [.int 1, .int 1, .int 0, .int 0, .int 0, .int (-1), .long 0])), (tp0, .inr (4, [.int 1, .int (-1), .int (-1), .int 1]))]) hP hD [0, 1, 2] [] rfl rfl (by decide) (by decide) hk1 hFc hP1 hD1
  have hP : va_P (dC, dI) vwCl [(tr, .inr (5, [.ref tlk, .ref tth, .ref tpl, .ref tgm, .int 0, .int 0, .int 1, .int (-1), .int 1, .int 1, .int 18, .int 1])), (tgm, .inr (2, [.int 1, .int 1, .int 0, .int 0, .int 0, .int (-1), .long 0])), (tp0, .inr (4, [.int 1, .int (-1), .int (-1), .int 1]))] H4 := hP
  have hD : va_D A [(tr, .inr (5, [.ref tlk, .ref tth, .ref tpl, .ref tgm, .int 0, .int 0, .int 1, .int (-1), .int 1, .int 1, .int 18, .int 1])), (tgm, .inr (2, [.int 1, .int 1, .int 0, .int 0, .int 0, .int (-1), .long 0])), (tp0, .inr (4, [.int 1, .int (-1), .int (-1), .int 1]))] := hD
  refine lv_pop hx hb dX6_endsAt_54 rfl ?_
  refine lv_iinc (v := 1) (lv' := [(1, .int 1), (0, .ref x)]) hx hb dX6_endsAt_55 hl (k := 0) rfl (by decide) (by decide) rfl (fun ls hl => ?_)
  refine lv_goto (tgt := 28) hx hb dX6_endsAt_58 (by decide) ?_
  refine lv_iload_n hx hb dX6_endsAt_28 rfl (lv_at hl 0 rfl) ?_
  refine lv_bipush (v := 60) hx hb dX6_endsAt_29 (by decide) ?_
  refine lv_icmp_ge (tgt := 61) hx hb dX6_endsAt_31 (by decide) (fun h => absurd h (by decide)) (fun _ => ?_)
  refine lv_aload_n hx hb dX6_endsAt_34 rfl (lv_at hl 1 rfl) ?_
  refine va_get (D := (dC, dI)) (ci := 8) (v := .ref tr) (C := RX6) (T := TX6) (N := 3) hx hb hts zi_X6_endsAt_X6 hown hK (zo_R hR0 hS hAr) 0 rfl rfl 1 (by decide) (hts (.fieldLink RX6 16 "LockRooms" "trial" "LLockRooms$Room;") (by decide +kernel)) (fun _ h9 => h9) rfl dX6_endsAt_35 ?_
  refine va_get (D := (dC, dI)) (ci := 5) (v := .ref tgm) (C := RX3) (T := TX3) (N := 12) hx hb hts zi_X6_endsAt_X3 hown hK hP 0 rfl rfl 3 (by decide) (hts (.fieldLink RX6 41 "LockRooms$Room" "games" "LLockRooms$Games;") (by decide +kernel)) (fun _ h9 => h9) rfl dX6_endsAt_38 ?_
  refine va_get (D := (dC, dI)) (ci := 2) (v := .int 1) (C := RX0) (T := TX0) (N := 7) hx hb hts zi_X6_endsAt_X0 hown hK hP 1 rfl rfl 0 (by decide) (hts (.fieldLink RX6 45 "LockRooms$Games" "isRunning" "Z") (by decide +kernel)) (fun _ h9 => h9) rfl dX6_endsAt_41 ?_
  refine lv_if_eq (tgt := 61) hx hb dX6_endsAt_44 (by decide) (fun h => absurd h (by decide)) (fun _ => ?_)
  refine lv_aload_n hx hb dX6_endsAt_47 rfl (lv_at hl 1 rfl) ?_
  refine va_get (D := (dC, dI)) (ci := 8) (v := .ref tr) (C := RX6) (T := TX6) (N := 3) hx hb hts zi_X6_endsAt_X6 hown hK (zo_R hR0 hS hAr) 0 rfl rfl 1 (by decide) (hts (.fieldLink RX6 16 "LockRooms" "trial" "LLockRooms$Room;") (by decide +kernel)) (fun _ h9 => h9) rfl dX6_endsAt_48 ?_
  have hPr := ((zo_R hR0 hS hAr)).sub (ws' := [(tpl, .inl (tcP, 6, .inr (.inr (.inr (.inr tfp)))))]) [5] rfl
  have hPc := hP.sub (ws' := [(tr, .inr (5, [.ref tlk, .ref tth, .ref tpl, .ref tgm, .int 0, .int 0, .int 1, .int (-1), .int 1, .int 1, .int 18, .int 1])), (tgm, .inr (2, [.int 1, .int 1, .int 0, .int 0, .int 0, .int (-1), .long 0])), (tp0, .inr (4, [.int 1, .int (-1), .int (-1), .int 1]))]) [0, 1, 2] rfl
  have hDc := hD.sub (ws' := [(tr, .inr (5, [.ref tlk, .ref tth, .ref tpl, .ref tgm, .int 0, .int 0, .int 1, .int (-1), .int 1, .int 1, .int 18, .int 1])), (tgm, .inr (2, [.int 1, .int 1, .int 0, .int 0, .int 0, .int (-1), .long 0])), (tp0, .inr (4, [.int 1, .int (-1), .int (-1), .int 1]))]) [0, 1, 2] (by decide) rfl
  have hKc := hK.sub (tys' := [(tcP, .object "LockRooms$Player")]) [1] rfl
  have hFc := va_free (wc := [(tr, .inr (5, [.ref tlk, .ref tth, .ref tpl, .ref tgm, .int 0, .int 0, .int 1, .int (-1), .int 1, .int 1, .int 18, .int 1])), (tgm, .inr (2, [.int 1, .int 1, .int 0, .int 0, .int 0, .int (-1), .long 0])), (tp0, .inr (4, [.int 1, .int (-1), .int (-1), .int 1]))]) hD hS hA [0, 1, 2] rfl
  refine va_calli (va_runV (As := []) (rest := []) ⟨hx, hb, hml, hown, hts⟩ (cz_RmidMinute l dC dI ed H4.size tr tlk tth tpl tgm tcP tfp tp0 1 hkt (by decide)) (cwV 0 hts gX6_endsAt_X3_letMinuteGoBy rfl rfl rfl (by decide +kernel) ⟨Nat.le_of_ble_eq_true rfl, Nat.le_of_ble_eq_true rfl⟩) ⟨zb_blind, va_recv hK hP (ci := 5) (q0 := 0) rfl rfl, fun U hU hW => ⟨rfl, zb_mk hU hW hPr hPc hKc hDc hN hH hS hFc (zx_cons (zx_r (hAr _ (List.mem_of_getElem? (i := 5) rfl)) hDc) zx_nil)⟩⟩ rfl rfl hl.1 rfl (lv_room (Nat.le_of_ble_eq_true rfl)) dX6_endsAt_51 ⟨Nat.le_of_ble_eq_true rfl, Nat.le_of_ble_eq_true rfl⟩) hS (fun q _ h => hFc q h) hFc (fun r8 u t H7 locs ht hvm hw hB hz1 hk1 hS => ?_)
  obtain rfl : r8 = 0 := hw
  obtain ⟨w1_9, hf9_0, hP1, hD1, hK1⟩ := hB
  obtain rfl : w1_9 = 2 := hf9_0.trans (by first | rfl | decide +kernel)
  rw [ht] at hP1
  obtain ⟨hP, hD⟩ := va_join (wr := []) (w1 := [(tr, .inr (5, [.ref tlk, .ref tth, .ref tpl, .ref tgm, .int 0, .int 0, .int 1, .int (-1), .int 1, .int 2, .int 18, .int 2])), (tgm, .inr (2, [.int 1, .int 2, .int 0, .int 0, .int 0, .int (-1), .long 0])), (tp0, .inr (4, [.int 1, .int (-1), .int (-1), .int 2]))]) hP hD [0, 1, 2] [] rfl rfl (by decide) (by decide) hk1 hFc hP1 hD1
  have hP : va_P (dC, dI) vwCl [(tr, .inr (5, [.ref tlk, .ref tth, .ref tpl, .ref tgm, .int 0, .int 0, .int 1, .int (-1), .int 1, .int 2, .int 18, .int 2])), (tgm, .inr (2, [.int 1, .int 2, .int 0, .int 0, .int 0, .int (-1), .long 0])), (tp0, .inr (4, [.int 1, .int (-1), .int (-1), .int 2]))] H7 := hP
  have hD : va_D A [(tr, .inr (5, [.ref tlk, .ref tth, .ref tpl, .ref tgm, .int 0, .int 0, .int 1, .int (-1), .int 1, .int 2, .int 18, .int 2])), (tgm, .inr (2, [.int 1, .int 2, .int 0, .int 0, .int 0, .int (-1), .long 0])), (tp0, .inr (4, [.int 1, .int (-1), .int (-1), .int 2]))] := hD
  refine lv_pop hx hb dX6_endsAt_54 rfl ?_
  refine lv_iinc (v := 2) (lv' := [(1, .int 2), (0, .ref x)]) hx hb dX6_endsAt_55 hl (k := 0) rfl (by decide) (by decide) rfl (fun ls hl => ?_)
  refine lv_goto (tgt := 28) hx hb dX6_endsAt_58 (by decide) ?_
  refine lv_iload_n hx hb dX6_endsAt_28 rfl (lv_at hl 0 rfl) ?_
  refine lv_bipush (v := 60) hx hb dX6_endsAt_29 (by decide) ?_
  refine lv_icmp_ge (tgt := 61) hx hb dX6_endsAt_31 (by decide) (fun h => absurd h (by decide)) (fun _ => ?_)
  refine lv_aload_n hx hb dX6_endsAt_34 rfl (lv_at hl 1 rfl) ?_
  refine va_get (D := (dC, dI)) (ci := 8) (v := .ref tr) (C := RX6) (T := TX6) (N := 3) hx hb hts zi_X6_endsAt_X6 hown hK (zo_R hR0 hS hAr) 0 rfl rfl 1 (by decide) (hts (.fieldLink RX6 16 "LockRooms" "trial" "LLockRooms$Room;") (by decide +kernel)) (fun _ h9 => h9) rfl dX6_endsAt_35 ?_
  refine va_get (D := (dC, dI)) (ci := 5) (v := .ref tgm) (C := RX3) (T := TX3) (N := 12) hx hb hts zi_X6_endsAt_X3 hown hK hP 0 rfl rfl 3 (by decide) (hts (.fieldLink RX6 41 "LockRooms$Room" "games" "LLockRooms$Games;") (by decide +kernel)) (fun _ h9 => h9) rfl dX6_endsAt_38 ?_
  refine va_get (D := (dC, dI)) (ci := 2) (v := .int 1) (C := RX0) (T := TX0) (N := 7) hx hb hts zi_X6_endsAt_X0 hown hK hP 1 rfl rfl 0 (by decide) (hts (.fieldLink RX6 45 "LockRooms$Games" "isRunning" "Z") (by decide +kernel)) (fun _ h9 => h9) rfl dX6_endsAt_41 ?_
  refine lv_if_eq (tgt := 61) hx hb dX6_endsAt_44 (by decide) (fun h => absurd h (by decide)) (fun _ => ?_)
  refine lv_aload_n hx hb dX6_endsAt_47 rfl (lv_at hl 1 rfl) ?_
  refine va_get (D := (dC, dI)) (ci := 8) (v := .ref tr) (C := RX6) (T := TX6) (N := 3) hx hb hts zi_X6_endsAt_X6 hown hK (zo_R hR0 hS hAr) 0 rfl rfl 1 (by decide) (hts (.fieldLink RX6 16 "LockRooms" "trial" "LLockRooms$Room;") (by decide +kernel)) (fun _ h9 => h9) rfl dX6_endsAt_48 ?_
  have hPr := ((zo_R hR0 hS hAr)).sub (ws' := [(tpl, .inl (tcP, 6, .inr (.inr (.inr (.inr tfp)))))]) [5] rfl
  have hPc := hP.sub (ws' := [(tr, .inr (5, [.ref tlk, .ref tth, .ref tpl, .ref tgm, .int 0, .int 0, .int 1, .int (-1), .int 1, .int 2, .int 18, .int 2])), (tgm, .inr (2, [.int 1, .int 2, .int 0, .int 0, .int 0, .int (-1), .long 0])), (tp0, .inr (4, [.int 1, .int (-1), .int (-1), .int 2]))]) [0, 1, 2] rfl
  have hDc := hD.sub (ws' := [(tr, .inr (5, [.ref tlk, .ref tth, .ref tpl, .ref tgm, .int 0, .int 0, .int 1, .int (-1), .int 1, .int 2, .int 18, .int 2])), (tgm, .inr (2, [.int 1, .int 2, .int 0, .int 0, .int 0, .int (-1), .long 0])), (tp0, .inr (4, [.int 1, .int (-1), .int (-1), .int 2]))]) [0, 1, 2] (by decide) rfl
  have hKc := hK.sub (tys' := [(tcP, .object "LockRooms$Player")]) [1] rfl
  have hFc := va_free (wc := [(tr, .inr (5, [.ref tlk, .ref tth, .ref tpl, .ref tgm, .int 0, .int 0, .int 1, .int (-1), .int 1, .int 2, .int 18, .int 2])), (tgm, .inr (2, [.int 1, .int 2, .int 0, .int 0, .int 0, .int (-1), .long 0])), (tp0, .inr (4, [.int 1, .int (-1), .int (-1), .int 2]))]) hD hS hA [0, 1, 2] rfl
  refine va_calli (va_runV (As := []) (rest := []) ⟨hx, hb, hml, hown, hts⟩ (cz_RmidMinute l dC dI ed H7.size tr tlk tth tpl tgm tcP tfp tp0 2 hkt (by decide)) (cwV 0 hts gX6_endsAt_X3_letMinuteGoBy rfl rfl rfl (by decide +kernel) ⟨Nat.le_of_ble_eq_true rfl, Nat.le_of_ble_eq_true rfl⟩) ⟨zb_blind, va_recv hK hP (ci := 5) (q0 := 0) rfl rfl, fun U hU hW => ⟨rfl, zb_mk hU hW hPr hPc hKc hDc hN hH hS hFc (zx_cons (zx_r (hAr _ (List.mem_of_getElem? (i := 5) rfl)) hDc) zx_nil)⟩⟩ rfl rfl hl.1 rfl (lv_room (Nat.le_of_ble_eq_true rfl)) dX6_endsAt_51 ⟨Nat.le_of_ble_eq_true rfl, Nat.le_of_ble_eq_true rfl⟩) hS (fun q _ h => hFc q h) hFc (fun r11 u t H10 locs ht hvm hw hB hz1 hk1 hS => ?_)
  obtain rfl : r11 = 0 := hw
  obtain ⟨w1_12, hf12_0, hP1, hD1, hK1⟩ := hB
  obtain rfl : w1_12 = 3 := hf12_0.trans (by first | rfl | decide +kernel)
  rw [ht] at hP1
  obtain ⟨hP, hD⟩ := va_join (wr := []) (w1 := [(tr, .inr (5, [.ref tlk, .ref tth, .ref tpl, .ref tgm, .int 0, .int 0, .int 1, .int (-1), .int 1, .int 3, .int 18, .int 3])), (tgm, .inr (2, [.int 1, .int 3, .int 0, .int 0, .int 0, .int (-1), .long 0])), (tp0, .inr (4, [.int 1, .int (-1), .int (-1), .int 3]))]) hP hD [0, 1, 2] [] rfl rfl (by decide) (by decide) hk1 hFc hP1 hD1
  have hP : va_P (dC, dI) vwCl [(tr, .inr (5, [.ref tlk, .ref tth, .ref tpl, .ref tgm, .int 0, .int 0, .int 1, .int (-1), .int 1, .int 3, .int 18, .int 3])), (tgm, .inr (2, [.int 1, .int 3, .int 0, .int 0, .int 0, .int (-1), .long 0])), (tp0, .inr (4, [.int 1, .int (-1), .int (-1), .int 3]))] H10 := hP
  have hD : va_D A [(tr, .inr (5, [.ref tlk, .ref tth, .ref tpl, .ref tgm, .int 0, .int 0, .int 1, .int (-1), .int 1, .int 3, .int 18, .int 3])), (tgm, .inr (2, [.int 1, .int 3, .int 0, .int 0, .int 0, .int (-1), .long 0])), (tp0, .inr (4, [.int 1, .int (-1), .int (-1), .int 3]))] := hD
  refine lv_pop hx hb dX6_endsAt_54 rfl ?_
  refine lv_iinc (v := 3) (lv' := [(1, .int 3), (0, .ref x)]) hx hb dX6_endsAt_55 hl (k := 0) rfl (by decide) (by decide) rfl (fun ls hl => ?_)
  refine lv_goto (tgt := 28) hx hb dX6_endsAt_58 (by decide) ?_
  refine lv_iload_n hx hb dX6_endsAt_28 rfl (lv_at hl 0 rfl) ?_
  refine lv_bipush (v := 60) hx hb dX6_endsAt_29 (by decide) ?_
  refine lv_icmp_ge (tgt := 61) hx hb dX6_endsAt_31 (by decide) (fun h => absurd h (by decide)) (fun _ => ?_)
  refine lv_aload_n hx hb dX6_endsAt_34 rfl (lv_at hl 1 rfl) ?_
  refine va_get (D := (dC, dI)) (ci := 8) (v := .ref tr) (C := RX6) (T := TX6) (N := 3) hx hb hts zi_X6_endsAt_X6 hown hK (zo_R hR0 hS hAr) 0 rfl rfl 1 (by decide) (hts (.fieldLink RX6 16 "LockRooms" "trial" "LLockRooms$Room;") (by decide +kernel)) (fun _ h9 => h9) rfl dX6_endsAt_35 ?_
  refine va_get (D := (dC, dI)) (ci := 5) (v := .ref tgm) (C := RX3) (T := TX3) (N := 12) hx hb hts zi_X6_endsAt_X3 hown hK hP 0 rfl rfl 3 (by decide) (hts (.fieldLink RX6 41 "LockRooms$Room" "games" "LLockRooms$Games;") (by decide +kernel)) (fun _ h9 => h9) rfl dX6_endsAt_38 ?_
  refine va_get (D := (dC, dI)) (ci := 2) (v := .int 1) (C := RX0) (T := TX0) (N := 7) hx hb hts zi_X6_endsAt_X0 hown hK hP 1 rfl rfl 0 (by decide) (hts (.fieldLink RX6 45 "LockRooms$Games" "isRunning" "Z") (by decide +kernel)) (fun _ h9 => h9) rfl dX6_endsAt_41 ?_
  refine lv_if_eq (tgt := 61) hx hb dX6_endsAt_44 (by decide) (fun h => absurd h (by decide)) (fun _ => ?_)
  refine lv_aload_n hx hb dX6_endsAt_47 rfl (lv_at hl 1 rfl) ?_
  refine va_get (D := (dC, dI)) (ci := 8) (v := .ref tr) (C := RX6) (T := TX6) (N := 3) hx hb hts zi_X6_endsAt_X6 hown hK (zo_R hR0 hS hAr) 0 rfl rfl 1 (by decide) (hts (.fieldLink RX6 16 "LockRooms" "trial" "LLockRooms$Room;") (by decide +kernel)) (fun _ h9 => h9) rfl dX6_endsAt_48 ?_
  have hPr := ((zo_R hR0 hS hAr)).sub (ws' := [(tpl, .inl (tcP, 6, .inr (.inr (.inr (.inr tfp)))))]) [5] rfl
  have hPc := hP.sub (ws' := [(tr, .inr (5, [.ref tlk, .ref tth, .ref tpl, .ref tgm, .int 0, .int 0, .int 1, .int (-1), .int 1, .int 3, .int 18, .int 3])), (tgm, .inr (2, [.int 1, .int 3, .int 0, .int 0, .int 0, .int (-1), .long 0])), (tp0, .inr (4, [.int 1, .int (-1), .int (-1), .int 3]))]) [0, 1, 2] rfl
  have hDc := hD.sub (ws' := [(tr, .inr (5, [.ref tlk, .ref tth, .ref tpl, .ref tgm, .int 0, .int 0, .int 1, .int (-1), .int 1, .int 3, .int 18, .int 3])), (tgm, .inr (2, [.int 1, .int 3, .int 0, .int 0, .int 0, .int (-1), .long 0])), (tp0, .inr (4, [.int 1, .int (-1), .int (-1), .int 3]))]) [0, 1, 2] (by decide) rfl
  have hKc := hK.sub (tys' := [(tcP, .object "LockRooms$Player")]) [1] rfl
  have hFc := va_free (wc := [(tr, .inr (5, [.ref tlk, .ref tth, .ref tpl, .ref tgm, .int 0, .int 0, .int 1, .int (-1), .int 1, .int 3, .int 18, .int 3])), (tgm, .inr (2, [.int 1, .int 3, .int 0, .int 0, .int 0, .int (-1), .long 0])), (tp0, .inr (4, [.int 1, .int (-1), .int (-1), .int 3]))]) hD hS hA [0, 1, 2] rfl
  refine va_calli (va_runV (As := []) (rest := []) ⟨hx, hb, hml, hown, hts⟩ (cz_RmidMinute l dC dI ed H10.size tr tlk tth tpl tgm tcP tfp tp0 3 hkt (by decide)) (cwV 0 hts gX6_endsAt_X3_letMinuteGoBy rfl rfl rfl (by decide +kernel) ⟨Nat.le_of_ble_eq_true rfl, Nat.le_of_ble_eq_true rfl⟩) ⟨zb_blind, va_recv hK hP (ci := 5) (q0 := 0) rfl rfl, fun U hU hW => ⟨rfl, zb_mk hU hW hPr hPc hKc hDc hN hH hS hFc (zx_cons (zx_r (hAr _ (List.mem_of_getElem? (i := 5) rfl)) hDc) zx_nil)⟩⟩ rfl rfl hl.1 rfl (lv_room (Nat.le_of_ble_eq_true rfl)) dX6_endsAt_51 ⟨Nat.le_of_ble_eq_true rfl, Nat.le_of_ble_eq_true rfl⟩) hS (fun q _ h => hFc q h) hFc (fun r14 u t H13 locs ht hvm hw hB hz1 hk1 hS => ?_)
  obtain rfl : r14 = 0 := hw
  obtain ⟨w1_15, hf15_0, hP1, hD1, hK1⟩ := hB
  obtain rfl : w1_15 = 4 := hf15_0.trans (by first | rfl | decide +kernel)
  rw [ht] at hP1
  obtain ⟨hP, hD⟩ := va_join (wr := []) (w1 := [(tr, .inr (5, [.ref tlk, .ref tth, .ref tpl, .ref tgm, .int 0, .int 0, .int 1, .int (-1), .int 1, .int 4, .int 18, .int 4])), (tgm, .inr (2, [.int 1, .int 4, .int 0, .int 0, .int 0, .int (-1), .long 0])), (tp0, .inr (4, [.int 1, .int (-1), .int (-1), .int 4]))]) hP hD [0, 1, 2] [] rfl rfl (by decide) (by decide) hk1 hFc hP1 hD1
  have hP : va_P (dC, dI) vwCl [(tr, .inr (5, [.ref tlk, .ref tth, .ref tpl, .ref tgm, .int 0, .int 0, .int 1, .int (-1), .int 1, .int 4, .int 18, .int 4])), (tgm, .inr (2, [.int 1, .int 4, .int 0, .int 0, .int 0, .int (-1), .long 0])), (tp0, .inr (4, [.int 1, .int (-1), .int (-1), .int 4]))] H13 := hP
  have hD : va_D A [(tr, .inr (5, [.ref tlk, .ref tth, .ref tpl, .ref tgm, .int 0, .int 0, .int 1, .int (-1), .int 1, .int 4, .int 18, .int 4])), (tgm, .inr (2, [.int 1, .int 4, .int 0, .int 0, .int 0, .int (-1), .long 0])), (tp0, .inr (4, [.int 1, .int (-1), .int (-1), .int 4]))] := hD
  refine lv_pop hx hb dX6_endsAt_54 rfl ?_
  refine lv_iinc (v := 4) (lv' := [(1, .int 4), (0, .ref x)]) hx hb dX6_endsAt_55 hl (k := 0) rfl (by decide) (by decide) rfl (fun ls hl => ?_)
  refine lv_goto (tgt := 28) hx hb dX6_endsAt_58 (by decide) ?_
  refine lv_iload_n hx hb dX6_endsAt_28 rfl (lv_at hl 0 rfl) ?_
  refine lv_bipush (v := 60) hx hb dX6_endsAt_29 (by decide) ?_
  refine lv_icmp_ge (tgt := 61) hx hb dX6_endsAt_31 (by decide) (fun h => absurd h (by decide)) (fun _ => ?_)
  refine lv_aload_n hx hb dX6_endsAt_34 rfl (lv_at hl 1 rfl) ?_
  refine va_get (D := (dC, dI)) (ci := 8) (v := .ref tr) (C := RX6) (T := TX6) (N := 3) hx hb hts zi_X6_endsAt_X6 hown hK (zo_R hR0 hS hAr) 0 rfl rfl 1 (by decide) (hts (.fieldLink RX6 16 "LockRooms" "trial" "LLockRooms$Room;") (by decide +kernel)) (fun _ h9 => h9) rfl dX6_endsAt_35 ?_
  refine va_get (D := (dC, dI)) (ci := 5) (v := .ref tgm) (C := RX3) (T := TX3) (N := 12) hx hb hts zi_X6_endsAt_X3 hown hK hP 0 rfl rfl 3 (by decide) (hts (.fieldLink RX6 41 "LockRooms$Room" "games" "LLockRooms$Games;") (by decide +kernel)) (fun _ h9 => h9) rfl dX6_endsAt_38 ?_
  refine va_get (D := (dC, dI)) (ci := 2) (v := .int 1) (C := RX0) (T := TX0) (N := 7) hx hb hts zi_X6_endsAt_X0 hown hK hP 1 rfl rfl 0 (by decide) (hts (.fieldLink RX6 45 "LockRooms$Games" "isRunning" "Z") (by decide +kernel)) (fun _ h9 => h9) rfl dX6_endsAt_41 ?_
  refine lv_if_eq (tgt := 61) hx hb dX6_endsAt_44 (by decide) (fun h => absurd h (by decide)) (fun _ => ?_)
  refine lv_aload_n hx hb dX6_endsAt_47 rfl (lv_at hl 1 rfl) ?_
  refine va_get (D := (dC, dI)) (ci := 8) (v := .ref tr) (C := RX6) (T := TX6) (N := 3) hx hb hts zi_X6_endsAt_X6 hown hK (zo_R hR0 hS hAr) 0 rfl rfl 1 (by decide) (hts (.fieldLink RX6 16 "LockRooms" "trial" "LLockRooms$Room;") (by decide +kernel)) (fun _ h9 => h9) rfl dX6_endsAt_48 ?_
  have hPr := ((zo_R hR0 hS hAr)).sub (ws' := [(tpl, .inl (tcP, 6, .inr (.inr (.inr (.inr tfp)))))]) [5] rfl
  have hPc := hP.sub (ws' := [(tr, .inr (5, [.ref tlk, .ref tth, .ref tpl, .ref tgm, .int 0, .int 0, .int 1, .int (-1), .int 1, .int 4, .int 18, .int 4])), (tgm, .inr (2, [.int 1, .int 4, .int 0, .int 0, .int 0, .int (-1), .long 0])), (tp0, .inr (4, [.int 1, .int (-1), .int (-1), .int 4]))]) [0, 1, 2] rfl
  have hDc := hD.sub (ws' := [(tr, .inr (5, [.ref tlk, .ref tth, .ref tpl, .ref tgm, .int 0, .int 0, .int 1, .int (-1), .int 1, .int 4, .int 18, .int 4])), (tgm, .inr (2, [.int 1, .int 4, .int 0, .int 0, .int 0, .int (-1), .long 0])), (tp0, .inr (4, [.int 1, .int (-1), .int (-1), .int 4]))]) [0, 1, 2] (by decide) rfl
  have hKc := hK.sub (tys' := [(tcP, .object "LockRooms$Player")]) [1] rfl
  have hFc := va_free (wc := [(tr, .inr (5, [.ref tlk, .ref tth, .ref tpl, .ref tgm, .int 0, .int 0, .int 1, .int (-1), .int 1, .int 4, .int 18, .int 4])), (tgm, .inr (2, [.int 1, .int 4, .int 0, .int 0, .int 0, .int (-1), .long 0])), (tp0, .inr (4, [.int 1, .int (-1), .int (-1), .int 4]))]) hD hS hA [0, 1, 2] rfl
  refine va_calli (va_runV (As := []) (rest := []) ⟨hx, hb, hml, hown, hts⟩ (cz_RmidMinute l dC dI ed H13.size tr tlk tth tpl tgm tcP tfp tp0 4 hkt (by decide)) (cwV 0 hts gX6_endsAt_X3_letMinuteGoBy rfl rfl rfl (by decide +kernel) ⟨Nat.le_of_ble_eq_true rfl, Nat.le_of_ble_eq_true rfl⟩) ⟨zb_blind, va_recv hK hP (ci := 5) (q0 := 0) rfl rfl, fun U hU hW => ⟨rfl, zb_mk hU hW hPr hPc hKc hDc hN hH hS hFc (zx_cons (zx_r (hAr _ (List.mem_of_getElem? (i := 5) rfl)) hDc) zx_nil)⟩⟩ rfl rfl hl.1 rfl (lv_room (Nat.le_of_ble_eq_true rfl)) dX6_endsAt_51 ⟨Nat.le_of_ble_eq_true rfl, Nat.le_of_ble_eq_true rfl⟩) hS (fun q _ h => hFc q h) hFc (fun r17 u t H16 locs ht hvm hw hB hz1 hk1 hS => ?_)
  obtain rfl : r17 = 0 := hw
  obtain ⟨w1_18, hf18_0, hP1, hD1, hK1⟩ := hB
  obtain rfl : w1_18 = 5 := hf18_0.trans (by first | rfl | decide +kernel)
  rw [ht] at hP1
  obtain ⟨hP, hD⟩ := va_join (wr := []) (w1 := [(tr, .inr (5, [.ref tlk, .ref tth, .ref tpl, .ref tgm, .int 0, .int 0, .int 1, .int (-1), .int 1, .int 5, .int 18, .int 5])), (tgm, .inr (2, [.int 1, .int 5, .int 0, .int 0, .int 0, .int (-1), .long 0])), (tp0, .inr (4, [.int 1, .int (-1), .int (-1), .int 5]))]) hP hD [0, 1, 2] [] rfl rfl (by decide) (by decide) hk1 hFc hP1 hD1
  have hP : va_P (dC, dI) vwCl [(tr, .inr (5, [.ref tlk, .ref tth, .ref tpl, .ref tgm, .int 0, .int 0, .int 1, .int (-1), .int 1, .int 5, .int 18, .int 5])), (tgm, .inr (2, [.int 1, .int 5, .int 0, .int 0, .int 0, .int (-1), .long 0])), (tp0, .inr (4, [.int 1, .int (-1), .int (-1), .int 5]))] H16 := hP
  have hD : va_D A [(tr, .inr (5, [.ref tlk, .ref tth, .ref tpl, .ref tgm, .int 0, .int 0, .int 1, .int (-1), .int 1, .int 5, .int 18, .int 5])), (tgm, .inr (2, [.int 1, .int 5, .int 0, .int 0, .int 0, .int (-1), .long 0])), (tp0, .inr (4, [.int 1, .int (-1), .int (-1), .int 5]))] := hD
  refine lv_pop hx hb dX6_endsAt_54 rfl ?_
  refine lv_iinc (v := 5) (lv' := [(1, .int 5), (0, .ref x)]) hx hb dX6_endsAt_55 hl (k := 0) rfl (by decide) (by decide) rfl (fun ls hl => ?_)
  refine lv_goto (tgt := 28) hx hb dX6_endsAt_58 (by decide) ?_
  refine lv_iload_n hx hb dX6_endsAt_28 rfl (lv_at hl 0 rfl) ?_
  refine lv_bipush (v := 60) hx hb dX6_endsAt_29 (by decide) ?_
  refine lv_icmp_ge (tgt := 61) hx hb dX6_endsAt_31 (by decide) (fun h => absurd h (by decide)) (fun _ => ?_)
  refine lv_aload_n hx hb dX6_endsAt_34 rfl (lv_at hl 1 rfl) ?_
  refine va_get (D := (dC, dI)) (ci := 8) (v := .ref tr) (C := RX6) (T := TX6) (N := 3) hx hb hts zi_X6_endsAt_X6 hown hK (zo_R hR0 hS hAr) 0 rfl rfl 1 (by decide) (hts (.fieldLink RX6 16 "LockRooms" "trial" "LLockRooms$Room;") (by decide +kernel)) (fun _ h9 => h9) rfl dX6_endsAt_35 ?_
  refine va_get (D := (dC, dI)) (ci := 5) (v := .ref tgm) (C := RX3) (T := TX3) (N := 12) hx hb hts zi_X6_endsAt_X3 hown hK hP 0 rfl rfl 3 (by decide) (hts (.fieldLink RX6 41 "LockRooms$Room" "games" "LLockRooms$Games;") (by decide +kernel)) (fun _ h9 => h9) rfl dX6_endsAt_38 ?_
  refine va_get (D := (dC, dI)) (ci := 2) (v := .int 1) (C := RX0) (T := TX0) (N := 7) hx hb hts zi_X6_endsAt_X0 hown hK hP 1 rfl rfl 0 (by decide) (hts (.fieldLink RX6 45 "LockRooms$Games" "isRunning" "Z") (by decide +kernel)) (fun _ h9 => h9) rfl dX6_endsAt_41 ?_
  refine lv_if_eq (tgt := 61) hx hb dX6_endsAt_44 (by decide) (fun h => absurd h (by decide)) (fun _ => ?_)
  refine lv_aload_n hx hb dX6_endsAt_47 rfl (lv_at hl 1 rfl) ?_
  refine va_get (D := (dC, dI)) (ci := 8) (v := .ref tr) (C := RX6) (T := TX6) (N := 3) hx hb hts zi_X6_endsAt_X6 hown hK (zo_R hR0 hS hAr) 0 rfl rfl 1 (by decide) (hts (.fieldLink RX6 16 "LockRooms" "trial" "LLockRooms$Room;") (by decide +kernel)) (fun _ h9 => h9) rfl dX6_endsAt_48 ?_
  have hPr := ((zo_R hR0 hS hAr)).sub (ws' := [(tpl, .inl (tcP, 6, .inr (.inr (.inr (.inr tfp)))))]) [5] rfl
  have hPc := hP.sub (ws' := [(tr, .inr (5, [.ref tlk, .ref tth, .ref tpl, .ref tgm, .int 0, .int 0, .int 1, .int (-1), .int 1, .int 5, .int 18, .int 5])), (tgm, .inr (2, [.int 1, .int 5, .int 0, .int 0, .int 0, .int (-1), .long 0])), (tp0, .inr (4, [.int 1, .int (-1), .int (-1), .int 5]))]) [0, 1, 2] rfl
  have hDc := hD.sub (ws' := [(tr, .inr (5, [.ref tlk, .ref tth, .ref tpl, .ref tgm, .int 0, .int 0, .int 1, .int (-1), .int 1, .int 5, .int 18, .int 5])), (tgm, .inr (2, [.int 1, .int 5, .int 0, .int 0, .int 0, .int (-1), .long 0])), (tp0, .inr (4, [.int 1, .int (-1), .int (-1), .int 5]))]) [0, 1, 2] (by decide) rfl
  have hKc := hK.sub (tys' := [(tcP, .object "LockRooms$Player")]) [1] rfl
  have hFc := va_free (wc := [(tr, .inr (5, [.ref tlk, .ref tth, .ref tpl, .ref tgm, .int 0, .int 0, .int 1, .int (-1), .int 1, .int 5, .int 18, .int 5])), (tgm, .inr (2, [.int 1, .int 5, .int 0, .int 0, .int 0, .int (-1), .long 0])), (tp0, .inr (4, [.int 1, .int (-1), .int (-1), .int 5]))]) hD hS hA [0, 1, 2] rfl
  refine va_calli (va_runV (As := []) (rest := []) ⟨hx, hb, hml, hown, hts⟩ (cz_RmidMinute l dC dI ed H16.size tr tlk tth tpl tgm tcP tfp tp0 5 hkt (by decide)) (cwV 0 hts gX6_endsAt_X3_letMinuteGoBy rfl rfl rfl (by decide +kernel) ⟨Nat.le_of_ble_eq_true rfl, Nat.le_of_ble_eq_true rfl⟩) ⟨zb_blind, va_recv hK hP (ci := 5) (q0 := 0) rfl rfl, fun U hU hW => ⟨rfl, zb_mk hU hW hPr hPc hKc hDc hN hH hS hFc (zx_cons (zx_r (hAr _ (List.mem_of_getElem? (i := 5) rfl)) hDc) zx_nil)⟩⟩ rfl rfl hl.1 rfl (lv_room (Nat.le_of_ble_eq_true rfl)) dX6_endsAt_51 ⟨Nat.le_of_ble_eq_true rfl, Nat.le_of_ble_eq_true rfl⟩) hS (fun q _ h => hFc q h) hFc (fun r20 u t H19 locs ht hvm hw hB hz1 hk1 hS => ?_)
  obtain rfl : r20 = 0 := hw
  obtain ⟨w1_21, hf21_0, hP1, hD1, hK1⟩ := hB
  obtain rfl : w1_21 = 6 := hf21_0.trans (by first | rfl | decide +kernel)
  rw [ht] at hP1
  obtain ⟨hP, hD⟩ := va_join (wr := []) (w1 := [(tr, .inr (5, [.ref tlk, .ref tth, .ref tpl, .ref tgm, .int 0, .int 0, .int 1, .int (-1), .int 1, .int 6, .int 18, .int 6])), (tgm, .inr (2, [.int 1, .int 6, .int 0, .int 0, .int 0, .int (-1), .long 0])), (tp0, .inr (4, [.int 1, .int (-1), .int (-1), .int 6]))]) hP hD [0, 1, 2] [] rfl rfl (by decide) (by decide) hk1 hFc hP1 hD1
  have hP : va_P (dC, dI) vwCl [(tr, .inr (5, [.ref tlk, .ref tth, .ref tpl, .ref tgm, .int 0, .int 0, .int 1, .int (-1), .int 1, .int 6, .int 18, .int 6])), (tgm, .inr (2, [.int 1, .int 6, .int 0, .int 0, .int 0, .int (-1), .long 0])), (tp0, .inr (4, [.int 1, .int (-1), .int (-1), .int 6]))] H19 := hP
  have hD : va_D A [(tr, .inr (5, [.ref tlk, .ref tth, .ref tpl, .ref tgm, .int 0, .int 0, .int 1, .int (-1), .int 1, .int 6, .int 18, .int 6])), (tgm, .inr (2, [.int 1, .int 6, .int 0, .int 0, .int 0, .int (-1), .long 0])), (tp0, .inr (4, [.int 1, .int (-1), .int (-1), .int 6]))] := hD
  refine lv_pop hx hb dX6_endsAt_54 rfl ?_
  refine lv_iinc (v := 6) (lv' := [(1, .int 6), (0, .ref x)]) hx hb dX6_endsAt_55 hl (k := 0) rfl (by decide) (by decide) rfl (fun ls hl => ?_)
  refine lv_goto (tgt := 28) hx hb dX6_endsAt_58 (by decide) ?_
  refine lv_iload_n hx hb dX6_endsAt_28 rfl (lv_at hl 0 rfl) ?_
  refine lv_bipush (v := 60) hx hb dX6_endsAt_29 (by decide) ?_
  refine lv_icmp_ge (tgt := 61) hx hb dX6_endsAt_31 (by decide) (fun h => absurd h (by decide)) (fun _ => ?_)
  refine lv_aload_n hx hb dX6_endsAt_34 rfl (lv_at hl 1 rfl) ?_
  refine va_get (D := (dC, dI)) (ci := 8) (v := .ref tr) (C := RX6) (T := TX6) (N := 3) hx hb hts zi_X6_endsAt_X6 hown hK (zo_R hR0 hS hAr) 0 rfl rfl 1 (by decide) (hts (.fieldLink RX6 16 "LockRooms" "trial" "LLockRooms$Room;") (by decide +kernel)) (fun _ h9 => h9) rfl dX6_endsAt_35 ?_
  refine va_get (D := (dC, dI)) (ci := 5) (v := .ref tgm) (C := RX3) (T := TX3) (N := 12) hx hb hts zi_X6_endsAt_X3 hown hK hP 0 rfl rfl 3 (by decide) (hts (.fieldLink RX6 41 "LockRooms$Room" "games" "LLockRooms$Games;") (by decide +kernel)) (fun _ h9 => h9) rfl dX6_endsAt_38 ?_
  refine va_get (D := (dC, dI)) (ci := 2) (v := .int 1) (C := RX0) (T := TX0) (N := 7) hx hb hts zi_X6_endsAt_X0 hown hK hP 1 rfl rfl 0 (by decide) (hts (.fieldLink RX6 45 "LockRooms$Games" "isRunning" "Z") (by decide +kernel)) (fun _ h9 => h9) rfl dX6_endsAt_41 ?_
  refine lv_if_eq (tgt := 61) hx hb dX6_endsAt_44 (by decide) (fun h => absurd h (by decide)) (fun _ => ?_)
  refine lv_aload_n hx hb dX6_endsAt_47 rfl (lv_at hl 1 rfl) ?_
  refine va_get (D := (dC, dI)) (ci := 8) (v := .ref tr) (C := RX6) (T := TX6) (N := 3) hx hb hts zi_X6_endsAt_X6 hown hK (zo_R hR0 hS hAr) 0 rfl rfl 1 (by decide) (hts (.fieldLink RX6 16 "LockRooms" "trial" "LLockRooms$Room;") (by decide +kernel)) (fun _ h9 => h9) rfl dX6_endsAt_48 ?_
  have hPr := ((zo_R hR0 hS hAr)).sub (ws' := [(tpl, .inl (tcP, 6, .inr (.inr (.inr (.inr tfp)))))]) [5] rfl
  have hPc := hP.sub (ws' := [(tr, .inr (5, [.ref tlk, .ref tth, .ref tpl, .ref tgm, .int 0, .int 0, .int 1, .int (-1), .int 1, .int 6, .int 18, .int 6])), (tgm, .inr (2, [.int 1, .int 6, .int 0, .int 0, .int 0, .int (-1), .long 0])), (tp0, .inr (4, [.int 1, .int (-1), .int (-1), .int 6]))]) [0, 1, 2] rfl
  have hDc := hD.sub (ws' := [(tr, .inr (5, [.ref tlk, .ref tth, .ref tpl, .ref tgm, .int 0, .int 0, .int 1, .int (-1), .int 1, .int 6, .int 18, .int 6])), (tgm, .inr (2, [.int 1, .int 6, .int 0, .int 0, .int 0, .int (-1), .long 0])), (tp0, .inr (4, [.int 1, .int (-1), .int (-1), .int 6]))]) [0, 1, 2] (by decide) rfl
  have hKc := hK.sub (tys' := [(tcP, .object "LockRooms$Player")]) [1] rfl
  have hFc := va_free (wc := [(tr, .inr (5, [.ref tlk, .ref tth, .ref tpl, .ref tgm, .int 0, .int 0, .int 1, .int (-1), .int 1, .int 6, .int 18, .int 6])), (tgm, .inr (2, [.int 1, .int 6, .int 0, .int 0, .int 0, .int (-1), .long 0])), (tp0, .inr (4, [.int 1, .int (-1), .int (-1), .int 6]))]) hD hS hA [0, 1, 2] rfl
  refine va_calli (va_runV (As := []) (rest := []) ⟨hx, hb, hml, hown, hts⟩ (cz_RmidMinute l dC dI ed H19.size tr tlk tth tpl tgm tcP tfp tp0 6 hkt (by decide)) (cwV 0 hts gX6_endsAt_X3_letMinuteGoBy rfl rfl rfl (by decide +kernel) ⟨Nat.le_of_ble_eq_true rfl, Nat.le_of_ble_eq_true rfl⟩) ⟨zb_blind, va_recv hK hP (ci := 5) (q0 := 0) rfl rfl, fun U hU hW => ⟨rfl, zb_mk hU hW hPr hPc hKc hDc hN hH hS hFc (zx_cons (zx_r (hAr _ (List.mem_of_getElem? (i := 5) rfl)) hDc) zx_nil)⟩⟩ rfl rfl hl.1 rfl (lv_room (Nat.le_of_ble_eq_true rfl)) dX6_endsAt_51 ⟨Nat.le_of_ble_eq_true rfl, Nat.le_of_ble_eq_true rfl⟩) hS (fun q _ h => hFc q h) hFc (fun r23 u t H22 locs ht hvm hw hB hz1 hk1 hS => ?_)
  obtain rfl : r23 = 0 := hw
  obtain ⟨w1_24, hf24_0, hP1, hD1, hK1⟩ := hB
  obtain rfl : w1_24 = 7 := hf24_0.trans (by first | rfl | decide +kernel)
  rw [ht] at hP1
  obtain ⟨hP, hD⟩ := va_join (wr := []) (w1 := [(tr, .inr (5, [.ref tlk, .ref tth, .ref tpl, .ref tgm, .int 0, .int 0, .int 1, .int (-1), .int 1, .int 7, .int 18, .int 7])), (tgm, .inr (2, [.int 1, .int 7, .int 0, .int 0, .int 0, .int (-1), .long 0])), (tp0, .inr (4, [.int 1, .int (-1), .int (-1), .int 7]))]) hP hD [0, 1, 2] [] rfl rfl (by decide) (by decide) hk1 hFc hP1 hD1
  have hP : va_P (dC, dI) vwCl [(tr, .inr (5, [.ref tlk, .ref tth, .ref tpl, .ref tgm, .int 0, .int 0, .int 1, .int (-1), .int 1, .int 7, .int 18, .int 7])), (tgm, .inr (2, [.int 1, .int 7, .int 0, .int 0, .int 0, .int (-1), .long 0])), (tp0, .inr (4, [.int 1, .int (-1), .int (-1), .int 7]))] H22 := hP
  have hD : va_D A [(tr, .inr (5, [.ref tlk, .ref tth, .ref tpl, .ref tgm, .int 0, .int 0, .int 1, .int (-1), .int 1, .int 7, .int 18, .int 7])), (tgm, .inr (2, [.int 1, .int 7, .int 0, .int 0, .int 0, .int (-1), .long 0])), (tp0, .inr (4, [.int 1, .int (-1), .int (-1), .int 7]))] := hD
  refine lv_pop hx hb dX6_endsAt_54 rfl ?_
  refine lv_iinc (v := 7) (lv' := [(1, .int 7), (0, .ref x)]) hx hb dX6_endsAt_55 hl (k := 0) rfl (by decide) (by decide) rfl (fun ls hl => ?_)
  refine lv_goto (tgt := 28) hx hb dX6_endsAt_58 (by decide) ?_
  refine lv_iload_n hx hb dX6_endsAt_28 rfl (lv_at hl 0 rfl) ?_
  refine lv_bipush (v := 60) hx hb dX6_endsAt_29 (by decide) ?_
  refine lv_icmp_ge (tgt := 61) hx hb dX6_endsAt_31 (by decide) (fun h => absurd h (by decide)) (fun _ => ?_)
  refine lv_aload_n hx hb dX6_endsAt_34 rfl (lv_at hl 1 rfl) ?_
  refine va_get (D := (dC, dI)) (ci := 8) (v := .ref tr) (C := RX6) (T := TX6) (N := 3) hx hb hts zi_X6_endsAt_X6 hown hK (zo_R hR0 hS hAr) 0 rfl rfl 1 (by decide) (hts (.fieldLink RX6 16 "LockRooms" "trial" "LLockRooms$Room;") (by decide +kernel)) (fun _ h9 => h9) rfl dX6_endsAt_35 ?_
  refine va_get (D := (dC, dI)) (ci := 5) (v := .ref tgm) (C := RX3) (T := TX3) (N := 12) hx hb hts zi_X6_endsAt_X3 hown hK hP 0 rfl rfl 3 (by decide) (hts (.fieldLink RX6 41 "LockRooms$Room" "games" "LLockRooms$Games;") (by decide +kernel)) (fun _ h9 => h9) rfl dX6_endsAt_38 ?_
  refine va_get (D := (dC, dI)) (ci := 2) (v := .int 1) (C := RX0) (T := TX0) (N := 7) hx hb hts zi_X6_endsAt_X0 hown hK hP 1 rfl rfl 0 (by decide) (hts (.fieldLink RX6 45 "LockRooms$Games" "isRunning" "Z") (by decide +kernel)) (fun _ h9 => h9) rfl dX6_endsAt_41 ?_
  refine lv_if_eq (tgt := 61) hx hb dX6_endsAt_44 (by decide) (fun h => absurd h (by decide)) (fun _ => ?_)
  refine lv_aload_n hx hb dX6_endsAt_47 rfl (lv_at hl 1 rfl) ?_
  refine va_get (D := (dC, dI)) (ci := 8) (v := .ref tr) (C := RX6) (T := TX6) (N := 3) hx hb hts zi_X6_endsAt_X6 hown hK (zo_R hR0 hS hAr) 0 rfl rfl 1 (by decide) (hts (.fieldLink RX6 16 "LockRooms" "trial" "LLockRooms$Room;") (by decide +kernel)) (fun _ h9 => h9) rfl dX6_endsAt_48 ?_
  have hPr := ((zo_R hR0 hS hAr)).sub (ws' := [(tpl, .inl (tcP, 6, .inr (.inr (.inr (.inr tfp)))))]) [5] rfl
  have hPc := hP.sub (ws' := [(tr, .inr (5, [.ref tlk, .ref tth, .ref tpl, .ref tgm, .int 0, .int 0, .int 1, .int (-1), .int 1, .int 7, .int 18, .int 7])), (tgm, .inr (2, [.int 1, .int 7, .int 0, .int 0, .int 0, .int (-1), .long 0])), (tp0, .inr (4, [.int 1, .int (-1), .int (-1), .int 7]))]) [0, 1, 2] rfl
  have hDc := hD.sub (ws' := [(tr, .inr (5, [.ref tlk, .ref tth, .ref tpl, .ref tgm, .int 0, .int 0, .int 1, .int (-1), .int 1, .int 7, .int 18, .int 7])), (tgm, .inr (2, [.int 1, .int 7, .int 0, .int 0, .int 0, .int (-1), .long 0])), (tp0, .inr (4, [.int 1, .int (-1), .int (-1), .int 7]))]) [0, 1, 2] (by decide) rfl
  have hKc := hK.sub (tys' := [(tcP, .object "LockRooms$Player")]) [1] rfl
  have hFc := va_free (wc := [(tr, .inr (5, [.ref tlk, .ref tth, .ref tpl, .ref tgm, .int 0, .int 0, .int 1, .int (-1), .int 1, .int 7, .int 18, .int 7])), (tgm, .inr (2, [.int 1, .int 7, .int 0, .int 0, .int 0, .int (-1), .long 0])), (tp0, .inr (4, [.int 1, .int (-1), .int (-1), .int 7]))]) hD hS hA [0, 1, 2] rfl
  refine va_calli (va_runV (As := []) (rest := []) ⟨hx, hb, hml, hown, hts⟩ (cz_RmidMinute l dC dI ed H22.size tr tlk tth tpl tgm tcP tfp tp0 7 hkt (by decide)) (cwV 0 hts gX6_endsAt_X3_letMinuteGoBy rfl rfl rfl (by decide +kernel) ⟨Nat.le_of_ble_eq_true rfl, Nat.le_of_ble_eq_true rfl⟩) ⟨zb_blind, va_recv hK hP (ci := 5) (q0 := 0) rfl rfl, fun U hU hW => ⟨rfl, zb_mk hU hW hPr hPc hKc hDc hN hH hS hFc (zx_cons (zx_r (hAr _ (List.mem_of_getElem? (i := 5) rfl)) hDc) zx_nil)⟩⟩ rfl rfl hl.1 rfl (lv_room (Nat.le_of_ble_eq_true rfl)) dX6_endsAt_51 ⟨Nat.le_of_ble_eq_true rfl, Nat.le_of_ble_eq_true rfl⟩) hS (fun q _ h => hFc q h) hFc (fun r26 u t H25 locs ht hvm hw hB hz1 hk1 hS => ?_)
  obtain rfl : r26 = 0 := hw
  obtain ⟨w1_27, hf27_0, hP1, hD1, hK1⟩ := hB
  obtain rfl : w1_27 = 8 := hf27_0.trans (by first | rfl | decide +kernel)
  rw [ht] at hP1
  obtain ⟨hP, hD⟩ := va_join (wr := []) (w1 := [(tr, .inr (5, [.ref tlk, .ref tth, .ref tpl, .ref tgm, .int 0, .int 0, .int 1, .int (-1), .int 1, .int 8, .int 18, .int 8])), (tgm, .inr (2, [.int 1, .int 8, .int 0, .int 0, .int 0, .int (-1), .long 0])), (tp0, .inr (4, [.int 1, .int (-1), .int (-1), .int 8]))]) hP hD [0, 1, 2] [] rfl rfl (by decide) (by decide) hk1 hFc hP1 hD1
  have hP : va_P (dC, dI) vwCl [(tr, .inr (5, [.ref tlk, .ref tth, .ref tpl, .ref tgm, .int 0, .int 0, .int 1, .int (-1), .int 1, .int 8, .int 18, .int 8])), (tgm, .inr (2, [.int 1, .int 8, .int 0, .int 0, .int 0, .int (-1), .long 0])), (tp0, .inr (4, [.int 1, .int (-1), .int (-1), .int 8]))] H25 := hP
  have hD : va_D A [(tr, .inr (5, [.ref tlk, .ref tth, .ref tpl, .ref tgm, .int 0, .int 0, .int 1, .int (-1), .int 1, .int 8, .int 18, .int 8])), (tgm, .inr (2, [.int 1, .int 8, .int 0, .int 0, .int 0, .int (-1), .long 0])), (tp0, .inr (4, [.int 1, .int (-1), .int (-1), .int 8]))] := hD
  refine lv_pop hx hb dX6_endsAt_54 rfl ?_
  refine lv_iinc (v := 8) (lv' := [(1, .int 8), (0, .ref x)]) hx hb dX6_endsAt_55 hl (k := 0) rfl (by decide) (by decide) rfl (fun ls hl => ?_)
  refine lv_goto (tgt := 28) hx hb dX6_endsAt_58 (by decide) ?_
  refine lv_iload_n hx hb dX6_endsAt_28 rfl (lv_at hl 0 rfl) ?_
  refine lv_bipush (v := 60) hx hb dX6_endsAt_29 (by decide) ?_
  refine lv_icmp_ge (tgt := 61) hx hb dX6_endsAt_31 (by decide) (fun h => absurd h (by decide)) (fun _ => ?_)
  refine lv_aload_n hx hb dX6_endsAt_34 rfl (lv_at hl 1 rfl) ?_
  refine va_get (D := (dC, dI)) (ci := 8) (v := .ref tr) (C := RX6) (T := TX6) (N := 3) hx hb hts zi_X6_endsAt_X6 hown hK (zo_R hR0 hS hAr) 0 rfl rfl 1 (by decide) (hts (.fieldLink RX6 16 "LockRooms" "trial" "LLockRooms$Room;") (by decide +kernel)) (fun _ h9 => h9) rfl dX6_endsAt_35 ?_
  refine va_get (D := (dC, dI)) (ci := 5) (v := .ref tgm) (C := RX3) (T := TX3) (N := 12) hx hb hts zi_X6_endsAt_X3 hown hK hP 0 rfl rfl 3 (by decide) (hts (.fieldLink RX6 41 "LockRooms$Room" "games" "LLockRooms$Games;") (by decide +kernel)) (fun _ h9 => h9) rfl dX6_endsAt_38 ?_
  refine va_get (D := (dC, dI)) (ci := 2) (v := .int 1) (C := RX0) (T := TX0) (N := 7) hx hb hts zi_X6_endsAt_X0 hown hK hP 1 rfl rfl 0 (by decide) (hts (.fieldLink RX6 45 "LockRooms$Games" "isRunning" "Z") (by decide +kernel)) (fun _ h9 => h9) rfl dX6_endsAt_41 ?_
  refine lv_if_eq (tgt := 61) hx hb dX6_endsAt_44 (by decide) (fun h => absurd h (by decide)) (fun _ => ?_)
  refine lv_aload_n hx hb dX6_endsAt_47 rfl (lv_at hl 1 rfl) ?_
  refine va_get (D := (dC, dI)) (ci := 8) (v := .ref tr) (C := RX6) (T := TX6) (N := 3) hx hb hts zi_X6_endsAt_X6 hown hK (zo_R hR0 hS hAr) 0 rfl rfl 1 (by decide) (hts (.fieldLink RX6 16 "LockRooms" "trial" "LLockRooms$Room;") (by decide +kernel)) (fun _ h9 => h9) rfl dX6_endsAt_48 ?_
  have hPr := ((zo_R hR0 hS hAr)).sub (ws' := [(tpl, .inl (tcP, 6, .inr (.inr (.inr (.inr tfp)))))]) [5] rfl
  have hPc := hP.sub (ws' := [(tr, .inr (5, [.ref tlk, .ref tth, .ref tpl, .ref tgm, .int 0, .int 0, .int 1, .int (-1), .int 1, .int 8, .int 18, .int 8])), (tgm, .inr (2, [.int 1, .int 8, .int 0, .int 0, .int 0, .int (-1), .long 0])), (tp0, .inr (4, [.int 1, .int (-1), .int (-1), .int 8]))]) [0, 1, 2] rfl
  have hDc := hD.sub (ws' := [(tr, .inr (5, [.ref tlk, .ref tth, .ref tpl, .ref tgm, .int 0, .int 0, .int 1, .int (-1), .int 1, .int 8, .int 18, .int 8])), (tgm, .inr (2, [.int 1, .int 8, .int 0, .int 0, .int 0, .int (-1), .long 0])), (tp0, .inr (4, [.int 1, .int (-1), .int (-1), .int 8]))]) [0, 1, 2] (by decide) rfl
  have hKc := hK.sub (tys' := [(tcP, .object "LockRooms$Player")]) [1] rfl
  have hFc := va_free (wc := [(tr, .inr (5, [.ref tlk, .ref tth, .ref tpl, .ref tgm, .int 0, .int 0, .int 1, .int (-1), .int 1, .int 8, .int 18, .int 8])), (tgm, .inr (2, [.int 1, .int 8, .int 0, .int 0, .int 0, .int (-1), .long 0])), (tp0, .inr (4, [.int 1, .int (-1), .int (-1), .int 8]))]) hD hS hA [0, 1, 2] rfl
  refine va_calli (va_runV (As := []) (rest := []) ⟨hx, hb, hml, hown, hts⟩ (cz_RmidMinute l dC dI ed H25.size tr tlk tth tpl tgm tcP tfp tp0 8 hkt (by decide)) (cwV 0 hts gX6_endsAt_X3_letMinuteGoBy rfl rfl rfl (by decide +kernel) ⟨Nat.le_of_ble_eq_true rfl, Nat.le_of_ble_eq_true rfl⟩) ⟨zb_blind, va_recv hK hP (ci := 5) (q0 := 0) rfl rfl, fun U hU hW => ⟨rfl, zb_mk hU hW hPr hPc hKc hDc hN hH hS hFc (zx_cons (zx_r (hAr _ (List.mem_of_getElem? (i := 5) rfl)) hDc) zx_nil)⟩⟩ rfl rfl hl.1 rfl (lv_room (Nat.le_of_ble_eq_true rfl)) dX6_endsAt_51 ⟨Nat.le_of_ble_eq_true rfl, Nat.le_of_ble_eq_true rfl⟩) hS (fun q _ h => hFc q h) hFc (fun r29 u t H28 locs ht hvm hw hB hz1 hk1 hS => ?_)
  obtain rfl : r29 = 0 := hw
  obtain ⟨w1_30, hf30_0, hP1, hD1, hK1⟩ := hB
  obtain rfl : w1_30 = 9 := hf30_0.trans (by first | rfl | decide +kernel)
  rw [ht] at hP1
  obtain ⟨hP, hD⟩ := va_join (wr := []) (w1 := [(tr, .inr (5, [.ref tlk, .ref tth, .ref tpl, .ref tgm, .int 0, .int 0, .int 1, .int (-1), .int 1, .int 9, .int 18, .int 9])), (tgm, .inr (2, [.int 1, .int 9, .int 0, .int 0, .int 0, .int (-1), .long 0])), (tp0, .inr (4, [.int 1, .int (-1), .int (-1), .int 9]))]) hP hD [0, 1, 2] [] rfl rfl (by decide) (by decide) hk1 hFc hP1 hD1
  have hP : va_P (dC, dI) vwCl [(tr, .inr (5, [.ref tlk, .ref tth, .ref tpl, .ref tgm, .int 0, .int 0, .int 1, .int (-1), .int 1, .int 9, .int 18, .int 9])), (tgm, .inr (2, [.int 1, .int 9, .int 0, .int 0, .int 0, .int (-1), .long 0])), (tp0, .inr (4, [.int 1, .int (-1), .int (-1), .int 9]))] H28 := hP
  have hD : va_D A [(tr, .inr (5, [.ref tlk, .ref tth, .ref tpl, .ref tgm, .int 0, .int 0, .int 1, .int (-1), .int 1, .int 9, .int 18, .int 9])), (tgm, .inr (2, [.int 1, .int 9, .int 0, .int 0, .int 0, .int (-1), .long 0])), (tp0, .inr (4, [.int 1, .int (-1), .int (-1), .int 9]))] := hD
  refine lv_pop hx hb dX6_endsAt_54 rfl ?_
  refine lv_iinc (v := 9) (lv' := [(1, .int 9), (0, .ref x)]) hx hb dX6_endsAt_55 hl (k := 0) rfl (by decide) (by decide) rfl (fun ls hl => ?_)
  refine lv_goto (tgt := 28) hx hb dX6_endsAt_58 (by decide) ?_
  refine lv_iload_n hx hb dX6_endsAt_28 rfl (lv_at hl 0 rfl) ?_
  refine lv_bipush (v := 60) hx hb dX6_endsAt_29 (by decide) ?_
  refine lv_icmp_ge (tgt := 61) hx hb dX6_endsAt_31 (by decide) (fun h => absurd h (by decide)) (fun _ => ?_)
  refine lv_aload_n hx hb dX6_endsAt_34 rfl (lv_at hl 1 rfl) ?_
  refine va_get (D := (dC, dI)) (ci := 8) (v := .ref tr) (C := RX6) (T := TX6) (N := 3) hx hb hts zi_X6_endsAt_X6 hown hK (zo_R hR0 hS hAr) 0 rfl rfl 1 (by decide) (hts (.fieldLink RX6 16 "LockRooms" "trial" "LLockRooms$Room;") (by decide +kernel)) (fun _ h9 => h9) rfl dX6_endsAt_35 ?_
  refine va_get (D := (dC, dI)) (ci := 5) (v := .ref tgm) (C := RX3) (T := TX3) (N := 12) hx hb hts zi_X6_endsAt_X3 hown hK hP 0 rfl rfl 3 (by decide) (hts (.fieldLink RX6 41 "LockRooms$Room" "games" "LLockRooms$Games;") (by decide +kernel)) (fun _ h9 => h9) rfl dX6_endsAt_38 ?_
  refine va_get (D := (dC, dI)) (ci := 2) (v := .int 1) (C := RX0) (T := TX0) (N := 7) hx hb hts zi_X6_endsAt_X0 hown hK hP 1 rfl rfl 0 (by decide) (hts (.fieldLink RX6 45 "LockRooms$Games" "isRunning" "Z") (by decide +kernel)) (fun _ h9 => h9) rfl dX6_endsAt_41 ?_
  refine lv_if_eq (tgt := 61) hx hb dX6_endsAt_44 (by decide) (fun h => absurd h (by decide)) (fun _ => ?_)
  refine lv_aload_n hx hb dX6_endsAt_47 rfl (lv_at hl 1 rfl) ?_
  refine va_get (D := (dC, dI)) (ci := 8) (v := .ref tr) (C := RX6) (T := TX6) (N := 3) hx hb hts zi_X6_endsAt_X6 hown hK (zo_R hR0 hS hAr) 0 rfl rfl 1 (by decide) (hts (.fieldLink RX6 16 "LockRooms" "trial" "LLockRooms$Room;") (by decide +kernel)) (fun _ h9 => h9) rfl dX6_endsAt_48 ?_
  have hPr := ((zo_R hR0 hS hAr)).sub (ws' := [(tpl, .inl (tcP, 6, .inr (.inr (.inr (.inr tfp)))))]) [5] rfl
  have hPc := hP.sub (ws' := [(tr, .inr (5, [.ref tlk, .ref tth, .ref tpl, .ref tgm, .int 0, .int 0, .int 1, .int (-1), .int 1, .int 9, .int 18, .int 9])), (tgm, .inr (2, [.int 1, .int 9, .int 0, .int 0, .int 0, .int (-1), .long 0])), (tp0, .inr (4, [.int 1, .int (-1), .int (-1), .int 9]))]) [0, 1, 2] rfl
  have hDc := hD.sub (ws' := [(tr, .inr (5, [.ref tlk, .ref tth, .ref tpl, .ref tgm, .int 0, .int 0, .int 1, .int (-1), .int 1, .int 9, .int 18, .int 9])), (tgm, .inr (2, [.int 1, .int 9, .int 0, .int 0, .int 0, .int (-1), .long 0])), (tp0, .inr (4, [.int 1, .int (-1), .int (-1), .int 9]))]) [0, 1, 2] (by decide) rfl
  have hKc := hK.sub (tys' := [(tcP, .object "LockRooms$Player")]) [1] rfl
  have hFc := va_free (wc := [(tr, .inr (5, [.ref tlk, .ref tth, .ref tpl, .ref tgm, .int 0, .int 0, .int 1, .int (-1), .int 1, .int 9, .int 18, .int 9])), (tgm, .inr (2, [.int 1, .int 9, .int 0, .int 0, .int 0, .int (-1), .long 0])), (tp0, .inr (4, [.int 1, .int (-1), .int (-1), .int 9]))]) hD hS hA [0, 1, 2] rfl
  refine va_calli (va_runV (As := []) (rest := []) ⟨hx, hb, hml, hown, hts⟩ (cz_RmidMinute l dC dI ed H28.size tr tlk tth tpl tgm tcP tfp tp0 9 hkt (by decide)) (cwV 0 hts gX6_endsAt_X3_letMinuteGoBy rfl rfl rfl (by decide +kernel) ⟨Nat.le_of_ble_eq_true rfl, Nat.le_of_ble_eq_true rfl⟩) ⟨zb_blind, va_recv hK hP (ci := 5) (q0 := 0) rfl rfl, fun U hU hW => ⟨rfl, zb_mk hU hW hPr hPc hKc hDc hN hH hS hFc (zx_cons (zx_r (hAr _ (List.mem_of_getElem? (i := 5) rfl)) hDc) zx_nil)⟩⟩ rfl rfl hl.1 rfl (lv_room (Nat.le_of_ble_eq_true rfl)) dX6_endsAt_51 ⟨Nat.le_of_ble_eq_true rfl, Nat.le_of_ble_eq_true rfl⟩) hS (fun q _ h => hFc q h) hFc (fun r32 u t H31 locs ht hvm hw hB hz1 hk1 hS => ?_)
  obtain rfl : r32 = 0 := hw
  obtain ⟨w1_33, hf33_0, hP1, hD1, hK1⟩ := hB
  obtain rfl : w1_33 = 10 := hf33_0.trans (by first | rfl | decide +kernel)
  rw [ht] at hP1
  obtain ⟨hP, hD⟩ := va_join (wr := []) (w1 := [(tr, .inr (5, [.ref tlk, .ref tth, .ref tpl, .ref tgm, .int 0, .int 0, .int 1, .int (-1), .int 1, .int 10, .int 18, .int 10])), (tgm, .inr (2, [.int 1, .int 10, .int 0, .int 0, .int 0, .int (-1), .long 0])), (tp0, .inr (4, [.int 1, .int (-1), .int (-1), .int 10]))]) hP hD [0, 1, 2] [] rfl rfl (by decide) (by decide) hk1 hFc hP1 hD1
  have hP : va_P (dC, dI) vwCl [(tr, .inr (5, [.ref tlk, .ref tth, .ref tpl, .ref tgm, .int 0, .int 0, .int 1, .int (-1), .int 1, .int 10, .int 18, .int 10])), (tgm, .inr (2, [.int 1, .int 10, .int 0, .int 0, .int 0, .int (-1), .long 0])), (tp0, .inr (4, [.int 1, .int (-1), .int (-1), .int 10]))] H31 := hP
  have hD : va_D A [(tr, .inr (5, [.ref tlk, .ref tth, .ref tpl, .ref tgm, .int 0, .int 0, .int 1, .int (-1), .int 1, .int 10, .int 18, .int 10])), (tgm, .inr (2, [.int 1, .int 10, .int 0, .int 0, .int 0, .int (-1), .long 0])), (tp0, .inr (4, [.int 1, .int (-1), .int (-1), .int 10]))] := hD
  refine lv_pop hx hb dX6_endsAt_54 rfl ?_
  refine lv_iinc (v := 10) (lv' := [(1, .int 10), (0, .ref x)]) hx hb dX6_endsAt_55 hl (k := 0) rfl (by decide) (by decide) rfl (fun ls hl => ?_)
  refine lv_goto (tgt := 28) hx hb dX6_endsAt_58 (by decide) ?_
  refine lv_iload_n hx hb dX6_endsAt_28 rfl (lv_at hl 0 rfl) ?_
  refine lv_bipush (v := 60) hx hb dX6_endsAt_29 (by decide) ?_
  refine lv_icmp_ge (tgt := 61) hx hb dX6_endsAt_31 (by decide) (fun h => absurd h (by decide)) (fun _ => ?_)
  refine lv_aload_n hx hb dX6_endsAt_34 rfl (lv_at hl 1 rfl) ?_
  refine va_get (D := (dC, dI)) (ci := 8) (v := .ref tr) (C := RX6) (T := TX6) (N := 3) hx hb hts zi_X6_endsAt_X6 hown hK (zo_R hR0 hS hAr) 0 rfl rfl 1 (by decide) (hts (.fieldLink RX6 16 "LockRooms" "trial" "LLockRooms$Room;") (by decide +kernel)) (fun _ h9 => h9) rfl dX6_endsAt_35 ?_
  refine va_get (D := (dC, dI)) (ci := 5) (v := .ref tgm) (C := RX3) (T := TX3) (N := 12) hx hb hts zi_X6_endsAt_X3 hown hK hP 0 rfl rfl 3 (by decide) (hts (.fieldLink RX6 41 "LockRooms$Room" "games" "LLockRooms$Games;") (by decide +kernel)) (fun _ h9 => h9) rfl dX6_endsAt_38 ?_
  refine va_get (D := (dC, dI)) (ci := 2) (v := .int 1) (C := RX0) (T := TX0) (N := 7) hx hb hts zi_X6_endsAt_X0 hown hK hP 1 rfl rfl 0 (by decide) (hts (.fieldLink RX6 45 "LockRooms$Games" "isRunning" "Z") (by decide +kernel)) (fun _ h9 => h9) rfl dX6_endsAt_41 ?_
  refine lv_if_eq (tgt := 61) hx hb dX6_endsAt_44 (by decide) (fun h => absurd h (by decide)) (fun _ => ?_)
  refine lv_aload_n hx hb dX6_endsAt_47 rfl (lv_at hl 1 rfl) ?_
  refine va_get (D := (dC, dI)) (ci := 8) (v := .ref tr) (C := RX6) (T := TX6) (N := 3) hx hb hts zi_X6_endsAt_X6 hown hK (zo_R hR0 hS hAr) 0 rfl rfl 1 (by decide) (hts (.fieldLink RX6 16 "LockRooms" "trial" "LLockRooms$Room;") (by decide +kernel)) (fun _ h9 => h9) rfl dX6_endsAt_48 ?_
  have hPr := ((zo_R hR0 hS hAr)).sub (ws' := [(tpl, .inl (tcP, 6, .inr (.inr (.inr (.inr tfp)))))]) [5] rfl
  have hPc := hP.sub (ws' := [(tr, .inr (5, [.ref tlk, .ref tth, .ref tpl, .ref tgm, .int 0, .int 0, .int 1, .int (-1), .int 1, .int 10, .int 18, .int 10])), (tgm, .inr (2, [.int 1, .int 10, .int 0, .int 0, .int 0, .int (-1), .long 0])), (tp0, .inr (4, [.int 1, .int (-1), .int (-1), .int 10]))]) [0, 1, 2] rfl
  have hDc := hD.sub (ws' := [(tr, .inr (5, [.ref tlk, .ref tth, .ref tpl, .ref tgm, .int 0, .int 0, .int 1, .int (-1), .int 1, .int 10, .int 18, .int 10])), (tgm, .inr (2, [.int 1, .int 10, .int 0, .int 0, .int 0, .int (-1), .long 0])), (tp0, .inr (4, [.int 1, .int (-1), .int (-1), .int 10]))]) [0, 1, 2] (by decide) rfl
  have hKc := hK.sub (tys' := [(tcP, .object "LockRooms$Player")]) [1] rfl
  have hFc := va_free (wc := [(tr, .inr (5, [.ref tlk, .ref tth, .ref tpl, .ref tgm, .int 0, .int 0, .int 1, .int (-1), .int 1, .int 10, .int 18, .int 10])), (tgm, .inr (2, [.int 1, .int 10, .int 0, .int 0, .int 0, .int (-1), .long 0])), (tp0, .inr (4, [.int 1, .int (-1), .int (-1), .int 10]))]) hD hS hA [0, 1, 2] rfl
  refine va_calli (va_runV (As := []) (rest := []) ⟨hx, hb, hml, hown, hts⟩ (cz_RmidMinute l dC dI ed H31.size tr tlk tth tpl tgm tcP tfp tp0 10 hkt (by decide)) (cwV 0 hts gX6_endsAt_X3_letMinuteGoBy rfl rfl rfl (by decide +kernel) ⟨Nat.le_of_ble_eq_true rfl, Nat.le_of_ble_eq_true rfl⟩) ⟨zb_blind, va_recv hK hP (ci := 5) (q0 := 0) rfl rfl, fun U hU hW => ⟨rfl, zb_mk hU hW hPr hPc hKc hDc hN hH hS hFc (zx_cons (zx_r (hAr _ (List.mem_of_getElem? (i := 5) rfl)) hDc) zx_nil)⟩⟩ rfl rfl hl.1 rfl (lv_room (Nat.le_of_ble_eq_true rfl)) dX6_endsAt_51 ⟨Nat.le_of_ble_eq_true rfl, Nat.le_of_ble_eq_true rfl⟩) hS (fun q _ h => hFc q h) hFc (fun r35 u t H34 locs ht hvm hw hB hz1 hk1 hS => ?_)
  obtain rfl : r35 = 0 := hw
  obtain ⟨w1_36, hf36_0, hP1, hD1, hK1⟩ := hB
  obtain rfl : w1_36 = 11 := hf36_0.trans (by first | rfl | decide +kernel)
  rw [ht] at hP1
  obtain ⟨hP, hD⟩ := va_join (wr := []) (w1 := [(tr, .inr (5, [.ref tlk, .ref tth, .ref tpl, .ref tgm, .int 0, .int 0, .int 1, .int (-1), .int 1, .int 11, .int 18, .int 11])), (tgm, .inr (2, [.int 1, .int 11, .int 0, .int 0, .int 0, .int (-1), .long 0])), (tp0, .inr (4, [.int 1, .int (-1), .int (-1), .int 11]))]) hP hD [0, 1, 2] [] rfl rfl (by decide) (by decide) hk1 hFc hP1 hD1
  have hP : va_P (dC, dI) vwCl [(tr, .inr (5, [.ref tlk, .ref tth, .ref tpl, .ref tgm, .int 0, .int 0, .int 1, .int (-1), .int 1, .int 11, .int 18, .int 11])), (tgm, .inr (2, [.int 1, .int 11, .int 0, .int 0, .int 0, .int (-1), .long 0])), (tp0, .inr (4, [.int 1, .int (-1), .int (-1), .int 11]))] H34 := hP
  have hD : va_D A [(tr, .inr (5, [.ref tlk, .ref tth, .ref tpl, .ref tgm, .int 0, .int 0, .int 1, .int (-1), .int 1, .int 11, .int 18, .int 11])), (tgm, .inr (2, [.int 1, .int 11, .int 0, .int 0, .int 0, .int (-1), .long 0])), (tp0, .inr (4, [.int 1, .int (-1), .int (-1), .int 11]))] := hD
  refine lv_pop hx hb dX6_endsAt_54 rfl ?_
  refine lv_iinc (v := 11) (lv' := [(1, .int 11), (0, .ref x)]) hx hb dX6_endsAt_55 hl (k := 0) rfl (by decide) (by decide) rfl (fun ls hl => ?_)
  refine lv_goto (tgt := 28) hx hb dX6_endsAt_58 (by decide) ?_
  refine lv_iload_n hx hb dX6_endsAt_28 rfl (lv_at hl 0 rfl) ?_
  refine lv_bipush (v := 60) hx hb dX6_endsAt_29 (by decide) ?_
  refine lv_icmp_ge (tgt := 61) hx hb dX6_endsAt_31 (by decide) (fun h => absurd h (by decide)) (fun _ => ?_)
  refine lv_aload_n hx hb dX6_endsAt_34 rfl (lv_at hl 1 rfl) ?_
  refine va_get (D := (dC, dI)) (ci := 8) (v := .ref tr) (C := RX6) (T := TX6) (N := 3) hx hb hts zi_X6_endsAt_X6 hown hK (zo_R hR0 hS hAr) 0 rfl rfl 1 (by decide) (hts (.fieldLink RX6 16 "LockRooms" "trial" "LLockRooms$Room;") (by decide +kernel)) (fun _ h9 => h9) rfl dX6_endsAt_35 ?_
  refine va_get (D := (dC, dI)) (ci := 5) (v := .ref tgm) (C := RX3) (T := TX3) (N := 12) hx hb hts zi_X6_endsAt_X3 hown hK hP 0 rfl rfl 3 (by decide) (hts (.fieldLink RX6 41 "LockRooms$Room" "games" "LLockRooms$Games;") (by decide +kernel)) (fun _ h9 => h9) rfl dX6_endsAt_38 ?_
  refine va_get (D := (dC, dI)) (ci := 2) (v := .int 1) (C := RX0) (T := TX0) (N := 7) hx hb hts zi_X6_endsAt_X0 hown hK hP 1 rfl rfl 0 (by decide) (hts (.fieldLink RX6 45 "LockRooms$Games" "isRunning" "Z") (by decide +kernel)) (fun _ h9 => h9) rfl dX6_endsAt_41 ?_
  refine lv_if_eq (tgt := 61) hx hb dX6_endsAt_44 (by decide) (fun h => absurd h (by decide)) (fun _ => ?_)
  refine lv_aload_n hx hb dX6_endsAt_47 rfl (lv_at hl 1 rfl) ?_
  refine va_get (D := (dC, dI)) (ci := 8) (v := .ref tr) (C := RX6) (T := TX6) (N := 3) hx hb hts zi_X6_endsAt_X6 hown hK (zo_R hR0 hS hAr) 0 rfl rfl 1 (by decide) (hts (.fieldLink RX6 16 "LockRooms" "trial" "LLockRooms$Room;") (by decide +kernel)) (fun _ h9 => h9) rfl dX6_endsAt_48 ?_
  have hPr := ((zo_R hR0 hS hAr)).sub (ws' := [(tpl, .inl (tcP, 6, .inr (.inr (.inr (.inr tfp)))))]) [5] rfl
  have hPc := hP.sub (ws' := [(tr, .inr (5, [.ref tlk, .ref tth, .ref tpl, .ref tgm, .int 0, .int 0, .int 1, .int (-1), .int 1, .int 11, .int 18, .int 11])), (tgm, .inr (2, [.int 1, .int 11, .int 0, .int 0, .int 0, .int (-1), .long 0])), (tp0, .inr (4, [.int 1, .int (-1), .int (-1), .int 11]))]) [0, 1, 2] rfl
  have hDc := hD.sub (ws' := [(tr, .inr (5, [.ref tlk, .ref tth, .ref tpl, .ref tgm, .int 0, .int 0, .int 1, .int (-1), .int 1, .int 11, .int 18, .int 11])), (tgm, .inr (2, [.int 1, .int 11, .int 0, .int 0, .int 0, .int (-1), .long 0])), (tp0, .inr (4, [.int 1, .int (-1), .int (-1), .int 11]))]) [0, 1, 2] (by decide) rfl
  have hKc := hK.sub (tys' := [(tcP, .object "LockRooms$Player")]) [1] rfl
  have hFc := va_free (wc := [(tr, .inr (5, [.ref tlk, .ref tth, .ref tpl, .ref tgm, .int 0, .int 0, .int 1, .int (-1), .int 1, .int 11, .int 18, .int 11])), (tgm, .inr (2, [.int 1, .int 11, .int 0, .int 0, .int 0, .int (-1), .long 0])), (tp0, .inr (4, [.int 1, .int (-1), .int (-1), .int 11]))]) hD hS hA [0, 1, 2] rfl
  refine va_calli (va_runV (As := []) (rest := []) ⟨hx, hb, hml, hown, hts⟩ (cz_RmidMinute l dC dI ed H34.size tr tlk tth tpl tgm tcP tfp tp0 11 hkt (by decide)) (cwV 0 hts gX6_endsAt_X3_letMinuteGoBy rfl rfl rfl (by decide +kernel) ⟨Nat.le_of_ble_eq_true rfl, Nat.le_of_ble_eq_true rfl⟩) ⟨zb_blind, va_recv hK hP (ci := 5) (q0 := 0) rfl rfl, fun U hU hW => ⟨rfl, zb_mk hU hW hPr hPc hKc hDc hN hH hS hFc (zx_cons (zx_r (hAr _ (List.mem_of_getElem? (i := 5) rfl)) hDc) zx_nil)⟩⟩ rfl rfl hl.1 rfl (lv_room (Nat.le_of_ble_eq_true rfl)) dX6_endsAt_51 ⟨Nat.le_of_ble_eq_true rfl, Nat.le_of_ble_eq_true rfl⟩) hS (fun q _ h => hFc q h) hFc (fun r38 u t H37 locs ht hvm hw hB hz1 hk1 hS => ?_)
  obtain rfl : r38 = 0 := hw
  obtain ⟨w1_39, hf39_0, hP1, hD1, hK1⟩ := hB
  obtain rfl : w1_39 = 12 := hf39_0.trans (by first | rfl | decide +kernel)
  rw [ht] at hP1
  obtain ⟨hP, hD⟩ := va_join (wr := []) (w1 := [(tr, .inr (5, [.ref tlk, .ref tth, .ref tpl, .ref tgm, .int 0, .int 0, .int 1, .int (-1), .int 1, .int 12, .int 18, .int 12])), (tgm, .inr (2, [.int 1, .int 12, .int 0, .int 0, .int 0, .int (-1), .long 0])), (tp0, .inr (4, [.int 1, .int (-1), .int (-1), .int 12]))]) hP hD [0, 1, 2] [] rfl rfl (by decide) (by decide) hk1 hFc hP1 hD1
  have hP : va_P (dC, dI) vwCl [(tr, .inr (5, [.ref tlk, .ref tth, .ref tpl, .ref tgm, .int 0, .int 0, .int 1, .int (-1), .int 1, .int 12, .int 18, .int 12])), (tgm, .inr (2, [.int 1, .int 12, .int 0, .int 0, .int 0, .int (-1), .long 0])), (tp0, .inr (4, [.int 1, .int (-1), .int (-1), .int 12]))] H37 := hP
  have hD : va_D A [(tr, .inr (5, [.ref tlk, .ref tth, .ref tpl, .ref tgm, .int 0, .int 0, .int 1, .int (-1), .int 1, .int 12, .int 18, .int 12])), (tgm, .inr (2, [.int 1, .int 12, .int 0, .int 0, .int 0, .int (-1), .long 0])), (tp0, .inr (4, [.int 1, .int (-1), .int (-1), .int 12]))] := hD
  refine lv_pop hx hb dX6_endsAt_54 rfl ?_
  refine lv_iinc (v := 12) (lv' := [(1, .int 12), (0, .ref x)]) hx hb dX6_endsAt_55 hl (k := 0) rfl (by decide) (by decide) rfl (fun ls hl => ?_)
  refine lv_goto (tgt := 28) hx hb dX6_endsAt_58 (by decide) ?_
  refine lv_iload_n hx hb dX6_endsAt_28 rfl (lv_at hl 0 rfl) ?_
  refine lv_bipush (v := 60) hx hb dX6_endsAt_29 (by decide) ?_
  refine lv_icmp_ge (tgt := 61) hx hb dX6_endsAt_31 (by decide) (fun h => absurd h (by decide)) (fun _ => ?_)
  refine lv_aload_n hx hb dX6_endsAt_34 rfl (lv_at hl 1 rfl) ?_
  refine va_get (D := (dC, dI)) (ci := 8) (v := .ref tr) (C := RX6) (T := TX6) (N := 3) hx hb hts zi_X6_endsAt_X6 hown hK (zo_R hR0 hS hAr) 0 rfl rfl 1 (by decide) (hts (.fieldLink RX6 16 "LockRooms" "trial" "LLockRooms$Room;") (by decide +kernel)) (fun _ h9 => h9) rfl dX6_endsAt_35 ?_
  refine va_get (D := (dC, dI)) (ci := 5) (v := .ref tgm) (C := RX3) (T := TX3) (N := 12) hx hb hts zi_X6_endsAt_X3 hown hK hP 0 rfl rfl 3 (by decide) (hts (.fieldLink RX6 41 "LockRooms$Room" "games" "LLockRooms$Games;") (by decide +kernel)) (fun _ h9 => h9) rfl dX6_endsAt_38 ?_
  refine va_get (D := (dC, dI)) (ci := 2) (v := .int 1) (C := RX0) (T := TX0) (N := 7) hx hb hts zi_X6_endsAt_X0 hown hK hP 1 rfl rfl 0 (by decide) (hts (.fieldLink RX6 45 "LockRooms$Games" "isRunning" "Z") (by decide +kernel)) (fun _ h9 => h9) rfl dX6_endsAt_41 ?_
  refine lv_if_eq (tgt := 61) hx hb dX6_endsAt_44 (by decide) (fun h => absurd h (by decide)) (fun _ => ?_)
  refine lv_aload_n hx hb dX6_endsAt_47 rfl (lv_at hl 1 rfl) ?_
  refine va_get (D := (dC, dI)) (ci := 8) (v := .ref tr) (C := RX6) (T := TX6) (N := 3) hx hb hts zi_X6_endsAt_X6 hown hK (zo_R hR0 hS hAr) 0 rfl rfl 1 (by decide) (hts (.fieldLink RX6 16 "LockRooms" "trial" "LLockRooms$Room;") (by decide +kernel)) (fun _ h9 => h9) rfl dX6_endsAt_48 ?_
  have hPr := ((zo_R hR0 hS hAr)).sub (ws' := [(tpl, .inl (tcP, 6, .inr (.inr (.inr (.inr tfp)))))]) [5] rfl
  have hPc := hP.sub (ws' := [(tr, .inr (5, [.ref tlk, .ref tth, .ref tpl, .ref tgm, .int 0, .int 0, .int 1, .int (-1), .int 1, .int 12, .int 18, .int 12])), (tgm, .inr (2, [.int 1, .int 12, .int 0, .int 0, .int 0, .int (-1), .long 0])), (tp0, .inr (4, [.int 1, .int (-1), .int (-1), .int 12]))]) [0, 1, 2] rfl
  have hDc := hD.sub (ws' := [(tr, .inr (5, [.ref tlk, .ref tth, .ref tpl, .ref tgm, .int 0, .int 0, .int 1, .int (-1), .int 1, .int 12, .int 18, .int 12])), (tgm, .inr (2, [.int 1, .int 12, .int 0, .int 0, .int 0, .int (-1), .long 0])), (tp0, .inr (4, [.int 1, .int (-1), .int (-1), .int 12]))]) [0, 1, 2] (by decide) rfl
  have hKc := hK.sub (tys' := [(tcP, .object "LockRooms$Player")]) [1] rfl
  have hFc := va_free (wc := [(tr, .inr (5, [.ref tlk, .ref tth, .ref tpl, .ref tgm, .int 0, .int 0, .int 1, .int (-1), .int 1, .int 12, .int 18, .int 12])), (tgm, .inr (2, [.int 1, .int 12, .int 0, .int 0, .int 0, .int (-1), .long 0])), (tp0, .inr (4, [.int 1, .int (-1), .int (-1), .int 12]))]) hD hS hA [0, 1, 2] rfl
  refine va_calli (va_runV (As := []) (rest := []) ⟨hx, hb, hml, hown, hts⟩ (cz_RmidMinute l dC dI ed H37.size tr tlk tth tpl tgm tcP tfp tp0 12 hkt (by decide)) (cwV 0 hts gX6_endsAt_X3_letMinuteGoBy rfl rfl rfl (by decide +kernel) ⟨Nat.le_of_ble_eq_true rfl, Nat.le_of_ble_eq_true rfl⟩) ⟨zb_blind, va_recv hK hP (ci := 5) (q0 := 0) rfl rfl, fun U hU hW => ⟨rfl, zb_mk hU hW hPr hPc hKc hDc hN hH hS hFc (zx_cons (zx_r (hAr _ (List.mem_of_getElem? (i := 5) rfl)) hDc) zx_nil)⟩⟩ rfl rfl hl.1 rfl (lv_room (Nat.le_of_ble_eq_true rfl)) dX6_endsAt_51 ⟨Nat.le_of_ble_eq_true rfl, Nat.le_of_ble_eq_true rfl⟩) hS (fun q _ h => hFc q h) hFc (fun r41 u t H40 locs ht hvm hw hB hz1 hk1 hS => ?_)
  obtain rfl : r41 = 0 := hw
  obtain ⟨w1_42, hf42_0, hP1, hD1, hK1⟩ := hB
  obtain rfl : w1_42 = 13 := hf42_0.trans (by first | rfl | decide +kernel)
  rw [ht] at hP1
  obtain ⟨hP, hD⟩ := va_join (wr := []) (w1 := [(tr, .inr (5, [.ref tlk, .ref tth, .ref tpl, .ref tgm, .int 0, .int 0, .int 1, .int (-1), .int 1, .int 13, .int 18, .int 13])), (tgm, .inr (2, [.int 1, .int 13, .int 0, .int 0, .int 0, .int (-1), .long 0])), (tp0, .inr (4, [.int 1, .int (-1), .int (-1), .int 13]))]) hP hD [0, 1, 2] [] rfl rfl (by decide) (by decide) hk1 hFc hP1 hD1
  have hP : va_P (dC, dI) vwCl [(tr, .inr (5, [.ref tlk, .ref tth, .ref tpl, .ref tgm, .int 0, .int 0, .int 1, .int (-1), .int 1, .int 13, .int 18, .int 13])), (tgm, .inr (2, [.int 1, .int 13, .int 0, .int 0, .int 0, .int (-1), .long 0])), (tp0, .inr (4, [.int 1, .int (-1), .int (-1), .int 13]))] H40 := hP
  have hD : va_D A [(tr, .inr (5, [.ref tlk, .ref tth, .ref tpl, .ref tgm, .int 0, .int 0, .int 1, .int (-1), .int 1, .int 13, .int 18, .int 13])), (tgm, .inr (2, [.int 1, .int 13, .int 0, .int 0, .int 0, .int (-1), .long 0])), (tp0, .inr (4, [.int 1, .int (-1), .int (-1), .int 13]))] := hD
  refine lv_pop hx hb dX6_endsAt_54 rfl ?_
  refine lv_iinc (v := 13) (lv' := [(1, .int 13), (0, .ref x)]) hx hb dX6_endsAt_55 hl (k := 0) rfl (by decide) (by decide) rfl (fun ls hl => ?_)
  refine lv_goto (tgt := 28) hx hb dX6_endsAt_58 (by decide) ?_
  refine lv_iload_n hx hb dX6_endsAt_28 rfl (lv_at hl 0 rfl) ?_
  refine lv_bipush (v := 60) hx hb dX6_endsAt_29 (by decide) ?_
  refine lv_icmp_ge (tgt := 61) hx hb dX6_endsAt_31 (by decide) (fun h => absurd h (by decide)) (fun _ => ?_)
  refine lv_aload_n hx hb dX6_endsAt_34 rfl (lv_at hl 1 rfl) ?_
  refine va_get (D := (dC, dI)) (ci := 8) (v := .ref tr) (C := RX6) (T := TX6) (N := 3) hx hb hts zi_X6_endsAt_X6 hown hK (zo_R hR0 hS hAr) 0 rfl rfl 1 (by decide) (hts (.fieldLink RX6 16 "LockRooms" "trial" "LLockRooms$Room;") (by decide +kernel)) (fun _ h9 => h9) rfl dX6_endsAt_35 ?_
  refine va_get (D := (dC, dI)) (ci := 5) (v := .ref tgm) (C := RX3) (T := TX3) (N := 12) hx hb hts zi_X6_endsAt_X3 hown hK hP 0 rfl rfl 3 (by decide) (hts (.fieldLink RX6 41 "LockRooms$Room" "games" "LLockRooms$Games;") (by decide +kernel)) (fun _ h9 => h9) rfl dX6_endsAt_38 ?_
  refine va_get (D := (dC, dI)) (ci := 2) (v := .int 1) (C := RX0) (T := TX0) (N := 7) hx hb hts zi_X6_endsAt_X0 hown hK hP 1 rfl rfl 0 (by decide) (hts (.fieldLink RX6 45 "LockRooms$Games" "isRunning" "Z") (by decide +kernel)) (fun _ h9 => h9) rfl dX6_endsAt_41 ?_
  refine lv_if_eq (tgt := 61) hx hb dX6_endsAt_44 (by decide) (fun h => absurd h (by decide)) (fun _ => ?_)
  refine lv_aload_n hx hb dX6_endsAt_47 rfl (lv_at hl 1 rfl) ?_
  refine va_get (D := (dC, dI)) (ci := 8) (v := .ref tr) (C := RX6) (T := TX6) (N := 3) hx hb hts zi_X6_endsAt_X6 hown hK (zo_R hR0 hS hAr) 0 rfl rfl 1 (by decide) (hts (.fieldLink RX6 16 "LockRooms" "trial" "LLockRooms$Room;") (by decide +kernel)) (fun _ h9 => h9) rfl dX6_endsAt_48 ?_
  have hPr := ((zo_R hR0 hS hAr)).sub (ws' := [(tpl, .inl (tcP, 6, .inr (.inr (.inr (.inr tfp)))))]) [5] rfl
  have hPc := hP.sub (ws' := [(tr, .inr (5, [.ref tlk, .ref tth, .ref tpl, .ref tgm, .int 0, .int 0, .int 1, .int (-1), .int 1, .int 13, .int 18, .int 13])), (tgm, .inr (2, [.int 1, .int 13, .int 0, .int 0, .int 0, .int (-1), .long 0])), (tp0, .inr (4, [.int 1, .int (-1), .int (-1), .int 13]))]) [0, 1, 2] rfl
  have hDc := hD.sub (ws' := [(tr, .inr (5, [.ref tlk, .ref tth, .ref tpl, .ref tgm, .int 0, .int 0, .int 1, .int (-1), .int 1, .int 13, .int 18, .int 13])), (tgm, .inr (2, [.int 1, .int 13, .int 0, .int 0, .int 0, .int (-1), .long 0])), (tp0, .inr (4, [.int 1, .int (-1), .int (-1), .int 13]))]) [0, 1, 2] (by decide) rfl
  have hKc := hK.sub (tys' := [(tcP, .object "LockRooms$Player")]) [1] rfl
  have hFc := va_free (wc := [(tr, .inr (5, [.ref tlk, .ref tth, .ref tpl, .ref tgm, .int 0, .int 0, .int 1, .int (-1), .int 1, .int 13, .int 18, .int 13])), (tgm, .inr (2, [.int 1, .int 13, .int 0, .int 0, .int 0, .int (-1), .long 0])), (tp0, .inr (4, [.int 1, .int (-1), .int (-1), .int 13]))]) hD hS hA [0, 1, 2] rfl
  refine va_calli (va_runV (As := []) (rest := []) ⟨hx, hb, hml, hown, hts⟩ (cz_RmidMinute l dC dI ed H40.size tr tlk tth tpl tgm tcP tfp tp0 13 hkt (by decide)) (cwV 0 hts gX6_endsAt_X3_letMinuteGoBy rfl rfl rfl (by decide +kernel) ⟨Nat.le_of_ble_eq_true rfl, Nat.le_of_ble_eq_true rfl⟩) ⟨zb_blind, va_recv hK hP (ci := 5) (q0 := 0) rfl rfl, fun U hU hW => ⟨rfl, zb_mk hU hW hPr hPc hKc hDc hN hH hS hFc (zx_cons (zx_r (hAr _ (List.mem_of_getElem? (i := 5) rfl)) hDc) zx_nil)⟩⟩ rfl rfl hl.1 rfl (lv_room (Nat.le_of_ble_eq_true rfl)) dX6_endsAt_51 ⟨Nat.le_of_ble_eq_true rfl, Nat.le_of_ble_eq_true rfl⟩) hS (fun q _ h => hFc q h) hFc (fun r44 u t H43 locs ht hvm hw hB hz1 hk1 hS => ?_)
  obtain rfl : r44 = 0 := hw
  obtain ⟨w1_45, hf45_0, hP1, hD1, hK1⟩ := hB
  obtain rfl : w1_45 = 14 := hf45_0.trans (by first | rfl | decide +kernel)
  rw [ht] at hP1
  obtain ⟨hP, hD⟩ := va_join (wr := []) (w1 := [(tr, .inr (5, [.ref tlk, .ref tth, .ref tpl, .ref tgm, .int 0, .int 0, .int 1, .int (-1), .int 1, .int 14, .int 18, .int 14])), (tgm, .inr (2, [.int 1, .int 14, .int 0, .int 0, .int 0, .int (-1), .long 0])), (tp0, .inr (4, [.int 1, .int (-1), .int (-1), .int 14]))]) hP hD [0, 1, 2] [] rfl rfl (by decide) (by decide) hk1 hFc hP1 hD1
  have hP : va_P (dC, dI) vwCl [(tr, .inr (5, [.ref tlk, .ref tth, .ref tpl, .ref tgm, .int 0, .int 0, .int 1, .int (-1), .int 1, .int 14, .int 18, .int 14])), (tgm, .inr (2, [.int 1, .int 14, .int 0, .int 0, .int 0, .int (-1), .long 0])), (tp0, .inr (4, [.int 1, .int (-1), .int (-1), .int 14]))] H43 := hP
  have hD : va_D A [(tr, .inr (5, [.ref tlk, .ref tth, .ref tpl, .ref tgm, .int 0, .int 0, .int 1, .int (-1), .int 1, .int 14, .int 18, .int 14])), (tgm, .inr (2, [.int 1, .int 14, .int 0, .int 0, .int 0, .int (-1), .long 0])), (tp0, .inr (4, [.int 1, .int (-1), .int (-1), .int 14]))] := hD
  refine lv_pop hx hb dX6_endsAt_54 rfl ?_
  refine lv_iinc (v := 14) (lv' := [(1, .int 14), (0, .ref x)]) hx hb dX6_endsAt_55 hl (k := 0) rfl (by decide) (by decide) rfl (fun ls hl => ?_)
  refine lv_goto (tgt := 28) hx hb dX6_endsAt_58 (by decide) ?_
  refine lv_iload_n hx hb dX6_endsAt_28 rfl (lv_at hl 0 rfl) ?_
  refine lv_bipush (v := 60) hx hb dX6_endsAt_29 (by decide) ?_
  refine lv_icmp_ge (tgt := 61) hx hb dX6_endsAt_31 (by decide) (fun h => absurd h (by decide)) (fun _ => ?_)
  refine lv_aload_n hx hb dX6_endsAt_34 rfl (lv_at hl 1 rfl) ?_
  refine va_get (D := (dC, dI)) (ci := 8) (v := .ref tr) (C := RX6) (T := TX6) (N := 3) hx hb hts zi_X6_endsAt_X6 hown hK (zo_R hR0 hS hAr) 0 rfl rfl 1 (by decide) (hts (.fieldLink RX6 16 "LockRooms" "trial" "LLockRooms$Room;") (by decide +kernel)) (fun _ h9 => h9) rfl dX6_endsAt_35 ?_
  refine va_get (D := (dC, dI)) (ci := 5) (v := .ref tgm) (C := RX3) (T := TX3) (N := 12) hx hb hts zi_X6_endsAt_X3 hown hK hP 0 rfl rfl 3 (by decide) (hts (.fieldLink RX6 41 "LockRooms$Room" "games" "LLockRooms$Games;") (by decide +kernel)) (fun _ h9 => h9) rfl dX6_endsAt_38 ?_
  refine va_get (D := (dC, dI)) (ci := 2) (v := .int 1) (C := RX0) (T := TX0) (N := 7) hx hb hts zi_X6_endsAt_X0 hown hK hP 1 rfl rfl 0 (by decide) (hts (.fieldLink RX6 45 "LockRooms$Games" "isRunning" "Z") (by decide +kernel)) (fun _ h9 => h9) rfl dX6_endsAt_41 ?_
  refine lv_if_eq (tgt := 61) hx hb dX6_endsAt_44 (by decide) (fun h => absurd h (by decide)) (fun _ => ?_)
  refine lv_aload_n hx hb dX6_endsAt_47 rfl (lv_at hl 1 rfl) ?_
  refine va_get (D := (dC, dI)) (ci := 8) (v := .ref tr) (C := RX6) (T := TX6) (N := 3) hx hb hts zi_X6_endsAt_X6 hown hK (zo_R hR0 hS hAr) 0 rfl rfl 1 (by decide) (hts (.fieldLink RX6 16 "LockRooms" "trial" "LLockRooms$Room;") (by decide +kernel)) (fun _ h9 => h9) rfl dX6_endsAt_48 ?_
  have hPr := ((zo_R hR0 hS hAr)).sub (ws' := [(tpl, .inl (tcP, 6, .inr (.inr (.inr (.inr tfp)))))]) [5] rfl
  have hPc := hP.sub (ws' := [(tr, .inr (5, [.ref tlk, .ref tth, .ref tpl, .ref tgm, .int 0, .int 0, .int 1, .int (-1), .int 1, .int 14, .int 18, .int 14])), (tgm, .inr (2, [.int 1, .int 14, .int 0, .int 0, .int 0, .int (-1), .long 0])), (tp0, .inr (4, [.int 1, .int (-1), .int (-1), .int 14]))]) [0, 1, 2] rfl
  have hDc := hD.sub (ws' := [(tr, .inr (5, [.ref tlk, .ref tth, .ref tpl, .ref tgm, .int 0, .int 0, .int 1, .int (-1), .int 1, .int 14, .int 18, .int 14])), (tgm, .inr (2, [.int 1, .int 14, .int 0, .int 0, .int 0, .int (-1), .long 0])), (tp0, .inr (4, [.int 1, .int (-1), .int (-1), .int 14]))]) [0, 1, 2] (by decide) rfl
  have hKc := hK.sub (tys' := [(tcP, .object "LockRooms$Player")]) [1] rfl
  have hFc := va_free (wc := [(tr, .inr (5, [.ref tlk, .ref tth, .ref tpl, .ref tgm, .int 0, .int 0, .int 1, .int (-1), .int 1, .int 14, .int 18, .int 14])), (tgm, .inr (2, [.int 1, .int 14, .int 0, .int 0, .int 0, .int (-1), .long 0])), (tp0, .inr (4, [.int 1, .int (-1), .int (-1), .int 14]))]) hD hS hA [0, 1, 2] rfl
  refine va_calli (va_runV (As := []) (rest := []) ⟨hx, hb, hml, hown, hts⟩ (cz_RmidMinute l dC dI ed H43.size tr tlk tth tpl tgm tcP tfp tp0 14 hkt (by decide)) (cwV 0 hts gX6_endsAt_X3_letMinuteGoBy rfl rfl rfl (by decide +kernel) ⟨Nat.le_of_ble_eq_true rfl, Nat.le_of_ble_eq_true rfl⟩) ⟨zb_blind, va_recv hK hP (ci := 5) (q0 := 0) rfl rfl, fun U hU hW => ⟨rfl, zb_mk hU hW hPr hPc hKc hDc hN hH hS hFc (zx_cons (zx_r (hAr _ (List.mem_of_getElem? (i := 5) rfl)) hDc) zx_nil)⟩⟩ rfl rfl hl.1 rfl (lv_room (Nat.le_of_ble_eq_true rfl)) dX6_endsAt_51 ⟨Nat.le_of_ble_eq_true rfl, Nat.le_of_ble_eq_true rfl⟩) hS (fun q _ h => hFc q h) hFc (fun r47 u t H46 locs ht hvm hw hB hz1 hk1 hS => ?_)
  obtain rfl : r47 = 0 := hw
  obtain ⟨w1_48, hf48_0, hP1, hD1, hK1⟩ := hB
  obtain rfl : w1_48 = 15 := hf48_0.trans (by first | rfl | decide +kernel)
  rw [ht] at hP1
  obtain ⟨hP, hD⟩ := va_join (wr := []) (w1 := [(tr, .inr (5, [.ref tlk, .ref tth, .ref tpl, .ref tgm, .int 0, .int 0, .int 1, .int (-1), .int 1, .int 15, .int 18, .int 15])), (tgm, .inr (2, [.int 1, .int 15, .int 0, .int 0, .int 0, .int (-1), .long 0])), (tp0, .inr (4, [.int 1, .int (-1), .int (-1), .int 15]))]) hP hD [0, 1, 2] [] rfl rfl (by decide) (by decide) hk1 hFc hP1 hD1
  have hP : va_P (dC, dI) vwCl [(tr, .inr (5, [.ref tlk, .ref tth, .ref tpl, .ref tgm, .int 0, .int 0, .int 1, .int (-1), .int 1, .int 15, .int 18, .int 15])), (tgm, .inr (2, [.int 1, .int 15, .int 0, .int 0, .int 0, .int (-1), .long 0])), (tp0, .inr (4, [.int 1, .int (-1), .int (-1), .int 15]))] H46 := hP
  have hD : va_D A [(tr, .inr (5, [.ref tlk, .ref tth, .ref tpl, .ref tgm, .int 0, .int 0, .int 1, .int (-1), .int 1, .int 15, .int 18, .int 15])), (tgm, .inr (2, [.int 1, .int 15, .int 0, .int 0, .int 0, .int (-1), .long 0])), (tp0, .inr (4, [.int 1, .int (-1), .int (-1), .int 15]))] := hD
  refine lv_pop hx hb dX6_endsAt_54 rfl ?_
  refine lv_iinc (v := 15) (lv' := [(1, .int 15), (0, .ref x)]) hx hb dX6_endsAt_55 hl (k := 0) rfl (by decide) (by decide) rfl (fun ls hl => ?_)
  refine lv_goto (tgt := 28) hx hb dX6_endsAt_58 (by decide) ?_
  refine lv_iload_n hx hb dX6_endsAt_28 rfl (lv_at hl 0 rfl) ?_
  refine lv_bipush (v := 60) hx hb dX6_endsAt_29 (by decide) ?_
  refine lv_icmp_ge (tgt := 61) hx hb dX6_endsAt_31 (by decide) (fun h => absurd h (by decide)) (fun _ => ?_)
  refine lv_aload_n hx hb dX6_endsAt_34 rfl (lv_at hl 1 rfl) ?_
  refine va_get (D := (dC, dI)) (ci := 8) (v := .ref tr) (C := RX6) (T := TX6) (N := 3) hx hb hts zi_X6_endsAt_X6 hown hK (zo_R hR0 hS hAr) 0 rfl rfl 1 (by decide) (hts (.fieldLink RX6 16 "LockRooms" "trial" "LLockRooms$Room;") (by decide +kernel)) (fun _ h9 => h9) rfl dX6_endsAt_35 ?_
  refine va_get (D := (dC, dI)) (ci := 5) (v := .ref tgm) (C := RX3) (T := TX3) (N := 12) hx hb hts zi_X6_endsAt_X3 hown hK hP 0 rfl rfl 3 (by decide) (hts (.fieldLink RX6 41 "LockRooms$Room" "games" "LLockRooms$Games;") (by decide +kernel)) (fun _ h9 => h9) rfl dX6_endsAt_38 ?_
  refine va_get (D := (dC, dI)) (ci := 2) (v := .int 1) (C := RX0) (T := TX0) (N := 7) hx hb hts zi_X6_endsAt_X0 hown hK hP 1 rfl rfl 0 (by decide) (hts (.fieldLink RX6 45 "LockRooms$Games" "isRunning" "Z") (by decide +kernel)) (fun _ h9 => h9) rfl dX6_endsAt_41 ?_
  refine lv_if_eq (tgt := 61) hx hb dX6_endsAt_44 (by decide) (fun h => absurd h (by decide)) (fun _ => ?_)
  refine lv_aload_n hx hb dX6_endsAt_47 rfl (lv_at hl 1 rfl) ?_
  refine va_get (D := (dC, dI)) (ci := 8) (v := .ref tr) (C := RX6) (T := TX6) (N := 3) hx hb hts zi_X6_endsAt_X6 hown hK (zo_R hR0 hS hAr) 0 rfl rfl 1 (by decide) (hts (.fieldLink RX6 16 "LockRooms" "trial" "LLockRooms$Room;") (by decide +kernel)) (fun _ h9 => h9) rfl dX6_endsAt_48 ?_
  have hPr := ((zo_R hR0 hS hAr)).sub (ws' := [(tpl, .inl (tcP, 6, .inr (.inr (.inr (.inr tfp)))))]) [5] rfl
  have hPc := hP.sub (ws' := [(tr, .inr (5, [.ref tlk, .ref tth, .ref tpl, .ref tgm, .int 0, .int 0, .int 1, .int (-1), .int 1, .int 15, .int 18, .int 15])), (tgm, .inr (2, [.int 1, .int 15, .int 0, .int 0, .int 0, .int (-1), .long 0])), (tp0, .inr (4, [.int 1, .int (-1), .int (-1), .int 15]))]) [0, 1, 2] rfl
  have hDc := hD.sub (ws' := [(tr, .inr (5, [.ref tlk, .ref tth, .ref tpl, .ref tgm, .int 0, .int 0, .int 1, .int (-1), .int 1, .int 15, .int 18, .int 15])), (tgm, .inr (2, [.int 1, .int 15, .int 0, .int 0, .int 0, .int (-1), .long 0])), (tp0, .inr (4, [.int 1, .int (-1), .int (-1), .int 15]))]) [0, 1, 2] (by decide) rfl
  have hKc := hK.sub (tys' := [(tcP, .object "LockRooms$Player")]) [1] rfl
  have hFc := va_free (wc := [(tr, .inr (5, [.ref tlk, .ref tth, .ref tpl, .ref tgm, .int 0, .int 0, .int 1, .int (-1), .int 1, .int 15, .int 18, .int 15])), (tgm, .inr (2, [.int 1, .int 15, .int 0, .int 0, .int 0, .int (-1), .long 0])), (tp0, .inr (4, [.int 1, .int (-1), .int (-1), .int 15]))]) hD hS hA [0, 1, 2] rfl
  refine va_calli (va_runV (As := []) (rest := []) ⟨hx, hb, hml, hown, hts⟩ (cz_RmidMinute l dC dI ed H46.size tr tlk tth tpl tgm tcP tfp tp0 15 hkt (by decide)) (cwV 0 hts gX6_endsAt_X3_letMinuteGoBy rfl rfl rfl (by decide +kernel) ⟨Nat.le_of_ble_eq_true rfl, Nat.le_of_ble_eq_true rfl⟩) ⟨zb_blind, va_recv hK hP (ci := 5) (q0 := 0) rfl rfl, fun U hU hW => ⟨rfl, zb_mk hU hW hPr hPc hKc hDc hN hH hS hFc (zx_cons (zx_r (hAr _ (List.mem_of_getElem? (i := 5) rfl)) hDc) zx_nil)⟩⟩ rfl rfl hl.1 rfl (lv_room (Nat.le_of_ble_eq_true rfl)) dX6_endsAt_51 ⟨Nat.le_of_ble_eq_true rfl, Nat.le_of_ble_eq_true rfl⟩) hS (fun q _ h => hFc q h) hFc (fun r50 u t H49 locs ht hvm hw hB hz1 hk1 hS => ?_)
  obtain rfl : r50 = 0 := hw
  obtain ⟨w1_51, hf51_0, hP1, hD1, hK1⟩ := hB
  obtain rfl : w1_51 = 16 := hf51_0.trans (by first | rfl | decide +kernel)
  rw [ht] at hP1
  obtain ⟨hP, hD⟩ := va_join (wr := []) (w1 := [(tr, .inr (5, [.ref tlk, .ref tth, .ref tpl, .ref tgm, .int 0, .int 0, .int 1, .int (-1), .int 1, .int 16, .int 18, .int 16])), (tgm, .inr (2, [.int 1, .int 16, .int 0, .int 0, .int 0, .int (-1), .long 0])), (tp0, .inr (4, [.int 1, .int (-1), .int (-1), .int 16]))]) hP hD [0, 1, 2] [] rfl rfl (by decide) (by decide) hk1 hFc hP1 hD1
  have hP : va_P (dC, dI) vwCl [(tr, .inr (5, [.ref tlk, .ref tth, .ref tpl, .ref tgm, .int 0, .int 0, .int 1, .int (-1), .int 1, .int 16, .int 18, .int 16])), (tgm, .inr (2, [.int 1, .int 16, .int 0, .int 0, .int 0, .int (-1), .long 0])), (tp0, .inr (4, [.int 1, .int (-1), .int (-1), .int 16]))] H49 := hP
  have hD : va_D A [(tr, .inr (5, [.ref tlk, .ref tth, .ref tpl, .ref tgm, .int 0, .int 0, .int 1, .int (-1), .int 1, .int 16, .int 18, .int 16])), (tgm, .inr (2, [.int 1, .int 16, .int 0, .int 0, .int 0, .int (-1), .long 0])), (tp0, .inr (4, [.int 1, .int (-1), .int (-1), .int 16]))] := hD
  refine lv_pop hx hb dX6_endsAt_54 rfl ?_
  refine lv_iinc (v := 16) (lv' := [(1, .int 16), (0, .ref x)]) hx hb dX6_endsAt_55 hl (k := 0) rfl (by decide) (by decide) rfl (fun ls hl => ?_)
  refine lv_goto (tgt := 28) hx hb dX6_endsAt_58 (by decide) ?_
  refine lv_iload_n hx hb dX6_endsAt_28 rfl (lv_at hl 0 rfl) ?_
  refine lv_bipush (v := 60) hx hb dX6_endsAt_29 (by decide) ?_
  refine lv_icmp_ge (tgt := 61) hx hb dX6_endsAt_31 (by decide) (fun h => absurd h (by decide)) (fun _ => ?_)
  refine lv_aload_n hx hb dX6_endsAt_34 rfl (lv_at hl 1 rfl) ?_
  refine va_get (D := (dC, dI)) (ci := 8) (v := .ref tr) (C := RX6) (T := TX6) (N := 3) hx hb hts zi_X6_endsAt_X6 hown hK (zo_R hR0 hS hAr) 0 rfl rfl 1 (by decide) (hts (.fieldLink RX6 16 "LockRooms" "trial" "LLockRooms$Room;") (by decide +kernel)) (fun _ h9 => h9) rfl dX6_endsAt_35 ?_
  refine va_get (D := (dC, dI)) (ci := 5) (v := .ref tgm) (C := RX3) (T := TX3) (N := 12) hx hb hts zi_X6_endsAt_X3 hown hK hP 0 rfl rfl 3 (by decide) (hts (.fieldLink RX6 41 "LockRooms$Room" "games" "LLockRooms$Games;") (by decide +kernel)) (fun _ h9 => h9) rfl dX6_endsAt_38 ?_
  refine va_get (D := (dC, dI)) (ci := 2) (v := .int 1) (C := RX0) (T := TX0) (N := 7) hx hb hts zi_X6_endsAt_X0 hown hK hP 1 rfl rfl 0 (by decide) (hts (.fieldLink RX6 45 "LockRooms$Games" "isRunning" "Z") (by decide +kernel)) (fun _ h9 => h9) rfl dX6_endsAt_41 ?_
  refine lv_if_eq (tgt := 61) hx hb dX6_endsAt_44 (by decide) (fun h => absurd h (by decide)) (fun _ => ?_)
  refine lv_aload_n hx hb dX6_endsAt_47 rfl (lv_at hl 1 rfl) ?_
  refine va_get (D := (dC, dI)) (ci := 8) (v := .ref tr) (C := RX6) (T := TX6) (N := 3) hx hb hts zi_X6_endsAt_X6 hown hK (zo_R hR0 hS hAr) 0 rfl rfl 1 (by decide) (hts (.fieldLink RX6 16 "LockRooms" "trial" "LLockRooms$Room;") (by decide +kernel)) (fun _ h9 => h9) rfl dX6_endsAt_48 ?_
  have hPr := ((zo_R hR0 hS hAr)).sub (ws' := [(tpl, .inl (tcP, 6, .inr (.inr (.inr (.inr tfp)))))]) [5] rfl
  have hPc := hP.sub (ws' := [(tr, .inr (5, [.ref tlk, .ref tth, .ref tpl, .ref tgm, .int 0, .int 0, .int 1, .int (-1), .int 1, .int 16, .int 18, .int 16])), (tgm, .inr (2, [.int 1, .int 16, .int 0, .int 0, .int 0, .int (-1), .long 0])), (tp0, .inr (4, [.int 1, .int (-1), .int (-1), .int 16]))]) [0, 1, 2] rfl
  have hDc := hD.sub (ws' := [(tr, .inr (5, [.ref tlk, .ref tth, .ref tpl, .ref tgm, .int 0, .int 0, .int 1, .int (-1), .int 1, .int 16, .int 18, .int 16])), (tgm, .inr (2, [.int 1, .int 16, .int 0, .int 0, .int 0, .int (-1), .long 0])), (tp0, .inr (4, [.int 1, .int (-1), .int (-1), .int 16]))]) [0, 1, 2] (by decide) rfl
  have hKc := hK.sub (tys' := [(tcP, .object "LockRooms$Player")]) [1] rfl
  have hFc := va_free (wc := [(tr, .inr (5, [.ref tlk, .ref tth, .ref tpl, .ref tgm, .int 0, .int 0, .int 1, .int (-1), .int 1, .int 16, .int 18, .int 16])), (tgm, .inr (2, [.int 1, .int 16, .int 0, .int 0, .int 0, .int (-1), .long 0])), (tp0, .inr (4, [.int 1, .int (-1), .int (-1), .int 16]))]) hD hS hA [0, 1, 2] rfl
  refine va_calli (va_runV (As := []) (rest := []) ⟨hx, hb, hml, hown, hts⟩ (cz_RmidMinute l dC dI ed H49.size tr tlk tth tpl tgm tcP tfp tp0 16 hkt (by decide)) (cwV 0 hts gX6_endsAt_X3_letMinuteGoBy rfl rfl rfl (by decide +kernel) ⟨Nat.le_of_ble_eq_true rfl, Nat.le_of_ble_eq_true rfl⟩) ⟨zb_blind, va_recv hK hP (ci := 5) (q0 := 0) rfl rfl, fun U hU hW => ⟨rfl, zb_mk hU hW hPr hPc hKc hDc hN hH hS hFc (zx_cons (zx_r (hAr _ (List.mem_of_getElem? (i := 5) rfl)) hDc) zx_nil)⟩⟩ rfl rfl hl.1 rfl (lv_room (Nat.le_of_ble_eq_true rfl)) dX6_endsAt_51 ⟨Nat.le_of_ble_eq_true rfl, Nat.le_of_ble_eq_true rfl⟩) hS (fun q _ h => hFc q h) hFc (fun r53 u t H52 locs ht hvm hw hB hz1 hk1 hS => ?_)
  obtain rfl : r53 = 0 := hw
  obtain ⟨w1_54, hf54_0, hP1, hD1, hK1⟩ := hB
  obtain rfl : w1_54 = 17 := hf54_0.trans (by first | rfl | decide +kernel)
  rw [ht] at hP1
  obtain ⟨hP, hD⟩ := va_join (wr := []) (w1 := [(tr, .inr (5, [.ref tlk, .ref tth, .ref tpl, .ref tgm, .int 0, .int 0, .int 1, .int (-1), .int 1, .int 17, .int 18, .int 17])), (tgm, .inr (2, [.int 1, .int 17, .int 0, .int 0, .int 0, .int (-1), .long 0])), (tp0, .inr (4, [.int 1, .int (-1), .int (-1), .int 17]))]) hP hD [0, 1, 2] [] rfl rfl (by decide) (by decide) hk1 hFc hP1 hD1
  have hP : va_P (dC, dI) vwCl [(tr, .inr (5, [.ref tlk, .ref tth, .ref tpl, .ref tgm, .int 0, .int 0, .int 1, .int (-1), .int 1, .int 17, .int 18, .int 17])), (tgm, .inr (2, [.int 1, .int 17, .int 0, .int 0, .int 0, .int (-1), .long 0])), (tp0, .inr (4, [.int 1, .int (-1), .int (-1), .int 17]))] H52 := hP
  have hD : va_D A [(tr, .inr (5, [.ref tlk, .ref tth, .ref tpl, .ref tgm, .int 0, .int 0, .int 1, .int (-1), .int 1, .int 17, .int 18, .int 17])), (tgm, .inr (2, [.int 1, .int 17, .int 0, .int 0, .int 0, .int (-1), .long 0])), (tp0, .inr (4, [.int 1, .int (-1), .int (-1), .int 17]))] := hD
  refine lv_pop hx hb dX6_endsAt_54 rfl ?_
  refine lv_iinc (v := 17) (lv' := [(1, .int 17), (0, .ref x)]) hx hb dX6_endsAt_55 hl (k := 0) rfl (by decide) (by decide) rfl (fun ls hl => ?_)
  refine lv_goto (tgt := 28) hx hb dX6_endsAt_58 (by decide) ?_
  refine lv_iload_n hx hb dX6_endsAt_28 rfl (lv_at hl 0 rfl) ?_
  refine lv_bipush (v := 60) hx hb dX6_endsAt_29 (by decide) ?_
  refine lv_icmp_ge (tgt := 61) hx hb dX6_endsAt_31 (by decide) (fun h => absurd h (by decide)) (fun _ => ?_)
  refine lv_aload_n hx hb dX6_endsAt_34 rfl (lv_at hl 1 rfl) ?_
  refine va_get (D := (dC, dI)) (ci := 8) (v := .ref tr) (C := RX6) (T := TX6) (N := 3) hx hb hts zi_X6_endsAt_X6 hown hK (zo_R hR0 hS hAr) 0 rfl rfl 1 (by decide) (hts (.fieldLink RX6 16 "LockRooms" "trial" "LLockRooms$Room;") (by decide +kernel)) (fun _ h9 => h9) rfl dX6_endsAt_35 ?_
  refine va_get (D := (dC, dI)) (ci := 5) (v := .ref tgm) (C := RX3) (T := TX3) (N := 12) hx hb hts zi_X6_endsAt_X3 hown hK hP 0 rfl rfl 3 (by decide) (hts (.fieldLink RX6 41 "LockRooms$Room" "games" "LLockRooms$Games;") (by decide +kernel)) (fun _ h9 => h9) rfl dX6_endsAt_38 ?_
  refine va_get (D := (dC, dI)) (ci := 2) (v := .int 1) (C := RX0) (T := TX0) (N := 7) hx hb hts zi_X6_endsAt_X0 hown hK hP 1 rfl rfl 0 (by decide) (hts (.fieldLink RX6 45 "LockRooms$Games" "isRunning" "Z") (by decide +kernel)) (fun _ h9 => h9) rfl dX6_endsAt_41 ?_
  refine lv_if_eq (tgt := 61) hx hb dX6_endsAt_44 (by decide) (fun h => absurd h (by decide)) (fun _ => ?_)
  refine lv_aload_n hx hb dX6_endsAt_47 rfl (lv_at hl 1 rfl) ?_
  refine va_get (D := (dC, dI)) (ci := 8) (v := .ref tr) (C := RX6) (T := TX6) (N := 3) hx hb hts zi_X6_endsAt_X6 hown hK (zo_R hR0 hS hAr) 0 rfl rfl 1 (by decide) (hts (.fieldLink RX6 16 "LockRooms" "trial" "LLockRooms$Room;") (by decide +kernel)) (fun _ h9 => h9) rfl dX6_endsAt_48 ?_
  have hPr := ((zo_R hR0 hS hAr)).sub (ws' := [(tpl, .inl (tcP, 6, .inr (.inr (.inr (.inr tfp)))))]) [5] rfl
  have hPc := hP.sub (ws' := [(tr, .inr (5, [.ref tlk, .ref tth, .ref tpl, .ref tgm, .int 0, .int 0, .int 1, .int (-1), .int 1, .int 17, .int 18, .int 17])), (tgm, .inr (2, [.int 1, .int 17, .int 0, .int 0, .int 0, .int (-1), .long 0])), (tp0, .inr (4, [.int 1, .int (-1), .int (-1), .int 17]))]) [0, 1, 2] rfl
  have hDc := hD.sub (ws' := [(tr, .inr (5, [.ref tlk, .ref tth, .ref tpl, .ref tgm, .int 0, .int 0, .int 1, .int (-1), .int 1, .int 17, .int 18, .int 17])), (tgm, .inr (2, [.int 1, .int 17, .int 0, .int 0, .int 0, .int (-1), .long 0])), (tp0, .inr (4, [.int 1, .int (-1), .int (-1), .int 17]))]) [0, 1, 2] (by decide) rfl
  have hKc := hK.sub (tys' := [(tcP, .object "LockRooms$Player")]) [1] rfl
  have hFc := va_free (wc := [(tr, .inr (5, [.ref tlk, .ref tth, .ref tpl, .ref tgm, .int 0, .int 0, .int 1, .int (-1), .int 1, .int 17, .int 18, .int 17])), (tgm, .inr (2, [.int 1, .int 17, .int 0, .int 0, .int 0, .int (-1), .long 0])), (tp0, .inr (4, [.int 1, .int (-1), .int (-1), .int 17]))]) hD hS hA [0, 1, 2] rfl
  refine va_calli (va_runV (As := []) (rest := []) ⟨hx, hb, hml, hown, hts⟩ (cz_RmidMinute l dC dI ed H52.size tr tlk tth tpl tgm tcP tfp tp0 17 hkt (by decide)) (cwV 0 hts gX6_endsAt_X3_letMinuteGoBy rfl rfl rfl (by decide +kernel) ⟨Nat.le_of_ble_eq_true rfl, Nat.le_of_ble_eq_true rfl⟩) ⟨zb_blind, va_recv hK hP (ci := 5) (q0 := 0) rfl rfl, fun U hU hW => ⟨rfl, zb_mk hU hW hPr hPc hKc hDc hN hH hS hFc (zx_cons (zx_r (hAr _ (List.mem_of_getElem? (i := 5) rfl)) hDc) zx_nil)⟩⟩ rfl rfl hl.1 rfl (lv_room (Nat.le_of_ble_eq_true rfl)) dX6_endsAt_51 ⟨Nat.le_of_ble_eq_true rfl, Nat.le_of_ble_eq_true rfl⟩) hS (fun q _ h => hFc q h) hFc (fun r56 u t H55 locs ht hvm hw hB hz1 hk1 hS => ?_)
  obtain rfl : r56 = 0 := hw
  obtain ⟨w1_57, hf57_0, hP1, hD1, hK1⟩ := hB
  obtain rfl : w1_57 = 18 := hf57_0.trans (by first | rfl | decide +kernel)
  rw [ht] at hP1
  obtain ⟨hP, hD⟩ := va_join (wr := []) (w1 := [(tr, .inr (5, [.ref tlk, .ref tth, .ref tpl, .ref tgm, .int 0, .int 0, .int 1, .int (-1), .int 1, .int 18, .int 18, .int 18])), (tgm, .inr (2, [.int 1, .int 18, .int 0, .int 0, .int 0, .int (-1), .long 0])), (tp0, .inr (4, [.int 1, .int (-1), .int (-1), .int 18]))]) hP hD [0, 1, 2] [] rfl rfl (by decide) (by decide) hk1 hFc hP1 hD1
  have hP : va_P (dC, dI) vwCl [(tr, .inr (5, [.ref tlk, .ref tth, .ref tpl, .ref tgm, .int 0, .int 0, .int 1, .int (-1), .int 1, .int 18, .int 18, .int 18])), (tgm, .inr (2, [.int 1, .int 18, .int 0, .int 0, .int 0, .int (-1), .long 0])), (tp0, .inr (4, [.int 1, .int (-1), .int (-1), .int 18]))] H55 := hP
  have hD : va_D A [(tr, .inr (5, [.ref tlk, .ref tth, .ref tpl, .ref tgm, .int 0, .int 0, .int 1, .int (-1), .int 1, .int 18, .int 18, .int 18])), (tgm, .inr (2, [.int 1, .int 18, .int 0, .int 0, .int 0, .int (-1), .long 0])), (tp0, .inr (4, [.int 1, .int (-1), .int (-1), .int 18]))] := hD
  refine lv_pop hx hb dX6_endsAt_54 rfl ?_
  refine lv_iinc (v := 18) (lv' := [(1, .int 18), (0, .ref x)]) hx hb dX6_endsAt_55 hl (k := 0) rfl (by decide) (by decide) rfl (fun ls hl => ?_)
  refine lv_goto (tgt := 28) hx hb dX6_endsAt_58 (by decide) ?_
  refine lv_iload_n hx hb dX6_endsAt_28 rfl (lv_at hl 0 rfl) ?_
  refine lv_bipush (v := 60) hx hb dX6_endsAt_29 (by decide) ?_
  refine lv_icmp_ge (tgt := 61) hx hb dX6_endsAt_31 (by decide) (fun h => absurd h (by decide)) (fun _ => ?_)
  refine lv_aload_n hx hb dX6_endsAt_34 rfl (lv_at hl 1 rfl) ?_
  refine va_get (D := (dC, dI)) (ci := 8) (v := .ref tr) (C := RX6) (T := TX6) (N := 3) hx hb hts zi_X6_endsAt_X6 hown hK (zo_R hR0 hS hAr) 0 rfl rfl 1 (by decide) (hts (.fieldLink RX6 16 "LockRooms" "trial" "LLockRooms$Room;") (by decide +kernel)) (fun _ h9 => h9) rfl dX6_endsAt_35 ?_
  refine va_get (D := (dC, dI)) (ci := 5) (v := .ref tgm) (C := RX3) (T := TX3) (N := 12) hx hb hts zi_X6_endsAt_X3 hown hK hP 0 rfl rfl 3 (by decide) (hts (.fieldLink RX6 41 "LockRooms$Room" "games" "LLockRooms$Games;") (by decide +kernel)) (fun _ h9 => h9) rfl dX6_endsAt_38 ?_
  refine va_get (D := (dC, dI)) (ci := 2) (v := .int 1) (C := RX0) (T := TX0) (N := 7) hx hb hts zi_X6_endsAt_X0 hown hK hP 1 rfl rfl 0 (by decide) (hts (.fieldLink RX6 45 "LockRooms$Games" "isRunning" "Z") (by decide +kernel)) (fun _ h9 => h9) rfl dX6_endsAt_41 ?_
  refine lv_if_eq (tgt := 61) hx hb dX6_endsAt_44 (by decide) (fun h => absurd h (by decide)) (fun _ => ?_)
  refine lv_aload_n hx hb dX6_endsAt_47 rfl (lv_at hl 1 rfl) ?_
  refine va_get (D := (dC, dI)) (ci := 8) (v := .ref tr) (C := RX6) (T := TX6) (N := 3) hx hb hts zi_X6_endsAt_X6 hown hK (zo_R hR0 hS hAr) 0 rfl rfl 1 (by decide) (hts (.fieldLink RX6 16 "LockRooms" "trial" "LLockRooms$Room;") (by decide +kernel)) (fun _ h9 => h9) rfl dX6_endsAt_48 ?_
  have hPr := ((zo_R hR0 hS hAr)).sub (ws' := [(tpl, .inl (tcP, 6, .inr (.inr (.inr (.inr tfp)))))]) [5] rfl
  have hPc := hP.sub (ws' := [(tr, .inr (5, [.ref tlk, .ref tth, .ref tpl, .ref tgm, .int 0, .int 0, .int 1, .int (-1), .int 1, .int 18, .int 18, .int 18])), (tgm, .inr (2, [.int 1, .int 18, .int 0, .int 0, .int 0, .int (-1), .long 0])), (tp0, .inr (4, [.int 1, .int (-1), .int (-1), .int 18]))]) [0, 1, 2] rfl
  have hDc := hD.sub (ws' := [(tr, .inr (5, [.ref tlk, .ref tth, .ref tpl, .ref tgm, .int 0, .int 0, .int 1, .int (-1), .int 1, .int 18, .int 18, .int 18])), (tgm, .inr (2, [.int 1, .int 18, .int 0, .int 0, .int 0, .int (-1), .long 0])), (tp0, .inr (4, [.int 1, .int (-1), .int (-1), .int 18]))]) [0, 1, 2] (by decide) rfl
  have hKc := hK.sub (tys' := [(tcP, .object "LockRooms$Player")]) [1] rfl
  have hFc := va_free (wc := [(tr, .inr (5, [.ref tlk, .ref tth, .ref tpl, .ref tgm, .int 0, .int 0, .int 1, .int (-1), .int 1, .int 18, .int 18, .int 18])), (tgm, .inr (2, [.int 1, .int 18, .int 0, .int 0, .int 0, .int (-1), .long 0])), (tp0, .inr (4, [.int 1, .int (-1), .int (-1), .int 18]))]) hD hS hA [0, 1, 2] rfl
  refine va_calli (va_runV (As := []) (rest := []) ⟨hx, hb, hml, hown, hts⟩ (cz_RmidMinute l dC dI ed H55.size tr tlk tth tpl tgm tcP tfp tp0 18 hkt (by decide)) (cwV 0 hts gX6_endsAt_X3_letMinuteGoBy rfl rfl rfl (by decide +kernel) ⟨Nat.le_of_ble_eq_true rfl, Nat.le_of_ble_eq_true rfl⟩) ⟨zb_blind, va_recv hK hP (ci := 5) (q0 := 0) rfl rfl, fun U hU hW => ⟨rfl, zb_mk hU hW hPr hPc hKc hDc hN hH hS hFc (zx_cons (zx_r (hAr _ (List.mem_of_getElem? (i := 5) rfl)) hDc) zx_nil)⟩⟩ rfl rfl hl.1 rfl (lv_room (Nat.le_of_ble_eq_true rfl)) dX6_endsAt_51 ⟨Nat.le_of_ble_eq_true rfl, Nat.le_of_ble_eq_true rfl⟩) hS (fun q _ h => hFc q h) hFc (fun r59 u t H58 locs ht hvm hw hB hz1 hk1 hS => ?_)
  obtain rfl : r59 = 0 := hw
  obtain ⟨w1_60, hf60_0, hP1, hD1, hK1⟩ := hB
  obtain rfl : w1_60 = 19 := hf60_0.trans (by first | rfl | decide +kernel)
  rw [ht] at hP1
  obtain ⟨hP, hD⟩ := va_join (wr := []) (w1 := [(tr, .inr (5, [.ref tlk, .ref tth, .ref tpl, .ref tgm, .int 0, .int 0, .int 1, .int (-1), .int 1, .int 19, .int 18, .int 19])), (tgm, .inr (2, [.int 1, .int 19, .int 0, .int 0, .int 0, .int (-1), .long 0])), (tp0, .inr (4, [.int 1, .int (-1), .int (-1), .int 19]))]) hP hD [0, 1, 2] [] rfl rfl (by decide) (by decide) hk1 hFc hP1 hD1
  have hP : va_P (dC, dI) vwCl [(tr, .inr (5, [.ref tlk, .ref tth, .ref tpl, .ref tgm, .int 0, .int 0, .int 1, .int (-1), .int 1, .int 19, .int 18, .int 19])), (tgm, .inr (2, [.int 1, .int 19, .int 0, .int 0, .int 0, .int (-1), .long 0])), (tp0, .inr (4, [.int 1, .int (-1), .int (-1), .int 19]))] H58 := hP
  have hD : va_D A [(tr, .inr (5, [.ref tlk, .ref tth, .ref tpl, .ref tgm, .int 0, .int 0, .int 1, .int (-1), .int 1, .int 19, .int 18, .int 19])), (tgm, .inr (2, [.int 1, .int 19, .int 0, .int 0, .int 0, .int (-1), .long 0])), (tp0, .inr (4, [.int 1, .int (-1), .int (-1), .int 19]))] := hD
  refine lv_pop hx hb dX6_endsAt_54 rfl ?_
  refine lv_iinc (v := 19) (lv' := [(1, .int 19), (0, .ref x)]) hx hb dX6_endsAt_55 hl (k := 0) rfl (by decide) (by decide) rfl (fun ls hl => ?_)
  refine lv_goto (tgt := 28) hx hb dX6_endsAt_58 (by decide) ?_
  refine lv_iload_n hx hb dX6_endsAt_28 rfl (lv_at hl 0 rfl) ?_
  refine lv_bipush (v := 60) hx hb dX6_endsAt_29 (by decide) ?_
  refine lv_icmp_ge (tgt := 61) hx hb dX6_endsAt_31 (by decide) (fun h => absurd h (by decide)) (fun _ => ?_)
  refine lv_aload_n hx hb dX6_endsAt_34 rfl (lv_at hl 1 rfl) ?_
  refine va_get (D := (dC, dI)) (ci := 8) (v := .ref tr) (C := RX6) (T := TX6) (N := 3) hx hb hts zi_X6_endsAt_X6 hown hK (zo_R hR0 hS hAr) 0 rfl rfl 1 (by decide) (hts (.fieldLink RX6 16 "LockRooms" "trial" "LLockRooms$Room;") (by decide +kernel)) (fun _ h9 => h9) rfl dX6_endsAt_35 ?_
  refine va_get (D := (dC, dI)) (ci := 5) (v := .ref tgm) (C := RX3) (T := TX3) (N := 12) hx hb hts zi_X6_endsAt_X3 hown hK hP 0 rfl rfl 3 (by decide) (hts (.fieldLink RX6 41 "LockRooms$Room" "games" "LLockRooms$Games;") (by decide +kernel)) (fun _ h9 => h9) rfl dX6_endsAt_38 ?_
  refine va_get (D := (dC, dI)) (ci := 2) (v := .int 1) (C := RX0) (T := TX0) (N := 7) hx hb hts zi_X6_endsAt_X0 hown hK hP 1 rfl rfl 0 (by decide) (hts (.fieldLink RX6 45 "LockRooms$Games" "isRunning" "Z") (by decide +kernel)) (fun _ h9 => h9) rfl dX6_endsAt_41 ?_
  refine lv_if_eq (tgt := 61) hx hb dX6_endsAt_44 (by decide) (fun h => absurd h (by decide)) (fun _ => ?_)
  refine lv_aload_n hx hb dX6_endsAt_47 rfl (lv_at hl 1 rfl) ?_
  refine va_get (D := (dC, dI)) (ci := 8) (v := .ref tr) (C := RX6) (T := TX6) (N := 3) hx hb hts zi_X6_endsAt_X6 hown hK (zo_R hR0 hS hAr) 0 rfl rfl 1 (by decide) (hts (.fieldLink RX6 16 "LockRooms" "trial" "LLockRooms$Room;") (by decide +kernel)) (fun _ h9 => h9) rfl dX6_endsAt_48 ?_
  have hPr := ((zo_R hR0 hS hAr)).sub (ws' := [(tpl, .inl (tcP, 6, .inr (.inr (.inr (.inr tfp)))))]) [5] rfl
  have hPc := hP.sub (ws' := [(tr, .inr (5, [.ref tlk, .ref tth, .ref tpl, .ref tgm, .int 0, .int 0, .int 1, .int (-1), .int 1, .int 19, .int 18, .int 19])), (tgm, .inr (2, [.int 1, .int 19, .int 0, .int 0, .int 0, .int (-1), .long 0])), (tp0, .inr (4, [.int 1, .int (-1), .int (-1), .int 19]))]) [0, 1, 2] rfl
  have hDc := hD.sub (ws' := [(tr, .inr (5, [.ref tlk, .ref tth, .ref tpl, .ref tgm, .int 0, .int 0, .int 1, .int (-1), .int 1, .int 19, .int 18, .int 19])), (tgm, .inr (2, [.int 1, .int 19, .int 0, .int 0, .int 0, .int (-1), .long 0])), (tp0, .inr (4, [.int 1, .int (-1), .int (-1), .int 19]))]) [0, 1, 2] (by decide) rfl
  have hKc := hK.sub (tys' := [(tcP, .object "LockRooms$Player")]) [1] rfl
  have hFc := va_free (wc := [(tr, .inr (5, [.ref tlk, .ref tth, .ref tpl, .ref tgm, .int 0, .int 0, .int 1, .int (-1), .int 1, .int 19, .int 18, .int 19])), (tgm, .inr (2, [.int 1, .int 19, .int 0, .int 0, .int 0, .int (-1), .long 0])), (tp0, .inr (4, [.int 1, .int (-1), .int (-1), .int 19]))]) hD hS hA [0, 1, 2] rfl
  refine va_calli (va_runV (As := []) (rest := []) ⟨hx, hb, hml, hown, hts⟩ (cz_RmidMinute l dC dI ed H58.size tr tlk tth tpl tgm tcP tfp tp0 19 hkt (by decide)) (cwV 0 hts gX6_endsAt_X3_letMinuteGoBy rfl rfl rfl (by decide +kernel) ⟨Nat.le_of_ble_eq_true rfl, Nat.le_of_ble_eq_true rfl⟩) ⟨zb_blind, va_recv hK hP (ci := 5) (q0 := 0) rfl rfl, fun U hU hW => ⟨rfl, zb_mk hU hW hPr hPc hKc hDc hN hH hS hFc (zx_cons (zx_r (hAr _ (List.mem_of_getElem? (i := 5) rfl)) hDc) zx_nil)⟩⟩ rfl rfl hl.1 rfl (lv_room (Nat.le_of_ble_eq_true rfl)) dX6_endsAt_51 ⟨Nat.le_of_ble_eq_true rfl, Nat.le_of_ble_eq_true rfl⟩) hS (fun q _ h => hFc q h) hFc (fun r62 u t H61 locs ht hvm hw hB hz1 hk1 hS => ?_)
  obtain rfl : r62 = 0 := hw
  obtain ⟨w1_63, hf63_0, hP1, hD1, hK1⟩ := hB
  obtain rfl : w1_63 = 20 := hf63_0.trans (by first | rfl | decide +kernel)
  rw [ht] at hP1
  obtain ⟨hP, hD⟩ := va_join (wr := []) (w1 := [(tr, .inr (5, [.ref tlk, .ref tth, .ref tpl, .ref tgm, .int 0, .int 0, .int 1, .int (-1), .int 1, .int 20, .int 18, .int 20])), (tgm, .inr (2, [.int 1, .int 20, .int 0, .int 0, .int 0, .int (-1), .long 0])), (tp0, .inr (4, [.int 1, .int (-1), .int (-1), .int 20]))]) hP hD [0, 1, 2] [] rfl rfl (by decide) (by decide) hk1 hFc hP1 hD1
  have hP : va_P (dC, dI) vwCl [(tr, .inr (5, [.ref tlk, .ref tth, .ref tpl, .ref tgm, .int 0, .int 0, .int 1, .int (-1), .int 1, .int 20, .int 18, .int 20])), (tgm, .inr (2, [.int 1, .int 20, .int 0, .int 0, .int 0, .int (-1), .long 0])), (tp0, .inr (4, [.int 1, .int (-1), .int (-1), .int 20]))] H61 := hP
  have hD : va_D A [(tr, .inr (5, [.ref tlk, .ref tth, .ref tpl, .ref tgm, .int 0, .int 0, .int 1, .int (-1), .int 1, .int 20, .int 18, .int 20])), (tgm, .inr (2, [.int 1, .int 20, .int 0, .int 0, .int 0, .int (-1), .long 0])), (tp0, .inr (4, [.int 1, .int (-1), .int (-1), .int 20]))] := hD
  refine lv_pop hx hb dX6_endsAt_54 rfl ?_
  refine lv_iinc (v := 20) (lv' := [(1, .int 20), (0, .ref x)]) hx hb dX6_endsAt_55 hl (k := 0) rfl (by decide) (by decide) rfl (fun ls hl => ?_)
  refine lv_goto (tgt := 28) hx hb dX6_endsAt_58 (by decide) ?_
  refine lv_iload_n hx hb dX6_endsAt_28 rfl (lv_at hl 0 rfl) ?_
  refine lv_bipush (v := 60) hx hb dX6_endsAt_29 (by decide) ?_
  refine lv_icmp_ge (tgt := 61) hx hb dX6_endsAt_31 (by decide) (fun h => absurd h (by decide)) (fun _ => ?_)
  refine lv_aload_n hx hb dX6_endsAt_34 rfl (lv_at hl 1 rfl) ?_
  refine va_get (D := (dC, dI)) (ci := 8) (v := .ref tr) (C := RX6) (T := TX6) (N := 3) hx hb hts zi_X6_endsAt_X6 hown hK (zo_R hR0 hS hAr) 0 rfl rfl 1 (by decide) (hts (.fieldLink RX6 16 "LockRooms" "trial" "LLockRooms$Room;") (by decide +kernel)) (fun _ h9 => h9) rfl dX6_endsAt_35 ?_
  refine va_get (D := (dC, dI)) (ci := 5) (v := .ref tgm) (C := RX3) (T := TX3) (N := 12) hx hb hts zi_X6_endsAt_X3 hown hK hP 0 rfl rfl 3 (by decide) (hts (.fieldLink RX6 41 "LockRooms$Room" "games" "LLockRooms$Games;") (by decide +kernel)) (fun _ h9 => h9) rfl dX6_endsAt_38 ?_
  refine va_get (D := (dC, dI)) (ci := 2) (v := .int 1) (C := RX0) (T := TX0) (N := 7) hx hb hts zi_X6_endsAt_X0 hown hK hP 1 rfl rfl 0 (by decide) (hts (.fieldLink RX6 45 "LockRooms$Games" "isRunning" "Z") (by decide +kernel)) (fun _ h9 => h9) rfl dX6_endsAt_41 ?_
  refine lv_if_eq (tgt := 61) hx hb dX6_endsAt_44 (by decide) (fun h => absurd h (by decide)) (fun _ => ?_)
  refine lv_aload_n hx hb dX6_endsAt_47 rfl (lv_at hl 1 rfl) ?_
  refine va_get (D := (dC, dI)) (ci := 8) (v := .ref tr) (C := RX6) (T := TX6) (N := 3) hx hb hts zi_X6_endsAt_X6 hown hK (zo_R hR0 hS hAr) 0 rfl rfl 1 (by decide) (hts (.fieldLink RX6 16 "LockRooms" "trial" "LLockRooms$Room;") (by decide +kernel)) (fun _ h9 => h9) rfl dX6_endsAt_48 ?_
  have hPr := ((zo_R hR0 hS hAr)).sub (ws' := [(tpl, .inl (tcP, 6, .inr (.inr (.inr (.inr tfp)))))]) [5] rfl
  have hPc := hP.sub (ws' := [(tr, .inr (5, [.ref tlk, .ref tth, .ref tpl, .ref tgm, .int 0, .int 0, .int 1, .int (-1), .int 1, .int 20, .int 18, .int 20])), (tgm, .inr (2, [.int 1, .int 20, .int 0, .int 0, .int 0, .int (-1), .long 0])), (tp0, .inr (4, [.int 1, .int (-1), .int (-1), .int 20]))]) [0, 1, 2] rfl
  have hDc := hD.sub (ws' := [(tr, .inr (5, [.ref tlk, .ref tth, .ref tpl, .ref tgm, .int 0, .int 0, .int 1, .int (-1), .int 1, .int 20, .int 18, .int 20])), (tgm, .inr (2, [.int 1, .int 20, .int 0, .int 0, .int 0, .int (-1), .long 0])), (tp0, .inr (4, [.int 1, .int (-1), .int (-1), .int 20]))]) [0, 1, 2] (by decide) rfl
  have hKc := hK.sub (tys' := [(tcP, .object "LockRooms$Player")]) [1] rfl
  have hFc := va_free (wc := [(tr, .inr (5, [.ref tlk, .ref tth, .ref tpl, .ref tgm, .int 0, .int 0, .int 1, .int (-1), .int 1, .int 20, .int 18, .int 20])), (tgm, .inr (2, [.int 1, .int 20, .int 0, .int 0, .int 0, .int (-1), .long 0])), (tp0, .inr (4, [.int 1, .int (-1), .int (-1), .int 20]))]) hD hS hA [0, 1, 2] rfl
  refine va_calli (va_runV (As := []) (rest := []) ⟨hx, hb, hml, hown, hts⟩ (cz_RmidMinute l dC dI ed H61.size tr tlk tth tpl tgm tcP tfp tp0 20 hkt (by decide)) (cwV 0 hts gX6_endsAt_X3_letMinuteGoBy rfl rfl rfl (by decide +kernel) ⟨Nat.le_of_ble_eq_true rfl, Nat.le_of_ble_eq_true rfl⟩) ⟨zb_blind, va_recv hK hP (ci := 5) (q0 := 0) rfl rfl, fun U hU hW => ⟨rfl, zb_mk hU hW hPr hPc hKc hDc hN hH hS hFc (zx_cons (zx_r (hAr _ (List.mem_of_getElem? (i := 5) rfl)) hDc) zx_nil)⟩⟩ rfl rfl hl.1 rfl (lv_room (Nat.le_of_ble_eq_true rfl)) dX6_endsAt_51 ⟨Nat.le_of_ble_eq_true rfl, Nat.le_of_ble_eq_true rfl⟩) hS (fun q _ h => hFc q h) hFc (fun r65 u t H64 locs ht hvm hw hB hz1 hk1 hS => ?_)
  obtain rfl : r65 = 0 := hw
  obtain ⟨w1_66, hf66_0, hP1, hD1, hK1⟩ := hB
  obtain rfl : w1_66 = 21 := hf66_0.trans (by first | rfl | decide +kernel)
  rw [ht] at hP1
  obtain ⟨hP, hD⟩ := va_join (wr := []) (w1 := [(tr, .inr (5, [.ref tlk, .ref tth, .ref tpl, .ref tgm, .int 0, .int 0, .int 1, .int (-1), .int 1, .int 21, .int 18, .int 21])), (tgm, .inr (2, [.int 1, .int 21, .int 0, .int 0, .int 0, .int (-1), .long 0])), (tp0, .inr (4, [.int 1, .int (-1), .int (-1), .int 21]))]) hP hD [0, 1, 2] [] rfl rfl (by decide) (by decide) hk1 hFc hP1 hD1
  have hP : va_P (dC, dI) vwCl [(tr, .inr (5, [.ref tlk, .ref tth, .ref tpl, .ref tgm, .int 0, .int 0, .int 1, .int (-1), .int 1, .int 21, .int 18, .int 21])), (tgm, .inr (2, [.int 1, .int 21, .int 0, .int 0, .int 0, .int (-1), .long 0])), (tp0, .inr (4, [.int 1, .int (-1), .int (-1), .int 21]))] H64 := hP
  have hD : va_D A [(tr, .inr (5, [.ref tlk, .ref tth, .ref tpl, .ref tgm, .int 0, .int 0, .int 1, .int (-1), .int 1, .int 21, .int 18, .int 21])), (tgm, .inr (2, [.int 1, .int 21, .int 0, .int 0, .int 0, .int (-1), .long 0])), (tp0, .inr (4, [.int 1, .int (-1), .int (-1), .int 21]))] := hD
  refine lv_pop hx hb dX6_endsAt_54 rfl ?_
  refine lv_iinc (v := 21) (lv' := [(1, .int 21), (0, .ref x)]) hx hb dX6_endsAt_55 hl (k := 0) rfl (by decide) (by decide) rfl (fun ls hl => ?_)
  refine lv_goto (tgt := 28) hx hb dX6_endsAt_58 (by decide) ?_
  refine lv_iload_n hx hb dX6_endsAt_28 rfl (lv_at hl 0 rfl) ?_
  refine lv_bipush (v := 60) hx hb dX6_endsAt_29 (by decide) ?_
  refine lv_icmp_ge (tgt := 61) hx hb dX6_endsAt_31 (by decide) (fun h => absurd h (by decide)) (fun _ => ?_)
  refine lv_aload_n hx hb dX6_endsAt_34 rfl (lv_at hl 1 rfl) ?_
  refine va_get (D := (dC, dI)) (ci := 8) (v := .ref tr) (C := RX6) (T := TX6) (N := 3) hx hb hts zi_X6_endsAt_X6 hown hK (zo_R hR0 hS hAr) 0 rfl rfl 1 (by decide) (hts (.fieldLink RX6 16 "LockRooms" "trial" "LLockRooms$Room;") (by decide +kernel)) (fun _ h9 => h9) rfl dX6_endsAt_35 ?_
  refine va_get (D := (dC, dI)) (ci := 5) (v := .ref tgm) (C := RX3) (T := TX3) (N := 12) hx hb hts zi_X6_endsAt_X3 hown hK hP 0 rfl rfl 3 (by decide) (hts (.fieldLink RX6 41 "LockRooms$Room" "games" "LLockRooms$Games;") (by decide +kernel)) (fun _ h9 => h9) rfl dX6_endsAt_38 ?_
  refine va_get (D := (dC, dI)) (ci := 2) (v := .int 1) (C := RX0) (T := TX0) (N := 7) hx hb hts zi_X6_endsAt_X0 hown hK hP 1 rfl rfl 0 (by decide) (hts (.fieldLink RX6 45 "LockRooms$Games" "isRunning" "Z") (by decide +kernel)) (fun _ h9 => h9) rfl dX6_endsAt_41 ?_
  refine lv_if_eq (tgt := 61) hx hb dX6_endsAt_44 (by decide) (fun h => absurd h (by decide)) (fun _ => ?_)
  refine lv_aload_n hx hb dX6_endsAt_47 rfl (lv_at hl 1 rfl) ?_
  refine va_get (D := (dC, dI)) (ci := 8) (v := .ref tr) (C := RX6) (T := TX6) (N := 3) hx hb hts zi_X6_endsAt_X6 hown hK (zo_R hR0 hS hAr) 0 rfl rfl 1 (by decide) (hts (.fieldLink RX6 16 "LockRooms" "trial" "LLockRooms$Room;") (by decide +kernel)) (fun _ h9 => h9) rfl dX6_endsAt_48 ?_
  have hPr := ((zo_R hR0 hS hAr)).sub (ws' := [(tpl, .inl (tcP, 6, .inr (.inr (.inr (.inr tfp)))))]) [5] rfl
  have hPc := hP.sub (ws' := [(tr, .inr (5, [.ref tlk, .ref tth, .ref tpl, .ref tgm, .int 0, .int 0, .int 1, .int (-1), .int 1, .int 21, .int 18, .int 21])), (tgm, .inr (2, [.int 1, .int 21, .int 0, .int 0, .int 0, .int (-1), .long 0])), (tp0, .inr (4, [.int 1, .int (-1), .int (-1), .int 21]))]) [0, 1, 2] rfl
  have hDc := hD.sub (ws' := [(tr, .inr (5, [.ref tlk, .ref tth, .ref tpl, .ref tgm, .int 0, .int 0, .int 1, .int (-1), .int 1, .int 21, .int 18, .int 21])), (tgm, .inr (2, [.int 1, .int 21, .int 0, .int 0, .int 0, .int (-1), .long 0])), (tp0, .inr (4, [.int 1, .int (-1), .int (-1), .int 21]))]) [0, 1, 2] (by decide) rfl
  have hKc := hK.sub (tys' := [(tcP, .object "LockRooms$Player")]) [1] rfl
  have hFc := va_free (wc := [(tr, .inr (5, [.ref tlk, .ref tth, .ref tpl, .ref tgm, .int 0, .int 0, .int 1, .int (-1), .int 1, .int 21, .int 18, .int 21])), (tgm, .inr (2, [.int 1, .int 21, .int 0, .int 0, .int 0, .int (-1), .long 0])), (tp0, .inr (4, [.int 1, .int (-1), .int (-1), .int 21]))]) hD hS hA [0, 1, 2] rfl
  refine va_calli (va_runV (As := []) (rest := []) ⟨hx, hb, hml, hown, hts⟩ (cz_RmidMinute l dC dI ed H64.size tr tlk tth tpl tgm tcP tfp tp0 21 hkt (by decide)) (cwV 0 hts gX6_endsAt_X3_letMinuteGoBy rfl rfl rfl (by decide +kernel) ⟨Nat.le_of_ble_eq_true rfl, Nat.le_of_ble_eq_true rfl⟩) ⟨zb_blind, va_recv hK hP (ci := 5) (q0 := 0) rfl rfl, fun U hU hW => ⟨rfl, zb_mk hU hW hPr hPc hKc hDc hN hH hS hFc (zx_cons (zx_r (hAr _ (List.mem_of_getElem? (i := 5) rfl)) hDc) zx_nil)⟩⟩ rfl rfl hl.1 rfl (lv_room (Nat.le_of_ble_eq_true rfl)) dX6_endsAt_51 ⟨Nat.le_of_ble_eq_true rfl, Nat.le_of_ble_eq_true rfl⟩) hS (fun q _ h => hFc q h) hFc (fun r68 u t H67 locs ht hvm hw hB hz1 hk1 hS => ?_)
  obtain rfl : r68 = 0 := hw
  obtain ⟨w1_69, hf69_0, hP1, hD1, hK1⟩ := hB
  obtain rfl : w1_69 = 22 := hf69_0.trans (by first | rfl | decide +kernel)
  rw [ht] at hP1
  obtain ⟨hP, hD⟩ := va_join (wr := []) (w1 := [(tr, .inr (5, [.ref tlk, .ref tth, .ref tpl, .ref tgm, .int 0, .int 0, .int 1, .int (-1), .int 1, .int 22, .int 18, .int 22])), (tgm, .inr (2, [.int 1, .int 22, .int 0, .int 0, .int 0, .int (-1), .long 0])), (tp0, .inr (4, [.int 1, .int (-1), .int (-1), .int 22]))]) hP hD [0, 1, 2] [] rfl rfl (by decide) (by decide) hk1 hFc hP1 hD1
  have hP : va_P (dC, dI) vwCl [(tr, .inr (5, [.ref tlk, .ref tth, .ref tpl, .ref tgm, .int 0, .int 0, .int 1, .int (-1), .int 1, .int 22, .int 18, .int 22])), (tgm, .inr (2, [.int 1, .int 22, .int 0, .int 0, .int 0, .int (-1), .long 0])), (tp0, .inr (4, [.int 1, .int (-1), .int (-1), .int 22]))] H67 := hP
  have hD : va_D A [(tr, .inr (5, [.ref tlk, .ref tth, .ref tpl, .ref tgm, .int 0, .int 0, .int 1, .int (-1), .int 1, .int 22, .int 18, .int 22])), (tgm, .inr (2, [.int 1, .int 22, .int 0, .int 0, .int 0, .int (-1), .long 0])), (tp0, .inr (4, [.int 1, .int (-1), .int (-1), .int 22]))] := hD
  refine lv_pop hx hb dX6_endsAt_54 rfl ?_
  refine lv_iinc (v := 22) (lv' := [(1, .int 22), (0, .ref x)]) hx hb dX6_endsAt_55 hl (k := 0) rfl (by decide) (by decide) rfl (fun ls hl => ?_)
  refine lv_goto (tgt := 28) hx hb dX6_endsAt_58 (by decide) ?_
  refine lv_iload_n hx hb dX6_endsAt_28 rfl (lv_at hl 0 rfl) ?_
  refine lv_bipush (v := 60) hx hb dX6_endsAt_29 (by decide) ?_
  refine lv_icmp_ge (tgt := 61) hx hb dX6_endsAt_31 (by decide) (fun h => absurd h (by decide)) (fun _ => ?_)
  refine lv_aload_n hx hb dX6_endsAt_34 rfl (lv_at hl 1 rfl) ?_
  refine va_get (D := (dC, dI)) (ci := 8) (v := .ref tr) (C := RX6) (T := TX6) (N := 3) hx hb hts zi_X6_endsAt_X6 hown hK (zo_R hR0 hS hAr) 0 rfl rfl 1 (by decide) (hts (.fieldLink RX6 16 "LockRooms" "trial" "LLockRooms$Room;") (by decide +kernel)) (fun _ h9 => h9) rfl dX6_endsAt_35 ?_
  refine va_get (D := (dC, dI)) (ci := 5) (v := .ref tgm) (C := RX3) (T := TX3) (N := 12) hx hb hts zi_X6_endsAt_X3 hown hK hP 0 rfl rfl 3 (by decide) (hts (.fieldLink RX6 41 "LockRooms$Room" "games" "LLockRooms$Games;") (by decide +kernel)) (fun _ h9 => h9) rfl dX6_endsAt_38 ?_
  refine va_get (D := (dC, dI)) (ci := 2) (v := .int 1) (C := RX0) (T := TX0) (N := 7) hx hb hts zi_X6_endsAt_X0 hown hK hP 1 rfl rfl 0 (by decide) (hts (.fieldLink RX6 45 "LockRooms$Games" "isRunning" "Z") (by decide +kernel)) (fun _ h9 => h9) rfl dX6_endsAt_41 ?_
  refine lv_if_eq (tgt := 61) hx hb dX6_endsAt_44 (by decide) (fun h => absurd h (by decide)) (fun _ => ?_)
  refine lv_aload_n hx hb dX6_endsAt_47 rfl (lv_at hl 1 rfl) ?_
  refine va_get (D := (dC, dI)) (ci := 8) (v := .ref tr) (C := RX6) (T := TX6) (N := 3) hx hb hts zi_X6_endsAt_X6 hown hK (zo_R hR0 hS hAr) 0 rfl rfl 1 (by decide) (hts (.fieldLink RX6 16 "LockRooms" "trial" "LLockRooms$Room;") (by decide +kernel)) (fun _ h9 => h9) rfl dX6_endsAt_48 ?_
  have hPr := ((zo_R hR0 hS hAr)).sub (ws' := [(tpl, .inl (tcP, 6, .inr (.inr (.inr (.inr tfp)))))]) [5] rfl
  have hPc := hP.sub (ws' := [(tr, .inr (5, [.ref tlk, .ref tth, .ref tpl, .ref tgm, .int 0, .int 0, .int 1, .int (-1), .int 1, .int 22, .int 18, .int 22])), (tgm, .inr (2, [.int 1, .int 22, .int 0, .int 0, .int 0, .int (-1), .long 0])), (tp0, .inr (4, [.int 1, .int (-1), .int (-1), .int 22]))]) [0, 1, 2] rfl
  have hDc := hD.sub (ws' := [(tr, .inr (5, [.ref tlk, .ref tth, .ref tpl, .ref tgm, .int 0, .int 0, .int 1, .int (-1), .int 1, .int 22, .int 18, .int 22])), (tgm, .inr (2, [.int 1, .int 22, .int 0, .int 0, .int 0, .int (-1), .long 0])), (tp0, .inr (4, [.int 1, .int (-1), .int (-1), .int 22]))]) [0, 1, 2] (by decide) rfl
  have hKc := hK.sub (tys' := [(tcP, .object "LockRooms$Player")]) [1] rfl
  have hFc := va_free (wc := [(tr, .inr (5, [.ref tlk, .ref tth, .ref tpl, .ref tgm, .int 0, .int 0, .int 1, .int (-1), .int 1, .int 22, .int 18, .int 22])), (tgm, .inr (2, [.int 1, .int 22, .int 0, .int 0, .int 0, .int (-1), .long 0])), (tp0, .inr (4, [.int 1, .int (-1), .int (-1), .int 22]))]) hD hS hA [0, 1, 2] rfl
  refine va_calli (va_runV (As := []) (rest := []) ⟨hx, hb, hml, hown, hts⟩ (cz_RmidMinute l dC dI ed H67.size tr tlk tth tpl tgm tcP tfp tp0 22 hkt (by decide)) (cwV 0 hts gX6_endsAt_X3_letMinuteGoBy rfl rfl rfl (by decide +kernel) ⟨Nat.le_of_ble_eq_true rfl, Nat.le_of_ble_eq_true rfl⟩) ⟨zb_blind, va_recv hK hP (ci := 5) (q0 := 0) rfl rfl, fun U hU hW => ⟨rfl, zb_mk hU hW hPr hPc hKc hDc hN hH hS hFc (zx_cons (zx_r (hAr _ (List.mem_of_getElem? (i := 5) rfl)) hDc) zx_nil)⟩⟩ rfl rfl hl.1 rfl (lv_room (Nat.le_of_ble_eq_true rfl)) dX6_endsAt_51 ⟨Nat.le_of_ble_eq_true rfl, Nat.le_of_ble_eq_true rfl⟩) hS (fun q _ h => hFc q h) hFc (fun r71 u t H70 locs ht hvm hw hB hz1 hk1 hS => ?_)
  obtain rfl : r71 = 0 := hw
  obtain ⟨w1_72, hf72_0, hP1, hD1, hK1⟩ := hB
  obtain rfl : w1_72 = 23 := hf72_0.trans (by first | rfl | decide +kernel)
  rw [ht] at hP1
  obtain ⟨hP, hD⟩ := va_join (wr := []) (w1 := [(tr, .inr (5, [.ref tlk, .ref tth, .ref tpl, .ref tgm, .int 0, .int 0, .int 1, .int (-1), .int 1, .int 23, .int 18, .int 23])), (tgm, .inr (2, [.int 1, .int 23, .int 0, .int 0, .int 0, .int (-1), .long 0])), (tp0, .inr (4, [.int 1, .int (-1), .int (-1), .int 23]))]) hP hD [0, 1, 2] [] rfl rfl (by decide) (by decide) hk1 hFc hP1 hD1
  have hP : va_P (dC, dI) vwCl [(tr, .inr (5, [.ref tlk, .ref tth, .ref tpl, .ref tgm, .int 0, .int 0, .int 1, .int (-1), .int 1, .int 23, .int 18, .int 23])), (tgm, .inr (2, [.int 1, .int 23, .int 0, .int 0, .int 0, .int (-1), .long 0])), (tp0, .inr (4, [.int 1, .int (-1), .int (-1), .int 23]))] H70 := hP
  have hD : va_D A [(tr, .inr (5, [.ref tlk, .ref tth, .ref tpl, .ref tgm, .int 0, .int 0, .int 1, .int (-1), .int 1, .int 23, .int 18, .int 23])), (tgm, .inr (2, [.int 1, .int 23, .int 0, .int 0, .int 0, .int (-1), .long 0])), (tp0, .inr (4, [.int 1, .int (-1), .int (-1), .int 23]))] := hD
  refine lv_pop hx hb dX6_endsAt_54 rfl ?_
  refine lv_iinc (v := 23) (lv' := [(1, .int 23), (0, .ref x)]) hx hb dX6_endsAt_55 hl (k := 0) rfl (by decide) (by decide) rfl (fun ls hl => ?_)
  refine lv_goto (tgt := 28) hx hb dX6_endsAt_58 (by decide) ?_
  refine lv_iload_n hx hb dX6_endsAt_28 rfl (lv_at hl 0 rfl) ?_
  refine lv_bipush (v := 60) hx hb dX6_endsAt_29 (by decide) ?_
  refine lv_icmp_ge (tgt := 61) hx hb dX6_endsAt_31 (by decide) (fun h => absurd h (by decide)) (fun _ => ?_)
  refine lv_aload_n hx hb dX6_endsAt_34 rfl (lv_at hl 1 rfl) ?_
  refine va_get (D := (dC, dI)) (ci := 8) (v := .ref tr) (C := RX6) (T := TX6) (N := 3) hx hb hts zi_X6_endsAt_X6 hown hK (zo_R hR0 hS hAr) 0 rfl rfl 1 (by decide) (hts (.fieldLink RX6 16 "LockRooms" "trial" "LLockRooms$Room;") (by decide +kernel)) (fun _ h9 => h9) rfl dX6_endsAt_35 ?_
  refine va_get (D := (dC, dI)) (ci := 5) (v := .ref tgm) (C := RX3) (T := TX3) (N := 12) hx hb hts zi_X6_endsAt_X3 hown hK hP 0 rfl rfl 3 (by decide) (hts (.fieldLink RX6 41 "LockRooms$Room" "games" "LLockRooms$Games;") (by decide +kernel)) (fun _ h9 => h9) rfl dX6_endsAt_38 ?_
  refine va_get (D := (dC, dI)) (ci := 2) (v := .int 1) (C := RX0) (T := TX0) (N := 7) hx hb hts zi_X6_endsAt_X0 hown hK hP 1 rfl rfl 0 (by decide) (hts (.fieldLink RX6 45 "LockRooms$Games" "isRunning" "Z") (by decide +kernel)) (fun _ h9 => h9) rfl dX6_endsAt_41 ?_
  refine lv_if_eq (tgt := 61) hx hb dX6_endsAt_44 (by decide) (fun h => absurd h (by decide)) (fun _ => ?_)
  refine lv_aload_n hx hb dX6_endsAt_47 rfl (lv_at hl 1 rfl) ?_
  refine va_get (D := (dC, dI)) (ci := 8) (v := .ref tr) (C := RX6) (T := TX6) (N := 3) hx hb hts zi_X6_endsAt_X6 hown hK (zo_R hR0 hS hAr) 0 rfl rfl 1 (by decide) (hts (.fieldLink RX6 16 "LockRooms" "trial" "LLockRooms$Room;") (by decide +kernel)) (fun _ h9 => h9) rfl dX6_endsAt_48 ?_
  have hPr := ((zo_R hR0 hS hAr)).sub (ws' := [(tpl, .inl (tcP, 6, .inr (.inr (.inr (.inr tfp)))))]) [5] rfl
  have hPc := hP.sub (ws' := [(tr, .inr (5, [.ref tlk, .ref tth, .ref tpl, .ref tgm, .int 0, .int 0, .int 1, .int (-1), .int 1, .int 23, .int 18, .int 23])), (tgm, .inr (2, [.int 1, .int 23, .int 0, .int 0, .int 0, .int (-1), .long 0])), (tp0, .inr (4, [.int 1, .int (-1), .int (-1), .int 23]))]) [0, 1, 2] rfl
  have hDc := hD.sub (ws' := [(tr, .inr (5, [.ref tlk, .ref tth, .ref tpl, .ref tgm, .int 0, .int 0, .int 1, .int (-1), .int 1, .int 23, .int 18, .int 23])), (tgm, .inr (2, [.int 1, .int 23, .int 0, .int 0, .int 0, .int (-1), .long 0])), (tp0, .inr (4, [.int 1, .int (-1), .int (-1), .int 23]))]) [0, 1, 2] (by decide) rfl
  have hKc := hK.sub (tys' := [(tcP, .object "LockRooms$Player")]) [1] rfl
  have hFc := va_free (wc := [(tr, .inr (5, [.ref tlk, .ref tth, .ref tpl, .ref tgm, .int 0, .int 0, .int 1, .int (-1), .int 1, .int 23, .int 18, .int 23])), (tgm, .inr (2, [.int 1, .int 23, .int 0, .int 0, .int 0, .int (-1), .long 0])), (tp0, .inr (4, [.int 1, .int (-1), .int (-1), .int 23]))]) hD hS hA [0, 1, 2] rfl
  refine va_calli (va_runV (As := []) (rest := []) ⟨hx, hb, hml, hown, hts⟩ (cz_RmidMinute l dC dI ed H70.size tr tlk tth tpl tgm tcP tfp tp0 23 hkt (by decide)) (cwV 0 hts gX6_endsAt_X3_letMinuteGoBy rfl rfl rfl (by decide +kernel) ⟨Nat.le_of_ble_eq_true rfl, Nat.le_of_ble_eq_true rfl⟩) ⟨zb_blind, va_recv hK hP (ci := 5) (q0 := 0) rfl rfl, fun U hU hW => ⟨rfl, zb_mk hU hW hPr hPc hKc hDc hN hH hS hFc (zx_cons (zx_r (hAr _ (List.mem_of_getElem? (i := 5) rfl)) hDc) zx_nil)⟩⟩ rfl rfl hl.1 rfl (lv_room (Nat.le_of_ble_eq_true rfl)) dX6_endsAt_51 ⟨Nat.le_of_ble_eq_true rfl, Nat.le_of_ble_eq_true rfl⟩) hS (fun q _ h => hFc q h) hFc (fun r74 u t H73 locs ht hvm hw hB hz1 hk1 hS => ?_)
  obtain rfl : r74 = 0 := hw
  obtain ⟨w1_75, hf75_0, hP1, hD1, hK1⟩ := hB
  obtain rfl : w1_75 = 24 := hf75_0.trans (by first | rfl | decide +kernel)
  rw [ht] at hP1
  obtain ⟨hP, hD⟩ := va_join (wr := []) (w1 := [(tr, .inr (5, [.ref tlk, .ref tth, .ref tpl, .ref tgm, .int 0, .int 0, .int 1, .int (-1), .int 1, .int 24, .int 18, .int 24])), (tgm, .inr (2, [.int 1, .int 24, .int 0, .int 0, .int 0, .int (-1), .long 0])), (tp0, .inr (4, [.int 1, .int (-1), .int (-1), .int 24]))]) hP hD [0, 1, 2] [] rfl rfl (by decide) (by decide) hk1 hFc hP1 hD1
  have hP : va_P (dC, dI) vwCl [(tr, .inr (5, [.ref tlk, .ref tth, .ref tpl, .ref tgm, .int 0, .int 0, .int 1, .int (-1), .int 1, .int 24, .int 18, .int 24])), (tgm, .inr (2, [.int 1, .int 24, .int 0, .int 0, .int 0, .int (-1), .long 0])), (tp0, .inr (4, [.int 1, .int (-1), .int (-1), .int 24]))] H73 := hP
  have hD : va_D A [(tr, .inr (5, [.ref tlk, .ref tth, .ref tpl, .ref tgm, .int 0, .int 0, .int 1, .int (-1), .int 1, .int 24, .int 18, .int 24])), (tgm, .inr (2, [.int 1, .int 24, .int 0, .int 0, .int 0, .int (-1), .long 0])), (tp0, .inr (4, [.int 1, .int (-1), .int (-1), .int 24]))] := hD
  refine lv_pop hx hb dX6_endsAt_54 rfl ?_
  refine lv_iinc (v := 24) (lv' := [(1, .int 24), (0, .ref x)]) hx hb dX6_endsAt_55 hl (k := 0) rfl (by decide) (by decide) rfl (fun ls hl => ?_)
  refine lv_goto (tgt := 28) hx hb dX6_endsAt_58 (by decide) ?_
  refine lv_iload_n hx hb dX6_endsAt_28 rfl (lv_at hl 0 rfl) ?_
  refine lv_bipush (v := 60) hx hb dX6_endsAt_29 (by decide) ?_
  refine lv_icmp_ge (tgt := 61) hx hb dX6_endsAt_31 (by decide) (fun h => absurd h (by decide)) (fun _ => ?_)
  refine lv_aload_n hx hb dX6_endsAt_34 rfl (lv_at hl 1 rfl) ?_
  refine va_get (D := (dC, dI)) (ci := 8) (v := .ref tr) (C := RX6) (T := TX6) (N := 3) hx hb hts zi_X6_endsAt_X6 hown hK (zo_R hR0 hS hAr) 0 rfl rfl 1 (by decide) (hts (.fieldLink RX6 16 "LockRooms" "trial" "LLockRooms$Room;") (by decide +kernel)) (fun _ h9 => h9) rfl dX6_endsAt_35 ?_
  refine va_get (D := (dC, dI)) (ci := 5) (v := .ref tgm) (C := RX3) (T := TX3) (N := 12) hx hb hts zi_X6_endsAt_X3 hown hK hP 0 rfl rfl 3 (by decide) (hts (.fieldLink RX6 41 "LockRooms$Room" "games" "LLockRooms$Games;") (by decide +kernel)) (fun _ h9 => h9) rfl dX6_endsAt_38 ?_
  refine va_get (D := (dC, dI)) (ci := 2) (v := .int 1) (C := RX0) (T := TX0) (N := 7) hx hb hts zi_X6_endsAt_X0 hown hK hP 1 rfl rfl 0 (by decide) (hts (.fieldLink RX6 45 "LockRooms$Games" "isRunning" "Z") (by decide +kernel)) (fun _ h9 => h9) rfl dX6_endsAt_41 ?_
  refine lv_if_eq (tgt := 61) hx hb dX6_endsAt_44 (by decide) (fun h => absurd h (by decide)) (fun _ => ?_)
  refine lv_aload_n hx hb dX6_endsAt_47 rfl (lv_at hl 1 rfl) ?_
  refine va_get (D := (dC, dI)) (ci := 8) (v := .ref tr) (C := RX6) (T := TX6) (N := 3) hx hb hts zi_X6_endsAt_X6 hown hK (zo_R hR0 hS hAr) 0 rfl rfl 1 (by decide) (hts (.fieldLink RX6 16 "LockRooms" "trial" "LLockRooms$Room;") (by decide +kernel)) (fun _ h9 => h9) rfl dX6_endsAt_48 ?_
  have hPr := ((zo_R hR0 hS hAr)).sub (ws' := [(tpl, .inl (tcP, 6, .inr (.inr (.inr (.inr tfp)))))]) [5] rfl
  have hPc := hP.sub (ws' := [(tr, .inr (5, [.ref tlk, .ref tth, .ref tpl, .ref tgm, .int 0, .int 0, .int 1, .int (-1), .int 1, .int 24, .int 18, .int 24])), (tgm, .inr (2, [.int 1, .int 24, .int 0, .int 0, .int 0, .int (-1), .long 0])), (tp0, .inr (4, [.int 1, .int (-1), .int (-1), .int 24]))]) [0, 1, 2] rfl
  have hDc := hD.sub (ws' := [(tr, .inr (5, [.ref tlk, .ref tth, .ref tpl, .ref tgm, .int 0, .int 0, .int 1, .int (-1), .int 1, .int 24, .int 18, .int 24])), (tgm, .inr (2, [.int 1, .int 24, .int 0, .int 0, .int 0, .int (-1), .long 0])), (tp0, .inr (4, [.int 1, .int (-1), .int (-1), .int 24]))]) [0, 1, 2] (by decide) rfl
  have hKc := hK.sub (tys' := [(tcP, .object "LockRooms$Player")]) [1] rfl
  have hFc := va_free (wc := [(tr, .inr (5, [.ref tlk, .ref tth, .ref tpl, .ref tgm, .int 0, .int 0, .int 1, .int (-1), .int 1, .int 24, .int 18, .int 24])), (tgm, .inr (2, [.int 1, .int 24, .int 0, .int 0, .int 0, .int (-1), .long 0])), (tp0, .inr (4, [.int 1, .int (-1), .int (-1), .int 24]))]) hD hS hA [0, 1, 2] rfl
  refine va_calli (va_runV (As := []) (rest := []) ⟨hx, hb, hml, hown, hts⟩ (cz_RmidMinute l dC dI ed H73.size tr tlk tth tpl tgm tcP tfp tp0 24 hkt (by decide)) (cwV 0 hts gX6_endsAt_X3_letMinuteGoBy rfl rfl rfl (by decide +kernel) ⟨Nat.le_of_ble_eq_true rfl, Nat.le_of_ble_eq_true rfl⟩) ⟨zb_blind, va_recv hK hP (ci := 5) (q0 := 0) rfl rfl, fun U hU hW => ⟨rfl, zb_mk hU hW hPr hPc hKc hDc hN hH hS hFc (zx_cons (zx_r (hAr _ (List.mem_of_getElem? (i := 5) rfl)) hDc) zx_nil)⟩⟩ rfl rfl hl.1 rfl (lv_room (Nat.le_of_ble_eq_true rfl)) dX6_endsAt_51 ⟨Nat.le_of_ble_eq_true rfl, Nat.le_of_ble_eq_true rfl⟩) hS (fun q _ h => hFc q h) hFc (fun r77 u t H76 locs ht hvm hw hB hz1 hk1 hS => ?_)
  obtain rfl : r77 = 0 := hw
  obtain ⟨w1_78, hf78_0, hP1, hD1, hK1⟩ := hB
  obtain rfl : w1_78 = 25 := hf78_0.trans (by first | rfl | decide +kernel)
  rw [ht] at hP1
  obtain ⟨hP, hD⟩ := va_join (wr := []) (w1 := [(tr, .inr (5, [.ref tlk, .ref tth, .ref tpl, .ref tgm, .int 0, .int 0, .int 1, .int (-1), .int 1, .int 25, .int 18, .int 25])), (tgm, .inr (2, [.int 1, .int 25, .int 0, .int 0, .int 0, .int (-1), .long 0])), (tp0, .inr (4, [.int 1, .int (-1), .int (-1), .int 25]))]) hP hD [0, 1, 2] [] rfl rfl (by decide) (by decide) hk1 hFc hP1 hD1
  have hP : va_P (dC, dI) vwCl [(tr, .inr (5, [.ref tlk, .ref tth, .ref tpl, .ref tgm, .int 0, .int 0, .int 1, .int (-1), .int 1, .int 25, .int 18, .int 25])), (tgm, .inr (2, [.int 1, .int 25, .int 0, .int 0, .int 0, .int (-1), .long 0])), (tp0, .inr (4, [.int 1, .int (-1), .int (-1), .int 25]))] H76 := hP
  have hD : va_D A [(tr, .inr (5, [.ref tlk, .ref tth, .ref tpl, .ref tgm, .int 0, .int 0, .int 1, .int (-1), .int 1, .int 25, .int 18, .int 25])), (tgm, .inr (2, [.int 1, .int 25, .int 0, .int 0, .int 0, .int (-1), .long 0])), (tp0, .inr (4, [.int 1, .int (-1), .int (-1), .int 25]))] := hD
  refine lv_pop hx hb dX6_endsAt_54 rfl ?_
  refine lv_iinc (v := 25) (lv' := [(1, .int 25), (0, .ref x)]) hx hb dX6_endsAt_55 hl (k := 0) rfl (by decide) (by decide) rfl (fun ls hl => ?_)
  refine lv_goto (tgt := 28) hx hb dX6_endsAt_58 (by decide) ?_
  refine lv_iload_n hx hb dX6_endsAt_28 rfl (lv_at hl 0 rfl) ?_
  refine lv_bipush (v := 60) hx hb dX6_endsAt_29 (by decide) ?_
  refine lv_icmp_ge (tgt := 61) hx hb dX6_endsAt_31 (by decide) (fun h => absurd h (by decide)) (fun _ => ?_)
  refine lv_aload_n hx hb dX6_endsAt_34 rfl (lv_at hl 1 rfl) ?_
  refine va_get (D := (dC, dI)) (ci := 8) (v := .ref tr) (C := RX6) (T := TX6) (N := 3) hx hb hts zi_X6_endsAt_X6 hown hK (zo_R hR0 hS hAr) 0 rfl rfl 1 (by decide) (hts (.fieldLink RX6 16 "LockRooms" "trial" "LLockRooms$Room;") (by decide +kernel)) (fun _ h9 => h9) rfl dX6_endsAt_35 ?_
  refine va_get (D := (dC, dI)) (ci := 5) (v := .ref tgm) (C := RX3) (T := TX3) (N := 12) hx hb hts zi_X6_endsAt_X3 hown hK hP 0 rfl rfl 3 (by decide) (hts (.fieldLink RX6 41 "LockRooms$Room" "games" "LLockRooms$Games;") (by decide +kernel)) (fun _ h9 => h9) rfl dX6_endsAt_38 ?_
  refine va_get (D := (dC, dI)) (ci := 2) (v := .int 1) (C := RX0) (T := TX0) (N := 7) hx hb hts zi_X6_endsAt_X0 hown hK hP 1 rfl rfl 0 (by decide) (hts (.fieldLink RX6 45 "LockRooms$Games" "isRunning" "Z") (by decide +kernel)) (fun _ h9 => h9) rfl dX6_endsAt_41 ?_
  refine lv_if_eq (tgt := 61) hx hb dX6_endsAt_44 (by decide) (fun h => absurd h (by decide)) (fun _ => ?_)
  refine lv_aload_n hx hb dX6_endsAt_47 rfl (lv_at hl 1 rfl) ?_
  refine va_get (D := (dC, dI)) (ci := 8) (v := .ref tr) (C := RX6) (T := TX6) (N := 3) hx hb hts zi_X6_endsAt_X6 hown hK (zo_R hR0 hS hAr) 0 rfl rfl 1 (by decide) (hts (.fieldLink RX6 16 "LockRooms" "trial" "LLockRooms$Room;") (by decide +kernel)) (fun _ h9 => h9) rfl dX6_endsAt_48 ?_
  have hPr := ((zo_R hR0 hS hAr)).sub (ws' := [(tpl, .inl (tcP, 6, .inr (.inr (.inr (.inr tfp)))))]) [5] rfl
  have hPc := hP.sub (ws' := [(tr, .inr (5, [.ref tlk, .ref tth, .ref tpl, .ref tgm, .int 0, .int 0, .int 1, .int (-1), .int 1, .int 25, .int 18, .int 25])), (tgm, .inr (2, [.int 1, .int 25, .int 0, .int 0, .int 0, .int (-1), .long 0])), (tp0, .inr (4, [.int 1, .int (-1), .int (-1), .int 25]))]) [0, 1, 2] rfl
  have hDc := hD.sub (ws' := [(tr, .inr (5, [.ref tlk, .ref tth, .ref tpl, .ref tgm, .int 0, .int 0, .int 1, .int (-1), .int 1, .int 25, .int 18, .int 25])), (tgm, .inr (2, [.int 1, .int 25, .int 0, .int 0, .int 0, .int (-1), .long 0])), (tp0, .inr (4, [.int 1, .int (-1), .int (-1), .int 25]))]) [0, 1, 2] (by decide) rfl
  have hKc := hK.sub (tys' := [(tcP, .object "LockRooms$Player")]) [1] rfl
  have hFc := va_free (wc := [(tr, .inr (5, [.ref tlk, .ref tth, .ref tpl, .ref tgm, .int 0, .int 0, .int 1, .int (-1), .int 1, .int 25, .int 18, .int 25])), (tgm, .inr (2, [.int 1, .int 25, .int 0, .int 0, .int 0, .int (-1), .long 0])), (tp0, .inr (4, [.int 1, .int (-1), .int (-1), .int 25]))]) hD hS hA [0, 1, 2] rfl
  refine va_calli (va_runV (As := []) (rest := []) ⟨hx, hb, hml, hown, hts⟩ (cz_RmidMinute l dC dI ed H76.size tr tlk tth tpl tgm tcP tfp tp0 25 hkt (by decide)) (cwV 0 hts gX6_endsAt_X3_letMinuteGoBy rfl rfl rfl (by decide +kernel) ⟨Nat.le_of_ble_eq_true rfl, Nat.le_of_ble_eq_true rfl⟩) ⟨zb_blind, va_recv hK hP (ci := 5) (q0 := 0) rfl rfl, fun U hU hW => ⟨rfl, zb_mk hU hW hPr hPc hKc hDc hN hH hS hFc (zx_cons (zx_r (hAr _ (List.mem_of_getElem? (i := 5) rfl)) hDc) zx_nil)⟩⟩ rfl rfl hl.1 rfl (lv_room (Nat.le_of_ble_eq_true rfl)) dX6_endsAt_51 ⟨Nat.le_of_ble_eq_true rfl, Nat.le_of_ble_eq_true rfl⟩) hS (fun q _ h => hFc q h) hFc (fun r80 u t H79 locs ht hvm hw hB hz1 hk1 hS => ?_)
  obtain rfl : r80 = 0 := hw
  obtain ⟨w1_81, hf81_0, hP1, hD1, hK1⟩ := hB
  obtain rfl : w1_81 = 26 := hf81_0.trans (by first | rfl | decide +kernel)
  rw [ht] at hP1
  obtain ⟨hP, hD⟩ := va_join (wr := []) (w1 := [(tr, .inr (5, [.ref tlk, .ref tth, .ref tpl, .ref tgm, .int 0, .int 0, .int 1, .int (-1), .int 1, .int 26, .int 18, .int 26])), (tgm, .inr (2, [.int 1, .int 26, .int 0, .int 0, .int 0, .int (-1), .long 0])), (tp0, .inr (4, [.int 1, .int (-1), .int (-1), .int 26]))]) hP hD [0, 1, 2] [] rfl rfl (by decide) (by decide) hk1 hFc hP1 hD1
  have hP : va_P (dC, dI) vwCl [(tr, .inr (5, [.ref tlk, .ref tth, .ref tpl, .ref tgm, .int 0, .int 0, .int 1, .int (-1), .int 1, .int 26, .int 18, .int 26])), (tgm, .inr (2, [.int 1, .int 26, .int 0, .int 0, .int 0, .int (-1), .long 0])), (tp0, .inr (4, [.int 1, .int (-1), .int (-1), .int 26]))] H79 := hP
  have hD : va_D A [(tr, .inr (5, [.ref tlk, .ref tth, .ref tpl, .ref tgm, .int 0, .int 0, .int 1, .int (-1), .int 1, .int 26, .int 18, .int 26])), (tgm, .inr (2, [.int 1, .int 26, .int 0, .int 0, .int 0, .int (-1), .long 0])), (tp0, .inr (4, [.int 1, .int (-1), .int (-1), .int 26]))] := hD
  refine lv_pop hx hb dX6_endsAt_54 rfl ?_
  refine lv_iinc (v := 26) (lv' := [(1, .int 26), (0, .ref x)]) hx hb dX6_endsAt_55 hl (k := 0) rfl (by decide) (by decide) rfl (fun ls hl => ?_)
  refine lv_goto (tgt := 28) hx hb dX6_endsAt_58 (by decide) ?_
  refine lv_iload_n hx hb dX6_endsAt_28 rfl (lv_at hl 0 rfl) ?_
  refine lv_bipush (v := 60) hx hb dX6_endsAt_29 (by decide) ?_
  refine lv_icmp_ge (tgt := 61) hx hb dX6_endsAt_31 (by decide) (fun h => absurd h (by decide)) (fun _ => ?_)
  refine lv_aload_n hx hb dX6_endsAt_34 rfl (lv_at hl 1 rfl) ?_
  refine va_get (D := (dC, dI)) (ci := 8) (v := .ref tr) (C := RX6) (T := TX6) (N := 3) hx hb hts zi_X6_endsAt_X6 hown hK (zo_R hR0 hS hAr) 0 rfl rfl 1 (by decide) (hts (.fieldLink RX6 16 "LockRooms" "trial" "LLockRooms$Room;") (by decide +kernel)) (fun _ h9 => h9) rfl dX6_endsAt_35 ?_
  refine va_get (D := (dC, dI)) (ci := 5) (v := .ref tgm) (C := RX3) (T := TX3) (N := 12) hx hb hts zi_X6_endsAt_X3 hown hK hP 0 rfl rfl 3 (by decide) (hts (.fieldLink RX6 41 "LockRooms$Room" "games" "LLockRooms$Games;") (by decide +kernel)) (fun _ h9 => h9) rfl dX6_endsAt_38 ?_
  refine va_get (D := (dC, dI)) (ci := 2) (v := .int 1) (C := RX0) (T := TX0) (N := 7) hx hb hts zi_X6_endsAt_X0 hown hK hP 1 rfl rfl 0 (by decide) (hts (.fieldLink RX6 45 "LockRooms$Games" "isRunning" "Z") (by decide +kernel)) (fun _ h9 => h9) rfl dX6_endsAt_41 ?_
  refine lv_if_eq (tgt := 61) hx hb dX6_endsAt_44 (by decide) (fun h => absurd h (by decide)) (fun _ => ?_)
  refine lv_aload_n hx hb dX6_endsAt_47 rfl (lv_at hl 1 rfl) ?_
  refine va_get (D := (dC, dI)) (ci := 8) (v := .ref tr) (C := RX6) (T := TX6) (N := 3) hx hb hts zi_X6_endsAt_X6 hown hK (zo_R hR0 hS hAr) 0 rfl rfl 1 (by decide) (hts (.fieldLink RX6 16 "LockRooms" "trial" "LLockRooms$Room;") (by decide +kernel)) (fun _ h9 => h9) rfl dX6_endsAt_48 ?_
  have hPr := ((zo_R hR0 hS hAr)).sub (ws' := [(tpl, .inl (tcP, 6, .inr (.inr (.inr (.inr tfp)))))]) [5] rfl
  have hPc := hP.sub (ws' := [(tr, .inr (5, [.ref tlk, .ref tth, .ref tpl, .ref tgm, .int 0, .int 0, .int 1, .int (-1), .int 1, .int 26, .int 18, .int 26])), (tgm, .inr (2, [.int 1, .int 26, .int 0, .int 0, .int 0, .int (-1), .long 0])), (tp0, .inr (4, [.int 1, .int (-1), .int (-1), .int 26]))]) [0, 1, 2] rfl
  have hDc := hD.sub (ws' := [(tr, .inr (5, [.ref tlk, .ref tth, .ref tpl, .ref tgm, .int 0, .int 0, .int 1, .int (-1), .int 1, .int 26, .int 18, .int 26])), (tgm, .inr (2, [.int 1, .int 26, .int 0, .int 0, .int 0, .int (-1), .long 0])), (tp0, .inr (4, [.int 1, .int (-1), .int (-1), .int 26]))]) [0, 1, 2] (by decide) rfl
  have hKc := hK.sub (tys' := [(tcP, .object "LockRooms$Player")]) [1] rfl
  have hFc := va_free (wc := [(tr, .inr (5, [.ref tlk, .ref tth, .ref tpl, .ref tgm, .int 0, .int 0, .int 1, .int (-1), .int 1, .int 26, .int 18, .int 26])), (tgm, .inr (2, [.int 1, .int 26, .int 0, .int 0, .int 0, .int (-1), .long 0])), (tp0, .inr (4, [.int 1, .int (-1), .int (-1), .int 26]))]) hD hS hA [0, 1, 2] rfl
  refine va_calli (va_runV (As := []) (rest := []) ⟨hx, hb, hml, hown, hts⟩ (cz_RmidMinute l dC dI ed H79.size tr tlk tth tpl tgm tcP tfp tp0 26 hkt (by decide)) (cwV 0 hts gX6_endsAt_X3_letMinuteGoBy rfl rfl rfl (by decide +kernel) ⟨Nat.le_of_ble_eq_true rfl, Nat.le_of_ble_eq_true rfl⟩) ⟨zb_blind, va_recv hK hP (ci := 5) (q0 := 0) rfl rfl, fun U hU hW => ⟨rfl, zb_mk hU hW hPr hPc hKc hDc hN hH hS hFc (zx_cons (zx_r (hAr _ (List.mem_of_getElem? (i := 5) rfl)) hDc) zx_nil)⟩⟩ rfl rfl hl.1 rfl (lv_room (Nat.le_of_ble_eq_true rfl)) dX6_endsAt_51 ⟨Nat.le_of_ble_eq_true rfl, Nat.le_of_ble_eq_true rfl⟩) hS (fun q _ h => hFc q h) hFc (fun r83 u t H82 locs ht hvm hw hB hz1 hk1 hS => ?_)
  obtain rfl : r83 = 0 := hw
  obtain ⟨w1_84, hf84_0, hP1, hD1, hK1⟩ := hB
  obtain rfl : w1_84 = 27 := hf84_0.trans (by first | rfl | decide +kernel)
  rw [ht] at hP1
  obtain ⟨hP, hD⟩ := va_join (wr := []) (w1 := [(tr, .inr (5, [.ref tlk, .ref tth, .ref tpl, .ref tgm, .int 0, .int 0, .int 1, .int (-1), .int 1, .int 27, .int 18, .int 27])), (tgm, .inr (2, [.int 1, .int 27, .int 0, .int 0, .int 0, .int (-1), .long 0])), (tp0, .inr (4, [.int 1, .int (-1), .int (-1), .int 27]))]) hP hD [0, 1, 2] [] rfl rfl (by decide) (by decide) hk1 hFc hP1 hD1
  have hP : va_P (dC, dI) vwCl [(tr, .inr (5, [.ref tlk, .ref tth, .ref tpl, .ref tgm, .int 0, .int 0, .int 1, .int (-1), .int 1, .int 27, .int 18, .int 27])), (tgm, .inr (2, [.int 1, .int 27, .int 0, .int 0, .int 0, .int (-1), .long 0])), (tp0, .inr (4, [.int 1, .int (-1), .int (-1), .int 27]))] H82 := hP
  have hD : va_D A [(tr, .inr (5, [.ref tlk, .ref tth, .ref tpl, .ref tgm, .int 0, .int 0, .int 1, .int (-1), .int 1, .int 27, .int 18, .int 27])), (tgm, .inr (2, [.int 1, .int 27, .int 0, .int 0, .int 0, .int (-1), .long 0])), (tp0, .inr (4, [.int 1, .int (-1), .int (-1), .int 27]))] := hD
  refine lv_pop hx hb dX6_endsAt_54 rfl ?_
  refine lv_iinc (v := 27) (lv' := [(1, .int 27), (0, .ref x)]) hx hb dX6_endsAt_55 hl (k := 0) rfl (by decide) (by decide) rfl (fun ls hl => ?_)
  refine lv_goto (tgt := 28) hx hb dX6_endsAt_58 (by decide) ?_
  refine lv_iload_n hx hb dX6_endsAt_28 rfl (lv_at hl 0 rfl) ?_
  refine lv_bipush (v := 60) hx hb dX6_endsAt_29 (by decide) ?_
  refine lv_icmp_ge (tgt := 61) hx hb dX6_endsAt_31 (by decide) (fun h => absurd h (by decide)) (fun _ => ?_)
  refine lv_aload_n hx hb dX6_endsAt_34 rfl (lv_at hl 1 rfl) ?_
  refine va_get (D := (dC, dI)) (ci := 8) (v := .ref tr) (C := RX6) (T := TX6) (N := 3) hx hb hts zi_X6_endsAt_X6 hown hK (zo_R hR0 hS hAr) 0 rfl rfl 1 (by decide) (hts (.fieldLink RX6 16 "LockRooms" "trial" "LLockRooms$Room;") (by decide +kernel)) (fun _ h9 => h9) rfl dX6_endsAt_35 ?_
  refine va_get (D := (dC, dI)) (ci := 5) (v := .ref tgm) (C := RX3) (T := TX3) (N := 12) hx hb hts zi_X6_endsAt_X3 hown hK hP 0 rfl rfl 3 (by decide) (hts (.fieldLink RX6 41 "LockRooms$Room" "games" "LLockRooms$Games;") (by decide +kernel)) (fun _ h9 => h9) rfl dX6_endsAt_38 ?_
  refine va_get (D := (dC, dI)) (ci := 2) (v := .int 1) (C := RX0) (T := TX0) (N := 7) hx hb hts zi_X6_endsAt_X0 hown hK hP 1 rfl rfl 0 (by decide) (hts (.fieldLink RX6 45 "LockRooms$Games" "isRunning" "Z") (by decide +kernel)) (fun _ h9 => h9) rfl dX6_endsAt_41 ?_
  refine lv_if_eq (tgt := 61) hx hb dX6_endsAt_44 (by decide) (fun h => absurd h (by decide)) (fun _ => ?_)
  refine lv_aload_n hx hb dX6_endsAt_47 rfl (lv_at hl 1 rfl) ?_
  refine va_get (D := (dC, dI)) (ci := 8) (v := .ref tr) (C := RX6) (T := TX6) (N := 3) hx hb hts zi_X6_endsAt_X6 hown hK (zo_R hR0 hS hAr) 0 rfl rfl 1 (by decide) (hts (.fieldLink RX6 16 "LockRooms" "trial" "LLockRooms$Room;") (by decide +kernel)) (fun _ h9 => h9) rfl dX6_endsAt_48 ?_
  have hPr := ((zo_R hR0 hS hAr)).sub (ws' := [(tpl, .inl (tcP, 6, .inr (.inr (.inr (.inr tfp)))))]) [5] rfl
  have hPc := hP.sub (ws' := [(tr, .inr (5, [.ref tlk, .ref tth, .ref tpl, .ref tgm, .int 0, .int 0, .int 1, .int (-1), .int 1, .int 27, .int 18, .int 27])), (tgm, .inr (2, [.int 1, .int 27, .int 0, .int 0, .int 0, .int (-1), .long 0])), (tp0, .inr (4, [.int 1, .int (-1), .int (-1), .int 27]))]) [0, 1, 2] rfl
  have hDc := hD.sub (ws' := [(tr, .inr (5, [.ref tlk, .ref tth, .ref tpl, .ref tgm, .int 0, .int 0, .int 1, .int (-1), .int 1, .int 27, .int 18, .int 27])), (tgm, .inr (2, [.int 1, .int 27, .int 0, .int 0, .int 0, .int (-1), .long 0])), (tp0, .inr (4, [.int 1, .int (-1), .int (-1), .int 27]))]) [0, 1, 2] (by decide) rfl
  have hKc := hK.sub (tys' := [(tcP, .object "LockRooms$Player")]) [1] rfl
  have hFc := va_free (wc := [(tr, .inr (5, [.ref tlk, .ref tth, .ref tpl, .ref tgm, .int 0, .int 0, .int 1, .int (-1), .int 1, .int 27, .int 18, .int 27])), (tgm, .inr (2, [.int 1, .int 27, .int 0, .int 0, .int 0, .int (-1), .long 0])), (tp0, .inr (4, [.int 1, .int (-1), .int (-1), .int 27]))]) hD hS hA [0, 1, 2] rfl
  refine va_calli (va_runV (As := []) (rest := []) ⟨hx, hb, hml, hown, hts⟩ (cz_RmidMinute l dC dI ed H82.size tr tlk tth tpl tgm tcP tfp tp0 27 hkt (by decide)) (cwV 0 hts gX6_endsAt_X3_letMinuteGoBy rfl rfl rfl (by decide +kernel) ⟨Nat.le_of_ble_eq_true rfl, Nat.le_of_ble_eq_true rfl⟩) ⟨zb_blind, va_recv hK hP (ci := 5) (q0 := 0) rfl rfl, fun U hU hW => ⟨rfl, zb_mk hU hW hPr hPc hKc hDc hN hH hS hFc (zx_cons (zx_r (hAr _ (List.mem_of_getElem? (i := 5) rfl)) hDc) zx_nil)⟩⟩ rfl rfl hl.1 rfl (lv_room (Nat.le_of_ble_eq_true rfl)) dX6_endsAt_51 ⟨Nat.le_of_ble_eq_true rfl, Nat.le_of_ble_eq_true rfl⟩) hS (fun q _ h => hFc q h) hFc (fun r86 u t H85 locs ht hvm hw hB hz1 hk1 hS => ?_)
  obtain rfl : r86 = 0 := hw
  obtain ⟨w1_87, hf87_0, hP1, hD1, hK1⟩ := hB
  obtain rfl : w1_87 = 28 := hf87_0.trans (by first | rfl | decide +kernel)
  rw [ht] at hP1
  obtain ⟨hP, hD⟩ := va_join (wr := []) (w1 := [(tr, .inr (5, [.ref tlk, .ref tth, .ref tpl, .ref tgm, .int 0, .int 0, .int 1, .int (-1), .int 1, .int 28, .int 18, .int 28])), (tgm, .inr (2, [.int 1, .int 28, .int 0, .int 0, .int 0, .int (-1), .long 0])), (tp0, .inr (4, [.int 1, .int (-1), .int (-1), .int 28]))]) hP hD [0, 1, 2] [] rfl rfl (by decide) (by decide) hk1 hFc hP1 hD1
  have hP : va_P (dC, dI) vwCl [(tr, .inr (5, [.ref tlk, .ref tth, .ref tpl, .ref tgm, .int 0, .int 0, .int 1, .int (-1), .int 1, .int 28, .int 18, .int 28])), (tgm, .inr (2, [.int 1, .int 28, .int 0, .int 0, .int 0, .int (-1), .long 0])), (tp0, .inr (4, [.int 1, .int (-1), .int (-1), .int 28]))] H85 := hP
  have hD : va_D A [(tr, .inr (5, [.ref tlk, .ref tth, .ref tpl, .ref tgm, .int 0, .int 0, .int 1, .int (-1), .int 1, .int 28, .int 18, .int 28])), (tgm, .inr (2, [.int 1, .int 28, .int 0, .int 0, .int 0, .int (-1), .long 0])), (tp0, .inr (4, [.int 1, .int (-1), .int (-1), .int 28]))] := hD
  refine lv_pop hx hb dX6_endsAt_54 rfl ?_
  refine lv_iinc (v := 28) (lv' := [(1, .int 28), (0, .ref x)]) hx hb dX6_endsAt_55 hl (k := 0) rfl (by decide) (by decide) rfl (fun ls hl => ?_)
  refine lv_goto (tgt := 28) hx hb dX6_endsAt_58 (by decide) ?_
  refine lv_iload_n hx hb dX6_endsAt_28 rfl (lv_at hl 0 rfl) ?_
  refine lv_bipush (v := 60) hx hb dX6_endsAt_29 (by decide) ?_
  refine lv_icmp_ge (tgt := 61) hx hb dX6_endsAt_31 (by decide) (fun h => absurd h (by decide)) (fun _ => ?_)
  refine lv_aload_n hx hb dX6_endsAt_34 rfl (lv_at hl 1 rfl) ?_
  refine va_get (D := (dC, dI)) (ci := 8) (v := .ref tr) (C := RX6) (T := TX6) (N := 3) hx hb hts zi_X6_endsAt_X6 hown hK (zo_R hR0 hS hAr) 0 rfl rfl 1 (by decide) (hts (.fieldLink RX6 16 "LockRooms" "trial" "LLockRooms$Room;") (by decide +kernel)) (fun _ h9 => h9) rfl dX6_endsAt_35 ?_
  refine va_get (D := (dC, dI)) (ci := 5) (v := .ref tgm) (C := RX3) (T := TX3) (N := 12) hx hb hts zi_X6_endsAt_X3 hown hK hP 0 rfl rfl 3 (by decide) (hts (.fieldLink RX6 41 "LockRooms$Room" "games" "LLockRooms$Games;") (by decide +kernel)) (fun _ h9 => h9) rfl dX6_endsAt_38 ?_
  refine va_get (D := (dC, dI)) (ci := 2) (v := .int 1) (C := RX0) (T := TX0) (N := 7) hx hb hts zi_X6_endsAt_X0 hown hK hP 1 rfl rfl 0 (by decide) (hts (.fieldLink RX6 45 "LockRooms$Games" "isRunning" "Z") (by decide +kernel)) (fun _ h9 => h9) rfl dX6_endsAt_41 ?_
  refine lv_if_eq (tgt := 61) hx hb dX6_endsAt_44 (by decide) (fun h => absurd h (by decide)) (fun _ => ?_)
  refine lv_aload_n hx hb dX6_endsAt_47 rfl (lv_at hl 1 rfl) ?_
  refine va_get (D := (dC, dI)) (ci := 8) (v := .ref tr) (C := RX6) (T := TX6) (N := 3) hx hb hts zi_X6_endsAt_X6 hown hK (zo_R hR0 hS hAr) 0 rfl rfl 1 (by decide) (hts (.fieldLink RX6 16 "LockRooms" "trial" "LLockRooms$Room;") (by decide +kernel)) (fun _ h9 => h9) rfl dX6_endsAt_48 ?_
  have hPr := ((zo_R hR0 hS hAr)).sub (ws' := [(tpl, .inl (tcP, 6, .inr (.inr (.inr (.inr tfp)))))]) [5] rfl
  have hPc := hP.sub (ws' := [(tr, .inr (5, [.ref tlk, .ref tth, .ref tpl, .ref tgm, .int 0, .int 0, .int 1, .int (-1), .int 1, .int 28, .int 18, .int 28])), (tgm, .inr (2, [.int 1, .int 28, .int 0, .int 0, .int 0, .int (-1), .long 0])), (tp0, .inr (4, [.int 1, .int (-1), .int (-1), .int 28]))]) [0, 1, 2] rfl
  have hDc := hD.sub (ws' := [(tr, .inr (5, [.ref tlk, .ref tth, .ref tpl, .ref tgm, .int 0, .int 0, .int 1, .int (-1), .int 1, .int 28, .int 18, .int 28])), (tgm, .inr (2, [.int 1, .int 28, .int 0, .int 0, .int 0, .int (-1), .long 0])), (tp0, .inr (4, [.int 1, .int (-1), .int (-1), .int 28]))]) [0, 1, 2] (by decide) rfl
  have hKc := hK.sub (tys' := [(tcP, .object "LockRooms$Player")]) [1] rfl
  have hFc := va_free (wc := [(tr, .inr (5, [.ref tlk, .ref tth, .ref tpl, .ref tgm, .int 0, .int 0, .int 1, .int (-1), .int 1, .int 28, .int 18, .int 28])), (tgm, .inr (2, [.int 1, .int 28, .int 0, .int 0, .int 0, .int (-1), .long 0])), (tp0, .inr (4, [.int 1, .int (-1), .int (-1), .int 28]))]) hD hS hA [0, 1, 2] rfl
  refine va_calli (va_runV (As := []) (rest := []) ⟨hx, hb, hml, hown, hts⟩ (cz_RmidMinute l dC dI ed H85.size tr tlk tth tpl tgm tcP tfp tp0 28 hkt (by decide)) (cwV 0 hts gX6_endsAt_X3_letMinuteGoBy rfl rfl rfl (by decide +kernel) ⟨Nat.le_of_ble_eq_true rfl, Nat.le_of_ble_eq_true rfl⟩) ⟨zb_blind, va_recv hK hP (ci := 5) (q0 := 0) rfl rfl, fun U hU hW => ⟨rfl, zb_mk hU hW hPr hPc hKc hDc hN hH hS hFc (zx_cons (zx_r (hAr _ (List.mem_of_getElem? (i := 5) rfl)) hDc) zx_nil)⟩⟩ rfl rfl hl.1 rfl (lv_room (Nat.le_of_ble_eq_true rfl)) dX6_endsAt_51 ⟨Nat.le_of_ble_eq_true rfl, Nat.le_of_ble_eq_true rfl⟩) hS (fun q _ h => hFc q h) hFc (fun r89 u t H88 locs ht hvm hw hB hz1 hk1 hS => ?_)
  obtain rfl : r89 = 0 := hw
  obtain ⟨w1_90, hf90_0, hP1, hD1, hK1⟩ := hB
  obtain rfl : w1_90 = 29 := hf90_0.trans (by first | rfl | decide +kernel)
  rw [ht] at hP1
  obtain ⟨hP, hD⟩ := va_join (wr := []) (w1 := [(tr, .inr (5, [.ref tlk, .ref tth, .ref tpl, .ref tgm, .int 0, .int 0, .int 1, .int (-1), .int 1, .int 29, .int 18, .int 29])), (tgm, .inr (2, [.int 1, .int 29, .int 0, .int 0, .int 0, .int (-1), .long 0])), (tp0, .inr (4, [.int 1, .int (-1), .int (-1), .int 29]))]) hP hD [0, 1, 2] [] rfl rfl (by decide) (by decide) hk1 hFc hP1 hD1
  have hP : va_P (dC, dI) vwCl [(tr, .inr (5, [.ref tlk, .ref tth, .ref tpl, .ref tgm, .int 0, .int 0, .int 1, .int (-1), .int 1, .int 29, .int 18, .int 29])), (tgm, .inr (2, [.int 1, .int 29, .int 0, .int 0, .int 0, .int (-1), .long 0])), (tp0, .inr (4, [.int 1, .int (-1), .int (-1), .int 29]))] H88 := hP
  have hD : va_D A [(tr, .inr (5, [.ref tlk, .ref tth, .ref tpl, .ref tgm, .int 0, .int 0, .int 1, .int (-1), .int 1, .int 29, .int 18, .int 29])), (tgm, .inr (2, [.int 1, .int 29, .int 0, .int 0, .int 0, .int (-1), .long 0])), (tp0, .inr (4, [.int 1, .int (-1), .int (-1), .int 29]))] := hD
  refine lv_pop hx hb dX6_endsAt_54 rfl ?_
  refine lv_iinc (v := 29) (lv' := [(1, .int 29), (0, .ref x)]) hx hb dX6_endsAt_55 hl (k := 0) rfl (by decide) (by decide) rfl (fun ls hl => ?_)
  refine lv_goto (tgt := 28) hx hb dX6_endsAt_58 (by decide) ?_
  refine lv_iload_n hx hb dX6_endsAt_28 rfl (lv_at hl 0 rfl) ?_
  refine lv_bipush (v := 60) hx hb dX6_endsAt_29 (by decide) ?_
  refine lv_icmp_ge (tgt := 61) hx hb dX6_endsAt_31 (by decide) (fun h => absurd h (by decide)) (fun _ => ?_)
  refine lv_aload_n hx hb dX6_endsAt_34 rfl (lv_at hl 1 rfl) ?_
  refine va_get (D := (dC, dI)) (ci := 8) (v := .ref tr) (C := RX6) (T := TX6) (N := 3) hx hb hts zi_X6_endsAt_X6 hown hK (zo_R hR0 hS hAr) 0 rfl rfl 1 (by decide) (hts (.fieldLink RX6 16 "LockRooms" "trial" "LLockRooms$Room;") (by decide +kernel)) (fun _ h9 => h9) rfl dX6_endsAt_35 ?_
  refine va_get (D := (dC, dI)) (ci := 5) (v := .ref tgm) (C := RX3) (T := TX3) (N := 12) hx hb hts zi_X6_endsAt_X3 hown hK hP 0 rfl rfl 3 (by decide) (hts (.fieldLink RX6 41 "LockRooms$Room" "games" "LLockRooms$Games;") (by decide +kernel)) (fun _ h9 => h9) rfl dX6_endsAt_38 ?_
  refine va_get (D := (dC, dI)) (ci := 2) (v := .int 1) (C := RX0) (T := TX0) (N := 7) hx hb hts zi_X6_endsAt_X0 hown hK hP 1 rfl rfl 0 (by decide) (hts (.fieldLink RX6 45 "LockRooms$Games" "isRunning" "Z") (by decide +kernel)) (fun _ h9 => h9) rfl dX6_endsAt_41 ?_
  refine lv_if_eq (tgt := 61) hx hb dX6_endsAt_44 (by decide) (fun h => absurd h (by decide)) (fun _ => ?_)
  refine lv_aload_n hx hb dX6_endsAt_47 rfl (lv_at hl 1 rfl) ?_
  refine va_get (D := (dC, dI)) (ci := 8) (v := .ref tr) (C := RX6) (T := TX6) (N := 3) hx hb hts zi_X6_endsAt_X6 hown hK (zo_R hR0 hS hAr) 0 rfl rfl 1 (by decide) (hts (.fieldLink RX6 16 "LockRooms" "trial" "LLockRooms$Room;") (by decide +kernel)) (fun _ h9 => h9) rfl dX6_endsAt_48 ?_
  have hPr := ((zo_R hR0 hS hAr)).sub (ws' := [(tpl, .inl (tcP, 6, .inr (.inr (.inr (.inr tfp)))))]) [5] rfl
  have hPc := hP.sub (ws' := [(tr, .inr (5, [.ref tlk, .ref tth, .ref tpl, .ref tgm, .int 0, .int 0, .int 1, .int (-1), .int 1, .int 29, .int 18, .int 29])), (tgm, .inr (2, [.int 1, .int 29, .int 0, .int 0, .int 0, .int (-1), .long 0])), (tp0, .inr (4, [.int 1, .int (-1), .int (-1), .int 29]))]) [0, 1, 2] rfl
  have hDc := hD.sub (ws' := [(tr, .inr (5, [.ref tlk, .ref tth, .ref tpl, .ref tgm, .int 0, .int 0, .int 1, .int (-1), .int 1, .int 29, .int 18, .int 29])), (tgm, .inr (2, [.int 1, .int 29, .int 0, .int 0, .int 0, .int (-1), .long 0])), (tp0, .inr (4, [.int 1, .int (-1), .int (-1), .int 29]))]) [0, 1, 2] (by decide) rfl
  have hKc := hK.sub (tys' := [(tcP, .object "LockRooms$Player")]) [1] rfl
  have hFc := va_free (wc := [(tr, .inr (5, [.ref tlk, .ref tth, .ref tpl, .ref tgm, .int 0, .int 0, .int 1, .int (-1), .int 1, .int 29, .int 18, .int 29])), (tgm, .inr (2, [.int 1, .int 29, .int 0, .int 0, .int 0, .int (-1), .long 0])), (tp0, .inr (4, [.int 1, .int (-1), .int (-1), .int 29]))]) hD hS hA [0, 1, 2] rfl
  refine va_calli (va_runV (As := []) (rest := []) ⟨hx, hb, hml, hown, hts⟩ (cz_RmidMinute l dC dI ed H88.size tr tlk tth tpl tgm tcP tfp tp0 29 hkt (by decide)) (cwV 0 hts gX6_endsAt_X3_letMinuteGoBy rfl rfl rfl (by decide +kernel) ⟨Nat.le_of_ble_eq_true rfl, Nat.le_of_ble_eq_true rfl⟩) ⟨zb_blind, va_recv hK hP (ci := 5) (q0 := 0) rfl rfl, fun U hU hW => ⟨rfl, zb_mk hU hW hPr hPc hKc hDc hN hH hS hFc (zx_cons (zx_r (hAr _ (List.mem_of_getElem? (i := 5) rfl)) hDc) zx_nil)⟩⟩ rfl rfl hl.1 rfl (lv_room (Nat.le_of_ble_eq_true rfl)) dX6_endsAt_51 ⟨Nat.le_of_ble_eq_true rfl, Nat.le_of_ble_eq_true rfl⟩) hS (fun q _ h => hFc q h) hFc (fun r92 u t H91 locs ht hvm hw hB hz1 hk1 hS => ?_)
  obtain rfl : r92 = 0 := hw
  obtain ⟨w1_93, hf93_0, hP1, hD1, hK1⟩ := hB
  obtain rfl : w1_93 = 30 := hf93_0.trans (by first | rfl | decide +kernel)
  rw [ht] at hP1
  obtain ⟨hP, hD⟩ := va_join (wr := []) (w1 := [(tr, .inr (5, [.ref tlk, .ref tth, .ref tpl, .ref tgm, .int 0, .int 0, .int 1, .int (-1), .int 1, .int 30, .int 18, .int 30])), (tgm, .inr (2, [.int 1, .int 30, .int 0, .int 0, .int 0, .int (-1), .long 0])), (tp0, .inr (4, [.int 1, .int (-1), .int (-1), .int 30]))]) hP hD [0, 1, 2] [] rfl rfl (by decide) (by decide) hk1 hFc hP1 hD1
  have hP : va_P (dC, dI) vwCl [(tr, .inr (5, [.ref tlk, .ref tth, .ref tpl, .ref tgm, .int 0, .int 0, .int 1, .int (-1), .int 1, .int 30, .int 18, .int 30])), (tgm, .inr (2, [.int 1, .int 30, .int 0, .int 0, .int 0, .int (-1), .long 0])), (tp0, .inr (4, [.int 1, .int (-1), .int (-1), .int 30]))] H91 := hP
  have hD : va_D A [(tr, .inr (5, [.ref tlk, .ref tth, .ref tpl, .ref tgm, .int 0, .int 0, .int 1, .int (-1), .int 1, .int 30, .int 18, .int 30])), (tgm, .inr (2, [.int 1, .int 30, .int 0, .int 0, .int 0, .int (-1), .long 0])), (tp0, .inr (4, [.int 1, .int (-1), .int (-1), .int 30]))] := hD
  refine lv_pop hx hb dX6_endsAt_54 rfl ?_
  refine lv_iinc (v := 30) (lv' := [(1, .int 30), (0, .ref x)]) hx hb dX6_endsAt_55 hl (k := 0) rfl (by decide) (by decide) rfl (fun ls hl => ?_)
  refine lv_goto (tgt := 28) hx hb dX6_endsAt_58 (by decide) ?_
  refine lv_iload_n hx hb dX6_endsAt_28 rfl (lv_at hl 0 rfl) ?_
  refine lv_bipush (v := 60) hx hb dX6_endsAt_29 (by decide) ?_
  refine lv_icmp_ge (tgt := 61) hx hb dX6_endsAt_31 (by decide) (fun h => absurd h (by decide)) (fun _ => ?_)
  refine lv_aload_n hx hb dX6_endsAt_34 rfl (lv_at hl 1 rfl) ?_
  refine va_get (D := (dC, dI)) (ci := 8) (v := .ref tr) (C := RX6) (T := TX6) (N := 3) hx hb hts zi_X6_endsAt_X6 hown hK (zo_R hR0 hS hAr) 0 rfl rfl 1 (by decide) (hts (.fieldLink RX6 16 "LockRooms" "trial" "LLockRooms$Room;") (by decide +kernel)) (fun _ h9 => h9) rfl dX6_endsAt_35 ?_
  refine va_get (D := (dC, dI)) (ci := 5) (v := .ref tgm) (C := RX3) (T := TX3) (N := 12) hx hb hts zi_X6_endsAt_X3 hown hK hP 0 rfl rfl 3 (by decide) (hts (.fieldLink RX6 41 "LockRooms$Room" "games" "LLockRooms$Games;") (by decide +kernel)) (fun _ h9 => h9) rfl dX6_endsAt_38 ?_
  refine va_get (D := (dC, dI)) (ci := 2) (v := .int 1) (C := RX0) (T := TX0) (N := 7) hx hb hts zi_X6_endsAt_X0 hown hK hP 1 rfl rfl 0 (by decide) (hts (.fieldLink RX6 45 "LockRooms$Games" "isRunning" "Z") (by decide +kernel)) (fun _ h9 => h9) rfl dX6_endsAt_41 ?_
  refine lv_if_eq (tgt := 61) hx hb dX6_endsAt_44 (by decide) (fun h => absurd h (by decide)) (fun _ => ?_)
  refine lv_aload_n hx hb dX6_endsAt_47 rfl (lv_at hl 1 rfl) ?_
  refine va_get (D := (dC, dI)) (ci := 8) (v := .ref tr) (C := RX6) (T := TX6) (N := 3) hx hb hts zi_X6_endsAt_X6 hown hK (zo_R hR0 hS hAr) 0 rfl rfl 1 (by decide) (hts (.fieldLink RX6 16 "LockRooms" "trial" "LLockRooms$Room;") (by decide +kernel)) (fun _ h9 => h9) rfl dX6_endsAt_48 ?_
  have hPr := ((zo_R hR0 hS hAr)).sub (ws' := [(tpl, .inl (tcP, 6, .inr (.inr (.inr (.inr tfp)))))]) [5] rfl
  have hPc := hP.sub (ws' := [(tr, .inr (5, [.ref tlk, .ref tth, .ref tpl, .ref tgm, .int 0, .int 0, .int 1, .int (-1), .int 1, .int 30, .int 18, .int 30])), (tgm, .inr (2, [.int 1, .int 30, .int 0, .int 0, .int 0, .int (-1), .long 0])), (tp0, .inr (4, [.int 1, .int (-1), .int (-1), .int 30]))]) [0, 1, 2] rfl
  have hDc := hD.sub (ws' := [(tr, .inr (5, [.ref tlk, .ref tth, .ref tpl, .ref tgm, .int 0, .int 0, .int 1, .int (-1), .int 1, .int 30, .int 18, .int 30])), (tgm, .inr (2, [.int 1, .int 30, .int 0, .int 0, .int 0, .int (-1), .long 0])), (tp0, .inr (4, [.int 1, .int (-1), .int (-1), .int 30]))]) [0, 1, 2] (by decide) rfl
  have hKc := hK.sub (tys' := [(tcP, .object "LockRooms$Player")]) [1] rfl
  have hFc := va_free (wc := [(tr, .inr (5, [.ref tlk, .ref tth, .ref tpl, .ref tgm, .int 0, .int 0, .int 1, .int (-1), .int 1, .int 30, .int 18, .int 30])), (tgm, .inr (2, [.int 1, .int 30, .int 0, .int 0, .int 0, .int (-1), .long 0])), (tp0, .inr (4, [.int 1, .int (-1), .int (-1), .int 30]))]) hD hS hA [0, 1, 2] rfl
  refine va_calli (va_runV (As := []) (rest := []) ⟨hx, hb, hml, hown, hts⟩ (cz_RmidMinute l dC dI ed H91.size tr tlk tth tpl tgm tcP tfp tp0 30 hkt (by decide)) (cwV 0 hts gX6_endsAt_X3_letMinuteGoBy rfl rfl rfl (by decide +kernel) ⟨Nat.le_of_ble_eq_true rfl, Nat.le_of_ble_eq_true rfl⟩) ⟨zb_blind, va_recv hK hP (ci := 5) (q0 := 0) rfl rfl, fun U hU hW => ⟨rfl, zb_mk hU hW hPr hPc hKc hDc hN hH hS hFc (zx_cons (zx_r (hAr _ (List.mem_of_getElem? (i := 5) rfl)) hDc) zx_nil)⟩⟩ rfl rfl hl.1 rfl (lv_room (Nat.le_of_ble_eq_true rfl)) dX6_endsAt_51 ⟨Nat.le_of_ble_eq_true rfl, Nat.le_of_ble_eq_true rfl⟩) hS (fun q _ h => hFc q h) hFc (fun r95 u t H94 locs ht hvm hw hB hz1 hk1 hS => ?_)
  obtain rfl : r95 = 0 := hw
  obtain ⟨w1_96, hf96_0, hP1, hD1, hK1⟩ := hB
  obtain rfl : w1_96 = 31 := hf96_0.trans (by first | rfl | decide +kernel)
  rw [ht] at hP1
  obtain ⟨hP, hD⟩ := va_join (wr := []) (w1 := [(tr, .inr (5, [.ref tlk, .ref tth, .ref tpl, .ref tgm, .int 0, .int 0, .int 1, .int (-1), .int 1, .int 31, .int 18, .int 31])), (tgm, .inr (2, [.int 1, .int 31, .int 0, .int 0, .int 0, .int (-1), .long 0])), (tp0, .inr (4, [.int 1, .int (-1), .int (-1), .int 31]))]) hP hD [0, 1, 2] [] rfl rfl (by decide) (by decide) hk1 hFc hP1 hD1
  have hP : va_P (dC, dI) vwCl [(tr, .inr (5, [.ref tlk, .ref tth, .ref tpl, .ref tgm, .int 0, .int 0, .int 1, .int (-1), .int 1, .int 31, .int 18, .int 31])), (tgm, .inr (2, [.int 1, .int 31, .int 0, .int 0, .int 0, .int (-1), .long 0])), (tp0, .inr (4, [.int 1, .int (-1), .int (-1), .int 31]))] H94 := hP
  have hD : va_D A [(tr, .inr (5, [.ref tlk, .ref tth, .ref tpl, .ref tgm, .int 0, .int 0, .int 1, .int (-1), .int 1, .int 31, .int 18, .int 31])), (tgm, .inr (2, [.int 1, .int 31, .int 0, .int 0, .int 0, .int (-1), .long 0])), (tp0, .inr (4, [.int 1, .int (-1), .int (-1), .int 31]))] := hD
  refine lv_pop hx hb dX6_endsAt_54 rfl ?_
  refine lv_iinc (v := 31) (lv' := [(1, .int 31), (0, .ref x)]) hx hb dX6_endsAt_55 hl (k := 0) rfl (by decide) (by decide) rfl (fun ls hl => ?_)
  refine lv_goto (tgt := 28) hx hb dX6_endsAt_58 (by decide) ?_
  refine lv_iload_n hx hb dX6_endsAt_28 rfl (lv_at hl 0 rfl) ?_
  refine lv_bipush (v := 60) hx hb dX6_endsAt_29 (by decide) ?_
  refine lv_icmp_ge (tgt := 61) hx hb dX6_endsAt_31 (by decide) (fun h => absurd h (by decide)) (fun _ => ?_)
  refine lv_aload_n hx hb dX6_endsAt_34 rfl (lv_at hl 1 rfl) ?_
  refine va_get (D := (dC, dI)) (ci := 8) (v := .ref tr) (C := RX6) (T := TX6) (N := 3) hx hb hts zi_X6_endsAt_X6 hown hK (zo_R hR0 hS hAr) 0 rfl rfl 1 (by decide) (hts (.fieldLink RX6 16 "LockRooms" "trial" "LLockRooms$Room;") (by decide +kernel)) (fun _ h9 => h9) rfl dX6_endsAt_35 ?_
  refine va_get (D := (dC, dI)) (ci := 5) (v := .ref tgm) (C := RX3) (T := TX3) (N := 12) hx hb hts zi_X6_endsAt_X3 hown hK hP 0 rfl rfl 3 (by decide) (hts (.fieldLink RX6 41 "LockRooms$Room" "games" "LLockRooms$Games;") (by decide +kernel)) (fun _ h9 => h9) rfl dX6_endsAt_38 ?_
  refine va_get (D := (dC, dI)) (ci := 2) (v := .int 1) (C := RX0) (T := TX0) (N := 7) hx hb hts zi_X6_endsAt_X0 hown hK hP 1 rfl rfl 0 (by decide) (hts (.fieldLink RX6 45 "LockRooms$Games" "isRunning" "Z") (by decide +kernel)) (fun _ h9 => h9) rfl dX6_endsAt_41 ?_
  refine lv_if_eq (tgt := 61) hx hb dX6_endsAt_44 (by decide) (fun h => absurd h (by decide)) (fun _ => ?_)
  refine lv_aload_n hx hb dX6_endsAt_47 rfl (lv_at hl 1 rfl) ?_
  refine va_get (D := (dC, dI)) (ci := 8) (v := .ref tr) (C := RX6) (T := TX6) (N := 3) hx hb hts zi_X6_endsAt_X6 hown hK (zo_R hR0 hS hAr) 0 rfl rfl 1 (by decide) (hts (.fieldLink RX6 16 "LockRooms" "trial" "LLockRooms$Room;") (by decide +kernel)) (fun _ h9 => h9) rfl dX6_endsAt_48 ?_
  have hPr := ((zo_R hR0 hS hAr)).sub (ws' := [(tpl, .inl (tcP, 6, .inr (.inr (.inr (.inr tfp)))))]) [5] rfl
  have hPc := hP.sub (ws' := [(tr, .inr (5, [.ref tlk, .ref tth, .ref tpl, .ref tgm, .int 0, .int 0, .int 1, .int (-1), .int 1, .int 31, .int 18, .int 31])), (tgm, .inr (2, [.int 1, .int 31, .int 0, .int 0, .int 0, .int (-1), .long 0])), (tp0, .inr (4, [.int 1, .int (-1), .int (-1), .int 31]))]) [0, 1, 2] rfl
  have hDc := hD.sub (ws' := [(tr, .inr (5, [.ref tlk, .ref tth, .ref tpl, .ref tgm, .int 0, .int 0, .int 1, .int (-1), .int 1, .int 31, .int 18, .int 31])), (tgm, .inr (2, [.int 1, .int 31, .int 0, .int 0, .int 0, .int (-1), .long 0])), (tp0, .inr (4, [.int 1, .int (-1), .int (-1), .int 31]))]) [0, 1, 2] (by decide) rfl
  have hKc := hK.sub (tys' := [(tcP, .object "LockRooms$Player")]) [1] rfl
  have hFc := va_free (wc := [(tr, .inr (5, [.ref tlk, .ref tth, .ref tpl, .ref tgm, .int 0, .int 0, .int 1, .int (-1), .int 1, .int 31, .int 18, .int 31])), (tgm, .inr (2, [.int 1, .int 31, .int 0, .int 0, .int 0, .int (-1), .long 0])), (tp0, .inr (4, [.int 1, .int (-1), .int (-1), .int 31]))]) hD hS hA [0, 1, 2] rfl
  refine va_calli (va_runV (As := []) (rest := []) ⟨hx, hb, hml, hown, hts⟩ (cz_RmidMinute l dC dI ed H94.size tr tlk tth tpl tgm tcP tfp tp0 31 hkt (by decide)) (cwV 0 hts gX6_endsAt_X3_letMinuteGoBy rfl rfl rfl (by decide +kernel) ⟨Nat.le_of_ble_eq_true rfl, Nat.le_of_ble_eq_true rfl⟩) ⟨zb_blind, va_recv hK hP (ci := 5) (q0 := 0) rfl rfl, fun U hU hW => ⟨rfl, zb_mk hU hW hPr hPc hKc hDc hN hH hS hFc (zx_cons (zx_r (hAr _ (List.mem_of_getElem? (i := 5) rfl)) hDc) zx_nil)⟩⟩ rfl rfl hl.1 rfl (lv_room (Nat.le_of_ble_eq_true rfl)) dX6_endsAt_51 ⟨Nat.le_of_ble_eq_true rfl, Nat.le_of_ble_eq_true rfl⟩) hS (fun q _ h => hFc q h) hFc (fun r98 u t H97 locs ht hvm hw hB hz1 hk1 hS => ?_)
  obtain rfl : r98 = 0 := hw
  obtain ⟨w1_99, hf99_0, hP1, hD1, hK1⟩ := hB
  obtain rfl : w1_99 = 32 := hf99_0.trans (by first | rfl | decide +kernel)
  rw [ht] at hP1
  obtain ⟨hP, hD⟩ := va_join (wr := []) (w1 := [(tr, .inr (5, [.ref tlk, .ref tth, .ref tpl, .ref tgm, .int 0, .int 0, .int 1, .int (-1), .int 1, .int 32, .int 18, .int 32])), (tgm, .inr (2, [.int 1, .int 32, .int 0, .int 0, .int 0, .int (-1), .long 0])), (tp0, .inr (4, [.int 1, .int (-1), .int (-1), .int 32]))]) hP hD [0, 1, 2] [] rfl rfl (by decide) (by decide) hk1 hFc hP1 hD1
  have hP : va_P (dC, dI) vwCl [(tr, .inr (5, [.ref tlk, .ref tth, .ref tpl, .ref tgm, .int 0, .int 0, .int 1, .int (-1), .int 1, .int 32, .int 18, .int 32])), (tgm, .inr (2, [.int 1, .int 32, .int 0, .int 0, .int 0, .int (-1), .long 0])), (tp0, .inr (4, [.int 1, .int (-1), .int (-1), .int 32]))] H97 := hP
  have hD : va_D A [(tr, .inr (5, [.ref tlk, .ref tth, .ref tpl, .ref tgm, .int 0, .int 0, .int 1, .int (-1), .int 1, .int 32, .int 18, .int 32])), (tgm, .inr (2, [.int 1, .int 32, .int 0, .int 0, .int 0, .int (-1), .long 0])), (tp0, .inr (4, [.int 1, .int (-1), .int (-1), .int 32]))] := hD
  refine lv_pop hx hb dX6_endsAt_54 rfl ?_
  refine lv_iinc (v := 32) (lv' := [(1, .int 32), (0, .ref x)]) hx hb dX6_endsAt_55 hl (k := 0) rfl (by decide) (by decide) rfl (fun ls hl => ?_)
  refine lv_goto (tgt := 28) hx hb dX6_endsAt_58 (by decide) ?_
  refine lv_iload_n hx hb dX6_endsAt_28 rfl (lv_at hl 0 rfl) ?_
  refine lv_bipush (v := 60) hx hb dX6_endsAt_29 (by decide) ?_
  refine lv_icmp_ge (tgt := 61) hx hb dX6_endsAt_31 (by decide) (fun h => absurd h (by decide)) (fun _ => ?_)
  refine lv_aload_n hx hb dX6_endsAt_34 rfl (lv_at hl 1 rfl) ?_
  refine va_get (D := (dC, dI)) (ci := 8) (v := .ref tr) (C := RX6) (T := TX6) (N := 3) hx hb hts zi_X6_endsAt_X6 hown hK (zo_R hR0 hS hAr) 0 rfl rfl 1 (by decide) (hts (.fieldLink RX6 16 "LockRooms" "trial" "LLockRooms$Room;") (by decide +kernel)) (fun _ h9 => h9) rfl dX6_endsAt_35 ?_
  refine va_get (D := (dC, dI)) (ci := 5) (v := .ref tgm) (C := RX3) (T := TX3) (N := 12) hx hb hts zi_X6_endsAt_X3 hown hK hP 0 rfl rfl 3 (by decide) (hts (.fieldLink RX6 41 "LockRooms$Room" "games" "LLockRooms$Games;") (by decide +kernel)) (fun _ h9 => h9) rfl dX6_endsAt_38 ?_
  refine va_get (D := (dC, dI)) (ci := 2) (v := .int 1) (C := RX0) (T := TX0) (N := 7) hx hb hts zi_X6_endsAt_X0 hown hK hP 1 rfl rfl 0 (by decide) (hts (.fieldLink RX6 45 "LockRooms$Games" "isRunning" "Z") (by decide +kernel)) (fun _ h9 => h9) rfl dX6_endsAt_41 ?_
  refine lv_if_eq (tgt := 61) hx hb dX6_endsAt_44 (by decide) (fun h => absurd h (by decide)) (fun _ => ?_)
  refine lv_aload_n hx hb dX6_endsAt_47 rfl (lv_at hl 1 rfl) ?_
  refine va_get (D := (dC, dI)) (ci := 8) (v := .ref tr) (C := RX6) (T := TX6) (N := 3) hx hb hts zi_X6_endsAt_X6 hown hK (zo_R hR0 hS hAr) 0 rfl rfl 1 (by decide) (hts (.fieldLink RX6 16 "LockRooms" "trial" "LLockRooms$Room;") (by decide +kernel)) (fun _ h9 => h9) rfl dX6_endsAt_48 ?_
  have hPr := ((zo_R hR0 hS hAr)).sub (ws' := [(tpl, .inl (tcP, 6, .inr (.inr (.inr (.inr tfp)))))]) [5] rfl
  have hPc := hP.sub (ws' := [(tr, .inr (5, [.ref tlk, .ref tth, .ref tpl, .ref tgm, .int 0, .int 0, .int 1, .int (-1), .int 1, .int 32, .int 18, .int 32])), (tgm, .inr (2, [.int 1, .int 32, .int 0, .int 0, .int 0, .int (-1), .long 0])), (tp0, .inr (4, [.int 1, .int (-1), .int (-1), .int 32]))]) [0, 1, 2] rfl
  have hDc := hD.sub (ws' := [(tr, .inr (5, [.ref tlk, .ref tth, .ref tpl, .ref tgm, .int 0, .int 0, .int 1, .int (-1), .int 1, .int 32, .int 18, .int 32])), (tgm, .inr (2, [.int 1, .int 32, .int 0, .int 0, .int 0, .int (-1), .long 0])), (tp0, .inr (4, [.int 1, .int (-1), .int (-1), .int 32]))]) [0, 1, 2] (by decide) rfl
  have hKc := hK.sub (tys' := [(tcP, .object "LockRooms$Player")]) [1] rfl
  have hFc := va_free (wc := [(tr, .inr (5, [.ref tlk, .ref tth, .ref tpl, .ref tgm, .int 0, .int 0, .int 1, .int (-1), .int 1, .int 32, .int 18, .int 32])), (tgm, .inr (2, [.int 1, .int 32, .int 0, .int 0, .int 0, .int (-1), .long 0])), (tp0, .inr (4, [.int 1, .int (-1), .int (-1), .int 32]))]) hD hS hA [0, 1, 2] rfl
  refine va_calli (va_runV (As := []) (rest := []) ⟨hx, hb, hml, hown, hts⟩ (cz_RmidMinute l dC dI ed H97.size tr tlk tth tpl tgm tcP tfp tp0 32 hkt (by decide)) (cwV 0 hts gX6_endsAt_X3_letMinuteGoBy rfl rfl rfl (by decide +kernel) ⟨Nat.le_of_ble_eq_true rfl, Nat.le_of_ble_eq_true rfl⟩) ⟨zb_blind, va_recv hK hP (ci := 5) (q0 := 0) rfl rfl, fun U hU hW => ⟨rfl, zb_mk hU hW hPr hPc hKc hDc hN hH hS hFc (zx_cons (zx_r (hAr _ (List.mem_of_getElem? (i := 5) rfl)) hDc) zx_nil)⟩⟩ rfl rfl hl.1 rfl (lv_room (Nat.le_of_ble_eq_true rfl)) dX6_endsAt_51 ⟨Nat.le_of_ble_eq_true rfl, Nat.le_of_ble_eq_true rfl⟩) hS (fun q _ h => hFc q h) hFc (fun r101 u t H100 locs ht hvm hw hB hz1 hk1 hS => ?_)
  obtain rfl : r101 = 0 := hw
  obtain ⟨w1_102, hf102_0, hP1, hD1, hK1⟩ := hB
  obtain rfl : w1_102 = 33 := hf102_0.trans (by first | rfl | decide +kernel)
  rw [ht] at hP1
  obtain ⟨hP, hD⟩ := va_join (wr := []) (w1 := [(tr, .inr (5, [.ref tlk, .ref tth, .ref tpl, .ref tgm, .int 0, .int 0, .int 1, .int (-1), .int 1, .int 33, .int 18, .int 33])), (tgm, .inr (2, [.int 1, .int 33, .int 0, .int 0, .int 0, .int (-1), .long 0])), (tp0, .inr (4, [.int 1, .int (-1), .int (-1), .int 33]))]) hP hD [0, 1, 2] [] rfl rfl (by decide) (by decide) hk1 hFc hP1 hD1
  have hP : va_P (dC, dI) vwCl [(tr, .inr (5, [.ref tlk, .ref tth, .ref tpl, .ref tgm, .int 0, .int 0, .int 1, .int (-1), .int 1, .int 33, .int 18, .int 33])), (tgm, .inr (2, [.int 1, .int 33, .int 0, .int 0, .int 0, .int (-1), .long 0])), (tp0, .inr (4, [.int 1, .int (-1), .int (-1), .int 33]))] H100 := hP
  have hD : va_D A [(tr, .inr (5, [.ref tlk, .ref tth, .ref tpl, .ref tgm, .int 0, .int 0, .int 1, .int (-1), .int 1, .int 33, .int 18, .int 33])), (tgm, .inr (2, [.int 1, .int 33, .int 0, .int 0, .int 0, .int (-1), .long 0])), (tp0, .inr (4, [.int 1, .int (-1), .int (-1), .int 33]))] := hD
  refine lv_pop hx hb dX6_endsAt_54 rfl ?_
  refine lv_iinc (v := 33) (lv' := [(1, .int 33), (0, .ref x)]) hx hb dX6_endsAt_55 hl (k := 0) rfl (by decide) (by decide) rfl (fun ls hl => ?_)
  refine lv_goto (tgt := 28) hx hb dX6_endsAt_58 (by decide) ?_
  refine lv_iload_n hx hb dX6_endsAt_28 rfl (lv_at hl 0 rfl) ?_
  refine lv_bipush (v := 60) hx hb dX6_endsAt_29 (by decide) ?_
  refine lv_icmp_ge (tgt := 61) hx hb dX6_endsAt_31 (by decide) (fun h => absurd h (by decide)) (fun _ => ?_)
  refine lv_aload_n hx hb dX6_endsAt_34 rfl (lv_at hl 1 rfl) ?_
  refine va_get (D := (dC, dI)) (ci := 8) (v := .ref tr) (C := RX6) (T := TX6) (N := 3) hx hb hts zi_X6_endsAt_X6 hown hK (zo_R hR0 hS hAr) 0 rfl rfl 1 (by decide) (hts (.fieldLink RX6 16 "LockRooms" "trial" "LLockRooms$Room;") (by decide +kernel)) (fun _ h9 => h9) rfl dX6_endsAt_35 ?_
  refine va_get (D := (dC, dI)) (ci := 5) (v := .ref tgm) (C := RX3) (T := TX3) (N := 12) hx hb hts zi_X6_endsAt_X3 hown hK hP 0 rfl rfl 3 (by decide) (hts (.fieldLink RX6 41 "LockRooms$Room" "games" "LLockRooms$Games;") (by decide +kernel)) (fun _ h9 => h9) rfl dX6_endsAt_38 ?_
  refine va_get (D := (dC, dI)) (ci := 2) (v := .int 1) (C := RX0) (T := TX0) (N := 7) hx hb hts zi_X6_endsAt_X0 hown hK hP 1 rfl rfl 0 (by decide) (hts (.fieldLink RX6 45 "LockRooms$Games" "isRunning" "Z") (by decide +kernel)) (fun _ h9 => h9) rfl dX6_endsAt_41 ?_
  refine lv_if_eq (tgt := 61) hx hb dX6_endsAt_44 (by decide) (fun h => absurd h (by decide)) (fun _ => ?_)
  refine lv_aload_n hx hb dX6_endsAt_47 rfl (lv_at hl 1 rfl) ?_
  refine va_get (D := (dC, dI)) (ci := 8) (v := .ref tr) (C := RX6) (T := TX6) (N := 3) hx hb hts zi_X6_endsAt_X6 hown hK (zo_R hR0 hS hAr) 0 rfl rfl 1 (by decide) (hts (.fieldLink RX6 16 "LockRooms" "trial" "LLockRooms$Room;") (by decide +kernel)) (fun _ h9 => h9) rfl dX6_endsAt_48 ?_
  have hPr := ((zo_R hR0 hS hAr)).sub (ws' := [(tpl, .inl (tcP, 6, .inr (.inr (.inr (.inr tfp)))))]) [5] rfl
  have hPc := hP.sub (ws' := [(tr, .inr (5, [.ref tlk, .ref tth, .ref tpl, .ref tgm, .int 0, .int 0, .int 1, .int (-1), .int 1, .int 33, .int 18, .int 33])), (tgm, .inr (2, [.int 1, .int 33, .int 0, .int 0, .int 0, .int (-1), .long 0])), (tp0, .inr (4, [.int 1, .int (-1), .int (-1), .int 33]))]) [0, 1, 2] rfl
  have hDc := hD.sub (ws' := [(tr, .inr (5, [.ref tlk, .ref tth, .ref tpl, .ref tgm, .int 0, .int 0, .int 1, .int (-1), .int 1, .int 33, .int 18, .int 33])), (tgm, .inr (2, [.int 1, .int 33, .int 0, .int 0, .int 0, .int (-1), .long 0])), (tp0, .inr (4, [.int 1, .int (-1), .int (-1), .int 33]))]) [0, 1, 2] (by decide) rfl
  have hKc := hK.sub (tys' := [(tcP, .object "LockRooms$Player")]) [1] rfl
  have hFc := va_free (wc := [(tr, .inr (5, [.ref tlk, .ref tth, .ref tpl, .ref tgm, .int 0, .int 0, .int 1, .int (-1), .int 1, .int 33, .int 18, .int 33])), (tgm, .inr (2, [.int 1, .int 33, .int 0, .int 0, .int 0, .int (-1), .long 0])), (tp0, .inr (4, [.int 1, .int (-1), .int (-1), .int 33]))]) hD hS hA [0, 1, 2] rfl
  refine va_calli (va_runV (As := []) (rest := []) ⟨hx, hb, hml, hown, hts⟩ (cz_RmidMinute l dC dI ed H100.size tr tlk tth tpl tgm tcP tfp tp0 33 hkt (by decide)) (cwV 0 hts gX6_endsAt_X3_letMinuteGoBy rfl rfl rfl (by decide +kernel) ⟨Nat.le_of_ble_eq_true rfl, Nat.le_of_ble_eq_true rfl⟩) ⟨zb_blind, va_recv hK hP (ci := 5) (q0 := 0) rfl rfl, fun U hU hW => ⟨rfl, zb_mk hU hW hPr hPc hKc hDc hN hH hS hFc (zx_cons (zx_r (hAr _ (List.mem_of_getElem? (i := 5) rfl)) hDc) zx_nil)⟩⟩ rfl rfl hl.1 rfl (lv_room (Nat.le_of_ble_eq_true rfl)) dX6_endsAt_51 ⟨Nat.le_of_ble_eq_true rfl, Nat.le_of_ble_eq_true rfl⟩) hS (fun q _ h => hFc q h) hFc (fun r104 u t H103 locs ht hvm hw hB hz1 hk1 hS => ?_)
  obtain rfl : r104 = 0 := hw
  obtain ⟨w1_105, hf105_0, hP1, hD1, hK1⟩ := hB
  obtain rfl : w1_105 = 34 := hf105_0.trans (by first | rfl | decide +kernel)
  rw [ht] at hP1
  obtain ⟨hP, hD⟩ := va_join (wr := []) (w1 := [(tr, .inr (5, [.ref tlk, .ref tth, .ref tpl, .ref tgm, .int 0, .int 0, .int 1, .int (-1), .int 1, .int 34, .int 18, .int 34])), (tgm, .inr (2, [.int 1, .int 34, .int 0, .int 0, .int 0, .int (-1), .long 0])), (tp0, .inr (4, [.int 1, .int (-1), .int (-1), .int 34]))]) hP hD [0, 1, 2] [] rfl rfl (by decide) (by decide) hk1 hFc hP1 hD1
  have hP : va_P (dC, dI) vwCl [(tr, .inr (5, [.ref tlk, .ref tth, .ref tpl, .ref tgm, .int 0, .int 0, .int 1, .int (-1), .int 1, .int 34, .int 18, .int 34])), (tgm, .inr (2, [.int 1, .int 34, .int 0, .int 0, .int 0, .int (-1), .long 0])), (tp0, .inr (4, [.int 1, .int (-1), .int (-1), .int 34]))] H103 := hP
  have hD : va_D A [(tr, .inr (5, [.ref tlk, .ref tth, .ref tpl, .ref tgm, .int 0, .int 0, .int 1, .int (-1), .int 1, .int 34, .int 18, .int 34])), (tgm, .inr (2, [.int 1, .int 34, .int 0, .int 0, .int 0, .int (-1), .long 0])), (tp0, .inr (4, [.int 1, .int (-1), .int (-1), .int 34]))] := hD
  refine lv_pop hx hb dX6_endsAt_54 rfl ?_
  refine lv_iinc (v := 34) (lv' := [(1, .int 34), (0, .ref x)]) hx hb dX6_endsAt_55 hl (k := 0) rfl (by decide) (by decide) rfl (fun ls hl => ?_)
  refine lv_goto (tgt := 28) hx hb dX6_endsAt_58 (by decide) ?_
  refine lv_iload_n hx hb dX6_endsAt_28 rfl (lv_at hl 0 rfl) ?_
  refine lv_bipush (v := 60) hx hb dX6_endsAt_29 (by decide) ?_
  refine lv_icmp_ge (tgt := 61) hx hb dX6_endsAt_31 (by decide) (fun h => absurd h (by decide)) (fun _ => ?_)
  refine lv_aload_n hx hb dX6_endsAt_34 rfl (lv_at hl 1 rfl) ?_
  refine va_get (D := (dC, dI)) (ci := 8) (v := .ref tr) (C := RX6) (T := TX6) (N := 3) hx hb hts zi_X6_endsAt_X6 hown hK (zo_R hR0 hS hAr) 0 rfl rfl 1 (by decide) (hts (.fieldLink RX6 16 "LockRooms" "trial" "LLockRooms$Room;") (by decide +kernel)) (fun _ h9 => h9) rfl dX6_endsAt_35 ?_
  refine va_get (D := (dC, dI)) (ci := 5) (v := .ref tgm) (C := RX3) (T := TX3) (N := 12) hx hb hts zi_X6_endsAt_X3 hown hK hP 0 rfl rfl 3 (by decide) (hts (.fieldLink RX6 41 "LockRooms$Room" "games" "LLockRooms$Games;") (by decide +kernel)) (fun _ h9 => h9) rfl dX6_endsAt_38 ?_
  refine va_get (D := (dC, dI)) (ci := 2) (v := .int 1) (C := RX0) (T := TX0) (N := 7) hx hb hts zi_X6_endsAt_X0 hown hK hP 1 rfl rfl 0 (by decide) (hts (.fieldLink RX6 45 "LockRooms$Games" "isRunning" "Z") (by decide +kernel)) (fun _ h9 => h9) rfl dX6_endsAt_41 ?_
  refine lv_if_eq (tgt := 61) hx hb dX6_endsAt_44 (by decide) (fun h => absurd h (by decide)) (fun _ => ?_)
  refine lv_aload_n hx hb dX6_endsAt_47 rfl (lv_at hl 1 rfl) ?_
  refine va_get (D := (dC, dI)) (ci := 8) (v := .ref tr) (C := RX6) (T := TX6) (N := 3) hx hb hts zi_X6_endsAt_X6 hown hK (zo_R hR0 hS hAr) 0 rfl rfl 1 (by decide) (hts (.fieldLink RX6 16 "LockRooms" "trial" "LLockRooms$Room;") (by decide +kernel)) (fun _ h9 => h9) rfl dX6_endsAt_48 ?_
  have hPr := ((zo_R hR0 hS hAr)).sub (ws' := [(tpl, .inl (tcP, 6, .inr (.inr (.inr (.inr tfp)))))]) [5] rfl
  have hPc := hP.sub (ws' := [(tr, .inr (5, [.ref tlk, .ref tth, .ref tpl, .ref tgm, .int 0, .int 0, .int 1, .int (-1), .int 1, .int 34, .int 18, .int 34])), (tgm, .inr (2, [.int 1, .int 34, .int 0, .int 0, .int 0, .int (-1), .long 0])), (tp0, .inr (4, [.int 1, .int (-1), .int (-1), .int 34]))]) [0, 1, 2] rfl
  have hDc := hD.sub (ws' := [(tr, .inr (5, [.ref tlk, .ref tth, .ref tpl, .ref tgm, .int 0, .int 0, .int 1, .int (-1), .int 1, .int 34, .int 18, .int 34])), (tgm, .inr (2, [.int 1, .int 34, .int 0, .int 0, .int 0, .int (-1), .long 0])), (tp0, .inr (4, [.int 1, .int (-1), .int (-1), .int 34]))]) [0, 1, 2] (by decide) rfl
  have hKc := hK.sub (tys' := [(tcP, .object "LockRooms$Player")]) [1] rfl
  have hFc := va_free (wc := [(tr, .inr (5, [.ref tlk, .ref tth, .ref tpl, .ref tgm, .int 0, .int 0, .int 1, .int (-1), .int 1, .int 34, .int 18, .int 34])), (tgm, .inr (2, [.int 1, .int 34, .int 0, .int 0, .int 0, .int (-1), .long 0])), (tp0, .inr (4, [.int 1, .int (-1), .int (-1), .int 34]))]) hD hS hA [0, 1, 2] rfl
  refine va_calli (va_runV (As := []) (rest := []) ⟨hx, hb, hml, hown, hts⟩ (cz_RmidMinute l dC dI ed H103.size tr tlk tth tpl tgm tcP tfp tp0 34 hkt (by decide)) (cwV 0 hts gX6_endsAt_X3_letMinuteGoBy rfl rfl rfl (by decide +kernel) ⟨Nat.le_of_ble_eq_true rfl, Nat.le_of_ble_eq_true rfl⟩) ⟨zb_blind, va_recv hK hP (ci := 5) (q0 := 0) rfl rfl, fun U hU hW => ⟨rfl, zb_mk hU hW hPr hPc hKc hDc hN hH hS hFc (zx_cons (zx_r (hAr _ (List.mem_of_getElem? (i := 5) rfl)) hDc) zx_nil)⟩⟩ rfl rfl hl.1 rfl (lv_room (Nat.le_of_ble_eq_true rfl)) dX6_endsAt_51 ⟨Nat.le_of_ble_eq_true rfl, Nat.le_of_ble_eq_true rfl⟩) hS (fun q _ h => hFc q h) hFc (fun r107 u t H106 locs ht hvm hw hB hz1 hk1 hS => ?_)
  obtain rfl : r107 = 0 := hw
  obtain ⟨w1_108, hf108_0, hP1, hD1, hK1⟩ := hB
  obtain rfl : w1_108 = 35 := hf108_0.trans (by first | rfl | decide +kernel)
  rw [ht] at hP1
  obtain ⟨hP, hD⟩ := va_join (wr := []) (w1 := [(tr, .inr (5, [.ref tlk, .ref tth, .ref tpl, .ref tgm, .int 0, .int 0, .int 1, .int (-1), .int 1, .int 35, .int 18, .int 35])), (tgm, .inr (2, [.int 1, .int 35, .int 0, .int 0, .int 0, .int (-1), .long 0])), (tp0, .inr (4, [.int 1, .int (-1), .int (-1), .int 35]))]) hP hD [0, 1, 2] [] rfl rfl (by decide) (by decide) hk1 hFc hP1 hD1
  have hP : va_P (dC, dI) vwCl [(tr, .inr (5, [.ref tlk, .ref tth, .ref tpl, .ref tgm, .int 0, .int 0, .int 1, .int (-1), .int 1, .int 35, .int 18, .int 35])), (tgm, .inr (2, [.int 1, .int 35, .int 0, .int 0, .int 0, .int (-1), .long 0])), (tp0, .inr (4, [.int 1, .int (-1), .int (-1), .int 35]))] H106 := hP
  have hD : va_D A [(tr, .inr (5, [.ref tlk, .ref tth, .ref tpl, .ref tgm, .int 0, .int 0, .int 1, .int (-1), .int 1, .int 35, .int 18, .int 35])), (tgm, .inr (2, [.int 1, .int 35, .int 0, .int 0, .int 0, .int (-1), .long 0])), (tp0, .inr (4, [.int 1, .int (-1), .int (-1), .int 35]))] := hD
  refine lv_pop hx hb dX6_endsAt_54 rfl ?_
  refine lv_iinc (v := 35) (lv' := [(1, .int 35), (0, .ref x)]) hx hb dX6_endsAt_55 hl (k := 0) rfl (by decide) (by decide) rfl (fun ls hl => ?_)
  refine lv_goto (tgt := 28) hx hb dX6_endsAt_58 (by decide) ?_
  refine lv_iload_n hx hb dX6_endsAt_28 rfl (lv_at hl 0 rfl) ?_
  refine lv_bipush (v := 60) hx hb dX6_endsAt_29 (by decide) ?_
  refine lv_icmp_ge (tgt := 61) hx hb dX6_endsAt_31 (by decide) (fun h => absurd h (by decide)) (fun _ => ?_)
  refine lv_aload_n hx hb dX6_endsAt_34 rfl (lv_at hl 1 rfl) ?_
  refine va_get (D := (dC, dI)) (ci := 8) (v := .ref tr) (C := RX6) (T := TX6) (N := 3) hx hb hts zi_X6_endsAt_X6 hown hK (zo_R hR0 hS hAr) 0 rfl rfl 1 (by decide) (hts (.fieldLink RX6 16 "LockRooms" "trial" "LLockRooms$Room;") (by decide +kernel)) (fun _ h9 => h9) rfl dX6_endsAt_35 ?_
  refine va_get (D := (dC, dI)) (ci := 5) (v := .ref tgm) (C := RX3) (T := TX3) (N := 12) hx hb hts zi_X6_endsAt_X3 hown hK hP 0 rfl rfl 3 (by decide) (hts (.fieldLink RX6 41 "LockRooms$Room" "games" "LLockRooms$Games;") (by decide +kernel)) (fun _ h9 => h9) rfl dX6_endsAt_38 ?_
  refine va_get (D := (dC, dI)) (ci := 2) (v := .int 1) (C := RX0) (T := TX0) (N := 7) hx hb hts zi_X6_endsAt_X0 hown hK hP 1 rfl rfl 0 (by decide) (hts (.fieldLink RX6 45 "LockRooms$Games" "isRunning" "Z") (by decide +kernel)) (fun _ h9 => h9) rfl dX6_endsAt_41 ?_
  refine lv_if_eq (tgt := 61) hx hb dX6_endsAt_44 (by decide) (fun h => absurd h (by decide)) (fun _ => ?_)
  refine lv_aload_n hx hb dX6_endsAt_47 rfl (lv_at hl 1 rfl) ?_
  refine va_get (D := (dC, dI)) (ci := 8) (v := .ref tr) (C := RX6) (T := TX6) (N := 3) hx hb hts zi_X6_endsAt_X6 hown hK (zo_R hR0 hS hAr) 0 rfl rfl 1 (by decide) (hts (.fieldLink RX6 16 "LockRooms" "trial" "LLockRooms$Room;") (by decide +kernel)) (fun _ h9 => h9) rfl dX6_endsAt_48 ?_
  have hPr := ((zo_R hR0 hS hAr)).sub (ws' := [(tpl, .inl (tcP, 6, .inr (.inr (.inr (.inr tfp)))))]) [5] rfl
  have hPc := hP.sub (ws' := [(tr, .inr (5, [.ref tlk, .ref tth, .ref tpl, .ref tgm, .int 0, .int 0, .int 1, .int (-1), .int 1, .int 35, .int 18, .int 35])), (tgm, .inr (2, [.int 1, .int 35, .int 0, .int 0, .int 0, .int (-1), .long 0])), (tp0, .inr (4, [.int 1, .int (-1), .int (-1), .int 35]))]) [0, 1, 2] rfl
  have hDc := hD.sub (ws' := [(tr, .inr (5, [.ref tlk, .ref tth, .ref tpl, .ref tgm, .int 0, .int 0, .int 1, .int (-1), .int 1, .int 35, .int 18, .int 35])), (tgm, .inr (2, [.int 1, .int 35, .int 0, .int 0, .int 0, .int (-1), .long 0])), (tp0, .inr (4, [.int 1, .int (-1), .int (-1), .int 35]))]) [0, 1, 2] (by decide) rfl
  have hKc := hK.sub (tys' := [(tcP, .object "LockRooms$Player")]) [1] rfl
  have hFc := va_free (wc := [(tr, .inr (5, [.ref tlk, .ref tth, .ref tpl, .ref tgm, .int 0, .int 0, .int 1, .int (-1), .int 1, .int 35, .int 18, .int 35])), (tgm, .inr (2, [.int 1, .int 35, .int 0, .int 0, .int 0, .int (-1), .long 0])), (tp0, .inr (4, [.int 1, .int (-1), .int (-1), .int 35]))]) hD hS hA [0, 1, 2] rfl
  refine va_calli (va_runV (As := []) (rest := []) ⟨hx, hb, hml, hown, hts⟩ (cz_RmidMinute l dC dI ed H106.size tr tlk tth tpl tgm tcP tfp tp0 35 hkt (by decide)) (cwV 0 hts gX6_endsAt_X3_letMinuteGoBy rfl rfl rfl (by decide +kernel) ⟨Nat.le_of_ble_eq_true rfl, Nat.le_of_ble_eq_true rfl⟩) ⟨zb_blind, va_recv hK hP (ci := 5) (q0 := 0) rfl rfl, fun U hU hW => ⟨rfl, zb_mk hU hW hPr hPc hKc hDc hN hH hS hFc (zx_cons (zx_r (hAr _ (List.mem_of_getElem? (i := 5) rfl)) hDc) zx_nil)⟩⟩ rfl rfl hl.1 rfl (lv_room (Nat.le_of_ble_eq_true rfl)) dX6_endsAt_51 ⟨Nat.le_of_ble_eq_true rfl, Nat.le_of_ble_eq_true rfl⟩) hS (fun q _ h => hFc q h) hFc (fun r110 u t H109 locs ht hvm hw hB hz1 hk1 hS => ?_)
  obtain rfl : r110 = 0 := hw
  obtain ⟨w1_111, hf111_0, hP1, hD1, hK1⟩ := hB
  obtain rfl : w1_111 = 36 := hf111_0.trans (by first | rfl | decide +kernel)
  rw [ht] at hP1
  obtain ⟨hP, hD⟩ := va_join (wr := []) (w1 := [(tr, .inr (5, [.ref tlk, .ref tth, .ref tpl, .ref tgm, .int 0, .int 0, .int 1, .int (-1), .int 1, .int 36, .int 18, .int 36])), (tgm, .inr (2, [.int 1, .int 36, .int 0, .int 0, .int 0, .int (-1), .long 0])), (tp0, .inr (4, [.int 1, .int (-1), .int (-1), .int 36]))]) hP hD [0, 1, 2] [] rfl rfl (by decide) (by decide) hk1 hFc hP1 hD1
  have hP : va_P (dC, dI) vwCl [(tr, .inr (5, [.ref tlk, .ref tth, .ref tpl, .ref tgm, .int 0, .int 0, .int 1, .int (-1), .int 1, .int 36, .int 18, .int 36])), (tgm, .inr (2, [.int 1, .int 36, .int 0, .int 0, .int 0, .int (-1), .long 0])), (tp0, .inr (4, [.int 1, .int (-1), .int (-1), .int 36]))] H109 := hP
  have hD : va_D A [(tr, .inr (5, [.ref tlk, .ref tth, .ref tpl, .ref tgm, .int 0, .int 0, .int 1, .int (-1), .int 1, .int 36, .int 18, .int 36])), (tgm, .inr (2, [.int 1, .int 36, .int 0, .int 0, .int 0, .int (-1), .long 0])), (tp0, .inr (4, [.int 1, .int (-1), .int (-1), .int 36]))] := hD
  refine lv_pop hx hb dX6_endsAt_54 rfl ?_
  refine lv_iinc (v := 36) (lv' := [(1, .int 36), (0, .ref x)]) hx hb dX6_endsAt_55 hl (k := 0) rfl (by decide) (by decide) rfl (fun ls hl => ?_)
  refine lv_goto (tgt := 28) hx hb dX6_endsAt_58 (by decide) ?_
  refine lv_iload_n hx hb dX6_endsAt_28 rfl (lv_at hl 0 rfl) ?_
  refine lv_bipush (v := 60) hx hb dX6_endsAt_29 (by decide) ?_
  refine lv_icmp_ge (tgt := 61) hx hb dX6_endsAt_31 (by decide) (fun h => absurd h (by decide)) (fun _ => ?_)
  refine lv_aload_n hx hb dX6_endsAt_34 rfl (lv_at hl 1 rfl) ?_
  refine va_get (D := (dC, dI)) (ci := 8) (v := .ref tr) (C := RX6) (T := TX6) (N := 3) hx hb hts zi_X6_endsAt_X6 hown hK (zo_R hR0 hS hAr) 0 rfl rfl 1 (by decide) (hts (.fieldLink RX6 16 "LockRooms" "trial" "LLockRooms$Room;") (by decide +kernel)) (fun _ h9 => h9) rfl dX6_endsAt_35 ?_
  refine va_get (D := (dC, dI)) (ci := 5) (v := .ref tgm) (C := RX3) (T := TX3) (N := 12) hx hb hts zi_X6_endsAt_X3 hown hK hP 0 rfl rfl 3 (by decide) (hts (.fieldLink RX6 41 "LockRooms$Room" "games" "LLockRooms$Games;") (by decide +kernel)) (fun _ h9 => h9) rfl dX6_endsAt_38 ?_
  refine va_get (D := (dC, dI)) (ci := 2) (v := .int 1) (C := RX0) (T := TX0) (N := 7) hx hb hts zi_X6_endsAt_X0 hown hK hP 1 rfl rfl 0 (by decide) (hts (.fieldLink RX6 45 "LockRooms$Games" "isRunning" "Z") (by decide +kernel)) (fun _ h9 => h9) rfl dX6_endsAt_41 ?_
  refine lv_if_eq (tgt := 61) hx hb dX6_endsAt_44 (by decide) (fun h => absurd h (by decide)) (fun _ => ?_)
  refine lv_aload_n hx hb dX6_endsAt_47 rfl (lv_at hl 1 rfl) ?_
  refine va_get (D := (dC, dI)) (ci := 8) (v := .ref tr) (C := RX6) (T := TX6) (N := 3) hx hb hts zi_X6_endsAt_X6 hown hK (zo_R hR0 hS hAr) 0 rfl rfl 1 (by decide) (hts (.fieldLink RX6 16 "LockRooms" "trial" "LLockRooms$Room;") (by decide +kernel)) (fun _ h9 => h9) rfl dX6_endsAt_48 ?_
  have hPr := ((zo_R hR0 hS hAr)).sub (ws' := [(tpl, .inl (tcP, 6, .inr (.inr (.inr (.inr tfp)))))]) [5] rfl
  have hPc := hP.sub (ws' := [(tr, .inr (5, [.ref tlk, .ref tth, .ref tpl, .ref tgm, .int 0, .int 0, .int 1, .int (-1), .int 1, .int 36, .int 18, .int 36])), (tgm, .inr (2, [.int 1, .int 36, .int 0, .int 0, .int 0, .int (-1), .long 0])), (tp0, .inr (4, [.int 1, .int (-1), .int (-1), .int 36]))]) [0, 1, 2] rfl
  have hDc := hD.sub (ws' := [(tr, .inr (5, [.ref tlk, .ref tth, .ref tpl, .ref tgm, .int 0, .int 0, .int 1, .int (-1), .int 1, .int 36, .int 18, .int 36])), (tgm, .inr (2, [.int 1, .int 36, .int 0, .int 0, .int 0, .int (-1), .long 0])), (tp0, .inr (4, [.int 1, .int (-1), .int (-1), .int 36]))]) [0, 1, 2] (by decide) rfl
  have hKc := hK.sub (tys' := [(tcP, .object "LockRooms$Player")]) [1] rfl
  have hFc := va_free (wc := [(tr, .inr (5, [.ref tlk, .ref tth, .ref tpl, .ref tgm, .int 0, .int 0, .int 1, .int (-1), .int 1, .int 36, .int 18, .int 36])), (tgm, .inr (2, [.int 1, .int 36, .int 0, .int 0, .int 0, .int (-1), .long 0])), (tp0, .inr (4, [.int 1, .int (-1), .int (-1), .int 36]))]) hD hS hA [0, 1, 2] rfl
  refine va_calli (va_runV (As := []) (rest := []) ⟨hx, hb, hml, hown, hts⟩ (cz_RmidMinute l dC dI ed H109.size tr tlk tth tpl tgm tcP tfp tp0 36 hkt (by decide)) (cwV 0 hts gX6_endsAt_X3_letMinuteGoBy rfl rfl rfl (by decide +kernel) ⟨Nat.le_of_ble_eq_true rfl, Nat.le_of_ble_eq_true rfl⟩) ⟨zb_blind, va_recv hK hP (ci := 5) (q0 := 0) rfl rfl, fun U hU hW => ⟨rfl, zb_mk hU hW hPr hPc hKc hDc hN hH hS hFc (zx_cons (zx_r (hAr _ (List.mem_of_getElem? (i := 5) rfl)) hDc) zx_nil)⟩⟩ rfl rfl hl.1 rfl (lv_room (Nat.le_of_ble_eq_true rfl)) dX6_endsAt_51 ⟨Nat.le_of_ble_eq_true rfl, Nat.le_of_ble_eq_true rfl⟩) hS (fun q _ h => hFc q h) hFc (fun r113 u t H112 locs ht hvm hw hB hz1 hk1 hS => ?_)
  obtain rfl : r113 = 0 := hw
  obtain ⟨w1_114, hf114_0, hP1, hD1, hK1⟩ := hB
  obtain rfl : w1_114 = 37 := hf114_0.trans (by first | rfl | decide +kernel)
  rw [ht] at hP1
  obtain ⟨hP, hD⟩ := va_join (wr := []) (w1 := [(tr, .inr (5, [.ref tlk, .ref tth, .ref tpl, .ref tgm, .int 0, .int 0, .int 1, .int (-1), .int 1, .int 37, .int 18, .int 37])), (tgm, .inr (2, [.int 1, .int 37, .int 0, .int 0, .int 0, .int (-1), .long 0])), (tp0, .inr (4, [.int 1, .int (-1), .int (-1), .int 37]))]) hP hD [0, 1, 2] [] rfl rfl (by decide) (by decide) hk1 hFc hP1 hD1
  have hP : va_P (dC, dI) vwCl [(tr, .inr (5, [.ref tlk, .ref tth, .ref tpl, .ref tgm, .int 0, .int 0, .int 1, .int (-1), .int 1, .int 37, .int 18, .int 37])), (tgm, .inr (2, [.int 1, .int 37, .int 0, .int 0, .int 0, .int (-1), .long 0])), (tp0, .inr (4, [.int 1, .int (-1), .int (-1), .int 37]))] H112 := hP
  have hD : va_D A [(tr, .inr (5, [.ref tlk, .ref tth, .ref tpl, .ref tgm, .int 0, .int 0, .int 1, .int (-1), .int 1, .int 37, .int 18, .int 37])), (tgm, .inr (2, [.int 1, .int 37, .int 0, .int 0, .int 0, .int (-1), .long 0])), (tp0, .inr (4, [.int 1, .int (-1), .int (-1), .int 37]))] := hD
  refine lv_pop hx hb dX6_endsAt_54 rfl ?_
  refine lv_iinc (v := 37) (lv' := [(1, .int 37), (0, .ref x)]) hx hb dX6_endsAt_55 hl (k := 0) rfl (by decide) (by decide) rfl (fun ls hl => ?_)
  refine lv_goto (tgt := 28) hx hb dX6_endsAt_58 (by decide) ?_
  refine lv_iload_n hx hb dX6_endsAt_28 rfl (lv_at hl 0 rfl) ?_
  refine lv_bipush (v := 60) hx hb dX6_endsAt_29 (by decide) ?_
  refine lv_icmp_ge (tgt := 61) hx hb dX6_endsAt_31 (by decide) (fun h => absurd h (by decide)) (fun _ => ?_)
  refine lv_aload_n hx hb dX6_endsAt_34 rfl (lv_at hl 1 rfl) ?_
  refine va_get (D := (dC, dI)) (ci := 8) (v := .ref tr) (C := RX6) (T := TX6) (N := 3) hx hb hts zi_X6_endsAt_X6 hown hK (zo_R hR0 hS hAr) 0 rfl rfl 1 (by decide) (hts (.fieldLink RX6 16 "LockRooms" "trial" "LLockRooms$Room;") (by decide +kernel)) (fun _ h9 => h9) rfl dX6_endsAt_35 ?_
  refine va_get (D := (dC, dI)) (ci := 5) (v := .ref tgm) (C := RX3) (T := TX3) (N := 12) hx hb hts zi_X6_endsAt_X3 hown hK hP 0 rfl rfl 3 (by decide) (hts (.fieldLink RX6 41 "LockRooms$Room" "games" "LLockRooms$Games;") (by decide +kernel)) (fun _ h9 => h9) rfl dX6_endsAt_38 ?_
  refine va_get (D := (dC, dI)) (ci := 2) (v := .int 1) (C := RX0) (T := TX0) (N := 7) hx hb hts zi_X6_endsAt_X0 hown hK hP 1 rfl rfl 0 (by decide) (hts (.fieldLink RX6 45 "LockRooms$Games" "isRunning" "Z") (by decide +kernel)) (fun _ h9 => h9) rfl dX6_endsAt_41 ?_
  refine lv_if_eq (tgt := 61) hx hb dX6_endsAt_44 (by decide) (fun h => absurd h (by decide)) (fun _ => ?_)
  refine lv_aload_n hx hb dX6_endsAt_47 rfl (lv_at hl 1 rfl) ?_
  refine va_get (D := (dC, dI)) (ci := 8) (v := .ref tr) (C := RX6) (T := TX6) (N := 3) hx hb hts zi_X6_endsAt_X6 hown hK (zo_R hR0 hS hAr) 0 rfl rfl 1 (by decide) (hts (.fieldLink RX6 16 "LockRooms" "trial" "LLockRooms$Room;") (by decide +kernel)) (fun _ h9 => h9) rfl dX6_endsAt_48 ?_
  have hPr := ((zo_R hR0 hS hAr)).sub (ws' := [(tpl, .inl (tcP, 6, .inr (.inr (.inr (.inr tfp)))))]) [5] rfl
  have hPc := hP.sub (ws' := [(tr, .inr (5, [.ref tlk, .ref tth, .ref tpl, .ref tgm, .int 0, .int 0, .int 1, .int (-1), .int 1, .int 37, .int 18, .int 37])), (tgm, .inr (2, [.int 1, .int 37, .int 0, .int 0, .int 0, .int (-1), .long 0])), (tp0, .inr (4, [.int 1, .int (-1), .int (-1), .int 37]))]) [0, 1, 2] rfl
  have hDc := hD.sub (ws' := [(tr, .inr (5, [.ref tlk, .ref tth, .ref tpl, .ref tgm, .int 0, .int 0, .int 1, .int (-1), .int 1, .int 37, .int 18, .int 37])), (tgm, .inr (2, [.int 1, .int 37, .int 0, .int 0, .int 0, .int (-1), .long 0])), (tp0, .inr (4, [.int 1, .int (-1), .int (-1), .int 37]))]) [0, 1, 2] (by decide) rfl
  have hKc := hK.sub (tys' := [(tcP, .object "LockRooms$Player")]) [1] rfl
  have hFc := va_free (wc := [(tr, .inr (5, [.ref tlk, .ref tth, .ref tpl, .ref tgm, .int 0, .int 0, .int 1, .int (-1), .int 1, .int 37, .int 18, .int 37])), (tgm, .inr (2, [.int 1, .int 37, .int 0, .int 0, .int 0, .int (-1), .long 0])), (tp0, .inr (4, [.int 1, .int (-1), .int (-1), .int 37]))]) hD hS hA [0, 1, 2] rfl
  refine va_calli (va_runV (As := []) (rest := []) ⟨hx, hb, hml, hown, hts⟩ (cz_RmidMinute l dC dI ed H112.size tr tlk tth tpl tgm tcP tfp tp0 37 hkt (by decide)) (cwV 0 hts gX6_endsAt_X3_letMinuteGoBy rfl rfl rfl (by decide +kernel) ⟨Nat.le_of_ble_eq_true rfl, Nat.le_of_ble_eq_true rfl⟩) ⟨zb_blind, va_recv hK hP (ci := 5) (q0 := 0) rfl rfl, fun U hU hW => ⟨rfl, zb_mk hU hW hPr hPc hKc hDc hN hH hS hFc (zx_cons (zx_r (hAr _ (List.mem_of_getElem? (i := 5) rfl)) hDc) zx_nil)⟩⟩ rfl rfl hl.1 rfl (lv_room (Nat.le_of_ble_eq_true rfl)) dX6_endsAt_51 ⟨Nat.le_of_ble_eq_true rfl, Nat.le_of_ble_eq_true rfl⟩) hS (fun q _ h => hFc q h) hFc (fun r116 u t H115 locs ht hvm hw hB hz1 hk1 hS => ?_)
  obtain rfl : r116 = 0 := hw
  obtain ⟨w1_117, hf117_0, hP1, hD1, hK1⟩ := hB
  obtain rfl : w1_117 = 38 := hf117_0.trans (by first | rfl | decide +kernel)
  rw [ht] at hP1
  obtain ⟨hP, hD⟩ := va_join (wr := []) (w1 := [(tr, .inr (5, [.ref tlk, .ref tth, .ref tpl, .ref tgm, .int 0, .int 0, .int 1, .int (-1), .int 1, .int 38, .int 18, .int 38])), (tgm, .inr (2, [.int 1, .int 38, .int 0, .int 0, .int 0, .int (-1), .long 0])), (tp0, .inr (4, [.int 1, .int (-1), .int (-1), .int 38]))]) hP hD [0, 1, 2] [] rfl rfl (by decide) (by decide) hk1 hFc hP1 hD1
  have hP : va_P (dC, dI) vwCl [(tr, .inr (5, [.ref tlk, .ref tth, .ref tpl, .ref tgm, .int 0, .int 0, .int 1, .int (-1), .int 1, .int 38, .int 18, .int 38])), (tgm, .inr (2, [.int 1, .int 38, .int 0, .int 0, .int 0, .int (-1), .long 0])), (tp0, .inr (4, [.int 1, .int (-1), .int (-1), .int 38]))] H115 := hP
  have hD : va_D A [(tr, .inr (5, [.ref tlk, .ref tth, .ref tpl, .ref tgm, .int 0, .int 0, .int 1, .int (-1), .int 1, .int 38, .int 18, .int 38])), (tgm, .inr (2, [.int 1, .int 38, .int 0, .int 0, .int 0, .int (-1), .long 0])), (tp0, .inr (4, [.int 1, .int (-1), .int (-1), .int 38]))] := hD
  refine lv_pop hx hb dX6_endsAt_54 rfl ?_
  refine lv_iinc (v := 38) (lv' := [(1, .int 38), (0, .ref x)]) hx hb dX6_endsAt_55 hl (k := 0) rfl (by decide) (by decide) rfl (fun ls hl => ?_)
  refine lv_goto (tgt := 28) hx hb dX6_endsAt_58 (by decide) ?_
  refine lv_iload_n hx hb dX6_endsAt_28 rfl (lv_at hl 0 rfl) ?_
  refine lv_bipush (v := 60) hx hb dX6_endsAt_29 (by decide) ?_
  refine lv_icmp_ge (tgt := 61) hx hb dX6_endsAt_31 (by decide) (fun h => absurd h (by decide)) (fun _ => ?_)
  refine lv_aload_n hx hb dX6_endsAt_34 rfl (lv_at hl 1 rfl) ?_
  refine va_get (D := (dC, dI)) (ci := 8) (v := .ref tr) (C := RX6) (T := TX6) (N := 3) hx hb hts zi_X6_endsAt_X6 hown hK (zo_R hR0 hS hAr) 0 rfl rfl 1 (by decide) (hts (.fieldLink RX6 16 "LockRooms" "trial" "LLockRooms$Room;") (by decide +kernel)) (fun _ h9 => h9) rfl dX6_endsAt_35 ?_
  refine va_get (D := (dC, dI)) (ci := 5) (v := .ref tgm) (C := RX3) (T := TX3) (N := 12) hx hb hts zi_X6_endsAt_X3 hown hK hP 0 rfl rfl 3 (by decide) (hts (.fieldLink RX6 41 "LockRooms$Room" "games" "LLockRooms$Games;") (by decide +kernel)) (fun _ h9 => h9) rfl dX6_endsAt_38 ?_
  refine va_get (D := (dC, dI)) (ci := 2) (v := .int 1) (C := RX0) (T := TX0) (N := 7) hx hb hts zi_X6_endsAt_X0 hown hK hP 1 rfl rfl 0 (by decide) (hts (.fieldLink RX6 45 "LockRooms$Games" "isRunning" "Z") (by decide +kernel)) (fun _ h9 => h9) rfl dX6_endsAt_41 ?_
  refine lv_if_eq (tgt := 61) hx hb dX6_endsAt_44 (by decide) (fun h => absurd h (by decide)) (fun _ => ?_)
  refine lv_aload_n hx hb dX6_endsAt_47 rfl (lv_at hl 1 rfl) ?_
  refine va_get (D := (dC, dI)) (ci := 8) (v := .ref tr) (C := RX6) (T := TX6) (N := 3) hx hb hts zi_X6_endsAt_X6 hown hK (zo_R hR0 hS hAr) 0 rfl rfl 1 (by decide) (hts (.fieldLink RX6 16 "LockRooms" "trial" "LLockRooms$Room;") (by decide +kernel)) (fun _ h9 => h9) rfl dX6_endsAt_48 ?_
  have hPr := ((zo_R hR0 hS hAr)).sub (ws' := [(tpl, .inl (tcP, 6, .inr (.inr (.inr (.inr tfp)))))]) [5] rfl
  have hPc := hP.sub (ws' := [(tr, .inr (5, [.ref tlk, .ref tth, .ref tpl, .ref tgm, .int 0, .int 0, .int 1, .int (-1), .int 1, .int 38, .int 18, .int 38])), (tgm, .inr (2, [.int 1, .int 38, .int 0, .int 0, .int 0, .int (-1), .long 0])), (tp0, .inr (4, [.int 1, .int (-1), .int (-1), .int 38]))]) [0, 1, 2] rfl
  have hDc := hD.sub (ws' := [(tr, .inr (5, [.ref tlk, .ref tth, .ref tpl, .ref tgm, .int 0, .int 0, .int 1, .int (-1), .int 1, .int 38, .int 18, .int 38])), (tgm, .inr (2, [.int 1, .int 38, .int 0, .int 0, .int 0, .int (-1), .long 0])), (tp0, .inr (4, [.int 1, .int (-1), .int (-1), .int 38]))]) [0, 1, 2] (by decide) rfl
  have hKc := hK.sub (tys' := [(tcP, .object "LockRooms$Player")]) [1] rfl
  have hFc := va_free (wc := [(tr, .inr (5, [.ref tlk, .ref tth, .ref tpl, .ref tgm, .int 0, .int 0, .int 1, .int (-1), .int 1, .int 38, .int 18, .int 38])), (tgm, .inr (2, [.int 1, .int 38, .int 0, .int 0, .int 0, .int (-1), .long 0])), (tp0, .inr (4, [.int 1, .int (-1), .int (-1), .int 38]))]) hD hS hA [0, 1, 2] rfl
  refine va_calli (va_runV (As := []) (rest := []) ⟨hx, hb, hml, hown, hts⟩ (cz_RmidMinute l dC dI ed H115.size tr tlk tth tpl tgm tcP tfp tp0 38 hkt (by decide)) (cwV 0 hts gX6_endsAt_X3_letMinuteGoBy rfl rfl rfl (by decide +kernel) ⟨Nat.le_of_ble_eq_true rfl, Nat.le_of_ble_eq_true rfl⟩) ⟨zb_blind, va_recv hK hP (ci := 5) (q0 := 0) rfl rfl, fun U hU hW => ⟨rfl, zb_mk hU hW hPr hPc hKc hDc hN hH hS hFc (zx_cons (zx_r (hAr _ (List.mem_of_getElem? (i := 5) rfl)) hDc) zx_nil)⟩⟩ rfl rfl hl.1 rfl (lv_room (Nat.le_of_ble_eq_true rfl)) dX6_endsAt_51 ⟨Nat.le_of_ble_eq_true rfl, Nat.le_of_ble_eq_true rfl⟩) hS (fun q _ h => hFc q h) hFc (fun r119 u t H118 locs ht hvm hw hB hz1 hk1 hS => ?_)
  obtain rfl : r119 = 0 := hw
  obtain ⟨w1_120, hf120_0, hP1, hD1, hK1⟩ := hB
  obtain rfl : w1_120 = 39 := hf120_0.trans (by first | rfl | decide +kernel)
  rw [ht] at hP1
  obtain ⟨hP, hD⟩ := va_join (wr := []) (w1 := [(tr, .inr (5, [.ref tlk, .ref tth, .ref tpl, .ref tgm, .int 0, .int 0, .int 1, .int (-1), .int 1, .int 39, .int 18, .int 39])), (tgm, .inr (2, [.int 1, .int 39, .int 0, .int 0, .int 0, .int (-1), .long 0])), (tp0, .inr (4, [.int 1, .int (-1), .int (-1), .int 39]))]) hP hD [0, 1, 2] [] rfl rfl (by decide) (by decide) hk1 hFc hP1 hD1
  have hP : va_P (dC, dI) vwCl [(tr, .inr (5, [.ref tlk, .ref tth, .ref tpl, .ref tgm, .int 0, .int 0, .int 1, .int (-1), .int 1, .int 39, .int 18, .int 39])), (tgm, .inr (2, [.int 1, .int 39, .int 0, .int 0, .int 0, .int (-1), .long 0])), (tp0, .inr (4, [.int 1, .int (-1), .int (-1), .int 39]))] H118 := hP
  have hD : va_D A [(tr, .inr (5, [.ref tlk, .ref tth, .ref tpl, .ref tgm, .int 0, .int 0, .int 1, .int (-1), .int 1, .int 39, .int 18, .int 39])), (tgm, .inr (2, [.int 1, .int 39, .int 0, .int 0, .int 0, .int (-1), .long 0])), (tp0, .inr (4, [.int 1, .int (-1), .int (-1), .int 39]))] := hD
  refine lv_pop hx hb dX6_endsAt_54 rfl ?_
  refine lv_iinc (v := 39) (lv' := [(1, .int 39), (0, .ref x)]) hx hb dX6_endsAt_55 hl (k := 0) rfl (by decide) (by decide) rfl (fun ls hl => ?_)
  refine lv_goto (tgt := 28) hx hb dX6_endsAt_58 (by decide) ?_
  refine lv_iload_n hx hb dX6_endsAt_28 rfl (lv_at hl 0 rfl) ?_
  refine lv_bipush (v := 60) hx hb dX6_endsAt_29 (by decide) ?_
  refine lv_icmp_ge (tgt := 61) hx hb dX6_endsAt_31 (by decide) (fun h => absurd h (by decide)) (fun _ => ?_)
  refine lv_aload_n hx hb dX6_endsAt_34 rfl (lv_at hl 1 rfl) ?_
  refine va_get (D := (dC, dI)) (ci := 8) (v := .ref tr) (C := RX6) (T := TX6) (N := 3) hx hb hts zi_X6_endsAt_X6 hown hK (zo_R hR0 hS hAr) 0 rfl rfl 1 (by decide) (hts (.fieldLink RX6 16 "LockRooms" "trial" "LLockRooms$Room;") (by decide +kernel)) (fun _ h9 => h9) rfl dX6_endsAt_35 ?_
  refine va_get (D := (dC, dI)) (ci := 5) (v := .ref tgm) (C := RX3) (T := TX3) (N := 12) hx hb hts zi_X6_endsAt_X3 hown hK hP 0 rfl rfl 3 (by decide) (hts (.fieldLink RX6 41 "LockRooms$Room" "games" "LLockRooms$Games;") (by decide +kernel)) (fun _ h9 => h9) rfl dX6_endsAt_38 ?_
  refine va_get (D := (dC, dI)) (ci := 2) (v := .int 1) (C := RX0) (T := TX0) (N := 7) hx hb hts zi_X6_endsAt_X0 hown hK hP 1 rfl rfl 0 (by decide) (hts (.fieldLink RX6 45 "LockRooms$Games" "isRunning" "Z") (by decide +kernel)) (fun _ h9 => h9) rfl dX6_endsAt_41 ?_
  refine lv_if_eq (tgt := 61) hx hb dX6_endsAt_44 (by decide) (fun h => absurd h (by decide)) (fun _ => ?_)
  refine lv_aload_n hx hb dX6_endsAt_47 rfl (lv_at hl 1 rfl) ?_
  refine va_get (D := (dC, dI)) (ci := 8) (v := .ref tr) (C := RX6) (T := TX6) (N := 3) hx hb hts zi_X6_endsAt_X6 hown hK (zo_R hR0 hS hAr) 0 rfl rfl 1 (by decide) (hts (.fieldLink RX6 16 "LockRooms" "trial" "LLockRooms$Room;") (by decide +kernel)) (fun _ h9 => h9) rfl dX6_endsAt_48 ?_
  have hPr := ((zo_R hR0 hS hAr)).sub (ws' := [(tpl, .inl (tcP, 6, .inr (.inr (.inr (.inr tfp)))))]) [5] rfl
  have hPc := hP.sub (ws' := [(tr, .inr (5, [.ref tlk, .ref tth, .ref tpl, .ref tgm, .int 0, .int 0, .int 1, .int (-1), .int 1, .int 39, .int 18, .int 39])), (tgm, .inr (2, [.int 1, .int 39, .int 0, .int 0, .int 0, .int (-1), .long 0])), (tp0, .inr (4, [.int 1, .int (-1), .int (-1), .int 39]))]) [0, 1, 2] rfl
  have hDc := hD.sub (ws' := [(tr, .inr (5, [.ref tlk, .ref tth, .ref tpl, .ref tgm, .int 0, .int 0, .int 1, .int (-1), .int 1, .int 39, .int 18, .int 39])), (tgm, .inr (2, [.int 1, .int 39, .int 0, .int 0, .int 0, .int (-1), .long 0])), (tp0, .inr (4, [.int 1, .int (-1), .int (-1), .int 39]))]) [0, 1, 2] (by decide) rfl
  have hKc := hK.sub (tys' := [(tcP, .object "LockRooms$Player")]) [1] rfl
  have hFc := va_free (wc := [(tr, .inr (5, [.ref tlk, .ref tth, .ref tpl, .ref tgm, .int 0, .int 0, .int 1, .int (-1), .int 1, .int 39, .int 18, .int 39])), (tgm, .inr (2, [.int 1, .int 39, .int 0, .int 0, .int 0, .int (-1), .long 0])), (tp0, .inr (4, [.int 1, .int (-1), .int (-1), .int 39]))]) hD hS hA [0, 1, 2] rfl
  refine va_calli (va_runV (As := []) (rest := []) ⟨hx, hb, hml, hown, hts⟩ (cz_RmidMinute l dC dI ed H118.size tr tlk tth tpl tgm tcP tfp tp0 39 hkt (by decide)) (cwV 0 hts gX6_endsAt_X3_letMinuteGoBy rfl rfl rfl (by decide +kernel) ⟨Nat.le_of_ble_eq_true rfl, Nat.le_of_ble_eq_true rfl⟩) ⟨zb_blind, va_recv hK hP (ci := 5) (q0 := 0) rfl rfl, fun U hU hW => ⟨rfl, zb_mk hU hW hPr hPc hKc hDc hN hH hS hFc (zx_cons (zx_r (hAr _ (List.mem_of_getElem? (i := 5) rfl)) hDc) zx_nil)⟩⟩ rfl rfl hl.1 rfl (lv_room (Nat.le_of_ble_eq_true rfl)) dX6_endsAt_51 ⟨Nat.le_of_ble_eq_true rfl, Nat.le_of_ble_eq_true rfl⟩) hS (fun q _ h => hFc q h) hFc (fun r122 u t H121 locs ht hvm hw hB hz1 hk1 hS => ?_)
  obtain rfl : r122 = 0 := hw
  obtain ⟨w1_123, hf123_0, hP1, hD1, hK1⟩ := hB
  obtain rfl : w1_123 = 40 := hf123_0.trans (by first | rfl | decide +kernel)
  rw [ht] at hP1
  obtain ⟨hP, hD⟩ := va_join (wr := []) (w1 := [(tr, .inr (5, [.ref tlk, .ref tth, .ref tpl, .ref tgm, .int 0, .int 0, .int 1, .int (-1), .int 1, .int 40, .int 18, .int 40])), (tgm, .inr (2, [.int 1, .int 40, .int 0, .int 0, .int 0, .int (-1), .long 0])), (tp0, .inr (4, [.int 1, .int (-1), .int (-1), .int 40]))]) hP hD [0, 1, 2] [] rfl rfl (by decide) (by decide) hk1 hFc hP1 hD1
  have hP : va_P (dC, dI) vwCl [(tr, .inr (5, [.ref tlk, .ref tth, .ref tpl, .ref tgm, .int 0, .int 0, .int 1, .int (-1), .int 1, .int 40, .int 18, .int 40])), (tgm, .inr (2, [.int 1, .int 40, .int 0, .int 0, .int 0, .int (-1), .long 0])), (tp0, .inr (4, [.int 1, .int (-1), .int (-1), .int 40]))] H121 := hP
  have hD : va_D A [(tr, .inr (5, [.ref tlk, .ref tth, .ref tpl, .ref tgm, .int 0, .int 0, .int 1, .int (-1), .int 1, .int 40, .int 18, .int 40])), (tgm, .inr (2, [.int 1, .int 40, .int 0, .int 0, .int 0, .int (-1), .long 0])), (tp0, .inr (4, [.int 1, .int (-1), .int (-1), .int 40]))] := hD
  refine lv_pop hx hb dX6_endsAt_54 rfl ?_
  refine lv_iinc (v := 40) (lv' := [(1, .int 40), (0, .ref x)]) hx hb dX6_endsAt_55 hl (k := 0) rfl (by decide) (by decide) rfl (fun ls hl => ?_)
  refine lv_goto (tgt := 28) hx hb dX6_endsAt_58 (by decide) ?_
  refine lv_iload_n hx hb dX6_endsAt_28 rfl (lv_at hl 0 rfl) ?_
  refine lv_bipush (v := 60) hx hb dX6_endsAt_29 (by decide) ?_
  refine lv_icmp_ge (tgt := 61) hx hb dX6_endsAt_31 (by decide) (fun h => absurd h (by decide)) (fun _ => ?_)
  refine lv_aload_n hx hb dX6_endsAt_34 rfl (lv_at hl 1 rfl) ?_
  refine va_get (D := (dC, dI)) (ci := 8) (v := .ref tr) (C := RX6) (T := TX6) (N := 3) hx hb hts zi_X6_endsAt_X6 hown hK (zo_R hR0 hS hAr) 0 rfl rfl 1 (by decide) (hts (.fieldLink RX6 16 "LockRooms" "trial" "LLockRooms$Room;") (by decide +kernel)) (fun _ h9 => h9) rfl dX6_endsAt_35 ?_
  refine va_get (D := (dC, dI)) (ci := 5) (v := .ref tgm) (C := RX3) (T := TX3) (N := 12) hx hb hts zi_X6_endsAt_X3 hown hK hP 0 rfl rfl 3 (by decide) (hts (.fieldLink RX6 41 "LockRooms$Room" "games" "LLockRooms$Games;") (by decide +kernel)) (fun _ h9 => h9) rfl dX6_endsAt_38 ?_
  refine va_get (D := (dC, dI)) (ci := 2) (v := .int 1) (C := RX0) (T := TX0) (N := 7) hx hb hts zi_X6_endsAt_X0 hown hK hP 1 rfl rfl 0 (by decide) (hts (.fieldLink RX6 45 "LockRooms$Games" "isRunning" "Z") (by decide +kernel)) (fun _ h9 => h9) rfl dX6_endsAt_41 ?_
  refine lv_if_eq (tgt := 61) hx hb dX6_endsAt_44 (by decide) (fun h => absurd h (by decide)) (fun _ => ?_)
  refine lv_aload_n hx hb dX6_endsAt_47 rfl (lv_at hl 1 rfl) ?_
  refine va_get (D := (dC, dI)) (ci := 8) (v := .ref tr) (C := RX6) (T := TX6) (N := 3) hx hb hts zi_X6_endsAt_X6 hown hK (zo_R hR0 hS hAr) 0 rfl rfl 1 (by decide) (hts (.fieldLink RX6 16 "LockRooms" "trial" "LLockRooms$Room;") (by decide +kernel)) (fun _ h9 => h9) rfl dX6_endsAt_48 ?_
  have hPr := ((zo_R hR0 hS hAr)).sub (ws' := [(tpl, .inl (tcP, 6, .inr (.inr (.inr (.inr tfp)))))]) [5] rfl
  have hPc := hP.sub (ws' := [(tr, .inr (5, [.ref tlk, .ref tth, .ref tpl, .ref tgm, .int 0, .int 0, .int 1, .int (-1), .int 1, .int 40, .int 18, .int 40])), (tgm, .inr (2, [.int 1, .int 40, .int 0, .int 0, .int 0, .int (-1), .long 0])), (tp0, .inr (4, [.int 1, .int (-1), .int (-1), .int 40]))]) [0, 1, 2] rfl
  have hDc := hD.sub (ws' := [(tr, .inr (5, [.ref tlk, .ref tth, .ref tpl, .ref tgm, .int 0, .int 0, .int 1, .int (-1), .int 1, .int 40, .int 18, .int 40])), (tgm, .inr (2, [.int 1, .int 40, .int 0, .int 0, .int 0, .int (-1), .long 0])), (tp0, .inr (4, [.int 1, .int (-1), .int (-1), .int 40]))]) [0, 1, 2] (by decide) rfl
  have hKc := hK.sub (tys' := [(tcP, .object "LockRooms$Player")]) [1] rfl
  have hFc := va_free (wc := [(tr, .inr (5, [.ref tlk, .ref tth, .ref tpl, .ref tgm, .int 0, .int 0, .int 1, .int (-1), .int 1, .int 40, .int 18, .int 40])), (tgm, .inr (2, [.int 1, .int 40, .int 0, .int 0, .int 0, .int (-1), .long 0])), (tp0, .inr (4, [.int 1, .int (-1), .int (-1), .int 40]))]) hD hS hA [0, 1, 2] rfl
  refine va_calli (va_runV (As := []) (rest := []) ⟨hx, hb, hml, hown, hts⟩ (cz_RmidMinute l dC dI ed H121.size tr tlk tth tpl tgm tcP tfp tp0 40 hkt (by decide)) (cwV 0 hts gX6_endsAt_X3_letMinuteGoBy rfl rfl rfl (by decide +kernel) ⟨Nat.le_of_ble_eq_true rfl, Nat.le_of_ble_eq_true rfl⟩) ⟨zb_blind, va_recv hK hP (ci := 5) (q0 := 0) rfl rfl, fun U hU hW => ⟨rfl, zb_mk hU hW hPr hPc hKc hDc hN hH hS hFc (zx_cons (zx_r (hAr _ (List.mem_of_getElem? (i := 5) rfl)) hDc) zx_nil)⟩⟩ rfl rfl hl.1 rfl (lv_room (Nat.le_of_ble_eq_true rfl)) dX6_endsAt_51 ⟨Nat.le_of_ble_eq_true rfl, Nat.le_of_ble_eq_true rfl⟩) hS (fun q _ h => hFc q h) hFc (fun r125 u t H124 locs ht hvm hw hB hz1 hk1 hS => ?_)
  obtain rfl : r125 = 0 := hw
  obtain ⟨w1_126, hf126_0, hP1, hD1, hK1⟩ := hB
  obtain rfl : w1_126 = 41 := hf126_0.trans (by first | rfl | decide +kernel)
  rw [ht] at hP1
  obtain ⟨hP, hD⟩ := va_join (wr := []) (w1 := [(tr, .inr (5, [.ref tlk, .ref tth, .ref tpl, .ref tgm, .int 0, .int 0, .int 1, .int (-1), .int 1, .int 41, .int 18, .int 41])), (tgm, .inr (2, [.int 1, .int 41, .int 0, .int 0, .int 0, .int (-1), .long 0])), (tp0, .inr (4, [.int 1, .int (-1), .int (-1), .int 41]))]) hP hD [0, 1, 2] [] rfl rfl (by decide) (by decide) hk1 hFc hP1 hD1
  have hP : va_P (dC, dI) vwCl [(tr, .inr (5, [.ref tlk, .ref tth, .ref tpl, .ref tgm, .int 0, .int 0, .int 1, .int (-1), .int 1, .int 41, .int 18, .int 41])), (tgm, .inr (2, [.int 1, .int 41, .int 0, .int 0, .int 0, .int (-1), .long 0])), (tp0, .inr (4, [.int 1, .int (-1), .int (-1), .int 41]))] H124 := hP
  have hD : va_D A [(tr, .inr (5, [.ref tlk, .ref tth, .ref tpl, .ref tgm, .int 0, .int 0, .int 1, .int (-1), .int 1, .int 41, .int 18, .int 41])), (tgm, .inr (2, [.int 1, .int 41, .int 0, .int 0, .int 0, .int (-1), .long 0])), (tp0, .inr (4, [.int 1, .int (-1), .int (-1), .int 41]))] := hD
  refine lv_pop hx hb dX6_endsAt_54 rfl ?_
  refine lv_iinc (v := 41) (lv' := [(1, .int 41), (0, .ref x)]) hx hb dX6_endsAt_55 hl (k := 0) rfl (by decide) (by decide) rfl (fun ls hl => ?_)
  refine lv_goto (tgt := 28) hx hb dX6_endsAt_58 (by decide) ?_
  refine lv_iload_n hx hb dX6_endsAt_28 rfl (lv_at hl 0 rfl) ?_
  refine lv_bipush (v := 60) hx hb dX6_endsAt_29 (by decide) ?_
  refine lv_icmp_ge (tgt := 61) hx hb dX6_endsAt_31 (by decide) (fun h => absurd h (by decide)) (fun _ => ?_)
  refine lv_aload_n hx hb dX6_endsAt_34 rfl (lv_at hl 1 rfl) ?_
  refine va_get (D := (dC, dI)) (ci := 8) (v := .ref tr) (C := RX6) (T := TX6) (N := 3) hx hb hts zi_X6_endsAt_X6 hown hK (zo_R hR0 hS hAr) 0 rfl rfl 1 (by decide) (hts (.fieldLink RX6 16 "LockRooms" "trial" "LLockRooms$Room;") (by decide +kernel)) (fun _ h9 => h9) rfl dX6_endsAt_35 ?_
  refine va_get (D := (dC, dI)) (ci := 5) (v := .ref tgm) (C := RX3) (T := TX3) (N := 12) hx hb hts zi_X6_endsAt_X3 hown hK hP 0 rfl rfl 3 (by decide) (hts (.fieldLink RX6 41 "LockRooms$Room" "games" "LLockRooms$Games;") (by decide +kernel)) (fun _ h9 => h9) rfl dX6_endsAt_38 ?_
  refine va_get (D := (dC, dI)) (ci := 2) (v := .int 1) (C := RX0) (T := TX0) (N := 7) hx hb hts zi_X6_endsAt_X0 hown hK hP 1 rfl rfl 0 (by decide) (hts (.fieldLink RX6 45 "LockRooms$Games" "isRunning" "Z") (by decide +kernel)) (fun _ h9 => h9) rfl dX6_endsAt_41 ?_
  refine lv_if_eq (tgt := 61) hx hb dX6_endsAt_44 (by decide) (fun h => absurd h (by decide)) (fun _ => ?_)
  refine lv_aload_n hx hb dX6_endsAt_47 rfl (lv_at hl 1 rfl) ?_
  refine va_get (D := (dC, dI)) (ci := 8) (v := .ref tr) (C := RX6) (T := TX6) (N := 3) hx hb hts zi_X6_endsAt_X6 hown hK (zo_R hR0 hS hAr) 0 rfl rfl 1 (by decide) (hts (.fieldLink RX6 16 "LockRooms" "trial" "LLockRooms$Room;") (by decide +kernel)) (fun _ h9 => h9) rfl dX6_endsAt_48 ?_
  have hPr := ((zo_R hR0 hS hAr)).sub (ws' := [(tpl, .inl (tcP, 6, .inr (.inr (.inr (.inr tfp)))))]) [5] rfl
  have hPc := hP.sub (ws' := [(tr, .inr (5, [.ref tlk, .ref tth, .ref tpl, .ref tgm, .int 0, .int 0, .int 1, .int (-1), .int 1, .int 41, .int 18, .int 41])), (tgm, .inr (2, [.int 1, .int 41, .int 0, .int 0, .int 0, .int (-1), .long 0])), (tp0, .inr (4, [.int 1, .int (-1), .int (-1), .int 41]))]) [0, 1, 2] rfl
  have hDc := hD.sub (ws' := [(tr, .inr (5, [.ref tlk, .ref tth, .ref tpl, .ref tgm, .int 0, .int 0, .int 1, .int (-1), .int 1, .int 41, .int 18, .int 41])), (tgm, .inr (2, [.int 1, .int 41, .int 0, .int 0, .int 0, .int (-1), .long 0])), (tp0, .inr (4, [.int 1, .int (-1), .int (-1), .int 41]))]) [0, 1, 2] (by decide) rfl
  have hKc := hK.sub (tys' := [(tcP, .object "LockRooms$Player")]) [1] rfl
  have hFc := va_free (wc := [(tr, .inr (5, [.ref tlk, .ref tth, .ref tpl, .ref tgm, .int 0, .int 0, .int 1, .int (-1), .int 1, .int 41, .int 18, .int 41])), (tgm, .inr (2, [.int 1, .int 41, .int 0, .int 0, .int 0, .int (-1), .long 0])), (tp0, .inr (4, [.int 1, .int (-1), .int (-1), .int 41]))]) hD hS hA [0, 1, 2] rfl
  refine va_calli (va_runV (As := []) (rest := []) ⟨hx, hb, hml, hown, hts⟩ (cz_RmidMinute l dC dI ed H124.size tr tlk tth tpl tgm tcP tfp tp0 41 hkt (by decide)) (cwV 0 hts gX6_endsAt_X3_letMinuteGoBy rfl rfl rfl (by decide +kernel) ⟨Nat.le_of_ble_eq_true rfl, Nat.le_of_ble_eq_true rfl⟩) ⟨zb_blind, va_recv hK hP (ci := 5) (q0 := 0) rfl rfl, fun U hU hW => ⟨rfl, zb_mk hU hW hPr hPc hKc hDc hN hH hS hFc (zx_cons (zx_r (hAr _ (List.mem_of_getElem? (i := 5) rfl)) hDc) zx_nil)⟩⟩ rfl rfl hl.1 rfl (lv_room (Nat.le_of_ble_eq_true rfl)) dX6_endsAt_51 ⟨Nat.le_of_ble_eq_true rfl, Nat.le_of_ble_eq_true rfl⟩) hS (fun q _ h => hFc q h) hFc (fun r128 u t H127 locs ht hvm hw hB hz1 hk1 hS => ?_)
  obtain rfl : r128 = 0 := hw
  obtain ⟨w1_129, hf129_0, hP1, hD1, hK1⟩ := hB
  obtain rfl : w1_129 = 42 := hf129_0.trans (by first | rfl | decide +kernel)
  rw [ht] at hP1
  obtain ⟨hP, hD⟩ := va_join (wr := []) (w1 := [(tr, .inr (5, [.ref tlk, .ref tth, .ref tpl, .ref tgm, .int 0, .int 0, .int 1, .int (-1), .int 1, .int 42, .int 18, .int 42])), (tgm, .inr (2, [.int 1, .int 42, .int 0, .int 0, .int 0, .int (-1), .long 0])), (tp0, .inr (4, [.int 1, .int (-1), .int (-1), .int 42]))]) hP hD [0, 1, 2] [] rfl rfl (by decide) (by decide) hk1 hFc hP1 hD1
  have hP : va_P (dC, dI) vwCl [(tr, .inr (5, [.ref tlk, .ref tth, .ref tpl, .ref tgm, .int 0, .int 0, .int 1, .int (-1), .int 1, .int 42, .int 18, .int 42])), (tgm, .inr (2, [.int 1, .int 42, .int 0, .int 0, .int 0, .int (-1), .long 0])), (tp0, .inr (4, [.int 1, .int (-1), .int (-1), .int 42]))] H127 := hP
  have hD : va_D A [(tr, .inr (5, [.ref tlk, .ref tth, .ref tpl, .ref tgm, .int 0, .int 0, .int 1, .int (-1), .int 1, .int 42, .int 18, .int 42])), (tgm, .inr (2, [.int 1, .int 42, .int 0, .int 0, .int 0, .int (-1), .long 0])), (tp0, .inr (4, [.int 1, .int (-1), .int (-1), .int 42]))] := hD
  refine lv_pop hx hb dX6_endsAt_54 rfl ?_
  refine lv_iinc (v := 42) (lv' := [(1, .int 42), (0, .ref x)]) hx hb dX6_endsAt_55 hl (k := 0) rfl (by decide) (by decide) rfl (fun ls hl => ?_)
  refine lv_goto (tgt := 28) hx hb dX6_endsAt_58 (by decide) ?_
  refine lv_iload_n hx hb dX6_endsAt_28 rfl (lv_at hl 0 rfl) ?_
  refine lv_bipush (v := 60) hx hb dX6_endsAt_29 (by decide) ?_
  refine lv_icmp_ge (tgt := 61) hx hb dX6_endsAt_31 (by decide) (fun h => absurd h (by decide)) (fun _ => ?_)
  refine lv_aload_n hx hb dX6_endsAt_34 rfl (lv_at hl 1 rfl) ?_
  refine va_get (D := (dC, dI)) (ci := 8) (v := .ref tr) (C := RX6) (T := TX6) (N := 3) hx hb hts zi_X6_endsAt_X6 hown hK (zo_R hR0 hS hAr) 0 rfl rfl 1 (by decide) (hts (.fieldLink RX6 16 "LockRooms" "trial" "LLockRooms$Room;") (by decide +kernel)) (fun _ h9 => h9) rfl dX6_endsAt_35 ?_
  refine va_get (D := (dC, dI)) (ci := 5) (v := .ref tgm) (C := RX3) (T := TX3) (N := 12) hx hb hts zi_X6_endsAt_X3 hown hK hP 0 rfl rfl 3 (by decide) (hts (.fieldLink RX6 41 "LockRooms$Room" "games" "LLockRooms$Games;") (by decide +kernel)) (fun _ h9 => h9) rfl dX6_endsAt_38 ?_
  refine va_get (D := (dC, dI)) (ci := 2) (v := .int 1) (C := RX0) (T := TX0) (N := 7) hx hb hts zi_X6_endsAt_X0 hown hK hP 1 rfl rfl 0 (by decide) (hts (.fieldLink RX6 45 "LockRooms$Games" "isRunning" "Z") (by decide +kernel)) (fun _ h9 => h9) rfl dX6_endsAt_41 ?_
  refine lv_if_eq (tgt := 61) hx hb dX6_endsAt_44 (by decide) (fun h => absurd h (by decide)) (fun _ => ?_)
  refine lv_aload_n hx hb dX6_endsAt_47 rfl (lv_at hl 1 rfl) ?_
  refine va_get (D := (dC, dI)) (ci := 8) (v := .ref tr) (C := RX6) (T := TX6) (N := 3) hx hb hts zi_X6_endsAt_X6 hown hK (zo_R hR0 hS hAr) 0 rfl rfl 1 (by decide) (hts (.fieldLink RX6 16 "LockRooms" "trial" "LLockRooms$Room;") (by decide +kernel)) (fun _ h9 => h9) rfl dX6_endsAt_48 ?_
  have hPr := ((zo_R hR0 hS hAr)).sub (ws' := [(tpl, .inl (tcP, 6, .inr (.inr (.inr (.inr tfp)))))]) [5] rfl
  have hPc := hP.sub (ws' := [(tr, .inr (5, [.ref tlk, .ref tth, .ref tpl, .ref tgm, .int 0, .int 0, .int 1, .int (-1), .int 1, .int 42, .int 18, .int 42])), (tgm, .inr (2, [.int 1, .int 42, .int 0, .int 0, .int 0, .int (-1), .long 0])), (tp0, .inr (4, [.int 1, .int (-1), .int (-1), .int 42]))]) [0, 1, 2] rfl
  have hDc := hD.sub (ws' := [(tr, .inr (5, [.ref tlk, .ref tth, .ref tpl, .ref tgm, .int 0, .int 0, .int 1, .int (-1), .int 1, .int 42, .int 18, .int 42])), (tgm, .inr (2, [.int 1, .int 42, .int 0, .int 0, .int 0, .int (-1), .long 0])), (tp0, .inr (4, [.int 1, .int (-1), .int (-1), .int 42]))]) [0, 1, 2] (by decide) rfl
  have hKc := hK.sub (tys' := [(tcP, .object "LockRooms$Player")]) [1] rfl
  have hFc := va_free (wc := [(tr, .inr (5, [.ref tlk, .ref tth, .ref tpl, .ref tgm, .int 0, .int 0, .int 1, .int (-1), .int 1, .int 42, .int 18, .int 42])), (tgm, .inr (2, [.int 1, .int 42, .int 0, .int 0, .int 0, .int (-1), .long 0])), (tp0, .inr (4, [.int 1, .int (-1), .int (-1), .int 42]))]) hD hS hA [0, 1, 2] rfl
  refine va_calli (va_runV (As := []) (rest := []) ⟨hx, hb, hml, hown, hts⟩ (cz_RmidMinute l dC dI ed H127.size tr tlk tth tpl tgm tcP tfp tp0 42 hkt (by decide)) (cwV 0 hts gX6_endsAt_X3_letMinuteGoBy rfl rfl rfl (by decide +kernel) ⟨Nat.le_of_ble_eq_true rfl, Nat.le_of_ble_eq_true rfl⟩) ⟨zb_blind, va_recv hK hP (ci := 5) (q0 := 0) rfl rfl, fun U hU hW => ⟨rfl, zb_mk hU hW hPr hPc hKc hDc hN hH hS hFc (zx_cons (zx_r (hAr _ (List.mem_of_getElem? (i := 5) rfl)) hDc) zx_nil)⟩⟩ rfl rfl hl.1 rfl (lv_room (Nat.le_of_ble_eq_true rfl)) dX6_endsAt_51 ⟨Nat.le_of_ble_eq_true rfl, Nat.le_of_ble_eq_true rfl⟩) hS (fun q _ h => hFc q h) hFc (fun r131 u t H130 locs ht hvm hw hB hz1 hk1 hS => ?_)
  obtain rfl : r131 = 0 := hw
  obtain ⟨w1_132, hf132_0, hP1, hD1, hK1⟩ := hB
  obtain rfl : w1_132 = 43 := hf132_0.trans (by first | rfl | decide +kernel)
  rw [ht] at hP1
  obtain ⟨hP, hD⟩ := va_join (wr := []) (w1 := [(tr, .inr (5, [.ref tlk, .ref tth, .ref tpl, .ref tgm, .int 0, .int 0, .int 1, .int (-1), .int 1, .int 43, .int 18, .int 43])), (tgm, .inr (2, [.int 1, .int 43, .int 0, .int 0, .int 0, .int (-1), .long 0])), (tp0, .inr (4, [.int 1, .int (-1), .int (-1), .int 43]))]) hP hD [0, 1, 2] [] rfl rfl (by decide) (by decide) hk1 hFc hP1 hD1
  have hP : va_P (dC, dI) vwCl [(tr, .inr (5, [.ref tlk, .ref tth, .ref tpl, .ref tgm, .int 0, .int 0, .int 1, .int (-1), .int 1, .int 43, .int 18, .int 43])), (tgm, .inr (2, [.int 1, .int 43, .int 0, .int 0, .int 0, .int (-1), .long 0])), (tp0, .inr (4, [.int 1, .int (-1), .int (-1), .int 43]))] H130 := hP
  have hD : va_D A [(tr, .inr (5, [.ref tlk, .ref tth, .ref tpl, .ref tgm, .int 0, .int 0, .int 1, .int (-1), .int 1, .int 43, .int 18, .int 43])), (tgm, .inr (2, [.int 1, .int 43, .int 0, .int 0, .int 0, .int (-1), .long 0])), (tp0, .inr (4, [.int 1, .int (-1), .int (-1), .int 43]))] := hD
  refine lv_pop hx hb dX6_endsAt_54 rfl ?_
  refine lv_iinc (v := 43) (lv' := [(1, .int 43), (0, .ref x)]) hx hb dX6_endsAt_55 hl (k := 0) rfl (by decide) (by decide) rfl (fun ls hl => ?_)
  refine lv_goto (tgt := 28) hx hb dX6_endsAt_58 (by decide) ?_
  refine lv_iload_n hx hb dX6_endsAt_28 rfl (lv_at hl 0 rfl) ?_
  refine lv_bipush (v := 60) hx hb dX6_endsAt_29 (by decide) ?_
  refine lv_icmp_ge (tgt := 61) hx hb dX6_endsAt_31 (by decide) (fun h => absurd h (by decide)) (fun _ => ?_)
  refine lv_aload_n hx hb dX6_endsAt_34 rfl (lv_at hl 1 rfl) ?_
  refine va_get (D := (dC, dI)) (ci := 8) (v := .ref tr) (C := RX6) (T := TX6) (N := 3) hx hb hts zi_X6_endsAt_X6 hown hK (zo_R hR0 hS hAr) 0 rfl rfl 1 (by decide) (hts (.fieldLink RX6 16 "LockRooms" "trial" "LLockRooms$Room;") (by decide +kernel)) (fun _ h9 => h9) rfl dX6_endsAt_35 ?_
  refine va_get (D := (dC, dI)) (ci := 5) (v := .ref tgm) (C := RX3) (T := TX3) (N := 12) hx hb hts zi_X6_endsAt_X3 hown hK hP 0 rfl rfl 3 (by decide) (hts (.fieldLink RX6 41 "LockRooms$Room" "games" "LLockRooms$Games;") (by decide +kernel)) (fun _ h9 => h9) rfl dX6_endsAt_38 ?_
  refine va_get (D := (dC, dI)) (ci := 2) (v := .int 1) (C := RX0) (T := TX0) (N := 7) hx hb hts zi_X6_endsAt_X0 hown hK hP 1 rfl rfl 0 (by decide) (hts (.fieldLink RX6 45 "LockRooms$Games" "isRunning" "Z") (by decide +kernel)) (fun _ h9 => h9) rfl dX6_endsAt_41 ?_
  refine lv_if_eq (tgt := 61) hx hb dX6_endsAt_44 (by decide) (fun h => absurd h (by decide)) (fun _ => ?_)
  refine lv_aload_n hx hb dX6_endsAt_47 rfl (lv_at hl 1 rfl) ?_
  refine va_get (D := (dC, dI)) (ci := 8) (v := .ref tr) (C := RX6) (T := TX6) (N := 3) hx hb hts zi_X6_endsAt_X6 hown hK (zo_R hR0 hS hAr) 0 rfl rfl 1 (by decide) (hts (.fieldLink RX6 16 "LockRooms" "trial" "LLockRooms$Room;") (by decide +kernel)) (fun _ h9 => h9) rfl dX6_endsAt_48 ?_
  have hPr := ((zo_R hR0 hS hAr)).sub (ws' := [(tpl, .inl (tcP, 6, .inr (.inr (.inr (.inr tfp)))))]) [5] rfl
  have hPc := hP.sub (ws' := [(tr, .inr (5, [.ref tlk, .ref tth, .ref tpl, .ref tgm, .int 0, .int 0, .int 1, .int (-1), .int 1, .int 43, .int 18, .int 43])), (tgm, .inr (2, [.int 1, .int 43, .int 0, .int 0, .int 0, .int (-1), .long 0])), (tp0, .inr (4, [.int 1, .int (-1), .int (-1), .int 43]))]) [0, 1, 2] rfl
  have hDc := hD.sub (ws' := [(tr, .inr (5, [.ref tlk, .ref tth, .ref tpl, .ref tgm, .int 0, .int 0, .int 1, .int (-1), .int 1, .int 43, .int 18, .int 43])), (tgm, .inr (2, [.int 1, .int 43, .int 0, .int 0, .int 0, .int (-1), .long 0])), (tp0, .inr (4, [.int 1, .int (-1), .int (-1), .int 43]))]) [0, 1, 2] (by decide) rfl
  have hKc := hK.sub (tys' := [(tcP, .object "LockRooms$Player")]) [1] rfl
  have hFc := va_free (wc := [(tr, .inr (5, [.ref tlk, .ref tth, .ref tpl, .ref tgm, .int 0, .int 0, .int 1, .int (-1), .int 1, .int 43, .int 18, .int 43])), (tgm, .inr (2, [.int 1, .int 43, .int 0, .int 0, .int 0, .int (-1), .long 0])), (tp0, .inr (4, [.int 1, .int (-1), .int (-1), .int 43]))]) hD hS hA [0, 1, 2] rfl
  refine va_calli (va_runV (As := []) (rest := []) ⟨hx, hb, hml, hown, hts⟩ (cz_RmidMinute l dC dI ed H130.size tr tlk tth tpl tgm tcP tfp tp0 43 hkt (by decide)) (cwV 0 hts gX6_endsAt_X3_letMinuteGoBy rfl rfl rfl (by decide +kernel) ⟨Nat.le_of_ble_eq_true rfl, Nat.le_of_ble_eq_true rfl⟩) ⟨zb_blind, va_recv hK hP (ci := 5) (q0 := 0) rfl rfl, fun U hU hW => ⟨rfl, zb_mk hU hW hPr hPc hKc hDc hN hH hS hFc (zx_cons (zx_r (hAr _ (List.mem_of_getElem? (i := 5) rfl)) hDc) zx_nil)⟩⟩ rfl rfl hl.1 rfl (lv_room (Nat.le_of_ble_eq_true rfl)) dX6_endsAt_51 ⟨Nat.le_of_ble_eq_true rfl, Nat.le_of_ble_eq_true rfl⟩) hS (fun q _ h => hFc q h) hFc (fun r134 u t H133 locs ht hvm hw hB hz1 hk1 hS => ?_)
  obtain rfl : r134 = 0 := hw
  obtain ⟨w1_135, hf135_0, hP1, hD1, hK1⟩ := hB
  obtain rfl : w1_135 = 44 := hf135_0.trans (by first | rfl | decide +kernel)
  rw [ht] at hP1
  obtain ⟨hP, hD⟩ := va_join (wr := []) (w1 := [(tr, .inr (5, [.ref tlk, .ref tth, .ref tpl, .ref tgm, .int 0, .int 0, .int 1, .int (-1), .int 1, .int 44, .int 18, .int 44])), (tgm, .inr (2, [.int 1, .int 44, .int 0, .int 0, .int 0, .int (-1), .long 0])), (tp0, .inr (4, [.int 1, .int (-1), .int (-1), .int 44]))]) hP hD [0, 1, 2] [] rfl rfl (by decide) (by decide) hk1 hFc hP1 hD1
  have hP : va_P (dC, dI) vwCl [(tr, .inr (5, [.ref tlk, .ref tth, .ref tpl, .ref tgm, .int 0, .int 0, .int 1, .int (-1), .int 1, .int 44, .int 18, .int 44])), (tgm, .inr (2, [.int 1, .int 44, .int 0, .int 0, .int 0, .int (-1), .long 0])), (tp0, .inr (4, [.int 1, .int (-1), .int (-1), .int 44]))] H133 := hP
  have hD : va_D A [(tr, .inr (5, [.ref tlk, .ref tth, .ref tpl, .ref tgm, .int 0, .int 0, .int 1, .int (-1), .int 1, .int 44, .int 18, .int 44])), (tgm, .inr (2, [.int 1, .int 44, .int 0, .int 0, .int 0, .int (-1), .long 0])), (tp0, .inr (4, [.int 1, .int (-1), .int (-1), .int 44]))] := hD
  refine lv_pop hx hb dX6_endsAt_54 rfl ?_
  refine lv_iinc (v := 44) (lv' := [(1, .int 44), (0, .ref x)]) hx hb dX6_endsAt_55 hl (k := 0) rfl (by decide) (by decide) rfl (fun ls hl => ?_)
  refine lv_goto (tgt := 28) hx hb dX6_endsAt_58 (by decide) ?_
  refine lv_iload_n hx hb dX6_endsAt_28 rfl (lv_at hl 0 rfl) ?_
  refine lv_bipush (v := 60) hx hb dX6_endsAt_29 (by decide) ?_
  refine lv_icmp_ge (tgt := 61) hx hb dX6_endsAt_31 (by decide) (fun h => absurd h (by decide)) (fun _ => ?_)
  refine lv_aload_n hx hb dX6_endsAt_34 rfl (lv_at hl 1 rfl) ?_
  refine va_get (D := (dC, dI)) (ci := 8) (v := .ref tr) (C := RX6) (T := TX6) (N := 3) hx hb hts zi_X6_endsAt_X6 hown hK (zo_R hR0 hS hAr) 0 rfl rfl 1 (by decide) (hts (.fieldLink RX6 16 "LockRooms" "trial" "LLockRooms$Room;") (by decide +kernel)) (fun _ h9 => h9) rfl dX6_endsAt_35 ?_
  refine va_get (D := (dC, dI)) (ci := 5) (v := .ref tgm) (C := RX3) (T := TX3) (N := 12) hx hb hts zi_X6_endsAt_X3 hown hK hP 0 rfl rfl 3 (by decide) (hts (.fieldLink RX6 41 "LockRooms$Room" "games" "LLockRooms$Games;") (by decide +kernel)) (fun _ h9 => h9) rfl dX6_endsAt_38 ?_
  refine va_get (D := (dC, dI)) (ci := 2) (v := .int 1) (C := RX0) (T := TX0) (N := 7) hx hb hts zi_X6_endsAt_X0 hown hK hP 1 rfl rfl 0 (by decide) (hts (.fieldLink RX6 45 "LockRooms$Games" "isRunning" "Z") (by decide +kernel)) (fun _ h9 => h9) rfl dX6_endsAt_41 ?_
  refine lv_if_eq (tgt := 61) hx hb dX6_endsAt_44 (by decide) (fun h => absurd h (by decide)) (fun _ => ?_)
  refine lv_aload_n hx hb dX6_endsAt_47 rfl (lv_at hl 1 rfl) ?_
  refine va_get (D := (dC, dI)) (ci := 8) (v := .ref tr) (C := RX6) (T := TX6) (N := 3) hx hb hts zi_X6_endsAt_X6 hown hK (zo_R hR0 hS hAr) 0 rfl rfl 1 (by decide) (hts (.fieldLink RX6 16 "LockRooms" "trial" "LLockRooms$Room;") (by decide +kernel)) (fun _ h9 => h9) rfl dX6_endsAt_48 ?_
  have hPr := ((zo_R hR0 hS hAr)).sub (ws' := [(tpl, .inl (tcP, 6, .inr (.inr (.inr (.inr tfp)))))]) [5] rfl
  have hPc := hP.sub (ws' := [(tr, .inr (5, [.ref tlk, .ref tth, .ref tpl, .ref tgm, .int 0, .int 0, .int 1, .int (-1), .int 1, .int 44, .int 18, .int 44])), (tgm, .inr (2, [.int 1, .int 44, .int 0, .int 0, .int 0, .int (-1), .long 0])), (tp0, .inr (4, [.int 1, .int (-1), .int (-1), .int 44]))]) [0, 1, 2] rfl
  have hDc := hD.sub (ws' := [(tr, .inr (5, [.ref tlk, .ref tth, .ref tpl, .ref tgm, .int 0, .int 0, .int 1, .int (-1), .int 1, .int 44, .int 18, .int 44])), (tgm, .inr (2, [.int 1, .int 44, .int 0, .int 0, .int 0, .int (-1), .long 0])), (tp0, .inr (4, [.int 1, .int (-1), .int (-1), .int 44]))]) [0, 1, 2] (by decide) rfl
  have hKc := hK.sub (tys' := [(tcP, .object "LockRooms$Player")]) [1] rfl
  have hFc := va_free (wc := [(tr, .inr (5, [.ref tlk, .ref tth, .ref tpl, .ref tgm, .int 0, .int 0, .int 1, .int (-1), .int 1, .int 44, .int 18, .int 44])), (tgm, .inr (2, [.int 1, .int 44, .int 0, .int 0, .int 0, .int (-1), .long 0])), (tp0, .inr (4, [.int 1, .int (-1), .int (-1), .int 44]))]) hD hS hA [0, 1, 2] rfl
  refine va_calli (va_runV (As := []) (rest := []) ⟨hx, hb, hml, hown, hts⟩ (cz_RmidMinute l dC dI ed H133.size tr tlk tth tpl tgm tcP tfp tp0 44 hkt (by decide)) (cwV 0 hts gX6_endsAt_X3_letMinuteGoBy rfl rfl rfl (by decide +kernel) ⟨Nat.le_of_ble_eq_true rfl, Nat.le_of_ble_eq_true rfl⟩) ⟨zb_blind, va_recv hK hP (ci := 5) (q0 := 0) rfl rfl, fun U hU hW => ⟨rfl, zb_mk hU hW hPr hPc hKc hDc hN hH hS hFc (zx_cons (zx_r (hAr _ (List.mem_of_getElem? (i := 5) rfl)) hDc) zx_nil)⟩⟩ rfl rfl hl.1 rfl (lv_room (Nat.le_of_ble_eq_true rfl)) dX6_endsAt_51 ⟨Nat.le_of_ble_eq_true rfl, Nat.le_of_ble_eq_true rfl⟩) hS (fun q _ h => hFc q h) hFc (fun r137 u t H136 locs ht hvm hw hB hz1 hk1 hS => ?_)
  obtain rfl : r137 = 0 := hw
  obtain ⟨w1_138, hf138_0, hP1, hD1, hK1⟩ := hB
  obtain rfl : w1_138 = 45 := hf138_0.trans (by first | rfl | decide +kernel)
  rw [ht] at hP1
  obtain ⟨hP, hD⟩ := va_join (wr := []) (w1 := [(tr, .inr (5, [.ref tlk, .ref tth, .ref tpl, .ref tgm, .int 0, .int 0, .int 1, .int (-1), .int 1, .int 45, .int 18, .int 45])), (tgm, .inr (2, [.int 1, .int 45, .int 0, .int 0, .int 0, .int (-1), .long 0])), (tp0, .inr (4, [.int 1, .int (-1), .int (-1), .int 45]))]) hP hD [0, 1, 2] [] rfl rfl (by decide) (by decide) hk1 hFc hP1 hD1
  have hP : va_P (dC, dI) vwCl [(tr, .inr (5, [.ref tlk, .ref tth, .ref tpl, .ref tgm, .int 0, .int 0, .int 1, .int (-1), .int 1, .int 45, .int 18, .int 45])), (tgm, .inr (2, [.int 1, .int 45, .int 0, .int 0, .int 0, .int (-1), .long 0])), (tp0, .inr (4, [.int 1, .int (-1), .int (-1), .int 45]))] H136 := hP
  have hD : va_D A [(tr, .inr (5, [.ref tlk, .ref tth, .ref tpl, .ref tgm, .int 0, .int 0, .int 1, .int (-1), .int 1, .int 45, .int 18, .int 45])), (tgm, .inr (2, [.int 1, .int 45, .int 0, .int 0, .int 0, .int (-1), .long 0])), (tp0, .inr (4, [.int 1, .int (-1), .int (-1), .int 45]))] := hD
  refine lv_pop hx hb dX6_endsAt_54 rfl ?_
  refine lv_iinc (v := 45) (lv' := [(1, .int 45), (0, .ref x)]) hx hb dX6_endsAt_55 hl (k := 0) rfl (by decide) (by decide) rfl (fun ls hl => ?_)
  refine lv_goto (tgt := 28) hx hb dX6_endsAt_58 (by decide) ?_
  refine lv_iload_n hx hb dX6_endsAt_28 rfl (lv_at hl 0 rfl) ?_
  refine lv_bipush (v := 60) hx hb dX6_endsAt_29 (by decide) ?_
  refine lv_icmp_ge (tgt := 61) hx hb dX6_endsAt_31 (by decide) (fun h => absurd h (by decide)) (fun _ => ?_)
  refine lv_aload_n hx hb dX6_endsAt_34 rfl (lv_at hl 1 rfl) ?_
  refine va_get (D := (dC, dI)) (ci := 8) (v := .ref tr) (C := RX6) (T := TX6) (N := 3) hx hb hts zi_X6_endsAt_X6 hown hK (zo_R hR0 hS hAr) 0 rfl rfl 1 (by decide) (hts (.fieldLink RX6 16 "LockRooms" "trial" "LLockRooms$Room;") (by decide +kernel)) (fun _ h9 => h9) rfl dX6_endsAt_35 ?_
  refine va_get (D := (dC, dI)) (ci := 5) (v := .ref tgm) (C := RX3) (T := TX3) (N := 12) hx hb hts zi_X6_endsAt_X3 hown hK hP 0 rfl rfl 3 (by decide) (hts (.fieldLink RX6 41 "LockRooms$Room" "games" "LLockRooms$Games;") (by decide +kernel)) (fun _ h9 => h9) rfl dX6_endsAt_38 ?_
  refine va_get (D := (dC, dI)) (ci := 2) (v := .int 1) (C := RX0) (T := TX0) (N := 7) hx hb hts zi_X6_endsAt_X0 hown hK hP 1 rfl rfl 0 (by decide) (hts (.fieldLink RX6 45 "LockRooms$Games" "isRunning" "Z") (by decide +kernel)) (fun _ h9 => h9) rfl dX6_endsAt_41 ?_
  refine lv_if_eq (tgt := 61) hx hb dX6_endsAt_44 (by decide) (fun h => absurd h (by decide)) (fun _ => ?_)
  refine lv_aload_n hx hb dX6_endsAt_47 rfl (lv_at hl 1 rfl) ?_
  refine va_get (D := (dC, dI)) (ci := 8) (v := .ref tr) (C := RX6) (T := TX6) (N := 3) hx hb hts zi_X6_endsAt_X6 hown hK (zo_R hR0 hS hAr) 0 rfl rfl 1 (by decide) (hts (.fieldLink RX6 16 "LockRooms" "trial" "LLockRooms$Room;") (by decide +kernel)) (fun _ h9 => h9) rfl dX6_endsAt_48 ?_
  have hPr := ((zo_R hR0 hS hAr)).sub (ws' := [(tpl, .inl (tcP, 6, .inr (.inr (.inr (.inr tfp)))))]) [5] rfl
  have hPc := hP.sub (ws' := [(tr, .inr (5, [.ref tlk, .ref tth, .ref tpl, .ref tgm, .int 0, .int 0, .int 1, .int (-1), .int 1, .int 45, .int 18, .int 45])), (tgm, .inr (2, [.int 1, .int 45, .int 0, .int 0, .int 0, .int (-1), .long 0])), (tp0, .inr (4, [.int 1, .int (-1), .int (-1), .int 45]))]) [0, 1, 2] rfl
  have hDc := hD.sub (ws' := [(tr, .inr (5, [.ref tlk, .ref tth, .ref tpl, .ref tgm, .int 0, .int 0, .int 1, .int (-1), .int 1, .int 45, .int 18, .int 45])), (tgm, .inr (2, [.int 1, .int 45, .int 0, .int 0, .int 0, .int (-1), .long 0])), (tp0, .inr (4, [.int 1, .int (-1), .int (-1), .int 45]))]) [0, 1, 2] (by decide) rfl
  have hKc := hK.sub (tys' := [(tcP, .object "LockRooms$Player")]) [1] rfl
  have hFc := va_free (wc := [(tr, .inr (5, [.ref tlk, .ref tth, .ref tpl, .ref tgm, .int 0, .int 0, .int 1, .int (-1), .int 1, .int 45, .int 18, .int 45])), (tgm, .inr (2, [.int 1, .int 45, .int 0, .int 0, .int 0, .int (-1), .long 0])), (tp0, .inr (4, [.int 1, .int (-1), .int (-1), .int 45]))]) hD hS hA [0, 1, 2] rfl
  refine va_calli (va_runV (As := []) (rest := []) ⟨hx, hb, hml, hown, hts⟩ (cz_RmidMinute l dC dI ed H136.size tr tlk tth tpl tgm tcP tfp tp0 45 hkt (by decide)) (cwV 0 hts gX6_endsAt_X3_letMinuteGoBy rfl rfl rfl (by decide +kernel) ⟨Nat.le_of_ble_eq_true rfl, Nat.le_of_ble_eq_true rfl⟩) ⟨zb_blind, va_recv hK hP (ci := 5) (q0 := 0) rfl rfl, fun U hU hW => ⟨rfl, zb_mk hU hW hPr hPc hKc hDc hN hH hS hFc (zx_cons (zx_r (hAr _ (List.mem_of_getElem? (i := 5) rfl)) hDc) zx_nil)⟩⟩ rfl rfl hl.1 rfl (lv_room (Nat.le_of_ble_eq_true rfl)) dX6_endsAt_51 ⟨Nat.le_of_ble_eq_true rfl, Nat.le_of_ble_eq_true rfl⟩) hS (fun q _ h => hFc q h) hFc (fun r140 u t H139 locs ht hvm hw hB hz1 hk1 hS => ?_)
  obtain rfl : r140 = 0 := hw
  obtain ⟨w1_141, hf141_0, hP1, hD1, hK1⟩ := hB
  obtain rfl : w1_141 = 46 := hf141_0.trans (by first | rfl | decide +kernel)
  rw [ht] at hP1
  obtain ⟨hP, hD⟩ := va_join (wr := []) (w1 := [(tr, .inr (5, [.ref tlk, .ref tth, .ref tpl, .ref tgm, .int 0, .int 0, .int 1, .int (-1), .int 1, .int 46, .int 18, .int 46])), (tgm, .inr (2, [.int 1, .int 46, .int 0, .int 0, .int 0, .int (-1), .long 0])), (tp0, .inr (4, [.int 1, .int (-1), .int (-1), .int 46]))]) hP hD [0, 1, 2] [] rfl rfl (by decide) (by decide) hk1 hFc hP1 hD1
  have hP : va_P (dC, dI) vwCl [(tr, .inr (5, [.ref tlk, .ref tth, .ref tpl, .ref tgm, .int 0, .int 0, .int 1, .int (-1), .int 1, .int 46, .int 18, .int 46])), (tgm, .inr (2, [.int 1, .int 46, .int 0, .int 0, .int 0, .int (-1), .long 0])), (tp0, .inr (4, [.int 1, .int (-1), .int (-1), .int 46]))] H139 := hP
  have hD : va_D A [(tr, .inr (5, [.ref tlk, .ref tth, .ref tpl, .ref tgm, .int 0, .int 0, .int 1, .int (-1), .int 1, .int 46, .int 18, .int 46])), (tgm, .inr (2, [.int 1, .int 46, .int 0, .int 0, .int 0, .int (-1), .long 0])), (tp0, .inr (4, [.int 1, .int (-1), .int (-1), .int 46]))] := hD
  refine lv_pop hx hb dX6_endsAt_54 rfl ?_
  refine lv_iinc (v := 46) (lv' := [(1, .int 46), (0, .ref x)]) hx hb dX6_endsAt_55 hl (k := 0) rfl (by decide) (by decide) rfl (fun ls hl => ?_)
  refine lv_goto (tgt := 28) hx hb dX6_endsAt_58 (by decide) ?_
  refine lv_iload_n hx hb dX6_endsAt_28 rfl (lv_at hl 0 rfl) ?_
  refine lv_bipush (v := 60) hx hb dX6_endsAt_29 (by decide) ?_
  refine lv_icmp_ge (tgt := 61) hx hb dX6_endsAt_31 (by decide) (fun h => absurd h (by decide)) (fun _ => ?_)
  refine lv_aload_n hx hb dX6_endsAt_34 rfl (lv_at hl 1 rfl) ?_
  refine va_get (D := (dC, dI)) (ci := 8) (v := .ref tr) (C := RX6) (T := TX6) (N := 3) hx hb hts zi_X6_endsAt_X6 hown hK (zo_R hR0 hS hAr) 0 rfl rfl 1 (by decide) (hts (.fieldLink RX6 16 "LockRooms" "trial" "LLockRooms$Room;") (by decide +kernel)) (fun _ h9 => h9) rfl dX6_endsAt_35 ?_
  refine va_get (D := (dC, dI)) (ci := 5) (v := .ref tgm) (C := RX3) (T := TX3) (N := 12) hx hb hts zi_X6_endsAt_X3 hown hK hP 0 rfl rfl 3 (by decide) (hts (.fieldLink RX6 41 "LockRooms$Room" "games" "LLockRooms$Games;") (by decide +kernel)) (fun _ h9 => h9) rfl dX6_endsAt_38 ?_
  refine va_get (D := (dC, dI)) (ci := 2) (v := .int 1) (C := RX0) (T := TX0) (N := 7) hx hb hts zi_X6_endsAt_X0 hown hK hP 1 rfl rfl 0 (by decide) (hts (.fieldLink RX6 45 "LockRooms$Games" "isRunning" "Z") (by decide +kernel)) (fun _ h9 => h9) rfl dX6_endsAt_41 ?_
  refine lv_if_eq (tgt := 61) hx hb dX6_endsAt_44 (by decide) (fun h => absurd h (by decide)) (fun _ => ?_)
  refine lv_aload_n hx hb dX6_endsAt_47 rfl (lv_at hl 1 rfl) ?_
  refine va_get (D := (dC, dI)) (ci := 8) (v := .ref tr) (C := RX6) (T := TX6) (N := 3) hx hb hts zi_X6_endsAt_X6 hown hK (zo_R hR0 hS hAr) 0 rfl rfl 1 (by decide) (hts (.fieldLink RX6 16 "LockRooms" "trial" "LLockRooms$Room;") (by decide +kernel)) (fun _ h9 => h9) rfl dX6_endsAt_48 ?_
  have hPr := ((zo_R hR0 hS hAr)).sub (ws' := [(tpl, .inl (tcP, 6, .inr (.inr (.inr (.inr tfp)))))]) [5] rfl
  have hPc := hP.sub (ws' := [(tr, .inr (5, [.ref tlk, .ref tth, .ref tpl, .ref tgm, .int 0, .int 0, .int 1, .int (-1), .int 1, .int 46, .int 18, .int 46])), (tgm, .inr (2, [.int 1, .int 46, .int 0, .int 0, .int 0, .int (-1), .long 0])), (tp0, .inr (4, [.int 1, .int (-1), .int (-1), .int 46]))]) [0, 1, 2] rfl
  have hDc := hD.sub (ws' := [(tr, .inr (5, [.ref tlk, .ref tth, .ref tpl, .ref tgm, .int 0, .int 0, .int 1, .int (-1), .int 1, .int 46, .int 18, .int 46])), (tgm, .inr (2, [.int 1, .int 46, .int 0, .int 0, .int 0, .int (-1), .long 0])), (tp0, .inr (4, [.int 1, .int (-1), .int (-1), .int 46]))]) [0, 1, 2] (by decide) rfl
  have hKc := hK.sub (tys' := [(tcP, .object "LockRooms$Player")]) [1] rfl
  have hFc := va_free (wc := [(tr, .inr (5, [.ref tlk, .ref tth, .ref tpl, .ref tgm, .int 0, .int 0, .int 1, .int (-1), .int 1, .int 46, .int 18, .int 46])), (tgm, .inr (2, [.int 1, .int 46, .int 0, .int 0, .int 0, .int (-1), .long 0])), (tp0, .inr (4, [.int 1, .int (-1), .int (-1), .int 46]))]) hD hS hA [0, 1, 2] rfl
  refine va_calli (va_runV (As := []) (rest := []) ⟨hx, hb, hml, hown, hts⟩ (cz_RmidMinute l dC dI ed H139.size tr tlk tth tpl tgm tcP tfp tp0 46 hkt (by decide)) (cwV 0 hts gX6_endsAt_X3_letMinuteGoBy rfl rfl rfl (by decide +kernel) ⟨Nat.le_of_ble_eq_true rfl, Nat.le_of_ble_eq_true rfl⟩) ⟨zb_blind, va_recv hK hP (ci := 5) (q0 := 0) rfl rfl, fun U hU hW => ⟨rfl, zb_mk hU hW hPr hPc hKc hDc hN hH hS hFc (zx_cons (zx_r (hAr _ (List.mem_of_getElem? (i := 5) rfl)) hDc) zx_nil)⟩⟩ rfl rfl hl.1 rfl (lv_room (Nat.le_of_ble_eq_true rfl)) dX6_endsAt_51 ⟨Nat.le_of_ble_eq_true rfl, Nat.le_of_ble_eq_true rfl⟩) hS (fun q _ h => hFc q h) hFc (fun r143 u t H142 locs ht hvm hw hB hz1 hk1 hS => ?_)
  obtain rfl : r143 = 0 := hw
  obtain ⟨w1_144, hf144_0, hP1, hD1, hK1⟩ := hB
  obtain rfl : w1_144 = 47 := hf144_0.trans (by first | rfl | decide +kernel)
  rw [ht] at hP1
  obtain ⟨hP, hD⟩ := va_join (wr := []) (w1 := [(tr, .inr (5, [.ref tlk, .ref tth, .ref tpl, .ref tgm, .int 0, .int 0, .int 1, .int (-1), .int 1, .int 47, .int 18, .int 47])), (tgm, .inr (2, [.int 1, .int 47, .int 0, .int 0, .int 0, .int (-1), .long 0])), (tp0, .inr (4, [.int 1, .int (-1), .int (-1), .int 47]))]) hP hD [0, 1, 2] [] rfl rfl (by decide) (by decide) hk1 hFc hP1 hD1
  have hP : va_P (dC, dI) vwCl [(tr, .inr (5, [.ref tlk, .ref tth, .ref tpl, .ref tgm, .int 0, .int 0, .int 1, .int (-1), .int 1, .int 47, .int 18, .int 47])), (tgm, .inr (2, [.int 1, .int 47, .int 0, .int 0, .int 0, .int (-1), .long 0])), (tp0, .inr (4, [.int 1, .int (-1), .int (-1), .int 47]))] H142 := hP
  have hD : va_D A [(tr, .inr (5, [.ref tlk, .ref tth, .ref tpl, .ref tgm, .int 0, .int 0, .int 1, .int (-1), .int 1, .int 47, .int 18, .int 47])), (tgm, .inr (2, [.int 1, .int 47, .int 0, .int 0, .int 0, .int (-1), .long 0])), (tp0, .inr (4, [.int 1, .int (-1), .int (-1), .int 47]))] := hD
  refine lv_pop hx hb dX6_endsAt_54 rfl ?_
  refine lv_iinc (v := 47) (lv' := [(1, .int 47), (0, .ref x)]) hx hb dX6_endsAt_55 hl (k := 0) rfl (by decide) (by decide) rfl (fun ls hl => ?_)
  refine lv_goto (tgt := 28) hx hb dX6_endsAt_58 (by decide) ?_
  refine lv_iload_n hx hb dX6_endsAt_28 rfl (lv_at hl 0 rfl) ?_
  refine lv_bipush (v := 60) hx hb dX6_endsAt_29 (by decide) ?_
  refine lv_icmp_ge (tgt := 61) hx hb dX6_endsAt_31 (by decide) (fun h => absurd h (by decide)) (fun _ => ?_)
  refine lv_aload_n hx hb dX6_endsAt_34 rfl (lv_at hl 1 rfl) ?_
  refine va_get (D := (dC, dI)) (ci := 8) (v := .ref tr) (C := RX6) (T := TX6) (N := 3) hx hb hts zi_X6_endsAt_X6 hown hK (zo_R hR0 hS hAr) 0 rfl rfl 1 (by decide) (hts (.fieldLink RX6 16 "LockRooms" "trial" "LLockRooms$Room;") (by decide +kernel)) (fun _ h9 => h9) rfl dX6_endsAt_35 ?_
  refine va_get (D := (dC, dI)) (ci := 5) (v := .ref tgm) (C := RX3) (T := TX3) (N := 12) hx hb hts zi_X6_endsAt_X3 hown hK hP 0 rfl rfl 3 (by decide) (hts (.fieldLink RX6 41 "LockRooms$Room" "games" "LLockRooms$Games;") (by decide +kernel)) (fun _ h9 => h9) rfl dX6_endsAt_38 ?_
  refine va_get (D := (dC, dI)) (ci := 2) (v := .int 1) (C := RX0) (T := TX0) (N := 7) hx hb hts zi_X6_endsAt_X0 hown hK hP 1 rfl rfl 0 (by decide) (hts (.fieldLink RX6 45 "LockRooms$Games" "isRunning" "Z") (by decide +kernel)) (fun _ h9 => h9) rfl dX6_endsAt_41 ?_
  refine lv_if_eq (tgt := 61) hx hb dX6_endsAt_44 (by decide) (fun h => absurd h (by decide)) (fun _ => ?_)
  refine lv_aload_n hx hb dX6_endsAt_47 rfl (lv_at hl 1 rfl) ?_
  refine va_get (D := (dC, dI)) (ci := 8) (v := .ref tr) (C := RX6) (T := TX6) (N := 3) hx hb hts zi_X6_endsAt_X6 hown hK (zo_R hR0 hS hAr) 0 rfl rfl 1 (by decide) (hts (.fieldLink RX6 16 "LockRooms" "trial" "LLockRooms$Room;") (by decide +kernel)) (fun _ h9 => h9) rfl dX6_endsAt_48 ?_
  have hPr := ((zo_R hR0 hS hAr)).sub (ws' := [(tpl, .inl (tcP, 6, .inr (.inr (.inr (.inr tfp)))))]) [5] rfl
  have hPc := hP.sub (ws' := [(tr, .inr (5, [.ref tlk, .ref tth, .ref tpl, .ref tgm, .int 0, .int 0, .int 1, .int (-1), .int 1, .int 47, .int 18, .int 47])), (tgm, .inr (2, [.int 1, .int 47, .int 0, .int 0, .int 0, .int (-1), .long 0])), (tp0, .inr (4, [.int 1, .int (-1), .int (-1), .int 47]))]) [0, 1, 2] rfl
  have hDc := hD.sub (ws' := [(tr, .inr (5, [.ref tlk, .ref tth, .ref tpl, .ref tgm, .int 0, .int 0, .int 1, .int (-1), .int 1, .int 47, .int 18, .int 47])), (tgm, .inr (2, [.int 1, .int 47, .int 0, .int 0, .int 0, .int (-1), .long 0])), (tp0, .inr (4, [.int 1, .int (-1), .int (-1), .int 47]))]) [0, 1, 2] (by decide) rfl
  have hKc := hK.sub (tys' := [(tcP, .object "LockRooms$Player")]) [1] rfl
  have hFc := va_free (wc := [(tr, .inr (5, [.ref tlk, .ref tth, .ref tpl, .ref tgm, .int 0, .int 0, .int 1, .int (-1), .int 1, .int 47, .int 18, .int 47])), (tgm, .inr (2, [.int 1, .int 47, .int 0, .int 0, .int 0, .int (-1), .long 0])), (tp0, .inr (4, [.int 1, .int (-1), .int (-1), .int 47]))]) hD hS hA [0, 1, 2] rfl
  refine va_calli (va_runV (As := []) (rest := []) ⟨hx, hb, hml, hown, hts⟩ (cz_RmidMinute l dC dI ed H142.size tr tlk tth tpl tgm tcP tfp tp0 47 hkt (by decide)) (cwV 0 hts gX6_endsAt_X3_letMinuteGoBy rfl rfl rfl (by decide +kernel) ⟨Nat.le_of_ble_eq_true rfl, Nat.le_of_ble_eq_true rfl⟩) ⟨zb_blind, va_recv hK hP (ci := 5) (q0 := 0) rfl rfl, fun U hU hW => ⟨rfl, zb_mk hU hW hPr hPc hKc hDc hN hH hS hFc (zx_cons (zx_r (hAr _ (List.mem_of_getElem? (i := 5) rfl)) hDc) zx_nil)⟩⟩ rfl rfl hl.1 rfl (lv_room (Nat.le_of_ble_eq_true rfl)) dX6_endsAt_51 ⟨Nat.le_of_ble_eq_true rfl, Nat.le_of_ble_eq_true rfl⟩) hS (fun q _ h => hFc q h) hFc (fun r146 u t H145 locs ht hvm hw hB hz1 hk1 hS => ?_)
  obtain rfl : r146 = 0 := hw
  obtain ⟨w1_147, hf147_0, hP1, hD1, hK1⟩ := hB
  obtain rfl : w1_147 = 48 := hf147_0.trans (by first | rfl | decide +kernel)
  rw [ht] at hP1
  obtain ⟨hP, hD⟩ := va_join (wr := []) (w1 := [(tr, .inr (5, [.ref tlk, .ref tth, .ref tpl, .ref tgm, .int 0, .int 0, .int 1, .int (-1), .int 1, .int 48, .int 18, .int 48])), (tgm, .inr (2, [.int 1, .int 48, .int 0, .int 0, .int 0, .int (-1), .long 0])), (tp0, .inr (4, [.int 1, .int (-1), .int (-1), .int 48]))]) hP hD [0, 1, 2] [] rfl rfl (by decide) (by decide) hk1 hFc hP1 hD1
  have hP : va_P (dC, dI) vwCl [(tr, .inr (5, [.ref tlk, .ref tth, .ref tpl, .ref tgm, .int 0, .int 0, .int 1, .int (-1), .int 1, .int 48, .int 18, .int 48])), (tgm, .inr (2, [.int 1, .int 48, .int 0, .int 0, .int 0, .int (-1), .long 0])), (tp0, .inr (4, [.int 1, .int (-1), .int (-1), .int 48]))] H145 := hP
  have hD : va_D A [(tr, .inr (5, [.ref tlk, .ref tth, .ref tpl, .ref tgm, .int 0, .int 0, .int 1, .int (-1), .int 1, .int 48, .int 18, .int 48])), (tgm, .inr (2, [.int 1, .int 48, .int 0, .int 0, .int 0, .int (-1), .long 0])), (tp0, .inr (4, [.int 1, .int (-1), .int (-1), .int 48]))] := hD
  refine lv_pop hx hb dX6_endsAt_54 rfl ?_
  refine lv_iinc (v := 48) (lv' := [(1, .int 48), (0, .ref x)]) hx hb dX6_endsAt_55 hl (k := 0) rfl (by decide) (by decide) rfl (fun ls hl => ?_)
  refine lv_goto (tgt := 28) hx hb dX6_endsAt_58 (by decide) ?_
  refine lv_iload_n hx hb dX6_endsAt_28 rfl (lv_at hl 0 rfl) ?_
  refine lv_bipush (v := 60) hx hb dX6_endsAt_29 (by decide) ?_
  refine lv_icmp_ge (tgt := 61) hx hb dX6_endsAt_31 (by decide) (fun h => absurd h (by decide)) (fun _ => ?_)
  refine lv_aload_n hx hb dX6_endsAt_34 rfl (lv_at hl 1 rfl) ?_
  refine va_get (D := (dC, dI)) (ci := 8) (v := .ref tr) (C := RX6) (T := TX6) (N := 3) hx hb hts zi_X6_endsAt_X6 hown hK (zo_R hR0 hS hAr) 0 rfl rfl 1 (by decide) (hts (.fieldLink RX6 16 "LockRooms" "trial" "LLockRooms$Room;") (by decide +kernel)) (fun _ h9 => h9) rfl dX6_endsAt_35 ?_
  refine va_get (D := (dC, dI)) (ci := 5) (v := .ref tgm) (C := RX3) (T := TX3) (N := 12) hx hb hts zi_X6_endsAt_X3 hown hK hP 0 rfl rfl 3 (by decide) (hts (.fieldLink RX6 41 "LockRooms$Room" "games" "LLockRooms$Games;") (by decide +kernel)) (fun _ h9 => h9) rfl dX6_endsAt_38 ?_
  refine va_get (D := (dC, dI)) (ci := 2) (v := .int 1) (C := RX0) (T := TX0) (N := 7) hx hb hts zi_X6_endsAt_X0 hown hK hP 1 rfl rfl 0 (by decide) (hts (.fieldLink RX6 45 "LockRooms$Games" "isRunning" "Z") (by decide +kernel)) (fun _ h9 => h9) rfl dX6_endsAt_41 ?_
  refine lv_if_eq (tgt := 61) hx hb dX6_endsAt_44 (by decide) (fun h => absurd h (by decide)) (fun _ => ?_)
  refine lv_aload_n hx hb dX6_endsAt_47 rfl (lv_at hl 1 rfl) ?_
  refine va_get (D := (dC, dI)) (ci := 8) (v := .ref tr) (C := RX6) (T := TX6) (N := 3) hx hb hts zi_X6_endsAt_X6 hown hK (zo_R hR0 hS hAr) 0 rfl rfl 1 (by decide) (hts (.fieldLink RX6 16 "LockRooms" "trial" "LLockRooms$Room;") (by decide +kernel)) (fun _ h9 => h9) rfl dX6_endsAt_48 ?_
  have hPr := ((zo_R hR0 hS hAr)).sub (ws' := [(tpl, .inl (tcP, 6, .inr (.inr (.inr (.inr tfp)))))]) [5] rfl
  have hPc := hP.sub (ws' := [(tr, .inr (5, [.ref tlk, .ref tth, .ref tpl, .ref tgm, .int 0, .int 0, .int 1, .int (-1), .int 1, .int 48, .int 18, .int 48])), (tgm, .inr (2, [.int 1, .int 48, .int 0, .int 0, .int 0, .int (-1), .long 0])), (tp0, .inr (4, [.int 1, .int (-1), .int (-1), .int 48]))]) [0, 1, 2] rfl
  have hDc := hD.sub (ws' := [(tr, .inr (5, [.ref tlk, .ref tth, .ref tpl, .ref tgm, .int 0, .int 0, .int 1, .int (-1), .int 1, .int 48, .int 18, .int 48])), (tgm, .inr (2, [.int 1, .int 48, .int 0, .int 0, .int 0, .int (-1), .long 0])), (tp0, .inr (4, [.int 1, .int (-1), .int (-1), .int 48]))]) [0, 1, 2] (by decide) rfl
  have hKc := hK.sub (tys' := [(tcP, .object "LockRooms$Player")]) [1] rfl
  have hFc := va_free (wc := [(tr, .inr (5, [.ref tlk, .ref tth, .ref tpl, .ref tgm, .int 0, .int 0, .int 1, .int (-1), .int 1, .int 48, .int 18, .int 48])), (tgm, .inr (2, [.int 1, .int 48, .int 0, .int 0, .int 0, .int (-1), .long 0])), (tp0, .inr (4, [.int 1, .int (-1), .int (-1), .int 48]))]) hD hS hA [0, 1, 2] rfl
  refine va_calli (va_runV (As := []) (rest := []) ⟨hx, hb, hml, hown, hts⟩ (cz_RmidMinute l dC dI ed H145.size tr tlk tth tpl tgm tcP tfp tp0 48 hkt (by decide)) (cwV 0 hts gX6_endsAt_X3_letMinuteGoBy rfl rfl rfl (by decide +kernel) ⟨Nat.le_of_ble_eq_true rfl, Nat.le_of_ble_eq_true rfl⟩) ⟨zb_blind, va_recv hK hP (ci := 5) (q0 := 0) rfl rfl, fun U hU hW => ⟨rfl, zb_mk hU hW hPr hPc hKc hDc hN hH hS hFc (zx_cons (zx_r (hAr _ (List.mem_of_getElem? (i := 5) rfl)) hDc) zx_nil)⟩⟩ rfl rfl hl.1 rfl (lv_room (Nat.le_of_ble_eq_true rfl)) dX6_endsAt_51 ⟨Nat.le_of_ble_eq_true rfl, Nat.le_of_ble_eq_true rfl⟩) hS (fun q _ h => hFc q h) hFc (fun r149 u t H148 locs ht hvm hw hB hz1 hk1 hS => ?_)
  obtain rfl : r149 = 0 := hw
  obtain ⟨w1_150, hf150_0, hP1, hD1, hK1⟩ := hB
  obtain rfl : w1_150 = 49 := hf150_0.trans (by first | rfl | decide +kernel)
  rw [ht] at hP1
  obtain ⟨hP, hD⟩ := va_join (wr := []) (w1 := [(tr, .inr (5, [.ref tlk, .ref tth, .ref tpl, .ref tgm, .int 0, .int 0, .int 1, .int (-1), .int 1, .int 49, .int 18, .int 49])), (tgm, .inr (2, [.int 1, .int 49, .int 0, .int 0, .int 0, .int (-1), .long 0])), (tp0, .inr (4, [.int 1, .int (-1), .int (-1), .int 49]))]) hP hD [0, 1, 2] [] rfl rfl (by decide) (by decide) hk1 hFc hP1 hD1
  have hP : va_P (dC, dI) vwCl [(tr, .inr (5, [.ref tlk, .ref tth, .ref tpl, .ref tgm, .int 0, .int 0, .int 1, .int (-1), .int 1, .int 49, .int 18, .int 49])), (tgm, .inr (2, [.int 1, .int 49, .int 0, .int 0, .int 0, .int (-1), .long 0])), (tp0, .inr (4, [.int 1, .int (-1), .int (-1), .int 49]))] H148 := hP
  have hD : va_D A [(tr, .inr (5, [.ref tlk, .ref tth, .ref tpl, .ref tgm, .int 0, .int 0, .int 1, .int (-1), .int 1, .int 49, .int 18, .int 49])), (tgm, .inr (2, [.int 1, .int 49, .int 0, .int 0, .int 0, .int (-1), .long 0])), (tp0, .inr (4, [.int 1, .int (-1), .int (-1), .int 49]))] := hD
  refine lv_pop hx hb dX6_endsAt_54 rfl ?_
  refine lv_iinc (v := 49) (lv' := [(1, .int 49), (0, .ref x)]) hx hb dX6_endsAt_55 hl (k := 0) rfl (by decide) (by decide) rfl (fun ls hl => ?_)
  refine lv_goto (tgt := 28) hx hb dX6_endsAt_58 (by decide) ?_
  refine lv_iload_n hx hb dX6_endsAt_28 rfl (lv_at hl 0 rfl) ?_
  refine lv_bipush (v := 60) hx hb dX6_endsAt_29 (by decide) ?_
  refine lv_icmp_ge (tgt := 61) hx hb dX6_endsAt_31 (by decide) (fun h => absurd h (by decide)) (fun _ => ?_)
  refine lv_aload_n hx hb dX6_endsAt_34 rfl (lv_at hl 1 rfl) ?_
  refine va_get (D := (dC, dI)) (ci := 8) (v := .ref tr) (C := RX6) (T := TX6) (N := 3) hx hb hts zi_X6_endsAt_X6 hown hK (zo_R hR0 hS hAr) 0 rfl rfl 1 (by decide) (hts (.fieldLink RX6 16 "LockRooms" "trial" "LLockRooms$Room;") (by decide +kernel)) (fun _ h9 => h9) rfl dX6_endsAt_35 ?_
  refine va_get (D := (dC, dI)) (ci := 5) (v := .ref tgm) (C := RX3) (T := TX3) (N := 12) hx hb hts zi_X6_endsAt_X3 hown hK hP 0 rfl rfl 3 (by decide) (hts (.fieldLink RX6 41 "LockRooms$Room" "games" "LLockRooms$Games;") (by decide +kernel)) (fun _ h9 => h9) rfl dX6_endsAt_38 ?_
  refine va_get (D := (dC, dI)) (ci := 2) (v := .int 1) (C := RX0) (T := TX0) (N := 7) hx hb hts zi_X6_endsAt_X0 hown hK hP 1 rfl rfl 0 (by decide) (hts (.fieldLink RX6 45 "LockRooms$Games" "isRunning" "Z") (by decide +kernel)) (fun _ h9 => h9) rfl dX6_endsAt_41 ?_
  refine lv_if_eq (tgt := 61) hx hb dX6_endsAt_44 (by decide) (fun h => absurd h (by decide)) (fun _ => ?_)
  refine lv_aload_n hx hb dX6_endsAt_47 rfl (lv_at hl 1 rfl) ?_
  refine va_get (D := (dC, dI)) (ci := 8) (v := .ref tr) (C := RX6) (T := TX6) (N := 3) hx hb hts zi_X6_endsAt_X6 hown hK (zo_R hR0 hS hAr) 0 rfl rfl 1 (by decide) (hts (.fieldLink RX6 16 "LockRooms" "trial" "LLockRooms$Room;") (by decide +kernel)) (fun _ h9 => h9) rfl dX6_endsAt_48 ?_
  have hPr := ((zo_R hR0 hS hAr)).sub (ws' := [(tpl, .inl (tcP, 6, .inr (.inr (.inr (.inr tfp)))))]) [5] rfl
  have hPc := hP.sub (ws' := [(tr, .inr (5, [.ref tlk, .ref tth, .ref tpl, .ref tgm, .int 0, .int 0, .int 1, .int (-1), .int 1, .int 49, .int 18, .int 49])), (tgm, .inr (2, [.int 1, .int 49, .int 0, .int 0, .int 0, .int (-1), .long 0])), (tp0, .inr (4, [.int 1, .int (-1), .int (-1), .int 49]))]) [0, 1, 2] rfl
  have hDc := hD.sub (ws' := [(tr, .inr (5, [.ref tlk, .ref tth, .ref tpl, .ref tgm, .int 0, .int 0, .int 1, .int (-1), .int 1, .int 49, .int 18, .int 49])), (tgm, .inr (2, [.int 1, .int 49, .int 0, .int 0, .int 0, .int (-1), .long 0])), (tp0, .inr (4, [.int 1, .int (-1), .int (-1), .int 49]))]) [0, 1, 2] (by decide) rfl
  have hKc := hK.sub (tys' := [(tcP, .object "LockRooms$Player")]) [1] rfl
  have hFc := va_free (wc := [(tr, .inr (5, [.ref tlk, .ref tth, .ref tpl, .ref tgm, .int 0, .int 0, .int 1, .int (-1), .int 1, .int 49, .int 18, .int 49])), (tgm, .inr (2, [.int 1, .int 49, .int 0, .int 0, .int 0, .int (-1), .long 0])), (tp0, .inr (4, [.int 1, .int (-1), .int (-1), .int 49]))]) hD hS hA [0, 1, 2] rfl
  refine va_calli (va_runV (As := []) (rest := []) ⟨hx, hb, hml, hown, hts⟩ (cz_RmidMinute l dC dI ed H148.size tr tlk tth tpl tgm tcP tfp tp0 49 hkt (by decide)) (cwV 0 hts gX6_endsAt_X3_letMinuteGoBy rfl rfl rfl (by decide +kernel) ⟨Nat.le_of_ble_eq_true rfl, Nat.le_of_ble_eq_true rfl⟩) ⟨zb_blind, va_recv hK hP (ci := 5) (q0 := 0) rfl rfl, fun U hU hW => ⟨rfl, zb_mk hU hW hPr hPc hKc hDc hN hH hS hFc (zx_cons (zx_r (hAr _ (List.mem_of_getElem? (i := 5) rfl)) hDc) zx_nil)⟩⟩ rfl rfl hl.1 rfl (lv_room (Nat.le_of_ble_eq_true rfl)) dX6_endsAt_51 ⟨Nat.le_of_ble_eq_true rfl, Nat.le_of_ble_eq_true rfl⟩) hS (fun q _ h => hFc q h) hFc (fun r152 u t H151 locs ht hvm hw hB hz1 hk1 hS => ?_)
  obtain rfl : r152 = 0 := hw
  obtain ⟨w1_153, hf153_0, hP1, hD1, hK1⟩ := hB
  obtain rfl : w1_153 = 50 := hf153_0.trans (by first | rfl | decide +kernel)
  rw [ht] at hP1
  obtain ⟨hP, hD⟩ := va_join (wr := []) (w1 := [(tr, .inr (5, [.ref tlk, .ref tth, .ref tpl, .ref tgm, .int 0, .int 0, .int 1, .int (-1), .int 1, .int 50, .int 18, .int 50])), (tgm, .inr (2, [.int 1, .int 50, .int 0, .int 0, .int 0, .int (-1), .long 0])), (tp0, .inr (4, [.int 1, .int (-1), .int (-1), .int 50]))]) hP hD [0, 1, 2] [] rfl rfl (by decide) (by decide) hk1 hFc hP1 hD1
  have hP : va_P (dC, dI) vwCl [(tr, .inr (5, [.ref tlk, .ref tth, .ref tpl, .ref tgm, .int 0, .int 0, .int 1, .int (-1), .int 1, .int 50, .int 18, .int 50])), (tgm, .inr (2, [.int 1, .int 50, .int 0, .int 0, .int 0, .int (-1), .long 0])), (tp0, .inr (4, [.int 1, .int (-1), .int (-1), .int 50]))] H151 := hP
  have hD : va_D A [(tr, .inr (5, [.ref tlk, .ref tth, .ref tpl, .ref tgm, .int 0, .int 0, .int 1, .int (-1), .int 1, .int 50, .int 18, .int 50])), (tgm, .inr (2, [.int 1, .int 50, .int 0, .int 0, .int 0, .int (-1), .long 0])), (tp0, .inr (4, [.int 1, .int (-1), .int (-1), .int 50]))] := hD
  refine lv_pop hx hb dX6_endsAt_54 rfl ?_
  refine lv_iinc (v := 50) (lv' := [(1, .int 50), (0, .ref x)]) hx hb dX6_endsAt_55 hl (k := 0) rfl (by decide) (by decide) rfl (fun ls hl => ?_)
  refine lv_goto (tgt := 28) hx hb dX6_endsAt_58 (by decide) ?_
  refine lv_iload_n hx hb dX6_endsAt_28 rfl (lv_at hl 0 rfl) ?_
  refine lv_bipush (v := 60) hx hb dX6_endsAt_29 (by decide) ?_
  refine lv_icmp_ge (tgt := 61) hx hb dX6_endsAt_31 (by decide) (fun h => absurd h (by decide)) (fun _ => ?_)
  refine lv_aload_n hx hb dX6_endsAt_34 rfl (lv_at hl 1 rfl) ?_
  refine va_get (D := (dC, dI)) (ci := 8) (v := .ref tr) (C := RX6) (T := TX6) (N := 3) hx hb hts zi_X6_endsAt_X6 hown hK (zo_R hR0 hS hAr) 0 rfl rfl 1 (by decide) (hts (.fieldLink RX6 16 "LockRooms" "trial" "LLockRooms$Room;") (by decide +kernel)) (fun _ h9 => h9) rfl dX6_endsAt_35 ?_
  refine va_get (D := (dC, dI)) (ci := 5) (v := .ref tgm) (C := RX3) (T := TX3) (N := 12) hx hb hts zi_X6_endsAt_X3 hown hK hP 0 rfl rfl 3 (by decide) (hts (.fieldLink RX6 41 "LockRooms$Room" "games" "LLockRooms$Games;") (by decide +kernel)) (fun _ h9 => h9) rfl dX6_endsAt_38 ?_
  refine va_get (D := (dC, dI)) (ci := 2) (v := .int 1) (C := RX0) (T := TX0) (N := 7) hx hb hts zi_X6_endsAt_X0 hown hK hP 1 rfl rfl 0 (by decide) (hts (.fieldLink RX6 45 "LockRooms$Games" "isRunning" "Z") (by decide +kernel)) (fun _ h9 => h9) rfl dX6_endsAt_41 ?_
  refine lv_if_eq (tgt := 61) hx hb dX6_endsAt_44 (by decide) (fun h => absurd h (by decide)) (fun _ => ?_)
  refine lv_aload_n hx hb dX6_endsAt_47 rfl (lv_at hl 1 rfl) ?_
  refine va_get (D := (dC, dI)) (ci := 8) (v := .ref tr) (C := RX6) (T := TX6) (N := 3) hx hb hts zi_X6_endsAt_X6 hown hK (zo_R hR0 hS hAr) 0 rfl rfl 1 (by decide) (hts (.fieldLink RX6 16 "LockRooms" "trial" "LLockRooms$Room;") (by decide +kernel)) (fun _ h9 => h9) rfl dX6_endsAt_48 ?_
  have hPr := ((zo_R hR0 hS hAr)).sub (ws' := [(tpl, .inl (tcP, 6, .inr (.inr (.inr (.inr tfp)))))]) [5] rfl
  have hPc := hP.sub (ws' := [(tr, .inr (5, [.ref tlk, .ref tth, .ref tpl, .ref tgm, .int 0, .int 0, .int 1, .int (-1), .int 1, .int 50, .int 18, .int 50])), (tgm, .inr (2, [.int 1, .int 50, .int 0, .int 0, .int 0, .int (-1), .long 0])), (tp0, .inr (4, [.int 1, .int (-1), .int (-1), .int 50]))]) [0, 1, 2] rfl
  have hDc := hD.sub (ws' := [(tr, .inr (5, [.ref tlk, .ref tth, .ref tpl, .ref tgm, .int 0, .int 0, .int 1, .int (-1), .int 1, .int 50, .int 18, .int 50])), (tgm, .inr (2, [.int 1, .int 50, .int 0, .int 0, .int 0, .int (-1), .long 0])), (tp0, .inr (4, [.int 1, .int (-1), .int (-1), .int 50]))]) [0, 1, 2] (by decide) rfl
  have hKc := hK.sub (tys' := [(tcP, .object "LockRooms$Player")]) [1] rfl
  have hFc := va_free (wc := [(tr, .inr (5, [.ref tlk, .ref tth, .ref tpl, .ref tgm, .int 0, .int 0, .int 1, .int (-1), .int 1, .int 50, .int 18, .int 50])), (tgm, .inr (2, [.int 1, .int 50, .int 0, .int 0, .int 0, .int (-1), .long 0])), (tp0, .inr (4, [.int 1, .int (-1), .int (-1), .int 50]))]) hD hS hA [0, 1, 2] rfl
  refine va_calli (va_runV (As := []) (rest := []) ⟨hx, hb, hml, hown, hts⟩ (cz_RmidMinute l dC dI ed H151.size tr tlk tth tpl tgm tcP tfp tp0 50 hkt (by decide)) (cwV 0 hts gX6_endsAt_X3_letMinuteGoBy rfl rfl rfl (by decide +kernel) ⟨Nat.le_of_ble_eq_true rfl, Nat.le_of_ble_eq_true rfl⟩) ⟨zb_blind, va_recv hK hP (ci := 5) (q0 := 0) rfl rfl, fun U hU hW => ⟨rfl, zb_mk hU hW hPr hPc hKc hDc hN hH hS hFc (zx_cons (zx_r (hAr _ (List.mem_of_getElem? (i := 5) rfl)) hDc) zx_nil)⟩⟩ rfl rfl hl.1 rfl (lv_room (Nat.le_of_ble_eq_true rfl)) dX6_endsAt_51 ⟨Nat.le_of_ble_eq_true rfl, Nat.le_of_ble_eq_true rfl⟩) hS (fun q _ h => hFc q h) hFc (fun r155 u t H154 locs ht hvm hw hB hz1 hk1 hS => ?_)
  obtain rfl : r155 = 0 := hw
  obtain ⟨w1_156, hf156_0, hP1, hD1, hK1⟩ := hB
  obtain rfl : w1_156 = 51 := hf156_0.trans (by first | rfl | decide +kernel)
  rw [ht] at hP1
  obtain ⟨hP, hD⟩ := va_join (wr := []) (w1 := [(tr, .inr (5, [.ref tlk, .ref tth, .ref tpl, .ref tgm, .int 0, .int 0, .int 1, .int (-1), .int 1, .int 51, .int 18, .int 51])), (tgm, .inr (2, [.int 1, .int 51, .int 0, .int 0, .int 0, .int (-1), .long 0])), (tp0, .inr (4, [.int 1, .int (-1), .int (-1), .int 51]))]) hP hD [0, 1, 2] [] rfl rfl (by decide) (by decide) hk1 hFc hP1 hD1
  have hP : va_P (dC, dI) vwCl [(tr, .inr (5, [.ref tlk, .ref tth, .ref tpl, .ref tgm, .int 0, .int 0, .int 1, .int (-1), .int 1, .int 51, .int 18, .int 51])), (tgm, .inr (2, [.int 1, .int 51, .int 0, .int 0, .int 0, .int (-1), .long 0])), (tp0, .inr (4, [.int 1, .int (-1), .int (-1), .int 51]))] H154 := hP
  have hD : va_D A [(tr, .inr (5, [.ref tlk, .ref tth, .ref tpl, .ref tgm, .int 0, .int 0, .int 1, .int (-1), .int 1, .int 51, .int 18, .int 51])), (tgm, .inr (2, [.int 1, .int 51, .int 0, .int 0, .int 0, .int (-1), .long 0])), (tp0, .inr (4, [.int 1, .int (-1), .int (-1), .int 51]))] := hD
  refine lv_pop hx hb dX6_endsAt_54 rfl ?_
  refine lv_iinc (v := 51) (lv' := [(1, .int 51), (0, .ref x)]) hx hb dX6_endsAt_55 hl (k := 0) rfl (by decide) (by decide) rfl (fun ls hl => ?_)
  refine lv_goto (tgt := 28) hx hb dX6_endsAt_58 (by decide) ?_
  refine lv_iload_n hx hb dX6_endsAt_28 rfl (lv_at hl 0 rfl) ?_
  refine lv_bipush (v := 60) hx hb dX6_endsAt_29 (by decide) ?_
  refine lv_icmp_ge (tgt := 61) hx hb dX6_endsAt_31 (by decide) (fun h => absurd h (by decide)) (fun _ => ?_)
  refine lv_aload_n hx hb dX6_endsAt_34 rfl (lv_at hl 1 rfl) ?_
  refine va_get (D := (dC, dI)) (ci := 8) (v := .ref tr) (C := RX6) (T := TX6) (N := 3) hx hb hts zi_X6_endsAt_X6 hown hK (zo_R hR0 hS hAr) 0 rfl rfl 1 (by decide) (hts (.fieldLink RX6 16 "LockRooms" "trial" "LLockRooms$Room;") (by decide +kernel)) (fun _ h9 => h9) rfl dX6_endsAt_35 ?_
  refine va_get (D := (dC, dI)) (ci := 5) (v := .ref tgm) (C := RX3) (T := TX3) (N := 12) hx hb hts zi_X6_endsAt_X3 hown hK hP 0 rfl rfl 3 (by decide) (hts (.fieldLink RX6 41 "LockRooms$Room" "games" "LLockRooms$Games;") (by decide +kernel)) (fun _ h9 => h9) rfl dX6_endsAt_38 ?_
  refine va_get (D := (dC, dI)) (ci := 2) (v := .int 1) (C := RX0) (T := TX0) (N := 7) hx hb hts zi_X6_endsAt_X0 hown hK hP 1 rfl rfl 0 (by decide) (hts (.fieldLink RX6 45 "LockRooms$Games" "isRunning" "Z") (by decide +kernel)) (fun _ h9 => h9) rfl dX6_endsAt_41 ?_
  refine lv_if_eq (tgt := 61) hx hb dX6_endsAt_44 (by decide) (fun h => absurd h (by decide)) (fun _ => ?_)
  refine lv_aload_n hx hb dX6_endsAt_47 rfl (lv_at hl 1 rfl) ?_
  refine va_get (D := (dC, dI)) (ci := 8) (v := .ref tr) (C := RX6) (T := TX6) (N := 3) hx hb hts zi_X6_endsAt_X6 hown hK (zo_R hR0 hS hAr) 0 rfl rfl 1 (by decide) (hts (.fieldLink RX6 16 "LockRooms" "trial" "LLockRooms$Room;") (by decide +kernel)) (fun _ h9 => h9) rfl dX6_endsAt_48 ?_
  have hPr := ((zo_R hR0 hS hAr)).sub (ws' := [(tpl, .inl (tcP, 6, .inr (.inr (.inr (.inr tfp)))))]) [5] rfl
  have hPc := hP.sub (ws' := [(tr, .inr (5, [.ref tlk, .ref tth, .ref tpl, .ref tgm, .int 0, .int 0, .int 1, .int (-1), .int 1, .int 51, .int 18, .int 51])), (tgm, .inr (2, [.int 1, .int 51, .int 0, .int 0, .int 0, .int (-1), .long 0])), (tp0, .inr (4, [.int 1, .int (-1), .int (-1), .int 51]))]) [0, 1, 2] rfl
  have hDc := hD.sub (ws' := [(tr, .inr (5, [.ref tlk, .ref tth, .ref tpl, .ref tgm, .int 0, .int 0, .int 1, .int (-1), .int 1, .int 51, .int 18, .int 51])), (tgm, .inr (2, [.int 1, .int 51, .int 0, .int 0, .int 0, .int (-1), .long 0])), (tp0, .inr (4, [.int 1, .int (-1), .int (-1), .int 51]))]) [0, 1, 2] (by decide) rfl
  have hKc := hK.sub (tys' := [(tcP, .object "LockRooms$Player")]) [1] rfl
  have hFc := va_free (wc := [(tr, .inr (5, [.ref tlk, .ref tth, .ref tpl, .ref tgm, .int 0, .int 0, .int 1, .int (-1), .int 1, .int 51, .int 18, .int 51])), (tgm, .inr (2, [.int 1, .int 51, .int 0, .int 0, .int 0, .int (-1), .long 0])), (tp0, .inr (4, [.int 1, .int (-1), .int (-1), .int 51]))]) hD hS hA [0, 1, 2] rfl
  refine va_calli (va_runV (As := []) (rest := []) ⟨hx, hb, hml, hown, hts⟩ (cz_RmidMinute l dC dI ed H154.size tr tlk tth tpl tgm tcP tfp tp0 51 hkt (by decide)) (cwV 0 hts gX6_endsAt_X3_letMinuteGoBy rfl rfl rfl (by decide +kernel) ⟨Nat.le_of_ble_eq_true rfl, Nat.le_of_ble_eq_true rfl⟩) ⟨zb_blind, va_recv hK hP (ci := 5) (q0 := 0) rfl rfl, fun U hU hW => ⟨rfl, zb_mk hU hW hPr hPc hKc hDc hN hH hS hFc (zx_cons (zx_r (hAr _ (List.mem_of_getElem? (i := 5) rfl)) hDc) zx_nil)⟩⟩ rfl rfl hl.1 rfl (lv_room (Nat.le_of_ble_eq_true rfl)) dX6_endsAt_51 ⟨Nat.le_of_ble_eq_true rfl, Nat.le_of_ble_eq_true rfl⟩) hS (fun q _ h => hFc q h) hFc (fun r158 u t H157 locs ht hvm hw hB hz1 hk1 hS => ?_)
  obtain rfl : r158 = 0 := hw
  obtain ⟨w1_159, hf159_0, hP1, hD1, hK1⟩ := hB
  obtain rfl : w1_159 = 52 := hf159_0.trans (by first | rfl | decide +kernel)
  rw [ht] at hP1
  obtain ⟨hP, hD⟩ := va_join (wr := []) (w1 := [(tr, .inr (5, [.ref tlk, .ref tth, .ref tpl, .ref tgm, .int 0, .int 0, .int 1, .int (-1), .int 1, .int 52, .int 18, .int 52])), (tgm, .inr (2, [.int 1, .int 52, .int 0, .int 0, .int 0, .int (-1), .long 0])), (tp0, .inr (4, [.int 1, .int (-1), .int (-1), .int 52]))]) hP hD [0, 1, 2] [] rfl rfl (by decide) (by decide) hk1 hFc hP1 hD1
  have hP : va_P (dC, dI) vwCl [(tr, .inr (5, [.ref tlk, .ref tth, .ref tpl, .ref tgm, .int 0, .int 0, .int 1, .int (-1), .int 1, .int 52, .int 18, .int 52])), (tgm, .inr (2, [.int 1, .int 52, .int 0, .int 0, .int 0, .int (-1), .long 0])), (tp0, .inr (4, [.int 1, .int (-1), .int (-1), .int 52]))] H157 := hP
  have hD : va_D A [(tr, .inr (5, [.ref tlk, .ref tth, .ref tpl, .ref tgm, .int 0, .int 0, .int 1, .int (-1), .int 1, .int 52, .int 18, .int 52])), (tgm, .inr (2, [.int 1, .int 52, .int 0, .int 0, .int 0, .int (-1), .long 0])), (tp0, .inr (4, [.int 1, .int (-1), .int (-1), .int 52]))] := hD
  refine lv_pop hx hb dX6_endsAt_54 rfl ?_
  refine lv_iinc (v := 52) (lv' := [(1, .int 52), (0, .ref x)]) hx hb dX6_endsAt_55 hl (k := 0) rfl (by decide) (by decide) rfl (fun ls hl => ?_)
  refine lv_goto (tgt := 28) hx hb dX6_endsAt_58 (by decide) ?_
  refine lv_iload_n hx hb dX6_endsAt_28 rfl (lv_at hl 0 rfl) ?_
  refine lv_bipush (v := 60) hx hb dX6_endsAt_29 (by decide) ?_
  refine lv_icmp_ge (tgt := 61) hx hb dX6_endsAt_31 (by decide) (fun h => absurd h (by decide)) (fun _ => ?_)
  refine lv_aload_n hx hb dX6_endsAt_34 rfl (lv_at hl 1 rfl) ?_
  refine va_get (D := (dC, dI)) (ci := 8) (v := .ref tr) (C := RX6) (T := TX6) (N := 3) hx hb hts zi_X6_endsAt_X6 hown hK (zo_R hR0 hS hAr) 0 rfl rfl 1 (by decide) (hts (.fieldLink RX6 16 "LockRooms" "trial" "LLockRooms$Room;") (by decide +kernel)) (fun _ h9 => h9) rfl dX6_endsAt_35 ?_
  refine va_get (D := (dC, dI)) (ci := 5) (v := .ref tgm) (C := RX3) (T := TX3) (N := 12) hx hb hts zi_X6_endsAt_X3 hown hK hP 0 rfl rfl 3 (by decide) (hts (.fieldLink RX6 41 "LockRooms$Room" "games" "LLockRooms$Games;") (by decide +kernel)) (fun _ h9 => h9) rfl dX6_endsAt_38 ?_
  refine va_get (D := (dC, dI)) (ci := 2) (v := .int 1) (C := RX0) (T := TX0) (N := 7) hx hb hts zi_X6_endsAt_X0 hown hK hP 1 rfl rfl 0 (by decide) (hts (.fieldLink RX6 45 "LockRooms$Games" "isRunning" "Z") (by decide +kernel)) (fun _ h9 => h9) rfl dX6_endsAt_41 ?_
  refine lv_if_eq (tgt := 61) hx hb dX6_endsAt_44 (by decide) (fun h => absurd h (by decide)) (fun _ => ?_)
  refine lv_aload_n hx hb dX6_endsAt_47 rfl (lv_at hl 1 rfl) ?_
  refine va_get (D := (dC, dI)) (ci := 8) (v := .ref tr) (C := RX6) (T := TX6) (N := 3) hx hb hts zi_X6_endsAt_X6 hown hK (zo_R hR0 hS hAr) 0 rfl rfl 1 (by decide) (hts (.fieldLink RX6 16 "LockRooms" "trial" "LLockRooms$Room;") (by decide +kernel)) (fun _ h9 => h9) rfl dX6_endsAt_48 ?_
  have hPr := ((zo_R hR0 hS hAr)).sub (ws' := [(tpl, .inl (tcP, 6, .inr (.inr (.inr (.inr tfp)))))]) [5] rfl
  have hPc := hP.sub (ws' := [(tr, .inr (5, [.ref tlk, .ref tth, .ref tpl, .ref tgm, .int 0, .int 0, .int 1, .int (-1), .int 1, .int 52, .int 18, .int 52])), (tgm, .inr (2, [.int 1, .int 52, .int 0, .int 0, .int 0, .int (-1), .long 0])), (tp0, .inr (4, [.int 1, .int (-1), .int (-1), .int 52]))]) [0, 1, 2] rfl
  have hDc := hD.sub (ws' := [(tr, .inr (5, [.ref tlk, .ref tth, .ref tpl, .ref tgm, .int 0, .int 0, .int 1, .int (-1), .int 1, .int 52, .int 18, .int 52])), (tgm, .inr (2, [.int 1, .int 52, .int 0, .int 0, .int 0, .int (-1), .long 0])), (tp0, .inr (4, [.int 1, .int (-1), .int (-1), .int 52]))]) [0, 1, 2] (by decide) rfl
  have hKc := hK.sub (tys' := [(tcP, .object "LockRooms$Player")]) [1] rfl
  have hFc := va_free (wc := [(tr, .inr (5, [.ref tlk, .ref tth, .ref tpl, .ref tgm, .int 0, .int 0, .int 1, .int (-1), .int 1, .int 52, .int 18, .int 52])), (tgm, .inr (2, [.int 1, .int 52, .int 0, .int 0, .int 0, .int (-1), .long 0])), (tp0, .inr (4, [.int 1, .int (-1), .int (-1), .int 52]))]) hD hS hA [0, 1, 2] rfl
  refine va_calli (va_runV (As := []) (rest := []) ⟨hx, hb, hml, hown, hts⟩ (cz_RmidMinute l dC dI ed H157.size tr tlk tth tpl tgm tcP tfp tp0 52 hkt (by decide)) (cwV 0 hts gX6_endsAt_X3_letMinuteGoBy rfl rfl rfl (by decide +kernel) ⟨Nat.le_of_ble_eq_true rfl, Nat.le_of_ble_eq_true rfl⟩) ⟨zb_blind, va_recv hK hP (ci := 5) (q0 := 0) rfl rfl, fun U hU hW => ⟨rfl, zb_mk hU hW hPr hPc hKc hDc hN hH hS hFc (zx_cons (zx_r (hAr _ (List.mem_of_getElem? (i := 5) rfl)) hDc) zx_nil)⟩⟩ rfl rfl hl.1 rfl (lv_room (Nat.le_of_ble_eq_true rfl)) dX6_endsAt_51 ⟨Nat.le_of_ble_eq_true rfl, Nat.le_of_ble_eq_true rfl⟩) hS (fun q _ h => hFc q h) hFc (fun r161 u t H160 locs ht hvm hw hB hz1 hk1 hS => ?_)
  obtain rfl : r161 = 0 := hw
  obtain ⟨w1_162, hf162_0, hP1, hD1, hK1⟩ := hB
  obtain rfl : w1_162 = 53 := hf162_0.trans (by first | rfl | decide +kernel)
  rw [ht] at hP1
  obtain ⟨hP, hD⟩ := va_join (wr := []) (w1 := [(tr, .inr (5, [.ref tlk, .ref tth, .ref tpl, .ref tgm, .int 0, .int 0, .int 1, .int (-1), .int 1, .int 53, .int 18, .int 53])), (tgm, .inr (2, [.int 1, .int 53, .int 0, .int 0, .int 0, .int (-1), .long 0])), (tp0, .inr (4, [.int 1, .int (-1), .int (-1), .int 53]))]) hP hD [0, 1, 2] [] rfl rfl (by decide) (by decide) hk1 hFc hP1 hD1
  have hP : va_P (dC, dI) vwCl [(tr, .inr (5, [.ref tlk, .ref tth, .ref tpl, .ref tgm, .int 0, .int 0, .int 1, .int (-1), .int 1, .int 53, .int 18, .int 53])), (tgm, .inr (2, [.int 1, .int 53, .int 0, .int 0, .int 0, .int (-1), .long 0])), (tp0, .inr (4, [.int 1, .int (-1), .int (-1), .int 53]))] H160 := hP
  have hD : va_D A [(tr, .inr (5, [.ref tlk, .ref tth, .ref tpl, .ref tgm, .int 0, .int 0, .int 1, .int (-1), .int 1, .int 53, .int 18, .int 53])), (tgm, .inr (2, [.int 1, .int 53, .int 0, .int 0, .int 0, .int (-1), .long 0])), (tp0, .inr (4, [.int 1, .int (-1), .int (-1), .int 53]))] := hD
  refine lv_pop hx hb dX6_endsAt_54 rfl ?_
  refine lv_iinc (v := 53) (lv' := [(1, .int 53), (0, .ref x)]) hx hb dX6_endsAt_55 hl (k := 0) rfl (by decide) (by decide) rfl (fun ls hl => ?_)
  refine lv_goto (tgt := 28) hx hb dX6_endsAt_58 (by decide) ?_
  refine lv_iload_n hx hb dX6_endsAt_28 rfl (lv_at hl 0 rfl) ?_
  refine lv_bipush (v := 60) hx hb dX6_endsAt_29 (by decide) ?_
  refine lv_icmp_ge (tgt := 61) hx hb dX6_endsAt_31 (by decide) (fun h => absurd h (by decide)) (fun _ => ?_)
  refine lv_aload_n hx hb dX6_endsAt_34 rfl (lv_at hl 1 rfl) ?_
  refine va_get (D := (dC, dI)) (ci := 8) (v := .ref tr) (C := RX6) (T := TX6) (N := 3) hx hb hts zi_X6_endsAt_X6 hown hK (zo_R hR0 hS hAr) 0 rfl rfl 1 (by decide) (hts (.fieldLink RX6 16 "LockRooms" "trial" "LLockRooms$Room;") (by decide +kernel)) (fun _ h9 => h9) rfl dX6_endsAt_35 ?_
  refine va_get (D := (dC, dI)) (ci := 5) (v := .ref tgm) (C := RX3) (T := TX3) (N := 12) hx hb hts zi_X6_endsAt_X3 hown hK hP 0 rfl rfl 3 (by decide) (hts (.fieldLink RX6 41 "LockRooms$Room" "games" "LLockRooms$Games;") (by decide +kernel)) (fun _ h9 => h9) rfl dX6_endsAt_38 ?_
  refine va_get (D := (dC, dI)) (ci := 2) (v := .int 1) (C := RX0) (T := TX0) (N := 7) hx hb hts zi_X6_endsAt_X0 hown hK hP 1 rfl rfl 0 (by decide) (hts (.fieldLink RX6 45 "LockRooms$Games" "isRunning" "Z") (by decide +kernel)) (fun _ h9 => h9) rfl dX6_endsAt_41 ?_
  refine lv_if_eq (tgt := 61) hx hb dX6_endsAt_44 (by decide) (fun h => absurd h (by decide)) (fun _ => ?_)
  refine lv_aload_n hx hb dX6_endsAt_47 rfl (lv_at hl 1 rfl) ?_
  refine va_get (D := (dC, dI)) (ci := 8) (v := .ref tr) (C := RX6) (T := TX6) (N := 3) hx hb hts zi_X6_endsAt_X6 hown hK (zo_R hR0 hS hAr) 0 rfl rfl 1 (by decide) (hts (.fieldLink RX6 16 "LockRooms" "trial" "LLockRooms$Room;") (by decide +kernel)) (fun _ h9 => h9) rfl dX6_endsAt_48 ?_
  have hPr := ((zo_R hR0 hS hAr)).sub (ws' := [(tpl, .inl (tcP, 6, .inr (.inr (.inr (.inr tfp)))))]) [5] rfl
  have hPc := hP.sub (ws' := [(tr, .inr (5, [.ref tlk, .ref tth, .ref tpl, .ref tgm, .int 0, .int 0, .int 1, .int (-1), .int 1, .int 53, .int 18, .int 53])), (tgm, .inr (2, [.int 1, .int 53, .int 0, .int 0, .int 0, .int (-1), .long 0])), (tp0, .inr (4, [.int 1, .int (-1), .int (-1), .int 53]))]) [0, 1, 2] rfl
  have hDc := hD.sub (ws' := [(tr, .inr (5, [.ref tlk, .ref tth, .ref tpl, .ref tgm, .int 0, .int 0, .int 1, .int (-1), .int 1, .int 53, .int 18, .int 53])), (tgm, .inr (2, [.int 1, .int 53, .int 0, .int 0, .int 0, .int (-1), .long 0])), (tp0, .inr (4, [.int 1, .int (-1), .int (-1), .int 53]))]) [0, 1, 2] (by decide) rfl
  have hKc := hK.sub (tys' := [(tcP, .object "LockRooms$Player")]) [1] rfl
  have hFc := va_free (wc := [(tr, .inr (5, [.ref tlk, .ref tth, .ref tpl, .ref tgm, .int 0, .int 0, .int 1, .int (-1), .int 1, .int 53, .int 18, .int 53])), (tgm, .inr (2, [.int 1, .int 53, .int 0, .int 0, .int 0, .int (-1), .long 0])), (tp0, .inr (4, [.int 1, .int (-1), .int (-1), .int 53]))]) hD hS hA [0, 1, 2] rfl
  refine va_calli (va_runV (As := []) (rest := []) ⟨hx, hb, hml, hown, hts⟩ (cz_RmidMinute l dC dI ed H160.size tr tlk tth tpl tgm tcP tfp tp0 53 hkt (by decide)) (cwV 0 hts gX6_endsAt_X3_letMinuteGoBy rfl rfl rfl (by decide +kernel) ⟨Nat.le_of_ble_eq_true rfl, Nat.le_of_ble_eq_true rfl⟩) ⟨zb_blind, va_recv hK hP (ci := 5) (q0 := 0) rfl rfl, fun U hU hW => ⟨rfl, zb_mk hU hW hPr hPc hKc hDc hN hH hS hFc (zx_cons (zx_r (hAr _ (List.mem_of_getElem? (i := 5) rfl)) hDc) zx_nil)⟩⟩ rfl rfl hl.1 rfl (lv_room (Nat.le_of_ble_eq_true rfl)) dX6_endsAt_51 ⟨Nat.le_of_ble_eq_true rfl, Nat.le_of_ble_eq_true rfl⟩) hS (fun q _ h => hFc q h) hFc (fun r164 u t H163 locs ht hvm hw hB hz1 hk1 hS => ?_)
  obtain rfl : r164 = 0 := hw
  obtain ⟨w1_165, hf165_0, hP1, hD1, hK1⟩ := hB
  obtain rfl : w1_165 = 54 := hf165_0.trans (by first | rfl | decide +kernel)
  rw [ht] at hP1
  obtain ⟨hP, hD⟩ := va_join (wr := []) (w1 := [(tr, .inr (5, [.ref tlk, .ref tth, .ref tpl, .ref tgm, .int 0, .int 0, .int 1, .int (-1), .int 1, .int 54, .int 18, .int 54])), (tgm, .inr (2, [.int 1, .int 54, .int 0, .int 0, .int 0, .int (-1), .long 0])), (tp0, .inr (4, [.int 1, .int (-1), .int (-1), .int 54]))]) hP hD [0, 1, 2] [] rfl rfl (by decide) (by decide) hk1 hFc hP1 hD1
  have hP : va_P (dC, dI) vwCl [(tr, .inr (5, [.ref tlk, .ref tth, .ref tpl, .ref tgm, .int 0, .int 0, .int 1, .int (-1), .int 1, .int 54, .int 18, .int 54])), (tgm, .inr (2, [.int 1, .int 54, .int 0, .int 0, .int 0, .int (-1), .long 0])), (tp0, .inr (4, [.int 1, .int (-1), .int (-1), .int 54]))] H163 := hP
  have hD : va_D A [(tr, .inr (5, [.ref tlk, .ref tth, .ref tpl, .ref tgm, .int 0, .int 0, .int 1, .int (-1), .int 1, .int 54, .int 18, .int 54])), (tgm, .inr (2, [.int 1, .int 54, .int 0, .int 0, .int 0, .int (-1), .long 0])), (tp0, .inr (4, [.int 1, .int (-1), .int (-1), .int 54]))] := hD
  refine lv_pop hx hb dX6_endsAt_54 rfl ?_
  refine lv_iinc (v := 54) (lv' := [(1, .int 54), (0, .ref x)]) hx hb dX6_endsAt_55 hl (k := 0) rfl (by decide) (by decide) rfl (fun ls hl => ?_)
  refine lv_goto (tgt := 28) hx hb dX6_endsAt_58 (by decide) ?_
  refine lv_iload_n hx hb dX6_endsAt_28 rfl (lv_at hl 0 rfl) ?_
  refine lv_bipush (v := 60) hx hb dX6_endsAt_29 (by decide) ?_
  refine lv_icmp_ge (tgt := 61) hx hb dX6_endsAt_31 (by decide) (fun h => absurd h (by decide)) (fun _ => ?_)
  refine lv_aload_n hx hb dX6_endsAt_34 rfl (lv_at hl 1 rfl) ?_
  refine va_get (D := (dC, dI)) (ci := 8) (v := .ref tr) (C := RX6) (T := TX6) (N := 3) hx hb hts zi_X6_endsAt_X6 hown hK (zo_R hR0 hS hAr) 0 rfl rfl 1 (by decide) (hts (.fieldLink RX6 16 "LockRooms" "trial" "LLockRooms$Room;") (by decide +kernel)) (fun _ h9 => h9) rfl dX6_endsAt_35 ?_
  refine va_get (D := (dC, dI)) (ci := 5) (v := .ref tgm) (C := RX3) (T := TX3) (N := 12) hx hb hts zi_X6_endsAt_X3 hown hK hP 0 rfl rfl 3 (by decide) (hts (.fieldLink RX6 41 "LockRooms$Room" "games" "LLockRooms$Games;") (by decide +kernel)) (fun _ h9 => h9) rfl dX6_endsAt_38 ?_
  refine va_get (D := (dC, dI)) (ci := 2) (v := .int 1) (C := RX0) (T := TX0) (N := 7) hx hb hts zi_X6_endsAt_X0 hown hK hP 1 rfl rfl 0 (by decide) (hts (.fieldLink RX6 45 "LockRooms$Games" "isRunning" "Z") (by decide +kernel)) (fun _ h9 => h9) rfl dX6_endsAt_41 ?_
  refine lv_if_eq (tgt := 61) hx hb dX6_endsAt_44 (by decide) (fun h => absurd h (by decide)) (fun _ => ?_)
  refine lv_aload_n hx hb dX6_endsAt_47 rfl (lv_at hl 1 rfl) ?_
  refine va_get (D := (dC, dI)) (ci := 8) (v := .ref tr) (C := RX6) (T := TX6) (N := 3) hx hb hts zi_X6_endsAt_X6 hown hK (zo_R hR0 hS hAr) 0 rfl rfl 1 (by decide) (hts (.fieldLink RX6 16 "LockRooms" "trial" "LLockRooms$Room;") (by decide +kernel)) (fun _ h9 => h9) rfl dX6_endsAt_48 ?_
  have hPr := ((zo_R hR0 hS hAr)).sub (ws' := [(tpl, .inl (tcP, 6, .inr (.inr (.inr (.inr tfp)))))]) [5] rfl
  have hPc := hP.sub (ws' := [(tr, .inr (5, [.ref tlk, .ref tth, .ref tpl, .ref tgm, .int 0, .int 0, .int 1, .int (-1), .int 1, .int 54, .int 18, .int 54])), (tgm, .inr (2, [.int 1, .int 54, .int 0, .int 0, .int 0, .int (-1), .long 0])), (tp0, .inr (4, [.int 1, .int (-1), .int (-1), .int 54]))]) [0, 1, 2] rfl
  have hDc := hD.sub (ws' := [(tr, .inr (5, [.ref tlk, .ref tth, .ref tpl, .ref tgm, .int 0, .int 0, .int 1, .int (-1), .int 1, .int 54, .int 18, .int 54])), (tgm, .inr (2, [.int 1, .int 54, .int 0, .int 0, .int 0, .int (-1), .long 0])), (tp0, .inr (4, [.int 1, .int (-1), .int (-1), .int 54]))]) [0, 1, 2] (by decide) rfl
  have hKc := hK.sub (tys' := [(tcP, .object "LockRooms$Player")]) [1] rfl
  have hFc := va_free (wc := [(tr, .inr (5, [.ref tlk, .ref tth, .ref tpl, .ref tgm, .int 0, .int 0, .int 1, .int (-1), .int 1, .int 54, .int 18, .int 54])), (tgm, .inr (2, [.int 1, .int 54, .int 0, .int 0, .int 0, .int (-1), .long 0])), (tp0, .inr (4, [.int 1, .int (-1), .int (-1), .int 54]))]) hD hS hA [0, 1, 2] rfl
  refine va_calli (va_runV (As := []) (rest := []) ⟨hx, hb, hml, hown, hts⟩ (cz_RmidMinute l dC dI ed H163.size tr tlk tth tpl tgm tcP tfp tp0 54 hkt (by decide)) (cwV 0 hts gX6_endsAt_X3_letMinuteGoBy rfl rfl rfl (by decide +kernel) ⟨Nat.le_of_ble_eq_true rfl, Nat.le_of_ble_eq_true rfl⟩) ⟨zb_blind, va_recv hK hP (ci := 5) (q0 := 0) rfl rfl, fun U hU hW => ⟨rfl, zb_mk hU hW hPr hPc hKc hDc hN hH hS hFc (zx_cons (zx_r (hAr _ (List.mem_of_getElem? (i := 5) rfl)) hDc) zx_nil)⟩⟩ rfl rfl hl.1 rfl (lv_room (Nat.le_of_ble_eq_true rfl)) dX6_endsAt_51 ⟨Nat.le_of_ble_eq_true rfl, Nat.le_of_ble_eq_true rfl⟩) hS (fun q _ h => hFc q h) hFc (fun r167 u t H166 locs ht hvm hw hB hz1 hk1 hS => ?_)
  obtain rfl : r167 = 0 := hw
  obtain ⟨w1_168, hf168_0, hP1, hD1, hK1⟩ := hB
  obtain rfl : w1_168 = 55 := hf168_0.trans (by first | rfl | decide +kernel)
  rw [ht] at hP1
  obtain ⟨hP, hD⟩ := va_join (wr := []) (w1 := [(tr, .inr (5, [.ref tlk, .ref tth, .ref tpl, .ref tgm, .int 0, .int 0, .int 1, .int (-1), .int 1, .int 55, .int 18, .int 55])), (tgm, .inr (2, [.int 1, .int 55, .int 0, .int 0, .int 0, .int (-1), .long 0])), (tp0, .inr (4, [.int 1, .int (-1), .int (-1), .int 55]))]) hP hD [0, 1, 2] [] rfl rfl (by decide) (by decide) hk1 hFc hP1 hD1
  have hP : va_P (dC, dI) vwCl [(tr, .inr (5, [.ref tlk, .ref tth, .ref tpl, .ref tgm, .int 0, .int 0, .int 1, .int (-1), .int 1, .int 55, .int 18, .int 55])), (tgm, .inr (2, [.int 1, .int 55, .int 0, .int 0, .int 0, .int (-1), .long 0])), (tp0, .inr (4, [.int 1, .int (-1), .int (-1), .int 55]))] H166 := hP
  have hD : va_D A [(tr, .inr (5, [.ref tlk, .ref tth, .ref tpl, .ref tgm, .int 0, .int 0, .int 1, .int (-1), .int 1, .int 55, .int 18, .int 55])), (tgm, .inr (2, [.int 1, .int 55, .int 0, .int 0, .int 0, .int (-1), .long 0])), (tp0, .inr (4, [.int 1, .int (-1), .int (-1), .int 55]))] := hD
  refine lv_pop hx hb dX6_endsAt_54 rfl ?_
  refine lv_iinc (v := 55) (lv' := [(1, .int 55), (0, .ref x)]) hx hb dX6_endsAt_55 hl (k := 0) rfl (by decide) (by decide) rfl (fun ls hl => ?_)
  refine lv_goto (tgt := 28) hx hb dX6_endsAt_58 (by decide) ?_
  refine lv_iload_n hx hb dX6_endsAt_28 rfl (lv_at hl 0 rfl) ?_
  refine lv_bipush (v := 60) hx hb dX6_endsAt_29 (by decide) ?_
  refine lv_icmp_ge (tgt := 61) hx hb dX6_endsAt_31 (by decide) (fun h => absurd h (by decide)) (fun _ => ?_)
  refine lv_aload_n hx hb dX6_endsAt_34 rfl (lv_at hl 1 rfl) ?_
  refine va_get (D := (dC, dI)) (ci := 8) (v := .ref tr) (C := RX6) (T := TX6) (N := 3) hx hb hts zi_X6_endsAt_X6 hown hK (zo_R hR0 hS hAr) 0 rfl rfl 1 (by decide) (hts (.fieldLink RX6 16 "LockRooms" "trial" "LLockRooms$Room;") (by decide +kernel)) (fun _ h9 => h9) rfl dX6_endsAt_35 ?_
  refine va_get (D := (dC, dI)) (ci := 5) (v := .ref tgm) (C := RX3) (T := TX3) (N := 12) hx hb hts zi_X6_endsAt_X3 hown hK hP 0 rfl rfl 3 (by decide) (hts (.fieldLink RX6 41 "LockRooms$Room" "games" "LLockRooms$Games;") (by decide +kernel)) (fun _ h9 => h9) rfl dX6_endsAt_38 ?_
  refine va_get (D := (dC, dI)) (ci := 2) (v := .int 1) (C := RX0) (T := TX0) (N := 7) hx hb hts zi_X6_endsAt_X0 hown hK hP 1 rfl rfl 0 (by decide) (hts (.fieldLink RX6 45 "LockRooms$Games" "isRunning" "Z") (by decide +kernel)) (fun _ h9 => h9) rfl dX6_endsAt_41 ?_
  refine lv_if_eq (tgt := 61) hx hb dX6_endsAt_44 (by decide) (fun h => absurd h (by decide)) (fun _ => ?_)
  refine lv_aload_n hx hb dX6_endsAt_47 rfl (lv_at hl 1 rfl) ?_
  refine va_get (D := (dC, dI)) (ci := 8) (v := .ref tr) (C := RX6) (T := TX6) (N := 3) hx hb hts zi_X6_endsAt_X6 hown hK (zo_R hR0 hS hAr) 0 rfl rfl 1 (by decide) (hts (.fieldLink RX6 16 "LockRooms" "trial" "LLockRooms$Room;") (by decide +kernel)) (fun _ h9 => h9) rfl dX6_endsAt_48 ?_
  have hPr := ((zo_R hR0 hS hAr)).sub (ws' := [(tpl, .inl (tcP, 6, .inr (.inr (.inr (.inr tfp)))))]) [5] rfl
  have hPc := hP.sub (ws' := [(tr, .inr (5, [.ref tlk, .ref tth, .ref tpl, .ref tgm, .int 0, .int 0, .int 1, .int (-1), .int 1, .int 55, .int 18, .int 55])), (tgm, .inr (2, [.int 1, .int 55, .int 0, .int 0, .int 0, .int (-1), .long 0])), (tp0, .inr (4, [.int 1, .int (-1), .int (-1), .int 55]))]) [0, 1, 2] rfl
  have hDc := hD.sub (ws' := [(tr, .inr (5, [.ref tlk, .ref tth, .ref tpl, .ref tgm, .int 0, .int 0, .int 1, .int (-1), .int 1, .int 55, .int 18, .int 55])), (tgm, .inr (2, [.int 1, .int 55, .int 0, .int 0, .int 0, .int (-1), .long 0])), (tp0, .inr (4, [.int 1, .int (-1), .int (-1), .int 55]))]) [0, 1, 2] (by decide) rfl
  have hKc := hK.sub (tys' := [(tcP, .object "LockRooms$Player")]) [1] rfl
  have hFc := va_free (wc := [(tr, .inr (5, [.ref tlk, .ref tth, .ref tpl, .ref tgm, .int 0, .int 0, .int 1, .int (-1), .int 1, .int 55, .int 18, .int 55])), (tgm, .inr (2, [.int 1, .int 55, .int 0, .int 0, .int 0, .int (-1), .long 0])), (tp0, .inr (4, [.int 1, .int (-1), .int (-1), .int 55]))]) hD hS hA [0, 1, 2] rfl
  refine va_calli (va_runV (As := []) (rest := []) ⟨hx, hb, hml, hown, hts⟩ (cz_RmidMinute l dC dI ed H166.size tr tlk tth tpl tgm tcP tfp tp0 55 hkt (by decide)) (cwV 0 hts gX6_endsAt_X3_letMinuteGoBy rfl rfl rfl (by decide +kernel) ⟨Nat.le_of_ble_eq_true rfl, Nat.le_of_ble_eq_true rfl⟩) ⟨zb_blind, va_recv hK hP (ci := 5) (q0 := 0) rfl rfl, fun U hU hW => ⟨rfl, zb_mk hU hW hPr hPc hKc hDc hN hH hS hFc (zx_cons (zx_r (hAr _ (List.mem_of_getElem? (i := 5) rfl)) hDc) zx_nil)⟩⟩ rfl rfl hl.1 rfl (lv_room (Nat.le_of_ble_eq_true rfl)) dX6_endsAt_51 ⟨Nat.le_of_ble_eq_true rfl, Nat.le_of_ble_eq_true rfl⟩) hS (fun q _ h => hFc q h) hFc (fun r170 u t H169 locs ht hvm hw hB hz1 hk1 hS => ?_)
  obtain rfl : r170 = 0 := hw
  obtain ⟨w1_171, hf171_0, hP1, hD1, hK1⟩ := hB
  obtain rfl : w1_171 = 56 := hf171_0.trans (by first | rfl | decide +kernel)
  rw [ht] at hP1
  obtain ⟨hP, hD⟩ := va_join (wr := []) (w1 := [(tr, .inr (5, [.ref tlk, .ref tth, .ref tpl, .ref tgm, .int 0, .int 0, .int 1, .int (-1), .int 1, .int 56, .int 18, .int 56])), (tgm, .inr (2, [.int 1, .int 56, .int 0, .int 0, .int 0, .int (-1), .long 0])), (tp0, .inr (4, [.int 1, .int (-1), .int (-1), .int 56]))]) hP hD [0, 1, 2] [] rfl rfl (by decide) (by decide) hk1 hFc hP1 hD1
  have hP : va_P (dC, dI) vwCl [(tr, .inr (5, [.ref tlk, .ref tth, .ref tpl, .ref tgm, .int 0, .int 0, .int 1, .int (-1), .int 1, .int 56, .int 18, .int 56])), (tgm, .inr (2, [.int 1, .int 56, .int 0, .int 0, .int 0, .int (-1), .long 0])), (tp0, .inr (4, [.int 1, .int (-1), .int (-1), .int 56]))] H169 := hP
  have hD : va_D A [(tr, .inr (5, [.ref tlk, .ref tth, .ref tpl, .ref tgm, .int 0, .int 0, .int 1, .int (-1), .int 1, .int 56, .int 18, .int 56])), (tgm, .inr (2, [.int 1, .int 56, .int 0, .int 0, .int 0, .int (-1), .long 0])), (tp0, .inr (4, [.int 1, .int (-1), .int (-1), .int 56]))] := hD
  refine lv_pop hx hb dX6_endsAt_54 rfl ?_
  refine lv_iinc (v := 56) (lv' := [(1, .int 56), (0, .ref x)]) hx hb dX6_endsAt_55 hl (k := 0) rfl (by decide) (by decide) rfl (fun ls hl => ?_)
  refine lv_goto (tgt := 28) hx hb dX6_endsAt_58 (by decide) ?_
  refine lv_iload_n hx hb dX6_endsAt_28 rfl (lv_at hl 0 rfl) ?_
  refine lv_bipush (v := 60) hx hb dX6_endsAt_29 (by decide) ?_
  refine lv_icmp_ge (tgt := 61) hx hb dX6_endsAt_31 (by decide) (fun h => absurd h (by decide)) (fun _ => ?_)
  refine lv_aload_n hx hb dX6_endsAt_34 rfl (lv_at hl 1 rfl) ?_
  refine va_get (D := (dC, dI)) (ci := 8) (v := .ref tr) (C := RX6) (T := TX6) (N := 3) hx hb hts zi_X6_endsAt_X6 hown hK (zo_R hR0 hS hAr) 0 rfl rfl 1 (by decide) (hts (.fieldLink RX6 16 "LockRooms" "trial" "LLockRooms$Room;") (by decide +kernel)) (fun _ h9 => h9) rfl dX6_endsAt_35 ?_
  refine va_get (D := (dC, dI)) (ci := 5) (v := .ref tgm) (C := RX3) (T := TX3) (N := 12) hx hb hts zi_X6_endsAt_X3 hown hK hP 0 rfl rfl 3 (by decide) (hts (.fieldLink RX6 41 "LockRooms$Room" "games" "LLockRooms$Games;") (by decide +kernel)) (fun _ h9 => h9) rfl dX6_endsAt_38 ?_
  refine va_get (D := (dC, dI)) (ci := 2) (v := .int 1) (C := RX0) (T := TX0) (N := 7) hx hb hts zi_X6_endsAt_X0 hown hK hP 1 rfl rfl 0 (by decide) (hts (.fieldLink RX6 45 "LockRooms$Games" "isRunning" "Z") (by decide +kernel)) (fun _ h9 => h9) rfl dX6_endsAt_41 ?_
  refine lv_if_eq (tgt := 61) hx hb dX6_endsAt_44 (by decide) (fun h => absurd h (by decide)) (fun _ => ?_)
  refine lv_aload_n hx hb dX6_endsAt_47 rfl (lv_at hl 1 rfl) ?_
  refine va_get (D := (dC, dI)) (ci := 8) (v := .ref tr) (C := RX6) (T := TX6) (N := 3) hx hb hts zi_X6_endsAt_X6 hown hK (zo_R hR0 hS hAr) 0 rfl rfl 1 (by decide) (hts (.fieldLink RX6 16 "LockRooms" "trial" "LLockRooms$Room;") (by decide +kernel)) (fun _ h9 => h9) rfl dX6_endsAt_48 ?_
  have hPr := ((zo_R hR0 hS hAr)).sub (ws' := [(tpl, .inl (tcP, 6, .inr (.inr (.inr (.inr tfp)))))]) [5] rfl
  have hPc := hP.sub (ws' := [(tr, .inr (5, [.ref tlk, .ref tth, .ref tpl, .ref tgm, .int 0, .int 0, .int 1, .int (-1), .int 1, .int 56, .int 18, .int 56])), (tgm, .inr (2, [.int 1, .int 56, .int 0, .int 0, .int 0, .int (-1), .long 0])), (tp0, .inr (4, [.int 1, .int (-1), .int (-1), .int 56]))]) [0, 1, 2] rfl
  have hDc := hD.sub (ws' := [(tr, .inr (5, [.ref tlk, .ref tth, .ref tpl, .ref tgm, .int 0, .int 0, .int 1, .int (-1), .int 1, .int 56, .int 18, .int 56])), (tgm, .inr (2, [.int 1, .int 56, .int 0, .int 0, .int 0, .int (-1), .long 0])), (tp0, .inr (4, [.int 1, .int (-1), .int (-1), .int 56]))]) [0, 1, 2] (by decide) rfl
  have hKc := hK.sub (tys' := [(tcP, .object "LockRooms$Player")]) [1] rfl
  have hFc := va_free (wc := [(tr, .inr (5, [.ref tlk, .ref tth, .ref tpl, .ref tgm, .int 0, .int 0, .int 1, .int (-1), .int 1, .int 56, .int 18, .int 56])), (tgm, .inr (2, [.int 1, .int 56, .int 0, .int 0, .int 0, .int (-1), .long 0])), (tp0, .inr (4, [.int 1, .int (-1), .int (-1), .int 56]))]) hD hS hA [0, 1, 2] rfl
  refine va_calli (va_runV (As := []) (rest := []) ⟨hx, hb, hml, hown, hts⟩ (cz_RmidMinute l dC dI ed H169.size tr tlk tth tpl tgm tcP tfp tp0 56 hkt (by decide)) (cwV 0 hts gX6_endsAt_X3_letMinuteGoBy rfl rfl rfl (by decide +kernel) ⟨Nat.le_of_ble_eq_true rfl, Nat.le_of_ble_eq_true rfl⟩) ⟨zb_blind, va_recv hK hP (ci := 5) (q0 := 0) rfl rfl, fun U hU hW => ⟨rfl, zb_mk hU hW hPr hPc hKc hDc hN hH hS hFc (zx_cons (zx_r (hAr _ (List.mem_of_getElem? (i := 5) rfl)) hDc) zx_nil)⟩⟩ rfl rfl hl.1 rfl (lv_room (Nat.le_of_ble_eq_true rfl)) dX6_endsAt_51 ⟨Nat.le_of_ble_eq_true rfl, Nat.le_of_ble_eq_true rfl⟩) hS (fun q _ h => hFc q h) hFc (fun r173 u t H172 locs ht hvm hw hB hz1 hk1 hS => ?_)
  obtain rfl : r173 = 0 := hw
  obtain ⟨w1_174, hf174_0, hP1, hD1, hK1⟩ := hB
  obtain rfl : w1_174 = 57 := hf174_0.trans (by first | rfl | decide +kernel)
  rw [ht] at hP1
  obtain ⟨hP, hD⟩ := va_join (wr := []) (w1 := [(tr, .inr (5, [.ref tlk, .ref tth, .ref tpl, .ref tgm, .int 0, .int 0, .int 1, .int (-1), .int 1, .int 57, .int 18, .int 57])), (tgm, .inr (2, [.int 1, .int 57, .int 0, .int 0, .int 0, .int (-1), .long 0])), (tp0, .inr (4, [.int 1, .int (-1), .int (-1), .int 57]))]) hP hD [0, 1, 2] [] rfl rfl (by decide) (by decide) hk1 hFc hP1 hD1
  have hP : va_P (dC, dI) vwCl [(tr, .inr (5, [.ref tlk, .ref tth, .ref tpl, .ref tgm, .int 0, .int 0, .int 1, .int (-1), .int 1, .int 57, .int 18, .int 57])), (tgm, .inr (2, [.int 1, .int 57, .int 0, .int 0, .int 0, .int (-1), .long 0])), (tp0, .inr (4, [.int 1, .int (-1), .int (-1), .int 57]))] H172 := hP
  have hD : va_D A [(tr, .inr (5, [.ref tlk, .ref tth, .ref tpl, .ref tgm, .int 0, .int 0, .int 1, .int (-1), .int 1, .int 57, .int 18, .int 57])), (tgm, .inr (2, [.int 1, .int 57, .int 0, .int 0, .int 0, .int (-1), .long 0])), (tp0, .inr (4, [.int 1, .int (-1), .int (-1), .int 57]))] := hD
  refine lv_pop hx hb dX6_endsAt_54 rfl ?_
  refine lv_iinc (v := 57) (lv' := [(1, .int 57), (0, .ref x)]) hx hb dX6_endsAt_55 hl (k := 0) rfl (by decide) (by decide) rfl (fun ls hl => ?_)
  refine lv_goto (tgt := 28) hx hb dX6_endsAt_58 (by decide) ?_
  refine lv_iload_n hx hb dX6_endsAt_28 rfl (lv_at hl 0 rfl) ?_
  refine lv_bipush (v := 60) hx hb dX6_endsAt_29 (by decide) ?_
  refine lv_icmp_ge (tgt := 61) hx hb dX6_endsAt_31 (by decide) (fun h => absurd h (by decide)) (fun _ => ?_)
  refine lv_aload_n hx hb dX6_endsAt_34 rfl (lv_at hl 1 rfl) ?_
  refine va_get (D := (dC, dI)) (ci := 8) (v := .ref tr) (C := RX6) (T := TX6) (N := 3) hx hb hts zi_X6_endsAt_X6 hown hK (zo_R hR0 hS hAr) 0 rfl rfl 1 (by decide) (hts (.fieldLink RX6 16 "LockRooms" "trial" "LLockRooms$Room;") (by decide +kernel)) (fun _ h9 => h9) rfl dX6_endsAt_35 ?_
  refine va_get (D := (dC, dI)) (ci := 5) (v := .ref tgm) (C := RX3) (T := TX3) (N := 12) hx hb hts zi_X6_endsAt_X3 hown hK hP 0 rfl rfl 3 (by decide) (hts (.fieldLink RX6 41 "LockRooms$Room" "games" "LLockRooms$Games;") (by decide +kernel)) (fun _ h9 => h9) rfl dX6_endsAt_38 ?_
  refine va_get (D := (dC, dI)) (ci := 2) (v := .int 1) (C := RX0) (T := TX0) (N := 7) hx hb hts zi_X6_endsAt_X0 hown hK hP 1 rfl rfl 0 (by decide) (hts (.fieldLink RX6 45 "LockRooms$Games" "isRunning" "Z") (by decide +kernel)) (fun _ h9 => h9) rfl dX6_endsAt_41 ?_
  refine lv_if_eq (tgt := 61) hx hb dX6_endsAt_44 (by decide) (fun h => absurd h (by decide)) (fun _ => ?_)
  refine lv_aload_n hx hb dX6_endsAt_47 rfl (lv_at hl 1 rfl) ?_
  refine va_get (D := (dC, dI)) (ci := 8) (v := .ref tr) (C := RX6) (T := TX6) (N := 3) hx hb hts zi_X6_endsAt_X6 hown hK (zo_R hR0 hS hAr) 0 rfl rfl 1 (by decide) (hts (.fieldLink RX6 16 "LockRooms" "trial" "LLockRooms$Room;") (by decide +kernel)) (fun _ h9 => h9) rfl dX6_endsAt_48 ?_
  have hPr := ((zo_R hR0 hS hAr)).sub (ws' := [(tpl, .inl (tcP, 6, .inr (.inr (.inr (.inr tfp)))))]) [5] rfl
  have hPc := hP.sub (ws' := [(tr, .inr (5, [.ref tlk, .ref tth, .ref tpl, .ref tgm, .int 0, .int 0, .int 1, .int (-1), .int 1, .int 57, .int 18, .int 57])), (tgm, .inr (2, [.int 1, .int 57, .int 0, .int 0, .int 0, .int (-1), .long 0])), (tp0, .inr (4, [.int 1, .int (-1), .int (-1), .int 57]))]) [0, 1, 2] rfl
  have hDc := hD.sub (ws' := [(tr, .inr (5, [.ref tlk, .ref tth, .ref tpl, .ref tgm, .int 0, .int 0, .int 1, .int (-1), .int 1, .int 57, .int 18, .int 57])), (tgm, .inr (2, [.int 1, .int 57, .int 0, .int 0, .int 0, .int (-1), .long 0])), (tp0, .inr (4, [.int 1, .int (-1), .int (-1), .int 57]))]) [0, 1, 2] (by decide) rfl
  have hKc := hK.sub (tys' := [(tcP, .object "LockRooms$Player")]) [1] rfl
  have hFc := va_free (wc := [(tr, .inr (5, [.ref tlk, .ref tth, .ref tpl, .ref tgm, .int 0, .int 0, .int 1, .int (-1), .int 1, .int 57, .int 18, .int 57])), (tgm, .inr (2, [.int 1, .int 57, .int 0, .int 0, .int 0, .int (-1), .long 0])), (tp0, .inr (4, [.int 1, .int (-1), .int (-1), .int 57]))]) hD hS hA [0, 1, 2] rfl
  refine va_calli (va_runV (As := []) (rest := []) ⟨hx, hb, hml, hown, hts⟩ (cz_RmidMinute l dC dI ed H172.size tr tlk tth tpl tgm tcP tfp tp0 57 hkt (by decide)) (cwV 0 hts gX6_endsAt_X3_letMinuteGoBy rfl rfl rfl (by decide +kernel) ⟨Nat.le_of_ble_eq_true rfl, Nat.le_of_ble_eq_true rfl⟩) ⟨zb_blind, va_recv hK hP (ci := 5) (q0 := 0) rfl rfl, fun U hU hW => ⟨rfl, zb_mk hU hW hPr hPc hKc hDc hN hH hS hFc (zx_cons (zx_r (hAr _ (List.mem_of_getElem? (i := 5) rfl)) hDc) zx_nil)⟩⟩ rfl rfl hl.1 rfl (lv_room (Nat.le_of_ble_eq_true rfl)) dX6_endsAt_51 ⟨Nat.le_of_ble_eq_true rfl, Nat.le_of_ble_eq_true rfl⟩) hS (fun q _ h => hFc q h) hFc (fun r176 u t H175 locs ht hvm hw hB hz1 hk1 hS => ?_)
  obtain rfl : r176 = 0 := hw
  obtain ⟨w1_177, hf177_0, hP1, hD1, hK1⟩ := hB
  obtain rfl : w1_177 = 58 := hf177_0.trans (by first | rfl | decide +kernel)
  rw [ht] at hP1
  obtain ⟨hP, hD⟩ := va_join (wr := []) (w1 := [(tr, .inr (5, [.ref tlk, .ref tth, .ref tpl, .ref tgm, .int 0, .int 0, .int 1, .int (-1), .int 1, .int 58, .int 18, .int 58])), (tgm, .inr (2, [.int 1, .int 58, .int 0, .int 0, .int 0, .int (-1), .long 0])), (tp0, .inr (4, [.int 1, .int (-1), .int (-1), .int 58]))]) hP hD [0, 1, 2] [] rfl rfl (by decide) (by decide) hk1 hFc hP1 hD1
  have hP : va_P (dC, dI) vwCl [(tr, .inr (5, [.ref tlk, .ref tth, .ref tpl, .ref tgm, .int 0, .int 0, .int 1, .int (-1), .int 1, .int 58, .int 18, .int 58])), (tgm, .inr (2, [.int 1, .int 58, .int 0, .int 0, .int 0, .int (-1), .long 0])), (tp0, .inr (4, [.int 1, .int (-1), .int (-1), .int 58]))] H175 := hP
  have hD : va_D A [(tr, .inr (5, [.ref tlk, .ref tth, .ref tpl, .ref tgm, .int 0, .int 0, .int 1, .int (-1), .int 1, .int 58, .int 18, .int 58])), (tgm, .inr (2, [.int 1, .int 58, .int 0, .int 0, .int 0, .int (-1), .long 0])), (tp0, .inr (4, [.int 1, .int (-1), .int (-1), .int 58]))] := hD
  refine lv_pop hx hb dX6_endsAt_54 rfl ?_
  refine lv_iinc (v := 58) (lv' := [(1, .int 58), (0, .ref x)]) hx hb dX6_endsAt_55 hl (k := 0) rfl (by decide) (by decide) rfl (fun ls hl => ?_)
  refine lv_goto (tgt := 28) hx hb dX6_endsAt_58 (by decide) ?_
  refine lv_iload_n hx hb dX6_endsAt_28 rfl (lv_at hl 0 rfl) ?_
  refine lv_bipush (v := 60) hx hb dX6_endsAt_29 (by decide) ?_
  refine lv_icmp_ge (tgt := 61) hx hb dX6_endsAt_31 (by decide) (fun h => absurd h (by decide)) (fun _ => ?_)
  refine lv_aload_n hx hb dX6_endsAt_34 rfl (lv_at hl 1 rfl) ?_
  refine va_get (D := (dC, dI)) (ci := 8) (v := .ref tr) (C := RX6) (T := TX6) (N := 3) hx hb hts zi_X6_endsAt_X6 hown hK (zo_R hR0 hS hAr) 0 rfl rfl 1 (by decide) (hts (.fieldLink RX6 16 "LockRooms" "trial" "LLockRooms$Room;") (by decide +kernel)) (fun _ h9 => h9) rfl dX6_endsAt_35 ?_
  refine va_get (D := (dC, dI)) (ci := 5) (v := .ref tgm) (C := RX3) (T := TX3) (N := 12) hx hb hts zi_X6_endsAt_X3 hown hK hP 0 rfl rfl 3 (by decide) (hts (.fieldLink RX6 41 "LockRooms$Room" "games" "LLockRooms$Games;") (by decide +kernel)) (fun _ h9 => h9) rfl dX6_endsAt_38 ?_
  refine va_get (D := (dC, dI)) (ci := 2) (v := .int 1) (C := RX0) (T := TX0) (N := 7) hx hb hts zi_X6_endsAt_X0 hown hK hP 1 rfl rfl 0 (by decide) (hts (.fieldLink RX6 45 "LockRooms$Games" "isRunning" "Z") (by decide +kernel)) (fun _ h9 => h9) rfl dX6_endsAt_41 ?_
  refine lv_if_eq (tgt := 61) hx hb dX6_endsAt_44 (by decide) (fun h => absurd h (by decide)) (fun _ => ?_)
  refine lv_aload_n hx hb dX6_endsAt_47 rfl (lv_at hl 1 rfl) ?_
  refine va_get (D := (dC, dI)) (ci := 8) (v := .ref tr) (C := RX6) (T := TX6) (N := 3) hx hb hts zi_X6_endsAt_X6 hown hK (zo_R hR0 hS hAr) 0 rfl rfl 1 (by decide) (hts (.fieldLink RX6 16 "LockRooms" "trial" "LLockRooms$Room;") (by decide +kernel)) (fun _ h9 => h9) rfl dX6_endsAt_48 ?_
  have hPr := ((zo_R hR0 hS hAr)).sub (ws' := [(tpl, .inl (tcP, 6, .inr (.inr (.inr (.inr tfp)))))]) [5] rfl
  have hPc := hP.sub (ws' := [(tr, .inr (5, [.ref tlk, .ref tth, .ref tpl, .ref tgm, .int 0, .int 0, .int 1, .int (-1), .int 1, .int 58, .int 18, .int 58])), (tgm, .inr (2, [.int 1, .int 58, .int 0, .int 0, .int 0, .int (-1), .long 0])), (tp0, .inr (4, [.int 1, .int (-1), .int (-1), .int 58]))]) [0, 1, 2] rfl
  have hDc := hD.sub (ws' := [(tr, .inr (5, [.ref tlk, .ref tth, .ref tpl, .ref tgm, .int 0, .int 0, .int 1, .int (-1), .int 1, .int 58, .int 18, .int 58])), (tgm, .inr (2, [.int 1, .int 58, .int 0, .int 0, .int 0, .int (-1), .long 0])), (tp0, .inr (4, [.int 1, .int (-1), .int (-1), .int 58]))]) [0, 1, 2] (by decide) rfl
  have hKc := hK.sub (tys' := [(tcP, .object "LockRooms$Player")]) [1] rfl
  have hFc := va_free (wc := [(tr, .inr (5, [.ref tlk, .ref tth, .ref tpl, .ref tgm, .int 0, .int 0, .int 1, .int (-1), .int 1, .int 58, .int 18, .int 58])), (tgm, .inr (2, [.int 1, .int 58, .int 0, .int 0, .int 0, .int (-1), .long 0])), (tp0, .inr (4, [.int 1, .int (-1), .int (-1), .int 58]))]) hD hS hA [0, 1, 2] rfl
  refine va_calli (va_runV (As := []) (rest := []) ⟨hx, hb, hml, hown, hts⟩ (cz_RmidMinute l dC dI ed H175.size tr tlk tth tpl tgm tcP tfp tp0 58 hkt (by decide)) (cwV 0 hts gX6_endsAt_X3_letMinuteGoBy rfl rfl rfl (by decide +kernel) ⟨Nat.le_of_ble_eq_true rfl, Nat.le_of_ble_eq_true rfl⟩) ⟨zb_blind, va_recv hK hP (ci := 5) (q0 := 0) rfl rfl, fun U hU hW => ⟨rfl, zb_mk hU hW hPr hPc hKc hDc hN hH hS hFc (zx_cons (zx_r (hAr _ (List.mem_of_getElem? (i := 5) rfl)) hDc) zx_nil)⟩⟩ rfl rfl hl.1 rfl (lv_room (Nat.le_of_ble_eq_true rfl)) dX6_endsAt_51 ⟨Nat.le_of_ble_eq_true rfl, Nat.le_of_ble_eq_true rfl⟩) hS (fun q _ h => hFc q h) hFc (fun r179 u t H178 locs ht hvm hw hB hz1 hk1 hS => ?_)
  obtain rfl : r179 = 0 := hw
  obtain ⟨w1_180, hf180_0, hP1, hD1, hK1⟩ := hB
  obtain rfl : w1_180 = 59 := hf180_0.trans (by first | rfl | decide +kernel)
  rw [ht] at hP1
  obtain ⟨hP, hD⟩ := va_join (wr := []) (w1 := [(tr, .inr (5, [.ref tlk, .ref tth, .ref tpl, .ref tgm, .int 0, .int 0, .int 1, .int (-1), .int 1, .int 59, .int 18, .int 59])), (tgm, .inr (2, [.int 1, .int 59, .int 0, .int 0, .int 0, .int (-1), .long 0])), (tp0, .inr (4, [.int 1, .int (-1), .int (-1), .int 59]))]) hP hD [0, 1, 2] [] rfl rfl (by decide) (by decide) hk1 hFc hP1 hD1
  have hP : va_P (dC, dI) vwCl [(tr, .inr (5, [.ref tlk, .ref tth, .ref tpl, .ref tgm, .int 0, .int 0, .int 1, .int (-1), .int 1, .int 59, .int 18, .int 59])), (tgm, .inr (2, [.int 1, .int 59, .int 0, .int 0, .int 0, .int (-1), .long 0])), (tp0, .inr (4, [.int 1, .int (-1), .int (-1), .int 59]))] H178 := hP
  have hD : va_D A [(tr, .inr (5, [.ref tlk, .ref tth, .ref tpl, .ref tgm, .int 0, .int 0, .int 1, .int (-1), .int 1, .int 59, .int 18, .int 59])), (tgm, .inr (2, [.int 1, .int 59, .int 0, .int 0, .int 0, .int (-1), .long 0])), (tp0, .inr (4, [.int 1, .int (-1), .int (-1), .int 59]))] := hD
  refine lv_pop hx hb dX6_endsAt_54 rfl ?_
  refine lv_iinc (v := 59) (lv' := [(1, .int 59), (0, .ref x)]) hx hb dX6_endsAt_55 hl (k := 0) rfl (by decide) (by decide) rfl (fun ls hl => ?_)
  refine lv_goto (tgt := 28) hx hb dX6_endsAt_58 (by decide) ?_
  refine lv_iload_n hx hb dX6_endsAt_28 rfl (lv_at hl 0 rfl) ?_
  refine lv_bipush (v := 60) hx hb dX6_endsAt_29 (by decide) ?_
  refine lv_icmp_ge (tgt := 61) hx hb dX6_endsAt_31 (by decide) (fun h => absurd h (by decide)) (fun _ => ?_)
  refine lv_aload_n hx hb dX6_endsAt_34 rfl (lv_at hl 1 rfl) ?_
  refine va_get (D := (dC, dI)) (ci := 8) (v := .ref tr) (C := RX6) (T := TX6) (N := 3) hx hb hts zi_X6_endsAt_X6 hown hK (zo_R hR0 hS hAr) 0 rfl rfl 1 (by decide) (hts (.fieldLink RX6 16 "LockRooms" "trial" "LLockRooms$Room;") (by decide +kernel)) (fun _ h9 => h9) rfl dX6_endsAt_35 ?_
  refine va_get (D := (dC, dI)) (ci := 5) (v := .ref tgm) (C := RX3) (T := TX3) (N := 12) hx hb hts zi_X6_endsAt_X3 hown hK hP 0 rfl rfl 3 (by decide) (hts (.fieldLink RX6 41 "LockRooms$Room" "games" "LLockRooms$Games;") (by decide +kernel)) (fun _ h9 => h9) rfl dX6_endsAt_38 ?_
  refine va_get (D := (dC, dI)) (ci := 2) (v := .int 1) (C := RX0) (T := TX0) (N := 7) hx hb hts zi_X6_endsAt_X0 hown hK hP 1 rfl rfl 0 (by decide) (hts (.fieldLink RX6 45 "LockRooms$Games" "isRunning" "Z") (by decide +kernel)) (fun _ h9 => h9) rfl dX6_endsAt_41 ?_
  refine lv_if_eq (tgt := 61) hx hb dX6_endsAt_44 (by decide) (fun h => absurd h (by decide)) (fun _ => ?_)
  refine lv_aload_n hx hb dX6_endsAt_47 rfl (lv_at hl 1 rfl) ?_
  refine va_get (D := (dC, dI)) (ci := 8) (v := .ref tr) (C := RX6) (T := TX6) (N := 3) hx hb hts zi_X6_endsAt_X6 hown hK (zo_R hR0 hS hAr) 0 rfl rfl 1 (by decide) (hts (.fieldLink RX6 16 "LockRooms" "trial" "LLockRooms$Room;") (by decide +kernel)) (fun _ h9 => h9) rfl dX6_endsAt_48 ?_
  have hPr := ((zo_R hR0 hS hAr)).sub (ws' := [(tpl, .inl (tcP, 6, .inr (.inr (.inr (.inr tfp)))))]) [5] rfl
  have hPc := hP.sub (ws' := [(tr, .inr (5, [.ref tlk, .ref tth, .ref tpl, .ref tgm, .int 0, .int 0, .int 1, .int (-1), .int 1, .int 59, .int 18, .int 59])), (tgm, .inr (2, [.int 1, .int 59, .int 0, .int 0, .int 0, .int (-1), .long 0])), (tp0, .inr (4, [.int 1, .int (-1), .int (-1), .int 59]))]) [0, 1, 2] rfl
  have hDc := hD.sub (ws' := [(tr, .inr (5, [.ref tlk, .ref tth, .ref tpl, .ref tgm, .int 0, .int 0, .int 1, .int (-1), .int 1, .int 59, .int 18, .int 59])), (tgm, .inr (2, [.int 1, .int 59, .int 0, .int 0, .int 0, .int (-1), .long 0])), (tp0, .inr (4, [.int 1, .int (-1), .int (-1), .int 59]))]) [0, 1, 2] (by decide) rfl
  have hKc := hK.sub (tys' := [(tcP, .object "LockRooms$Player")]) [1] rfl
  have hFc := va_free (wc := [(tr, .inr (5, [.ref tlk, .ref tth, .ref tpl, .ref tgm, .int 0, .int 0, .int 1, .int (-1), .int 1, .int 59, .int 18, .int 59])), (tgm, .inr (2, [.int 1, .int 59, .int 0, .int 0, .int 0, .int (-1), .long 0])), (tp0, .inr (4, [.int 1, .int (-1), .int (-1), .int 59]))]) hD hS hA [0, 1, 2] rfl
  refine va_calli (va_runV (As := []) (rest := []) ⟨hx, hb, hml, hown, hts⟩ (cz_RlastMinute l dC dI ed H178.size tr tlk tth tpl tgm tcP tfp tp0 hkt) (cwV 0 hts gX6_endsAt_X3_letMinuteGoBy rfl rfl rfl (by decide +kernel) ⟨Nat.le_of_ble_eq_true rfl, Nat.le_of_ble_eq_true rfl⟩) ⟨zb_blind, va_recv hK hP (ci := 5) (q0 := 0) rfl rfl, fun U hU hW => ⟨rfl, zb_mk hU hW hPr hPc hKc hDc hN hH hS hFc (zx_cons (zx_r (hAr _ (List.mem_of_getElem? (i := 5) rfl)) hDc) zx_nil)⟩⟩ rfl rfl hl.1 rfl (lv_room (Nat.le_of_ble_eq_true rfl)) dX6_endsAt_51 ⟨Nat.le_of_ble_eq_true rfl, Nat.le_of_ble_eq_true rfl⟩) hS (fun q _ h => hFc q h) hFc (fun r182 u t H181 locs ht hvm hw hB hz1 hk1 hS => ?_)
  obtain rfl : r182 = 0 := hw
  obtain ⟨hP1, hD1, hK1⟩ := hB
  rw [ht] at hP1
  obtain ⟨hP, hD⟩ := va_join (wr := []) (w1 := [(tr, .inr (5, [.ref tlk, .ref tth, .ref tpl, .ref tgm, .int 0, .int 0, .int 0, .int (-1), .int 1, .int 60, .int 18, .int 60])), (tgm, .inr (2, [.int 0, .int 60, .int 0, .int 0, .int 1, .int (-1), .long 0])), (tp0, .inr (4, [.int 1, .int (-1), .int (-1), .int 60]))]) hP hD [0, 1, 2] [] rfl rfl (by decide) (by decide) hk1 hFc hP1 hD1
  have hP : va_P (dC, dI) vwCl [(tr, .inr (5, [.ref tlk, .ref tth, .ref tpl, .ref tgm, .int 0, .int 0, .int 0, .int (-1), .int 1, .int 60, .int 18, .int 60])), (tgm, .inr (2, [.int 0, .int 60, .int 0, .int 0, .int 1, .int (-1), .long 0])), (tp0, .inr (4, [.int 1, .int (-1), .int (-1), .int 60]))] H181 := hP
  have hD : va_D A [(tr, .inr (5, [.ref tlk, .ref tth, .ref tpl, .ref tgm, .int 0, .int 0, .int 0, .int (-1), .int 1, .int 60, .int 18, .int 60])), (tgm, .inr (2, [.int 0, .int 60, .int 0, .int 0, .int 1, .int (-1), .long 0])), (tp0, .inr (4, [.int 1, .int (-1), .int (-1), .int 60]))] := hD
  refine lv_pop hx hb dX6_endsAt_54 rfl ?_
  refine lv_iinc (v := 60) (lv' := [(1, .int 60), (0, .ref x)]) hx hb dX6_endsAt_55 hl (k := 0) rfl (by decide) (by decide) rfl (fun ls hl => ?_)
  refine lv_goto (tgt := 28) hx hb dX6_endsAt_58 (by decide) ?_
  refine lv_iload_n hx hb dX6_endsAt_28 rfl (lv_at hl 0 rfl) ?_
  refine lv_bipush (v := 60) hx hb dX6_endsAt_29 (by decide) ?_
  refine lv_icmp_ge (tgt := 61) hx hb dX6_endsAt_31 (by decide) (fun _ => ?_) (fun h => absurd h (by decide))
  refine lv_aload_n hx hb dX6_endsAt_61 rfl (lv_at hl 1 rfl) ?_
  refine va_get (D := (dC, dI)) (ci := 8) (v := .ref tr) (C := RX6) (T := TX6) (N := 3) hx hb hts zi_X6_endsAt_X6 hown hK (zo_R hR0 hS hAr) 0 rfl rfl 1 (by decide) (hts (.fieldLink RX6 16 "LockRooms" "trial" "LLockRooms$Room;") (by decide +kernel)) (fun _ h9 => h9) rfl dX6_endsAt_62 ?_
  refine va_get (D := (dC, dI)) (ci := 5) (v := .ref tgm) (C := RX3) (T := TX3) (N := 12) hx hb hts zi_X6_endsAt_X3 hown hK hP 0 rfl rfl 3 (by decide) (hts (.fieldLink RX6 41 "LockRooms$Room" "games" "LLockRooms$Games;") (by decide +kernel)) (fun _ h9 => h9) rfl dX6_endsAt_65 ?_
  refine va_get (D := (dC, dI)) (ci := 2) (v := .int 0) (C := RX0) (T := TX0) (N := 7) hx hb hts zi_X6_endsAt_X0 hown hK hP 1 rfl rfl 3 (by decide) (hts (.fieldLink RX6 232 "LockRooms$Games" "solved" "I") (by decide +kernel)) (fun _ h9 => h9) rfl dX6_endsAt_68 ?_
  refine lv_aload_n hx hb dX6_endsAt_71 rfl (lv_at hl 1 rfl) ?_
  refine va_get (D := (dC, dI)) (ci := 8) (v := .ref rm) (C := RX6) (T := TX6) (N := 3) hx hb hts zi_X6_endsAt_X6 hown hK (zo_R hR0 hS hAr) 0 rfl rfl 0 (by decide) (hts (.fieldLink RX6 12 "LockRooms" "room" "LLockRooms$Room;") (by decide +kernel)) (fun _ h9 => h9) rfl dX6_endsAt_72 ?_
  refine va_get (D := (dC, dI)) (ci := 5) (v := .ref gm) (C := RX3) (T := TX3) (N := 12) hx hb hts zi_X6_endsAt_X3 hown hK (zo_R hR0 hS hAr) 1 rfl rfl 3 (by decide) (hts (.fieldLink RX6 41 "LockRooms$Room" "games" "LLockRooms$Games;") (by decide +kernel)) (fun _ h9 => h9) rfl dX6_endsAt_75 ?_
  refine va_get (D := (dC, dI)) (ci := 2) (v := .int 0) (C := RX0) (T := TX0) (N := 7) hx hb hts zi_X6_endsAt_X0 hown hK (zo_R hR0 hS hAr) 2 rfl rfl 3 (by decide) (hts (.fieldLink RX6 232 "LockRooms$Games" "solved" "I") (by decide +kernel)) (fun _ h9 => h9) rfl dX6_endsAt_78 ?_
  refine lv_icmp_le (tgt := 97) hx hb dX6_endsAt_81 (by decide) (fun _ => ?_) (fun h => absurd h (by decide))
  refine lv_iconst (v := (-1)) hx hb dX6_endsAt_97 (by decide) ?_
  refine W.widen (k := 0) (n := 0) (Nat.le_of_ble_eq_true rfl) (Nat.le_of_ble_eq_true rfl) ?_
  have hP9 := hP.sub (ws' := [(tr, .inr (5, [.ref tlk, .ref tth, .ref tpl, .ref tgm, .int 0, .int 0, .int 0, .int (-1), .int 1, .int 60, .int 18, .int 60])), (tgm, .inr (2, [.int 0, .int 60, .int 0, .int 0, .int 1, .int (-1), .long 0])), (tp0, .inr (4, [.int 1, .int (-1), .int (-1), .int 60]))]) [0, 1, 2] rfl
  have hD9 := hD.sub (ws' := [(tr, .inr (5, [.ref tlk, .ref tth, .ref tpl, .ref tgm, .int 0, .int 0, .int 0, .int (-1), .int 1, .int 60, .int 18, .int 60])), (tgm, .inr (2, [.int 0, .int 60, .int 0, .int 0, .int 1, .int (-1), .long 0])), (tp0, .inr (4, [.int 1, .int (-1), .int (-1), .int 60]))]) [0, 1, 2] (by decide) rfl
  have hK9 := hK.sub (tys' := []) [] rfl
  exact W.iret hx hb hr (fun t ht hW => ⟨⟨(-1), (), rfl, rfl, ⟨by rw [ht]; exact hP9, hD9, va_K.moved hW.alike hK9⟩⟩, hS.F ht⟩) hS.2.2 dX6_endsAt_98

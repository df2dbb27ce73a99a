set_option maxRecDepth 20000 in
theorem zi_X4_endOfStands_X3 : ∀ w ∈ u_ws RX3 TX3 12, w ∈ wsX4_endOfStands := by decide +kernel
set_option maxHeartbeats 4000000 in
set_option maxRecDepth 100000 in
theorem cz_endOfStands (l : Launch) (dC : Nat → ClassId) (dI : Nat → Nat → Nat) (ed sz : Nat) (st : Nat) (rm : Nat) (lk : Nat) (th : Nat) (pl : Nat) (gm : Nat) : Met l yX4_endOfStands wsX4_endOfStands ({ frames := 1, cells := 0, slots := 0, locals := 13 } : Jvm.Room) (va_Pc [.ref st, .ref rm] (zB dC dI ed sz [(rm, .inr (5, [.ref lk, .ref th, .ref pl, .ref gm, .int 0, .int 0, .int 0, .int (-1), .int 1, .int 0, .int 0, .int 0]))] [] [])) (va_Qi (fun (r : Int32) (_ : Unit) => r = 1) (fun (_ : Unit) (_ : State) => True) (va_A [] sz)) 0 0 (va_A [] sz) := by
  refine Met.ofW (cc := cX4_endOfStands) (maxL := 2) (ret := (some .int)) (by decide) rfl ?_
  intro p e s m args below meth c s₁ B hml hv
  obtain ⟨rfl, hsz, hR0, hP, hK, hD0, hN, hH, hX0⟩ := hv
  have hx := B.exec
  have hb := B.bytes
  have hr := B.returns
  have hts := atoms_spec (ws := wsX4_endOfStands) B.pre
  have hown : s.vm.findClass RX4 = some m.cls := findClass_of_methodNamed B.named
  have hlocks := B.notSynchronized
  subst hsz
  have hD := hD0.self (sz := s.heap.size)
  have hAr := zx_A hX0 hR0
  generalize hAe : va_A [] s.heap.size = A at hD hAr hH ⊢
  have hA : ∀ q : Nat, s.heap.size ≤ q → A q := fun q h => by rw [← hAe]; exact Or.inr h
  have hS : va_S A s.heap s.heap [] := va_S.rf
  have hl := lv_entry ([.ref st, .ref rm]) (n := 2) (Nat.le_of_ble_eq_true rfl)
  rw [lg_entry_eq]
  generalize (lg_sl ([.ref st, .ref rm]) ++ List.replicate (2 - (lg_sl ([.ref st, .ref rm])).length) Slot.unset).toArray = ls at hl ⊢
  have hl : lv_has ls 2 [(0, .ref st), (1, .ref rm)] := hl
  refine lv_iconst (v := 1) hx hb dX4_endOfStands_0 (by decide) ?_
  refine lv_aload_n hx hb dX4_endOfStands_1 rfl (lv_at hl 1 rfl) ?_
  refine va_get (D := (dC, dI)) (ci := 5) (v := .int 0) (C := RX3) (T := TX3) (N := 12) hx hb hts zi_X4_endOfStands_X3 hown hK hR0 0 rfl rfl 4 (by decide) (hts (.fieldLink RX4 51 "LockRooms$Room" "lockCount" "I") (by decide +kernel)) (fun _ h9 => h9) rfl dX4_endOfStands_2 ?_
  refine lv_ishl hx hb dX4_endOfStands_5 ?_
  refine zo_i (v := 1) (by decide) ?_
  refine lv_sipush (v := 1024) hx hb dX4_endOfStands_6 (by decide) ?_
  refine va_mmin hx hb (hml.trans hl.1.symm) hown (hts (.methodLink RX4 58 Lib.Math.min.name) (by decide +kernel)) (hts (.static Lib.Math.min.name) (by decide +kernel)) (hts (.initialized "java/lang/Math") (by decide +kernel)) (hts (.code Lib.Math.min.name Lib.Math.min.code 2 (some .int)) (by decide +kernel)) (Nat.le_of_ble_eq_true rfl) (Nat.le_of_ble_eq_true rfl) (Nat.le_of_ble_eq_true rfl) (Nat.le_of_ble_eq_true rfl) dX4_endOfStands_9 ?_
  refine zo_i (v := 1) (by decide) ?_
  refine W.widen (k := 0) (n := 0) (Nat.le_of_ble_eq_true rfl) (Nat.le_of_ble_eq_true rfl) ?_
  exact W.iret hx hb hr (fun t ht hW => ⟨⟨1, (), rfl, rfl, trivial⟩, hS.F ht⟩) hS.2.2 dX4_endOfStands_12

set_option maxRecDepth 20000 in
theorem zi_X4_yetBehind_X4 : ∀ w ∈ u_ws RX4 TX4 3, w ∈ wsX4_yetBehind := by decide +kernel
set_option maxHeartbeats 4000000 in
set_option maxRecDepth 100000 in
theorem cz_yetBehind_n1 (l : Launch) (dC : Nat → ClassId) (dI : Nat → Nat → Nat) (ed sz : Nat) (st : Nat) (a1 : Nat) (a2 : Nat) (a3 : Nat) (cJ : ClassId) (f3 : Nat → Int32) (hk0 : f3 0 = -1) : Met l yX4_yetBehind wsX4_yetBehind ({ frames := 0, cells := 0, slots := 0, locals := 0 } : Jvm.Room) (va_Pc [.ref st, .int 0] (zB dC dI ed sz [(st, .inr (6, [.ref a1, .ref a2, .ref a3])), (a3, .inl (cJ, 1024, .inl f3))] [] [(cJ, .int)])) (va_Qi (fun (r : Int32) (_ : Unit) => r = (-1)) (fun (_ : Unit) (_ : State) => True) (va_A [] sz)) 0 0 (va_A [] sz) := by
  refine Met.ofW (cc := cX4_yetBehind) (maxL := 2) (ret := (some .int)) (by decide) rfl ?_
  intro p e s m args below meth c s₁ B hml hv
  obtain ⟨rfl, hsz, hR0, hP, hK, hD0, hN, hH, hX0⟩ := hv
  have hx := B.exec
  have hb := B.bytes
  have hr := B.returns
  have hts := atoms_spec (ws := wsX4_yetBehind) B.pre
  have hown : s.vm.findClass RX4 = some m.cls := findClass_of_methodNamed B.named
  have hlocks := B.notSynchronized
  subst hsz
  have hD := hD0.self (sz := s.heap.size)
  have hAr := zx_A hX0 hR0
  generalize hAe : va_A [] s.heap.size = A at hD hAr hH ⊢
  have hA : ∀ q : Nat, s.heap.size ≤ q → A q := fun q h => by rw [← hAe]; exact Or.inr h
  have hS : va_S A s.heap s.heap [] := va_S.rf
  have hl := lv_entry ([.ref st, .int 0]) (n := 2) (Nat.le_of_ble_eq_true rfl)
  rw [lg_entry_eq]
  generalize (lg_sl ([.ref st, .int 0]) ++ List.replicate (2 - (lg_sl ([.ref st, .int 0])).length) Slot.unset).toArray = ls at hl ⊢
  have hl : lv_has ls 2 [(0, .ref st), (1, .int 0)] := hl
  refine lv_iload_n hx hb dX4_yetBehind_0 rfl (lv_at hl 1 rfl) ?_
  refine lv_if_lt (tgt := 20) hx hb dX4_yetBehind_1 (by decide) (fun h => absurd h (by decide)) (fun _ => ?_)
  refine lv_iload_n hx hb dX4_yetBehind_4 rfl (lv_at hl 1 rfl) ?_
  refine lv_sipush (v := 1024) hx hb dX4_yetBehind_5 (by decide) ?_
  refine lv_icmp_ge (tgt := 20) hx hb dX4_yetBehind_8 (by decide) (fun h => absurd h (by decide)) (fun _ => ?_)
  refine lv_aload_n hx hb dX4_yetBehind_11 rfl (lv_at hl 0 rfl) ?_
  refine va_get (D := (dC, dI)) (ci := 6) (v := .ref a3) (C := RX4) (T := TX4) (N := 3) hx hb hts zi_X4_yetBehind_X4 hown hK hR0 0 rfl rfl 2 (by decide) (hts (.fieldLink RX4 19 "LockRooms$Stands" "yet" "[I") (by decide +kernel)) (fun _ h9 => h9) rfl dX4_yetBehind_12 ?_
  refine lv_iload_n hx hb dX4_yetBehind_15 rfl (lv_at hl 1 rfl) ?_
  refine va_iald hx hb hK hR0 1 0 rfl rfl (by unfold vp_in; decide) dX4_yetBehind_16 ?_
  refine zo_i (v := (-1)) (by rw [show Int32.toNatClampNeg 0 = 0 from by decide]; exact hk0) ?_
  refine lv_goto (tgt := 21) hx hb dX4_yetBehind_17 (by decide) ?_
  refine W.widen (k := 0) (n := 0) (Nat.le_of_ble_eq_true rfl) (Nat.le_of_ble_eq_true rfl) ?_
  exact W.iret hx hb hr (fun t ht hW => ⟨⟨(-1), (), rfl, rfl, trivial⟩, hS.F ht⟩) hS.2.2 dX4_yetBehind_21

set_option maxRecDepth 20000 in
theorem zi_X4_leastYet_X3 : ∀ w ∈ u_ws RX3 TX3 12, w ∈ wsX4_leastYet := by decide +kernel
set_option maxHeartbeats 4000000 in
set_option maxRecDepth 100000 in
theorem cz_leastYet (l : Launch) (dC : Nat → ClassId) (dI : Nat → Nat → Nat) (ed sz : Nat) (st : Nat) (rm : Nat) (lk : Nat) (th : Nat) (pl : Nat) (gm : Nat) : Met l yX4_leastYet wsX4_leastYet ({ frames := 0, cells := 0, slots := 0, locals := 0 } : Jvm.Room) (va_Pc [.ref st, .ref rm, .int 0] (zB dC dI ed sz [(rm, .inr (5, [.ref lk, .ref th, .ref pl, .ref gm, .int 0, .int 0, .int 0, .int (-1), .int 1, .int 0, .int 0, .int 0]))] [] [])) (va_Qi (fun (r : Int32) (_ : Unit) => r = (-1)) (fun (_ : Unit) (_ : State) => True) (va_A [] sz)) 0 0 (va_A [] sz) := by
  refine Met.ofW (cc := cX4_leastYet) (maxL := 6) (ret := (some .int)) (by decide) rfl ?_
  intro p e s m args below meth c s₁ B hml hv
  obtain ⟨rfl, hsz, hR0, hP, hK, hD0, hN, hH, hX0⟩ := hv
  have hx := B.exec
  have hb := B.bytes
  have hr := B.returns
  have hts := atoms_spec (ws := wsX4_leastYet) B.pre
  have hown : s.vm.findClass RX4 = some m.cls := findClass_of_methodNamed B.named
  have hlocks := B.notSynchronized
  subst hsz
  have hD := hD0.self (sz := s.heap.size)
  have hAr := zx_A hX0 hR0
  generalize hAe : va_A [] s.heap.size = A at hD hAr hH ⊢
  have hA : ∀ q : Nat, s.heap.size ≤ q → A q := fun q h => by rw [← hAe]; exact Or.inr h
  have hS : va_S A s.heap s.heap [] := va_S.rf
  have hl := lv_entry ([.ref st, .ref rm, .int 0]) (n := 6) (Nat.le_of_ble_eq_true rfl)
  rw [lg_entry_eq]
  generalize (lg_sl ([.ref st, .ref rm, .int 0]) ++ List.replicate (6 - (lg_sl ([.ref st, .ref rm, .int 0])).length) Slot.unset).toArray = ls at hl ⊢
  have hl : lv_has ls 6 [(0, .ref st), (1, .ref rm), (2, .int 0)] := hl
  refine lv_iconst (v := (-1)) hx hb dX4_leastYet_0 (by decide) ?_
  refine lv_istore_n (lv' := [(3, .int (-1)), (0, .ref st), (1, .ref rm), (2, .int 0)]) hx hb dX4_leastYet_1 rfl hl (by decide) rfl (fun ls hl => ?_)
  refine lv_iconst (v := 0) hx hb dX4_leastYet_2 (by decide) ?_
  refine lv_istore (lv' := [(4, .int 0), (3, .int (-1)), (0, .ref st), (1, .ref rm), (2, .int 0)]) hx hb dX4_leastYet_3 hl (by decide) rfl (fun ls hl => ?_)
  refine lv_iload hx hb dX4_leastYet_5 (lv_at hl 0 rfl) ?_
  refine lv_aload_n hx hb dX4_leastYet_7 rfl (lv_at hl 3 rfl) ?_
  refine va_get (D := (dC, dI)) (ci := 5) (v := .int 0) (C := RX3) (T := TX3) (N := 12) hx hb hts zi_X4_leastYet_X3 hown hK hR0 0 rfl rfl 4 (by decide) (hts (.fieldLink RX4 51 "LockRooms$Room" "lockCount" "I") (by decide +kernel)) (fun _ h9 => h9) rfl dX4_leastYet_8 ?_
  refine lv_icmp_ge (tgt := 74) hx hb dX4_leastYet_11 (by decide) (fun _ => ?_) (fun h => absurd h (by decide))
  refine lv_iload_n hx hb dX4_leastYet_74 rfl (lv_at hl 1 rfl) ?_
  refine W.widen (k := 0) (n := 0) (Nat.le_of_ble_eq_true rfl) (Nat.le_of_ble_eq_true rfl) ?_
  exact W.iret hx hb hr (fun t ht hW => ⟨⟨(-1), (), rfl, rfl, trivial⟩, hS.F ht⟩) hS.2.2 dX4_leastYet_75

set_option maxRecDepth 20000 in
theorem zi_X4_goOn_X3 : ∀ w ∈ u_ws RX3 TX3 12, w ∈ wsX4_goOn := by decide +kernel
set_option maxRecDepth 20000 in
theorem zi_X4_goOn_X4 : ∀ w ∈ u_ws RX4 TX4 3, w ∈ wsX4_goOn := by decide +kernel
set_option maxHeartbeats 4000000 in
set_option maxRecDepth 100000 in
theorem cz_goOn (l : Launch) (dC : Nat → ClassId) (dI : Nat → Nat → Nat) (ed sz : Nat) (st : Nat) (a1 : Nat) (a2 : Nat) (a3 : Nat) (cI : ClassId) (f2 : Nat → Int32) (rm : Nat) (lk : Nat) (th : Nat) (pl : Nat) (gm : Nat) : Met l yX4_goOn wsX4_goOn ({ frames := 2, cells := 0, slots := 0, locals := 46 } : Jvm.Room) (va_Pc [.ref st, .ref rm, .int 0, .int 0] (zB dC dI ed sz [(st, .inr (6, [.ref a1, .ref a2, .ref a3])), (rm, .inr (5, [.ref lk, .ref th, .ref pl, .ref gm, .int 0, .int 0, .int 0, .int (-1), .int 1, .int 0, .int 0, .int 0]))] [(a2, .inl (cI, 1024, .inl f2))] [(cI, .int)])) (va_Qv (fun (_ : Unit) => True) (fun (_ : Unit) (t : State) => ∃ (g2 : Nat → Int32), va_P (dC, dI) vwCl [(a2, .inl (cI, 1024, .inl g2))] t.heap ∧ va_D (va_A [(a2, .inl (cI, 1024, .inl f2))] sz) [(a2, .inl (cI, 1024, .inl g2))] ∧ va_K (dC, dI) vwCl [(cI, .int)] t) (va_A [(a2, .inl (cI, 1024, .inl f2))] sz)) 0 0 (va_A [(a2, .inl (cI, 1024, .inl f2))] sz) := by
  refine Met.ofW (cc := cX4_goOn) (maxL := 8) (ret := none) (by decide) rfl ?_
  intro p e s m args below meth c s₁ B hml hv
  obtain ⟨rfl, hsz, hR0, hP, hK, hD0, hN, hH, hX0⟩ := hv
  have hx := B.exec
  have hb := B.bytes
  have hr := B.returns
  have hts := atoms_spec (ws := wsX4_goOn) B.pre
  have hown : s.vm.findClass RX4 = some m.cls := findClass_of_methodNamed B.named
  have hlocks := B.notSynchronized
  subst hsz
  have hD := hD0.self (sz := s.heap.size)
  have hAr := zx_A hX0 hR0
  generalize hAe : va_A [(a2, .inl (cI, 1024, .inl f2))] s.heap.size = A at hD hAr hH ⊢
  have hA : ∀ q : Nat, s.heap.size ≤ q → A q := fun q h => by rw [← hAe]; exact Or.inr h
  have hS : va_S A s.heap s.heap [] := va_S.rf
  have hl := lv_entry ([.ref st, .ref rm, .int 0, .int 0]) (n := 8) (Nat.le_of_ble_eq_true rfl)
  rw [lg_entry_eq]
  generalize (lg_sl ([.ref st, .ref rm, .int 0, .int 0]) ++ List.replicate (8 - (lg_sl ([.ref st, .ref rm, .int 0, .int 0])).length) Slot.unset).toArray = ls at hl ⊢
  have hl : lv_has ls 8 [(0, .ref st), (1, .ref rm), (2, .int 0), (3, .int 0)] := hl
  refine lv_aload_n hx hb dX4_goOn_0 rfl (lv_at hl 1 rfl) ?_
  refine lv_iload_n hx hb dX4_goOn_1 rfl (lv_at hl 2 rfl) ?_
  have hPr := (hR0).sub (ws' := [(rm, .inr (5, [.ref lk, .ref th, .ref pl, .ref gm, .int 0, .int 0, .int 0, .int (-1), .int 1, .int 0, .int 0, .int 0]))]) [1] rfl
  have hPc := hP.sub (ws' := []) [] rfl
  have hDc := hD.sub (ws' := []) [] (by decide) rfl
  have hKc := hK.sub (tys' := []) [] rfl
  have hFc := va_free (wc := []) hD hS hA [] rfl
  refine va_calli (va_runV (As := [.int 0]) (rest := []) ⟨hx, hb, hml, hown, hts⟩ (cz_thingsAtHand l dC dI ed s.heap.size rm lk th pl gm 0) (cwV 1 hts gX4_goOn_X3_thingsAtHand rfl rfl rfl (by decide +kernel) ⟨Nat.le_of_ble_eq_true rfl, Nat.le_of_ble_eq_true rfl⟩) ⟨zb_blind, va_recv hK hR0 (ci := 5) (q0 := 1) rfl rfl, fun U hU hW => ⟨rfl, zb_mk hU hW hPr hPc hKc hDc hN hH hS hFc zx_e⟩⟩ rfl rfl hl.1 rfl (lv_room (Nat.le_of_ble_eq_true rfl)) dX4_goOn_2 ⟨Nat.le_of_ble_eq_true rfl, Nat.le_of_ble_eq_true rfl⟩) hS (fun q _ h => hFc q h) hFc (fun r2 u t H1 locs ht hvm hw hB hz1 hk1 hS => ?_)
  obtain rfl : r2 = 0 := hw
  have hP := zo_K hP hk1
  refine lv_iload_n hx hb dX4_goOn_5 rfl (lv_at hl 3 rfl) ?_
  refine lv_iconst (v := (-1)) hx hb dX4_goOn_6 (by decide) ?_
  refine lv_ixor hx hb dX4_goOn_7 ?_
  refine zo_i (v := (-1)) (by decide) ?_
  refine lv_iand hx hb dX4_goOn_8 ?_
  refine zo_i (v := 0) (by decide) ?_
  refine lv_istore (lv' := [(4, .int 0), (0, .ref st), (1, .ref rm), (2, .int 0), (3, .int 0)]) hx hb dX4_goOn_9 hl (by decide) rfl (fun ls hl => ?_)
  refine lv_iconst (v := 0) hx hb dX4_goOn_11 (by decide) ?_
  refine lv_istore (lv' := [(5, .int 0), (4, .int 0), (0, .ref st), (1, .ref rm), (2, .int 0), (3, .int 0)]) hx hb dX4_goOn_12 hl (by decide) rfl (fun ls hl => ?_)
  refine lv_iconst (v := 0) hx hb dX4_goOn_14 (by decide) ?_
  refine lv_istore (lv' := [(6, .int 0), (5, .int 0), (4, .int 0), (0, .ref st), (1, .ref rm), (2, .int 0), (3, .int 0)]) hx hb dX4_goOn_15 hl (by decide) rfl (fun ls hl => ?_)
  refine lv_iload hx hb dX4_goOn_17 (lv_at hl 0 rfl) ?_
  refine lv_aload_n hx hb dX4_goOn_19 rfl (lv_at hl 4 rfl) ?_
  refine va_get (D := (dC, dI)) (ci := 5) (v := .int 0) (C := RX3) (T := TX3) (N := 12) hx hb hts zi_X4_goOn_X3 hown hK (zo_R hR0 hS hAr) 1 rfl rfl 4 (by decide) (hts (.fieldLink RX4 51 "LockRooms$Room" "lockCount" "I") (by decide +kernel)) (fun _ h9 => h9) rfl dX4_goOn_20 ?_
  refine lv_icmp_ge (tgt := 86) hx hb dX4_goOn_23 (by decide) (fun _ => ?_) (fun h => absurd h (by decide))
  refine lv_aload_n hx hb dX4_goOn_86 rfl (lv_at hl 3 rfl) ?_
  refine va_get (D := (dC, dI)) (ci := 6) (v := .ref a2) (C := RX4) (T := TX4) (N := 3) hx hb hts zi_X4_goOn_X4 hown hK (zo_R hR0 hS hAr) 0 rfl rfl 1 (by decide) (hts (.fieldLink RX4 15 "LockRooms$Stands" "ways" "[I") (by decide +kernel)) (fun _ h9 => h9) rfl dX4_goOn_87 ?_
  refine lv_iload_n hx hb dX4_goOn_90 rfl (lv_at hl 5 rfl) ?_
  refine lv_iload hx hb dX4_goOn_91 (lv_at hl 1 rfl) ?_
  refine va_iast hx hb hK hP hD hS 0 0 rfl rfl (by unfold vp_in; decide) dX4_goOn_93 (fun H3 locs hP hD hS => ?_)
  obtain ⟨f4, ef4⟩ : ∃ z : Nat → Int32, z = upd f2 0 0 := ⟨_, rfl⟩
  have k5 : f4 0 = 0 := by rw [ef4]; exact pk_us
  have hP : va_P (dC, dI) vwCl [(a2, .inl (cI, 1024, .inl f4))] H3 := by rw [ef4]; exact hP
  have hD : va_D A [(a2, .inl (cI, 1024, .inl f4))] := by rw [ef4]; exact hD
  refine W.widen (k := 0) (n := 0) (Nat.le_of_ble_eq_true rfl) (Nat.le_of_ble_eq_true rfl) ?_
  have hP9 := hP.sub (ws' := [(a2, .inl (cI, 1024, .inl f4))]) [0] rfl
  have hD9 := hD.sub (ws' := [(a2, .inl (cI, 1024, .inl f4))]) [0] (by decide) rfl
  have hK9 := hK.sub (tys' := [(cI, .int)]) [0] rfl
  exact W.vret hx hb hr (fun t ht hW => ⟨⟨(), rfl, trivial, ⟨f4, by rw [ht]; exact hP9, hD9, va_K.moved hW.alike hK9⟩⟩, hS.F ht⟩) hS.2.2 dX4_goOn_94

set_option maxRecDepth 20000 in
theorem zi_X4_explore_X4 : ∀ w ∈ u_ws RX4 TX4 3, w ∈ wsX4_explore := by decide +kernel
set_option maxRecDepth 20000 in
theorem zi_X4_explore_X3 : ∀ w ∈ u_ws RX3 TX3 12, w ∈ wsX4_explore := by decide +kernel
set_option maxHeartbeats 4000000 in
set_option maxRecDepth 100000 in
theorem cz_explore (l : Launch) (dC : Nat → ClassId) (dI : Nat → Nat → Nat) (ed sz : Nat) (st : Nat) (a1 : Nat) (a2 : Nat) (a3 : Nat) (cZ : ClassId) (cI : ClassId) (cJ : ClassId) (f1 : Nat → Int32) (f2 : Nat → Int32) (f3 : Nat → Int32) (rm : Nat) (lk : Nat) (th : Nat) (pl : Nat) (gm : Nat) : Met l yX4_explore wsX4_explore ({ frames := 3, cells := 0, slots := 0, locals := 73 } : Jvm.Room) (va_Pc [.ref st, .ref rm, .int 0] (zB dC dI ed sz [(st, .inr (6, [.ref a1, .ref a2, .ref a3])), (rm, .inr (5, [.ref lk, .ref th, .ref pl, .ref gm, .int 0, .int 0, .int 0, .int (-1), .int 1, .int 0, .int 0, .int 0]))] [(a1, .inl (cZ, 1024, .inl f1)), (a2, .inl (cI, 1024, .inl f2)), (a3, .inl (cJ, 1024, .inl f3))] [(cZ, .boolean), (cI, .int), (cJ, .int)])) (va_Qv (fun (_ : Unit) => True) (fun (_ : Unit) (t : State) => ∃ (g1 : Nat → Int32), ∃ (g2 : Nat → Int32), ∃ (g3 : Nat → Int32), (g1 0 = 1 ∧ g3 0 = (-1)) ∧ va_P (dC, dI) vwCl [(a1, .inl (cZ, 1024, .inl g1)), (a2, .inl (cI, 1024, .inl g2)), (a3, .inl (cJ, 1024, .inl g3))] t.heap ∧ va_D (va_A [(a1, .inl (cZ, 1024, .inl f1)), (a2, .inl (cI, 1024, .inl f2)), (a3, .inl (cJ, 1024, .inl f3))] sz) [(a1, .inl (cZ, 1024, .inl g1)), (a2, .inl (cI, 1024, .inl g2)), (a3, .inl (cJ, 1024, .inl g3))] ∧ va_K (dC, dI) vwCl [(cZ, .boolean), (cI, .int), (cJ, .int)] t) (va_A [(a1, .inl (cZ, 1024, .inl f1)), (a2, .inl (cI, 1024, .inl f2)), (a3, .inl (cJ, 1024, .inl f3))] sz)) 0 0 (va_A [(a1, .inl (cZ, 1024, .inl f1)), (a2, .inl (cI, 1024, .inl f2)), (a3, .inl (cJ, 1024, .inl f3))] sz) := by
  refine Met.ofW (cc := cX4_explore) (maxL := 6) (ret := none) (by decide) rfl ?_
  intro p e s m args below meth c s₁ B hml hv
  obtain ⟨rfl, hsz, hR0, hP, hK, hD0, hN, hH, hX0⟩ := hv
  have hx := B.exec
  have hb := B.bytes
  have hr := B.returns
  have hts := atoms_spec (ws := wsX4_explore) B.pre
  have hown : s.vm.findClass RX4 = some m.cls := findClass_of_methodNamed B.named
  have hlocks := B.notSynchronized
  subst hsz
  have hD := hD0.self (sz := s.heap.size)
  have hAr := zx_A hX0 hR0
  generalize hAe : va_A [(a1, .inl (cZ, 1024, .inl f1)), (a2, .inl (cI, 1024, .inl f2)), (a3, .inl (cJ, 1024, .inl f3))] s.heap.size = A at hD hAr hH ⊢
  have hA : ∀ q : Nat, s.heap.size ≤ q → A q := fun q h => by rw [← hAe]; exact Or.inr h
  have hS : va_S A s.heap s.heap [] := va_S.rf
  have hl := lv_entry ([.ref st, .ref rm, .int 0]) (n := 6) (Nat.le_of_ble_eq_true rfl)
  rw [lg_entry_eq]
  generalize (lg_sl ([.ref st, .ref rm, .int 0]) ++ List.replicate (6 - (lg_sl ([.ref st, .ref rm, .int 0])).length) Slot.unset).toArray = ls at hl ⊢
  have hl : lv_has ls 6 [(0, .ref st), (1, .ref rm), (2, .int 0)] := hl
  refine lv_aload_n hx hb dX4_explore_0 rfl (lv_at hl 0 rfl) ?_
  refine lv_aload_n hx hb dX4_explore_1 rfl (lv_at hl 1 rfl) ?_
  have hPr := (hR0).sub (ws' := [(rm, .inr (5, [.ref lk, .ref th, .ref pl, .ref gm, .int 0, .int 0, .int 0, .int (-1), .int 1, .int 0, .int 0, .int 0]))]) [1] rfl
  have hPc := hP.sub (ws' := []) [] rfl
  have hDc := hD.sub (ws' := []) [] (by decide) rfl
  have hKc := hK.sub (tys' := []) [] rfl
  have hFc := va_free (wc := []) hD hS hA [] rfl
  refine va_calli (va_runV (As := [.ref rm]) (rest := []) ⟨hx, hb, hml, hown, hts⟩ (cz_endOfStands l dC dI ed s.heap.size st rm lk th pl gm) (cwV 1 hts gX4_explore_X4_endOfStands rfl rfl rfl (by decide +kernel) ⟨Nat.le_of_ble_eq_true rfl, Nat.le_of_ble_eq_true rfl⟩) ⟨zb_blind, va_recv hK hR0 (ci := 6) (q0 := 0) rfl rfl, fun U hU hW => ⟨rfl, zb_mk hU hW hPr hPc hKc hDc hN hH hS hFc zx_e⟩⟩ rfl rfl hl.1 rfl (lv_room (Nat.le_of_ble_eq_true rfl)) dX4_explore_2 ⟨Nat.le_of_ble_eq_true rfl, Nat.le_of_ble_eq_true rfl⟩) hS (fun q _ h => hFc q h) hFc (fun r2 u t H1 locs ht hvm hw hB hz1 hk1 hS => ?_)
  obtain rfl : r2 = 1 := hw
  have hP := zo_K hP hk1
  refine lv_istore_n (lv' := [(3, .int 1), (0, .ref st), (1, .ref rm), (2, .int 0)]) hx hb dX4_explore_5 rfl hl (by decide) rfl (fun ls hl => ?_)
  refine lv_aload_n hx hb dX4_explore_6 rfl (lv_at hl 2 rfl) ?_
  have hPr := ((zo_R hR0 hS hAr)).sub (ws' := [(rm, .inr (5, [.ref lk, .ref th, .ref pl, .ref gm, .int 0, .int 0, .int 0, .int (-1), .int 1, .int 0, .int 0, .int 0]))]) [1] rfl
  have hPc := hP.sub (ws' := []) [] rfl
  have hDc := hD.sub (ws' := []) [] (by decide) rfl
  have hKc := hK.sub (tys' := []) [] rfl
  have hFc := va_free (wc := []) hD hS hA [] rfl
  refine va_calli (va_runV (As := []) (rest := []) ⟨hx, hb, hml, hown, hts⟩ (cz_openLocks l dC dI ed H1.size rm lk th pl gm) (cwV 0 hts gX4_explore_X3_openLocks rfl rfl rfl (by decide +kernel) ⟨Nat.le_of_ble_eq_true rfl, Nat.le_of_ble_eq_true rfl⟩) ⟨zb_blind, va_recv hK (zo_R hR0 hS hAr) (ci := 5) (q0 := 1) rfl rfl, fun U hU hW => ⟨rfl, zb_mk hU hW hPr hPc hKc hDc hN hH hS hFc zx_e⟩⟩ rfl rfl hl.1 rfl (lv_room (Nat.le_of_ble_eq_true rfl)) dX4_explore_7 ⟨Nat.le_of_ble_eq_true rfl, Nat.le_of_ble_eq_true rfl⟩) hS (fun q _ h => hFc q h) hFc (fun r4 u t H3 locs ht hvm hw hB hz1 hk1 hS => ?_)
  obtain rfl : r4 = 0 := hw
  have hP := zo_K hP hk1
  refine lv_istore (lv' := [(4, .int 0), (3, .int 1), (0, .ref st), (1, .ref rm), (2, .int 0)]) hx hb dX4_explore_10 hl (by decide) rfl (fun ls hl => ?_)
  refine lv_iconst (v := 0) hx hb dX4_explore_12 (by decide) ?_
  refine lv_istore (lv' := [(5, .int 0), (4, .int 0), (3, .int 1), (0, .ref st), (1, .ref rm), (2, .int 0)]) hx hb dX4_explore_13 hl (by decide) rfl (fun ls hl => ?_)
  refine lv_iload hx hb dX4_explore_15 (lv_at hl 0 rfl) ?_
  refine lv_iload_n hx hb dX4_explore_17 rfl (lv_at hl 2 rfl) ?_
  refine lv_icmp_ge (tgt := 54) hx hb dX4_explore_18 (by decide) (fun h => absurd h (by decide)) (fun _ => ?_)
  refine lv_aload_n hx hb dX4_explore_21 rfl (lv_at hl 3 rfl) ?_
  refine va_get (D := (dC, dI)) (ci := 6) (v := .ref a1) (C := RX4) (T := TX4) (N := 3) hx hb hts zi_X4_explore_X4 hown hK (zo_R hR0 hS hAr) 0 rfl rfl 0 (by decide) (hts (.fieldLink RX4 9 "LockRooms$Stands" "isReached" "[Z") (by decide +kernel)) (fun _ h9 => h9) rfl dX4_explore_22 ?_
  refine lv_iload hx hb dX4_explore_25 (lv_at hl 0 rfl) ?_
  refine lv_iload hx hb dX4_explore_27 (lv_at hl 0 rfl) ?_
  refine lv_iload hx hb dX4_explore_29 (lv_at hl 1 rfl) ?_
  refine lv_icmp_ne (tgt := 38) hx hb dX4_explore_31 (by decide) (fun h => absurd h (by decide)) (fun _ => ?_)
  refine lv_iconst (v := 1) hx hb dX4_explore_34 (by decide) ?_
  refine lv_goto (tgt := 39) hx hb dX4_explore_35 (by decide) ?_
  refine va_zast hx hb hK hP hD hS 0 0 rfl rfl (by unfold vp_in; decide) dX4_explore_39 (fun H5 locs hP hD hS => ?_)
  obtain ⟨f6, ef6⟩ : ∃ z : Nat → Int32, z = upd f1 0 (vp_nar .boolean 1) := ⟨_, rfl⟩
  have k7 : f6 0 = 1 := by rw [ef6]; exact pk_us.trans (by decide)
  have hP : va_P (dC, dI) vwCl [(a1, .inl (cZ, 1024, .inl f6)), (a2, .inl (cI, 1024, .inl f2)), (a3, .inl (cJ, 1024, .inl f3))] H5 := by rw [ef6]; exact hP
  have hD : va_D A [(a1, .inl (cZ, 1024, .inl f6)), (a2, .inl (cI, 1024, .inl f2)), (a3, .inl (cJ, 1024, .inl f3))] := by rw [ef6]; exact hD
  refine lv_aload_n hx hb dX4_explore_40 rfl (lv_at hl 3 rfl) ?_
  refine va_get (D := (dC, dI)) (ci := 6) (v := .ref a3) (C := RX4) (T := TX4) (N := 3) hx hb hts zi_X4_explore_X4 hown hK (zo_R hR0 hS hAr) 0 rfl rfl 2 (by decide) (hts (.fieldLink RX4 19 "LockRooms$Stands" "yet" "[I") (by decide +kernel)) (fun _ h9 => h9) rfl dX4_explore_41 ?_
  refine lv_iload hx hb dX4_explore_44 (lv_at hl 0 rfl) ?_
  refine lv_iconst (v := (-1)) hx hb dX4_explore_46 (by decide) ?_
  refine va_iast hx hb hK hP hD hS 2 2 rfl rfl (by unfold vp_in; decide) dX4_explore_47 (fun H8 locs hP hD hS => ?_)
  obtain ⟨f9, ef9⟩ : ∃ z : Nat → Int32, z = upd f3 0 (-1) := ⟨_, rfl⟩
  have k10 : f9 0 = (-1) := by rw [ef9]; exact pk_us
  have hP : va_P (dC, dI) vwCl [(a1, .inl (cZ, 1024, .inl f6)), (a2, .inl (cI, 1024, .inl f2)), (a3, .inl (cJ, 1024, .inl f9))] H8 := by rw [ef9]; exact hP
  have hD : va_D A [(a1, .inl (cZ, 1024, .inl f6)), (a2, .inl (cI, 1024, .inl f2)), (a3, .inl (cJ, 1024, .inl f9))] := by rw [ef9]; exact hD
  refine lv_iinc (v := 1) (lv' := [(5, .int 1), (4, .int 0), (3, .int 1), (0, .ref st), (1, .ref rm), (2, .int 0)]) hx hb dX4_explore_48 hl (k := 0) rfl (by decide) (by decide) rfl (fun ls hl => ?_)
  refine lv_goto (tgt := 15) hx hb dX4_explore_51 (by decide) ?_
  refine lv_iload hx hb dX4_explore_15 (lv_at hl 0 rfl) ?_
  refine lv_iload_n hx hb dX4_explore_17 rfl (lv_at hl 2 rfl) ?_
  refine lv_icmp_ge (tgt := 54) hx hb dX4_explore_18 (by decide) (fun _ => ?_) (fun h => absurd h (by decide))
  refine lv_iconst (v := 0) hx hb dX4_explore_54 (by decide) ?_
  refine lv_istore (lv' := [(5, .int 0), (4, .int 0), (3, .int 1), (0, .ref st), (1, .ref rm), (2, .int 0)]) hx hb dX4_explore_55 hl (by decide) rfl (fun ls hl => ?_)
  refine lv_iload hx hb dX4_explore_57 (lv_at hl 0 rfl) ?_
  refine lv_iload_n hx hb dX4_explore_59 rfl (lv_at hl 2 rfl) ?_
  refine lv_icmp_ge (tgt := 87) hx hb dX4_explore_60 (by decide) (fun h => absurd h (by decide)) (fun _ => ?_)
  refine lv_aload_n hx hb dX4_explore_63 rfl (lv_at hl 3 rfl) ?_
  refine va_get (D := (dC, dI)) (ci := 6) (v := .ref a1) (C := RX4) (T := TX4) (N := 3) hx hb hts zi_X4_explore_X4 hown hK (zo_R hR0 hS hAr) 0 rfl rfl 0 (by decide) (hts (.fieldLink RX4 9 "LockRooms$Stands" "isReached" "[Z") (by decide +kernel)) (fun _ h9 => h9) rfl dX4_explore_64 ?_
  refine lv_iload hx hb dX4_explore_67 (lv_at hl 0 rfl) ?_
  refine va_zald hx hb hK hP 0 0 rfl rfl (by unfold vp_in; decide) dX4_explore_69 ?_
  refine zo_i (v := 1) (by rw [show Int32.toNatClampNeg 0 = 0 from by decide]; exact k7) ?_
  refine lv_if_eq (tgt := 81) hx hb dX4_explore_70 (by decide) (fun h => absurd h (by decide)) (fun _ => ?_)
  refine lv_aload_n hx hb dX4_explore_73 rfl (lv_at hl 3 rfl) ?_
  refine lv_aload_n hx hb dX4_explore_74 rfl (lv_at hl 4 rfl) ?_
  refine lv_iload hx hb dX4_explore_75 (lv_at hl 0 rfl) ?_
  refine lv_iload_n hx hb dX4_explore_77 rfl (lv_at hl 5 rfl) ?_
  have hPr := ((zo_R hR0 hS hAr)).sub (ws' := [(st, .inr (6, [.ref a1, .ref a2, .ref a3])), (rm, .inr (5, [.ref lk, .ref th, .ref pl, .ref gm, .int 0, .int 0, .int 0, .int (-1), .int 1, .int 0, .int 0, .int 0]))]) [0, 1] rfl
  have hPc := hP.sub (ws' := [(a2, .inl (cI, 1024, .inl f2))]) [1] rfl
  have hDc := hD.sub (ws' := [(a2, .inl (cI, 1024, .inl f2))]) [1] (by decide) rfl
  have hKc := hK.sub (tys' := [(cI, .int)]) [1] rfl
  have hFc := va_free (wc := [(a2, .inl (cI, 1024, .inl f2))]) hD hS hA [1] rfl
  refine va_callv (va_runV (As := [.ref rm, .int 0, .int 0]) (rest := []) ⟨hx, hb, hml, hown, hts⟩ (cz_goOn l dC dI ed H8.size st a1 a2 a3 cI f2 rm lk th pl gm) (cwV 3 hts gX4_explore_X4_goOn rfl rfl rfl (by decide +kernel) ⟨Nat.le_of_ble_eq_true rfl, Nat.le_of_ble_eq_true rfl⟩) ⟨zb_blind, va_recv hK (zo_R hR0 hS hAr) (ci := 6) (q0 := 0) rfl rfl, fun U hU hW => ⟨rfl, zb_mk hU hW hPr hPc hKc hDc hN hH hS hFc (zx_cons (zx_r (hAr _ (List.mem_of_getElem? (i := 0) rfl)) hDc) (zx_cons (zx_r (hAr _ (List.mem_of_getElem? (i := 1) rfl)) hDc) zx_nil))⟩⟩ rfl rfl hl.1 rfl (lv_room (Nat.le_of_ble_eq_true rfl)) dX4_explore_78 ⟨Nat.le_of_ble_eq_true rfl, Nat.le_of_ble_eq_true rfl⟩) hS (fun q _ h => hFc q h) hFc (fun u t H11 locs ht hvm hw hB hz1 hk1 hS => ?_)
  obtain ⟨g2_13, hP1, hD1, hK1⟩ := hB
  rw [ht] at hP1
  obtain ⟨hP, hD⟩ := va_join (wr := [(a1, .inl (cZ, 1024, .inl f6)), (a3, .inl (cJ, 1024, .inl f9))]) (w1 := [(a2, .inl (cI, 1024, .inl g2_13))]) hP hD [1] [0, 2] rfl rfl (by decide) (by decide) hk1 hFc hP1 hD1
  have hP : va_P (dC, dI) vwCl [(a1, .inl (cZ, 1024, .inl f6)), (a3, .inl (cJ, 1024, .inl f9)), (a2, .inl (cI, 1024, .inl g2_13))] H11 := hP
  have hD : va_D A [(a1, .inl (cZ, 1024, .inl f6)), (a3, .inl (cJ, 1024, .inl f9)), (a2, .inl (cI, 1024, .inl g2_13))] := hD
  refine lv_iinc (v := 1) (lv' := [(5, .int 1), (4, .int 0), (3, .int 1), (0, .ref st), (1, .ref rm), (2, .int 0)]) hx hb dX4_explore_81 hl (k := 0) rfl (by decide) (by decide) rfl (fun ls hl => ?_)
  refine lv_goto (tgt := 57) hx hb dX4_explore_84 (by decide) ?_
  refine lv_iload hx hb dX4_explore_57 (lv_at hl 0 rfl) ?_
  refine lv_iload_n hx hb dX4_explore_59 rfl (lv_at hl 2 rfl) ?_
  refine lv_icmp_ge (tgt := 87) hx hb dX4_explore_60 (by decide) (fun _ => ?_) (fun h => absurd h (by decide))
  refine lv_iload_n hx hb dX4_explore_87 rfl (lv_at hl 2 rfl) ?_
  refine lv_iconst (v := 1) hx hb dX4_explore_88 (by decide) ?_
  refine lv_isub hx hb dX4_explore_89 ?_
  refine zo_i (v := 0) (by decide) ?_
  refine lv_istore (lv' := [(5, .int 0), (4, .int 0), (3, .int 1), (0, .ref st), (1, .ref rm), (2, .int 0)]) hx hb dX4_explore_90 hl (by decide) rfl (fun ls hl => ?_)
  refine lv_iload hx hb dX4_explore_92 (lv_at hl 0 rfl) ?_
  refine lv_if_lt (tgt := 143) hx hb dX4_explore_94 (by decide) (fun h => absurd h (by decide)) (fun _ => ?_)
  refine lv_aload_n hx hb dX4_explore_97 rfl (lv_at hl 3 rfl) ?_
  refine va_get (D := (dC, dI)) (ci := 6) (v := .ref a1) (C := RX4) (T := TX4) (N := 3) hx hb hts zi_X4_explore_X4 hown hK (zo_R hR0 hS hAr) 0 rfl rfl 0 (by decide) (hts (.fieldLink RX4 9 "LockRooms$Stands" "isReached" "[Z") (by decide +kernel)) (fun _ h9 => h9) rfl dX4_explore_98 ?_
  refine lv_iload hx hb dX4_explore_101 (lv_at hl 0 rfl) ?_
  refine va_zald hx hb hK hP 0 0 rfl rfl (by unfold vp_in; decide) dX4_explore_103 ?_
  refine zo_i (v := 1) (by rw [show Int32.toNatClampNeg 0 = 0 from by decide]; exact k7) ?_
  refine lv_if_eq (tgt := 137) hx hb dX4_explore_104 (by decide) (fun h => absurd h (by decide)) (fun _ => ?_)
  refine lv_aload_n hx hb dX4_explore_107 rfl (lv_at hl 3 rfl) ?_
  refine va_get (D := (dC, dI)) (ci := 6) (v := .ref a3) (C := RX4) (T := TX4) (N := 3) hx hb hts zi_X4_explore_X4 hown hK (zo_R hR0 hS hAr) 0 rfl rfl 2 (by decide) (hts (.fieldLink RX4 19 "LockRooms$Stands" "yet" "[I") (by decide +kernel)) (fun _ h9 => h9) rfl dX4_explore_108 ?_
  refine lv_iload hx hb dX4_explore_111 (lv_at hl 0 rfl) ?_
  refine lv_iload hx hb dX4_explore_113 (lv_at hl 0 rfl) ?_
  refine lv_aload_n hx hb dX4_explore_115 rfl (lv_at hl 4 rfl) ?_
  refine va_get (D := (dC, dI)) (ci := 5) (v := .int (-1)) (C := RX3) (T := TX3) (N := 12) hx hb hts zi_X4_explore_X3 hown hK (zo_R hR0 hS hAr) 1 rfl rfl 7 (by decide) (hts (.fieldLink RX4 68 "LockRooms$Room" "exit" "I") (by decide +kernel)) (fun _ h9 => h9) rfl dX4_explore_116 ?_
  have hPr := (zo_nil : va_P (dC, dI) vwCl [] H11)
  have hPc := hP.sub (ws' := []) [] rfl
  have hDc := hD.sub (ws' := []) [] (by decide) rfl
  have hKc := hK.sub (tys' := []) [] rfl
  have hFc := va_free (wc := []) hD hS hA [] rfl
  refine va_calli (va_runSN (As := [.int 0, .int (-1)]) (rest := [.int 0, .ref a3]) ⟨hx, hb, hml, hown, hts⟩ (cz_isIn_n1 l dC dI ed H11.size 0) ⟨(va_cnB 2 hts gX4_explore_X6_isIn_n54 rfl rfl rfl (hN.2.1 ("LockRooms$Stands", 54, yX6_isIn, "LockRooms") (List.mem_of_getElem? (i := 6) rfl)) (hts (.initialized RX6) (by decide +kernel)) (by decide +kernel) ⟨Nat.le_of_ble_eq_true rfl, Nat.le_of_ble_eq_true rfl⟩), (hts (.static yX6_isIn) (by decide +kernel)), trivial⟩ ⟨zb_blind, fun U hU hW => ⟨rfl, zb_mk hU hW hPr hPc hKc hDc hN hH hS hFc zx_e⟩⟩ rfl rfl hl.1 rfl (lv_room (Nat.le_of_ble_eq_true rfl)) dX4_explore_119 ⟨Nat.le_of_ble_eq_true rfl, Nat.le_of_ble_eq_true rfl⟩) hS (fun q _ h => hFc q h) hFc (fun r15 u t H14 locs ht hvm hw hB hz1 hk1 hS => ?_)
  obtain rfl : r15 = 0 := hw
  have hP := zo_K hP hk1
  refine lv_if_eq (tgt := 129) hx hb dX4_explore_122 (by decide) (fun _ => ?_) (fun h => absurd h (by decide))
  refine lv_aload_n hx hb dX4_explore_129 rfl (lv_at hl 3 rfl) ?_
  refine lv_aload_n hx hb dX4_explore_130 rfl (lv_at hl 4 rfl) ?_
  refine lv_iload hx hb dX4_explore_131 (lv_at hl 0 rfl) ?_
  have hPr := ((zo_R hR0 hS hAr)).sub (ws' := [(rm, .inr (5, [.ref lk, .ref th, .ref pl, .ref gm, .int 0, .int 0, .int 0, .int (-1), .int 1, .int 0, .int 0, .int 0]))]) [1] rfl
  have hPc := hP.sub (ws' := []) [] rfl
  have hDc := hD.sub (ws' := []) [] (by decide) rfl
  have hKc := hK.sub (tys' := []) [] rfl
  have hFc := va_free (wc := []) hD hS hA [] rfl
  refine va_calli (va_runV (As := [.ref rm, .int 0]) (rest := [.int 0, .ref a3]) ⟨hx, hb, hml, hown, hts⟩ (cz_leastYet l dC dI ed H14.size st rm lk th pl gm) (cwV 2 hts gX4_explore_X4_leastYet rfl rfl rfl (by decide +kernel) ⟨Nat.le_of_ble_eq_true rfl, Nat.le_of_ble_eq_true rfl⟩) ⟨zb_blind, va_recv hK (zo_R hR0 hS hAr) (ci := 6) (q0 := 0) rfl rfl, fun U hU hW => ⟨rfl, zb_mk hU hW hPr hPc hKc hDc hN hH hS hFc zx_e⟩⟩ rfl rfl hl.1 rfl (lv_room (Nat.le_of_ble_eq_true rfl)) dX4_explore_133 ⟨Nat.le_of_ble_eq_true rfl, Nat.le_of_ble_eq_true rfl⟩) hS (fun q _ h => hFc q h) hFc (fun r17 u t H16 locs ht hvm hw hB hz1 hk1 hS => ?_)
  obtain rfl : r17 = (-1) := hw
  have hP := zo_K hP hk1
  refine va_iast hx hb hK hP hD hS 1 2 rfl rfl (by unfold vp_in; decide) dX4_explore_136 (fun H18 locs hP hD hS => ?_)
  obtain ⟨f19, ef19⟩ : ∃ z : Nat → Int32, z = upd f9 0 (-1) := ⟨_, rfl⟩
  have k20 : f19 0 = (-1) := by rw [ef19]; exact pk_us
  have hP : va_P (dC, dI) vwCl [(a1, .inl (cZ, 1024, .inl f6)), (a3, .inl (cJ, 1024, .inl f19)), (a2, .inl (cI, 1024, .inl g2_13))] H18 := by rw [ef19]; exact hP
  have hD : va_D A [(a1, .inl (cZ, 1024, .inl f6)), (a3, .inl (cJ, 1024, .inl f19)), (a2, .inl (cI, 1024, .inl g2_13))] := by rw [ef19]; exact hD
  refine lv_iinc (v := (-1)) (lv' := [(5, .int (-1)), (4, .int 0), (3, .int 1), (0, .ref st), (1, .ref rm), (2, .int 0)]) hx hb dX4_explore_137 hl (k := 0) rfl (by decide) (by decide) rfl (fun ls hl => ?_)
  refine lv_goto (tgt := 92) hx hb dX4_explore_140 (by decide) ?_
  refine lv_iload hx hb dX4_explore_92 (lv_at hl 0 rfl) ?_
  refine lv_if_lt (tgt := 143) hx hb dX4_explore_94 (by decide) (fun _ => ?_) (fun h => absurd h (by decide))
  refine W.widen (k := 0) (n := 0) (Nat.le_of_ble_eq_true rfl) (Nat.le_of_ble_eq_true rfl) ?_
  have hP9 := hP.sub (ws' := [(a1, .inl (cZ, 1024, .inl f6)), (a2, .inl (cI, 1024, .inl g2_13)), (a3, .inl (cJ, 1024, .inl f19))]) [0, 2, 1] rfl
  have hD9 := hD.sub (ws' := [(a1, .inl (cZ, 1024, .inl f6)), (a2, .inl (cI, 1024, .inl g2_13)), (a3, .inl (cJ, 1024, .inl f19))]) [0, 2, 1] (by decide) rfl
  have hK9 := hK.sub (tys' := [(cZ, .boolean), (cI, .int), (cJ, .int)]) [0, 1, 2] rfl
  exact W.vret hx hb hr (fun t ht hW => ⟨⟨(), rfl, trivial, ⟨f6, g2_13, f19, ⟨k7, k20⟩, by rw [ht]; exact hP9, hD9, va_K.moved hW.alike hK9⟩⟩, hS.F ht⟩) hS.2.2 dX4_explore_143

set_option maxHeartbeats 4000000 in
set_option maxRecDepth 100000 in
theorem cz_findDepth (l : Launch) (dC : Nat → ClassId) (dI : Nat → Nat → Nat) (ed sz : Nat) (st : Nat) (a1 : Nat) (a2 : Nat) (a3 : Nat) (cZ : ClassId) (cI : ClassId) (cJ : ClassId) (f1 : Nat → Int32) (f2 : Nat → Int32) (f3 : Nat → Int32) (rm : Nat) (lk : Nat) (th : Nat) (pl : Nat) (gm : Nat) : Met l yX4_findDepth wsX4_findDepth ({ frames := 4, cells := 0, slots := 0, locals := 98 } : Jvm.Room) (va_Pc [.ref st, .ref rm] (zB dC dI ed sz [(st, .inr (6, [.ref a1, .ref a2, .ref a3])), (rm, .inr (5, [.ref lk, .ref th, .ref pl, .ref gm, .int 0, .int 0, .int 0, .int (-1), .int 1, .int 0, .int 0, .int 0]))] [(a1, .inl (cZ, 1024, .inl f1)), (a2, .inl (cI, 1024, .inl f2)), (a3, .inl (cJ, 1024, .inl f3))] [(cZ, .boolean), (cI, .int), (cJ, .int)])) (va_Qi (fun (r : Int32) (_ : Unit) => r = (-1)) (fun (_ : Unit) (t : State) => ∃ (g1 : Nat → Int32), ∃ (g2 : Nat → Int32), ∃ (g3 : Nat → Int32), va_P (dC, dI) vwCl [(a1, .inl (cZ, 1024, .inl g1)), (a2, .inl (cI, 1024, .inl g2)), (a3, .inl (cJ, 1024, .inl g3))] t.heap ∧ va_D (va_A [(a1, .inl (cZ, 1024, .inl f1)), (a2, .inl (cI, 1024, .inl f2)), (a3, .inl (cJ, 1024, .inl f3))] sz) [(a1, .inl (cZ, 1024, .inl g1)), (a2, .inl (cI, 1024, .inl g2)), (a3, .inl (cJ, 1024, .inl g3))] ∧ va_K (dC, dI) vwCl [(cZ, .boolean), (cI, .int), (cJ, .int)] t) (va_A [(a1, .inl (cZ, 1024, .inl f1)), (a2, .inl (cI, 1024, .inl f2)), (a3, .inl (cJ, 1024, .inl f3))] sz)) 0 0 (va_A [(a1, .inl (cZ, 1024, .inl f1)), (a2, .inl (cI, 1024, .inl f2)), (a3, .inl (cJ, 1024, .inl f3))] sz) := by
  refine Met.ofW (cc := cX4_findDepth) (maxL := 2) (ret := (some .int)) (by decide) rfl ?_
  intro p e s m args below meth c s₁ B hml hv
  obtain ⟨rfl, hsz, hR0, hP, hK, hD0, hN, hH, hX0⟩ := hv
  have hx := B.exec
  have hb := B.bytes
  have hr := B.returns
  have hts := atoms_spec (ws := wsX4_findDepth) B.pre
  have hown : s.vm.findClass RX4 = some m.cls := findClass_of_methodNamed B.named
  have hlocks := B.notSynchronized
  subst hsz
  have hD := hD0.self (sz := s.heap.size)
  have hAr := zx_A hX0 hR0
  generalize hAe : va_A [(a1, .inl (cZ, 1024, .inl f1)), (a2, .inl (cI, 1024, .inl f2)), (a3, .inl (cJ, 1024, .inl f3))] s.heap.size = A at hD hAr hH ⊢
  have hA : ∀ q : Nat, s.heap.size ≤ q → A q := fun q h => by rw [← hAe]; exact Or.inr h
  have hS : va_S A s.heap s.heap [] := va_S.rf
  have hl := lv_entry ([.ref st, .ref rm]) (n := 2) (Nat.le_of_ble_eq_true rfl)
  rw [lg_entry_eq]
  generalize (lg_sl ([.ref st, .ref rm]) ++ List.replicate (2 - (lg_sl ([.ref st, .ref rm])).length) Slot.unset).toArray = ls at hl ⊢
  have hl : lv_has ls 2 [(0, .ref st), (1, .ref rm)] := hl
  refine lv_aload_n hx hb dX4_findDepth_0 rfl (lv_at hl 0 rfl) ?_
  refine lv_aload_n hx hb dX4_findDepth_1 rfl (lv_at hl 1 rfl) ?_
  refine lv_iconst (v := 0) hx hb dX4_findDepth_2 (by decide) ?_
  have hPr := (hR0).sub (ws' := [(st, .inr (6, [.ref a1, .ref a2, .ref a3])), (rm, .inr (5, [.ref lk, .ref th, .ref pl, .ref gm, .int 0, .int 0, .int 0, .int (-1), .int 1, .int 0, .int 0, .int 0]))]) [0, 1] rfl
  have hPc := hP.sub (ws' := [(a1, .inl (cZ, 1024, .inl f1)), (a2, .inl (cI, 1024, .inl f2)), (a3, .inl (cJ, 1024, .inl f3))]) [0, 1, 2] rfl
  have hDc := hD.sub (ws' := [(a1, .inl (cZ, 1024, .inl f1)), (a2, .inl (cI, 1024, .inl f2)), (a3, .inl (cJ, 1024, .inl f3))]) [0, 1, 2] (by decide) rfl
  have hKc := hK.sub (tys' := [(cZ, .boolean), (cI, .int), (cJ, .int)]) [0, 1, 2] rfl
  have hFc := va_free (wc := [(a1, .inl (cZ, 1024, .inl f1)), (a2, .inl (cI, 1024, .inl f2)), (a3, .inl (cJ, 1024, .inl f3))]) hD hS hA [0, 1, 2] rfl
  refine va_callv (va_runV (As := [.ref rm, .int 0]) (rest := []) ⟨hx, hb, hml, hown, hts⟩ (cz_explore l dC dI ed s.heap.size st a1 a2 a3 cZ cI cJ f1 f2 f3 rm lk th pl gm) (cwV 2 hts gX4_findDepth_X4_explore rfl rfl rfl (by decide +kernel) ⟨Nat.le_of_ble_eq_true rfl, Nat.le_of_ble_eq_true rfl⟩) ⟨zb_blind, va_recv hK hR0 (ci := 6) (q0 := 0) rfl rfl, fun U hU hW => ⟨rfl, zb_mk hU hW hPr hPc hKc hDc hN hH hS hFc (zx_cons (zx_r (hAr _ (List.mem_of_getElem? (i := 0) rfl)) hDc) (zx_cons (zx_r (hAr _ (List.mem_of_getElem? (i := 1) rfl)) hDc) zx_nil))⟩⟩ rfl rfl hl.1 rfl (lv_room (Nat.le_of_ble_eq_true rfl)) dX4_findDepth_3 ⟨Nat.le_of_ble_eq_true rfl, Nat.le_of_ble_eq_true rfl⟩) hS (fun q _ h => hFc q h) hFc (fun u t H1 locs ht hvm hw hB hz1 hk1 hS => ?_)
  obtain ⟨g1_3, g2_3, g3_3, ⟨k3_0, k3_1⟩, hP1, hD1, hK1⟩ := hB
  rw [ht] at hP1
  obtain ⟨hP, hD⟩ := va_join (wr := []) (w1 := [(a1, .inl (cZ, 1024, .inl g1_3)), (a2, .inl (cI, 1024, .inl g2_3)), (a3, .inl (cJ, 1024, .inl g3_3))]) hP hD [0, 1, 2] [] rfl rfl (by decide) (by decide) hk1 hFc hP1 hD1
  have hP : va_P (dC, dI) vwCl [(a1, .inl (cZ, 1024, .inl g1_3)), (a2, .inl (cI, 1024, .inl g2_3)), (a3, .inl (cJ, 1024, .inl g3_3))] H1 := hP
  have hD : va_D A [(a1, .inl (cZ, 1024, .inl g1_3)), (a2, .inl (cI, 1024, .inl g2_3)), (a3, .inl (cJ, 1024, .inl g3_3))] := hD
  refine lv_aload_n hx hb dX4_findDepth_6 rfl (lv_at hl 0 rfl) ?_
  refine lv_aload_n hx hb dX4_findDepth_7 rfl (lv_at hl 1 rfl) ?_
  have hPr := ((zo_R hR0 hS hAr)).sub (ws' := [(rm, .inr (5, [.ref lk, .ref th, .ref pl, .ref gm, .int 0, .int 0, .int 0, .int (-1), .int 1, .int 0, .int 0, .int 0]))]) [1] rfl
  have hPc := hP.sub (ws' := []) [] rfl
  have hDc := hD.sub (ws' := []) [] (by decide) rfl
  have hKc := hK.sub (tys' := []) [] rfl
  have hFc := va_free (wc := []) hD hS hA [] rfl
  refine va_calli (va_runV (As := []) (rest := [.ref st]) ⟨hx, hb, hml, hown, hts⟩ (cz_openLocks l dC dI ed H1.size rm lk th pl gm) (cwV 0 hts gX4_findDepth_X3_openLocks rfl rfl rfl (by decide +kernel) ⟨Nat.le_of_ble_eq_true rfl, Nat.le_of_ble_eq_true rfl⟩) ⟨zb_blind, va_recv hK (zo_R hR0 hS hAr) (ci := 5) (q0 := 1) rfl rfl, fun U hU hW => ⟨rfl, zb_mk hU hW hPr hPc hKc hDc hN hH hS hFc zx_e⟩⟩ rfl rfl hl.1 rfl (lv_room (Nat.le_of_ble_eq_true rfl)) dX4_findDepth_8 ⟨Nat.le_of_ble_eq_true rfl, Nat.le_of_ble_eq_true rfl⟩) hS (fun q _ h => hFc q h) hFc (fun r5 u t H4 locs ht hvm hw hB hz1 hk1 hS => ?_)
  obtain rfl : r5 = 0 := hw
  have hP := zo_K hP hk1
  have hPr := (show va_P (dC, dI) vwCl [(st, .inr (6, [.ref a1, .ref a2, .ref a3])), (a3, .inl (cJ, 1024, .inl g3_3))] H4 from (zo_cons (((zo_R hR0 hS hAr)) 0 _ rfl) (zo_cons ((hP) 2 _ rfl) (zo_nil : va_P (dC, dI) vwCl [] H4))))
  have hPc := hP.sub (ws' := []) [] rfl
  have hDc := hD.sub (ws' := []) [] (by decide) rfl
  have hKc := hK.sub (tys' := [(cJ, .int)]) [2] rfl
  have hFc := va_free (wc := []) hD hS hA [] rfl
  refine va_calli (va_runV (As := [.int 0]) (rest := []) ⟨hx, hb, hml, hown, hts⟩ (cz_yetBehind_n1 l dC dI ed H4.size st a1 a2 a3 cJ g3_3 k3_1) (cwV 1 hts gX4_findDepth_X4_yetBehind rfl rfl rfl (by decide +kernel) ⟨Nat.le_of_ble_eq_true rfl, Nat.le_of_ble_eq_true rfl⟩) ⟨zb_blind, va_recv hK (zo_R hR0 hS hAr) (ci := 6) (q0 := 0) rfl rfl, fun U hU hW => ⟨rfl, zb_mk hU hW hPr hPc hKc hDc hN hH hS hFc zx_e⟩⟩ rfl rfl hl.1 rfl (lv_room (Nat.le_of_ble_eq_true rfl)) dX4_findDepth_11 ⟨Nat.le_of_ble_eq_true rfl, Nat.le_of_ble_eq_true rfl⟩) hS (fun q _ h => hFc q h) hFc (fun r7 u t H6 locs ht hvm hw hB hz1 hk1 hS => ?_)
  obtain rfl : r7 = (-1) := hw
  have hP := zo_K hP hk1
  refine W.widen (k := 0) (n := 0) (Nat.le_of_ble_eq_true rfl) (Nat.le_of_ble_eq_true rfl) ?_
  have hP9 := hP.sub (ws' := [(a1, .inl (cZ, 1024, .inl g1_3)), (a2, .inl (cI, 1024, .inl g2_3)), (a3, .inl (cJ, 1024, .inl g3_3))]) [0, 1, 2] rfl
  have hD9 := hD.sub (ws' := [(a1, .inl (cZ, 1024, .inl g1_3)), (a2, .inl (cI, 1024, .inl g2_3)), (a3, .inl (cJ, 1024, .inl g3_3))]) [0, 1, 2] (by decide) rfl
  have hK9 := hK.sub (tys' := [(cZ, .boolean), (cI, .int), (cJ, .int)]) [0, 1, 2] rfl
  exact W.iret hx hb hr (fun t ht hW => ⟨⟨(-1), (), rfl, rfl, ⟨g1_3, g2_3, g3_3, by rw [ht]; exact hP9, hD9, va_K.moved hW.alike hK9⟩⟩, hS.F ht⟩) hS.2.2 dX4_findDepth_14

set_option maxRecDepth 20000 in
theorem zi_X4_countReached_X4 : ∀ w ∈ u_ws RX4 TX4 3, w ∈ wsX4_countReached := by decide +kernel
set_option maxHeartbeats 4000000 in
set_option maxRecDepth 100000 in
theorem cz_countReached (l : Launch) (dC : Nat → ClassId) (dI : Nat → Nat → Nat) (ed sz : Nat) (st : Nat) (a1 : Nat) (a2 : Nat) (a3 : Nat) (cZ : ClassId) (cI : ClassId) (cJ : ClassId) (f1 : Nat → Int32) (f2 : Nat → Int32) (f3 : Nat → Int32) (rm : Nat) (lk : Nat) (th : Nat) (pl : Nat) (gm : Nat) : Met l yX4_countReached wsX4_countReached ({ frames := 4, cells := 0, slots := 0, locals := 98 } : Jvm.Room) (va_Pc [.ref st, .ref rm] (zB dC dI ed sz [(st, .inr (6, [.ref a1, .ref a2, .ref a3])), (rm, .inr (5, [.ref lk, .ref th, .ref pl, .ref gm, .int 0, .int 0, .int 0, .int (-1), .int 1, .int 0, .int 0, .int 0]))] [(a1, .inl (cZ, 1024, .inl f1)), (a2, .inl (cI, 1024, .inl f2)), (a3, .inl (cJ, 1024, .inl f3))] [(cZ, .boolean), (cI, .int), (cJ, .int)])) (va_Qi (fun (r : Int32) (_ : Unit) => r = 1) (fun (_ : Unit) (t : State) => ∃ (g1 : Nat → Int32), ∃ (g2 : Nat → Int32), ∃ (g3 : Nat → Int32), va_P (dC, dI) vwCl [(a1, .inl (cZ, 1024, .inl g1)), (a2, .inl (cI, 1024, .inl g2)), (a3, .inl (cJ, 1024, .inl g3))] t.heap ∧ va_D (va_A [(a1, .inl (cZ, 1024, .inl f1)), (a2, .inl (cI, 1024, .inl f2)), (a3, .inl (cJ, 1024, .inl f3))] sz) [(a1, .inl (cZ, 1024, .inl g1)), (a2, .inl (cI, 1024, .inl g2)), (a3, .inl (cJ, 1024, .inl g3))] ∧ va_K (dC, dI) vwCl [(cZ, .boolean), (cI, .int), (cJ, .int)] t) (va_A [(a1, .inl (cZ, 1024, .inl f1)), (a2, .inl (cI, 1024, .inl f2)), (a3, .inl (cJ, 1024, .inl f3))] sz)) 0 0 (va_A [(a1, .inl (cZ, 1024, .inl f1)), (a2, .inl (cI, 1024, .inl f2)), (a3, .inl (cJ, 1024, .inl f3))] sz) := by
  refine Met.ofW (cc := cX4_countReached) (maxL := 4) (ret := (some .int)) (by decide) rfl ?_
  intro p e s m args below meth c s₁ B hml hv
  obtain ⟨rfl, hsz, hR0, hP, hK, hD0, hN, hH, hX0⟩ := hv
  have hx := B.exec
  have hb := B.bytes
  have hr := B.returns
  have hts := atoms_spec (ws := wsX4_countReached) B.pre
  have hown : s.vm.findClass RX4 = some m.cls := findClass_of_methodNamed B.named
  have hlocks := B.notSynchronized
  subst hsz
  have hD := hD0.self (sz := s.heap.size)
  have hAr := zx_A hX0 hR0
  generalize hAe : va_A [(a1, .inl (cZ, 1024, .inl f1)), (a2, .inl (cI, 1024, .inl f2)), (a3, .inl (cJ, 1024, .inl f3))] s.heap.size = A at hD hAr hH ⊢
  have hA : ∀ q : Nat, s.heap.size ≤ q → A q := fun q h => by rw [← hAe]; exact Or.inr h
  have hS : va_S A s.heap s.heap [] := va_S.rf
  have hl := lv_entry ([.ref st, .ref rm]) (n := 4) (Nat.le_of_ble_eq_true rfl)
  rw [lg_entry_eq]
  generalize (lg_sl ([.ref st, .ref rm]) ++ List.replicate (4 - (lg_sl ([.ref st, .ref rm])).length) Slot.unset).toArray = ls at hl ⊢
  have hl : lv_has ls 4 [(0, .ref st), (1, .ref rm)] := hl
  refine lv_aload_n hx hb dX4_countReached_0 rfl (lv_at hl 0 rfl) ?_
  refine lv_aload_n hx hb dX4_countReached_1 rfl (lv_at hl 1 rfl) ?_
  refine lv_iconst (v := 0) hx hb dX4_countReached_2 (by decide) ?_
  have hPr := (hR0).sub (ws' := [(st, .inr (6, [.ref a1, .ref a2, .ref a3])), (rm, .inr (5, [.ref lk, .ref th, .ref pl, .ref gm, .int 0, .int 0, .int 0, .int (-1), .int 1, .int 0, .int 0, .int 0]))]) [0, 1] rfl
  have hPc := hP.sub (ws' := [(a1, .inl (cZ, 1024, .inl f1)), (a2, .inl (cI, 1024, .inl f2)), (a3, .inl (cJ, 1024, .inl f3))]) [0, 1, 2] rfl
  have hDc := hD.sub (ws' := [(a1, .inl (cZ, 1024, .inl f1)), (a2, .inl (cI, 1024, .inl f2)), (a3, .inl (cJ, 1024, .inl f3))]) [0, 1, 2] (by decide) rfl
  have hKc := hK.sub (tys' := [(cZ, .boolean), (cI, .int), (cJ, .int)]) [0, 1, 2] rfl
  have hFc := va_free (wc := [(a1, .inl (cZ, 1024, .inl f1)), (a2, .inl (cI, 1024, .inl f2)), (a3, .inl (cJ, 1024, .inl f3))]) hD hS hA [0, 1, 2] rfl
  refine va_callv (va_runV (As := [.ref rm, .int 0]) (rest := []) ⟨hx, hb, hml, hown, hts⟩ (cz_explore l dC dI ed s.heap.size st a1 a2 a3 cZ cI cJ f1 f2 f3 rm lk th pl gm) (cwV 2 hts gX4_countReached_X4_explore rfl rfl rfl (by decide +kernel) ⟨Nat.le_of_ble_eq_true rfl, Nat.le_of_ble_eq_true rfl⟩) ⟨zb_blind, va_recv hK hR0 (ci := 6) (q0 := 0) rfl rfl, fun U hU hW => ⟨rfl, zb_mk hU hW hPr hPc hKc hDc hN hH hS hFc (zx_cons (zx_r (hAr _ (List.mem_of_getElem? (i := 0) rfl)) hDc) (zx_cons (zx_r (hAr _ (List.mem_of_getElem? (i := 1) rfl)) hDc) zx_nil))⟩⟩ rfl rfl hl.1 rfl (lv_room (Nat.le_of_ble_eq_true rfl)) dX4_countReached_3 ⟨Nat.le_of_ble_eq_true rfl, Nat.le_of_ble_eq_true rfl⟩) hS (fun q _ h => hFc q h) hFc (fun u t H1 locs ht hvm hw hB hz1 hk1 hS => ?_)
  obtain ⟨g1_3, g2_3, g3_3, ⟨k3_0, k3_1⟩, hP1, hD1, hK1⟩ := hB
  rw [ht] at hP1
  obtain ⟨hP, hD⟩ := va_join (wr := []) (w1 := [(a1, .inl (cZ, 1024, .inl g1_3)), (a2, .inl (cI, 1024, .inl g2_3)), (a3, .inl (cJ, 1024, .inl g3_3))]) hP hD [0, 1, 2] [] rfl rfl (by decide) (by decide) hk1 hFc hP1 hD1
  have hP : va_P (dC, dI) vwCl [(a1, .inl (cZ, 1024, .inl g1_3)), (a2, .inl (cI, 1024, .inl g2_3)), (a3, .inl (cJ, 1024, .inl g3_3))] H1 := hP
  have hD : va_D A [(a1, .inl (cZ, 1024, .inl g1_3)), (a2, .inl (cI, 1024, .inl g2_3)), (a3, .inl (cJ, 1024, .inl g3_3))] := hD
  refine lv_iconst (v := 0) hx hb dX4_countReached_6 (by decide) ?_
  refine lv_istore_n (lv' := [(2, .int 0), (0, .ref st), (1, .ref rm)]) hx hb dX4_countReached_7 rfl hl (by decide) rfl (fun ls hl => ?_)
  refine lv_iconst (v := 0) hx hb dX4_countReached_8 (by decide) ?_
  refine lv_istore_n (lv' := [(3, .int 0), (2, .int 0), (0, .ref st), (1, .ref rm)]) hx hb dX4_countReached_9 rfl hl (by decide) rfl (fun ls hl => ?_)
  refine lv_iload_n hx hb dX4_countReached_10 rfl (lv_at hl 0 rfl) ?_
  refine lv_aload_n hx hb dX4_countReached_11 rfl (lv_at hl 2 rfl) ?_
  refine lv_aload_n hx hb dX4_countReached_12 rfl (lv_at hl 3 rfl) ?_
  have hPr := ((zo_R hR0 hS hAr)).sub (ws' := [(rm, .inr (5, [.ref lk, .ref th, .ref pl, .ref gm, .int 0, .int 0, .int 0, .int (-1), .int 1, .int 0, .int 0, .int 0]))]) [1] rfl
  have hPc := hP.sub (ws' := []) [] rfl
  have hDc := hD.sub (ws' := []) [] (by decide) rfl
  have hKc := hK.sub (tys' := []) [] rfl
  have hFc := va_free (wc := []) hD hS hA [] rfl
  refine va_calli (va_runV (As := [.ref rm]) (rest := [.int 0]) ⟨hx, hb, hml, hown, hts⟩ (cz_endOfStands l dC dI ed H1.size st rm lk th pl gm) (cwV 1 hts gX4_countReached_X4_endOfStands rfl rfl rfl (by decide +kernel) ⟨Nat.le_of_ble_eq_true rfl, Nat.le_of_ble_eq_true rfl⟩) ⟨zb_blind, va_recv hK (zo_R hR0 hS hAr) (ci := 6) (q0 := 0) rfl rfl, fun U hU hW => ⟨rfl, zb_mk hU hW hPr hPc hKc hDc hN hH hS hFc zx_e⟩⟩ rfl rfl hl.1 rfl (lv_room (Nat.le_of_ble_eq_true rfl)) dX4_countReached_13 ⟨Nat.le_of_ble_eq_true rfl, Nat.le_of_ble_eq_true rfl⟩) hS (fun q _ h => hFc q h) hFc (fun r5 u t H4 locs ht hvm hw hB hz1 hk1 hS => ?_)
  obtain rfl : r5 = 1 := hw
  have hP := zo_K hP hk1
  refine lv_icmp_ge (tgt := 37) hx hb dX4_countReached_16 (by decide) (fun h => absurd h (by decide)) (fun _ => ?_)
  refine lv_iload_n hx hb dX4_countReached_19 rfl (lv_at hl 1 rfl) ?_
  refine lv_aload_n hx hb dX4_countReached_20 rfl (lv_at hl 2 rfl) ?_
  refine va_get (D := (dC, dI)) (ci := 6) (v := .ref a1) (C := RX4) (T := TX4) (N := 3) hx hb hts zi_X4_countReached_X4 hown hK (zo_R hR0 hS hAr) 0 rfl rfl 0 (by decide) (hts (.fieldLink RX4 9 "LockRooms$Stands" "isReached" "[Z") (by decide +kernel)) (fun _ h9 => h9) rfl dX4_countReached_21 ?_
  refine lv_iload_n hx hb dX4_countReached_24 rfl (lv_at hl 0 rfl) ?_
  refine va_zald hx hb hK hP 0 0 rfl rfl (by unfold vp_in; decide) dX4_countReached_25 ?_
  refine zo_i (v := 1) (by rw [show Int32.toNatClampNeg 0 = 0 from by decide]; exact k3_0) ?_
  have hPr := (zo_nil : va_P (dC, dI) vwCl [] H4)
  have hPc := hP.sub (ws' := []) [] rfl
  have hDc := hD.sub (ws' := []) [] (by decide) rfl
  have hKc := hK.sub (tys' := []) [] rfl
  have hFc := va_free (wc := []) hD hS hA [] rfl
  refine va_calli (va_runSN (As := [.int 1]) (rest := [.int 0]) ⟨hx, hb, hml, hown, hts⟩ (cz_oneIf_1 l dC dI ed H4.size ) ⟨(va_cnB 1 hts gX4_countReached_X6_oneIf_n30 rfl rfl rfl (hN.2.1 ("LockRooms$Stands", 30, yX6_oneIf, "LockRooms") (List.mem_of_getElem? (i := 7) rfl)) (hts (.initialized RX6) (by decide +kernel)) (by decide +kernel) ⟨Nat.le_of_ble_eq_true rfl, Nat.le_of_ble_eq_true rfl⟩), (hts (.static yX6_oneIf) (by decide +kernel)), trivial⟩ ⟨zb_blind, fun U hU hW => ⟨rfl, zb_mk hU hW hPr hPc hKc hDc hN hH hS hFc zx_e⟩⟩ rfl rfl hl.1 rfl (lv_room (Nat.le_of_ble_eq_true rfl)) dX4_countReached_26 ⟨Nat.le_of_ble_eq_true rfl, Nat.le_of_ble_eq_true rfl⟩) hS (fun q _ h => hFc q h) hFc (fun r7 u t H6 locs ht hvm hw hB hz1 hk1 hS => ?_)
  obtain rfl : r7 = 1 := hw
  have hP := zo_K hP hk1
  refine lv_iadd hx hb dX4_countReached_29 ?_
  refine zo_i (v := 1) (by decide) ?_
  refine lv_istore_n (lv' := [(2, .int 1), (3, .int 0), (0, .ref st), (1, .ref rm)]) hx hb dX4_countReached_30 rfl hl (by decide) rfl (fun ls hl => ?_)
  refine lv_iinc (v := 1) (lv' := [(3, .int 1), (2, .int 1), (0, .ref st), (1, .ref rm)]) hx hb dX4_countReached_31 hl (k := 1) rfl (by decide) (by decide) rfl (fun ls hl => ?_)
  refine lv_goto (tgt := 10) hx hb dX4_countReached_34 (by decide) ?_
  refine lv_iload_n hx hb dX4_countReached_10 rfl (lv_at hl 0 rfl) ?_
  refine lv_aload_n hx hb dX4_countReached_11 rfl (lv_at hl 2 rfl) ?_
  refine lv_aload_n hx hb dX4_countReached_12 rfl (lv_at hl 3 rfl) ?_
  have hPr := ((zo_R hR0 hS hAr)).sub (ws' := [(rm, .inr (5, [.ref lk, .ref th, .ref pl, .ref gm, .int 0, .int 0, .int 0, .int (-1), .int 1, .int 0, .int 0, .int 0]))]) [1] rfl
  have hPc := hP.sub (ws' := []) [] rfl
  have hDc := hD.sub (ws' := []) [] (by decide) rfl
  have hKc := hK.sub (tys' := []) [] rfl
  have hFc := va_free (wc := []) hD hS hA [] rfl
  refine va_calli (va_runV (As := [.ref rm]) (rest := [.int 1]) ⟨hx, hb, hml, hown, hts⟩ (cz_endOfStands l dC dI ed H6.size st rm lk th pl gm) (cwV 1 hts gX4_countReached_X4_endOfStands rfl rfl rfl (by decide +kernel) ⟨Nat.le_of_ble_eq_true rfl, Nat.le_of_ble_eq_true rfl⟩) ⟨zb_blind, va_recv hK (zo_R hR0 hS hAr) (ci := 6) (q0 := 0) rfl rfl, fun U hU hW => ⟨rfl, zb_mk hU hW hPr hPc hKc hDc hN hH hS hFc zx_e⟩⟩ rfl rfl hl.1 rfl (lv_room (Nat.le_of_ble_eq_true rfl)) dX4_countReached_13 ⟨Nat.le_of_ble_eq_true rfl, Nat.le_of_ble_eq_true rfl⟩) hS (fun q _ h => hFc q h) hFc (fun r9 u t H8 locs ht hvm hw hB hz1 hk1 hS => ?_)
  obtain rfl : r9 = 1 := hw
  have hP := zo_K hP hk1
  refine lv_icmp_ge (tgt := 37) hx hb dX4_countReached_16 (by decide) (fun _ => ?_) (fun h => absurd h (by decide))
  refine lv_iload_n hx hb dX4_countReached_37 rfl (lv_at hl 1 rfl) ?_
  refine W.widen (k := 0) (n := 0) (Nat.le_of_ble_eq_true rfl) (Nat.le_of_ble_eq_true rfl) ?_
  have hP9 := hP.sub (ws' := [(a1, .inl (cZ, 1024, .inl g1_3)), (a2, .inl (cI, 1024, .inl g2_3)), (a3, .inl (cJ, 1024, .inl g3_3))]) [0, 1, 2] rfl
  have hD9 := hD.sub (ws' := [(a1, .inl (cZ, 1024, .inl g1_3)), (a2, .inl (cI, 1024, .inl g2_3)), (a3, .inl (cJ, 1024, .inl g3_3))]) [0, 1, 2] (by decide) rfl
  have hK9 := hK.sub (tys' := [(cZ, .boolean), (cI, .int), (cJ, .int)]) [0, 1, 2] rfl
  exact W.iret hx hb hr (fun t ht hW => ⟨⟨1, (), rfl, rfl, ⟨g1_3, g2_3, g3_3, by rw [ht]; exact hP9, hD9, va_K.moved hW.alike hK9⟩⟩, hS.F ht⟩) hS.2.2 dX4_countReached_38

set_option maxRecDepth 20000 in
theorem zi_X4_countDeadEnds_X4 : ∀ w ∈ u_ws RX4 TX4 3, w ∈ wsX4_countDeadEnds := by decide +kernel
set_option maxHeartbeats 4000000 in
set_option maxRecDepth 100000 in
theorem cz_countDeadEnds (l : Launch) (dC : Nat → ClassId) (dI : Nat → Nat → Nat) (ed sz : Nat) (st : Nat) (a1 : Nat) (a2 : Nat) (a3 : Nat) (cZ : ClassId) (cI : ClassId) (cJ : ClassId) (f1 : Nat → Int32) (f2 : Nat → Int32) (f3 : Nat → Int32) (rm : Nat) (lk : Nat) (th : Nat) (pl : Nat) (gm : Nat) : Met l yX4_countDeadEnds wsX4_countDeadEnds ({ frames := 4, cells := 0, slots := 0, locals := 98 } : Jvm.Room) (va_Pc [.ref st, .ref rm] (zB dC dI ed sz [(st, .inr (6, [.ref a1, .ref a2, .ref a3])), (rm, .inr (5, [.ref lk, .ref th, .ref pl, .ref gm, .int 0, .int 0, .int 0, .int (-1), .int 1, .int 0, .int 0, .int 0]))] [(a1, .inl (cZ, 1024, .inl f1)), (a2, .inl (cI, 1024, .inl f2)), (a3, .inl (cJ, 1024, .inl f3))] [(cZ, .boolean), (cI, .int), (cJ, .int)])) (va_Qi (fun (r : Int32) (_ : Unit) => r = 1) (fun (_ : Unit) (t : State) => ∃ (g1 : Nat → Int32), ∃ (g2 : Nat → Int32), ∃ (g3 : Nat → Int32), va_P (dC, dI) vwCl [(a1, .inl (cZ, 1024, .inl g1)), (a2, .inl (cI, 1024, .inl g2)), (a3, .inl (cJ, 1024, .inl g3))] t.heap ∧ va_D (va_A [(a1, .inl (cZ, 1024, .inl f1)), (a2, .inl (cI, 1024, .inl f2)), (a3, .inl (cJ, 1024, .inl f3))] sz) [(a1, .inl (cZ, 1024, .inl g1)), (a2, .inl (cI, 1024, .inl g2)), (a3, .inl (cJ, 1024, .inl g3))] ∧ va_K (dC, dI) vwCl [(cZ, .boolean), (cI, .int), (cJ, .int)] t) (va_A [(a1, .inl (cZ, 1024, .inl f1)), (a2, .inl (cI, 1024, .inl f2)), (a3, .inl (cJ, 1024, .inl f3))] sz)) 0 0 (va_A [(a1, .inl (cZ, 1024, .inl f1)), (a2, .inl (cI, 1024, .inl f2)), (a3, .inl (cJ, 1024, .inl f3))] sz) := by
  refine Met.ofW (cc := cX4_countDeadEnds) (maxL := 4) (ret := (some .int)) (by decide) rfl ?_
  intro p e s m args below meth c s₁ B hml hv
  obtain ⟨rfl, hsz, hR0, hP, hK, hD0, hN, hH, hX0⟩ := hv
  have hx := B.exec
  have hb := B.bytes
  have hr := B.returns
  have hts := atoms_spec (ws := wsX4_countDeadEnds) B.pre
  have hown : s.vm.findClass RX4 = some m.cls := findClass_of_methodNamed B.named
  have hlocks := B.notSynchronized
  subst hsz
  have hD := hD0.self (sz := s.heap.size)
  have hAr := zx_A hX0 hR0
  generalize hAe : va_A [(a1, .inl (cZ, 1024, .inl f1)), (a2, .inl (cI, 1024, .inl f2)), (a3, .inl (cJ, 1024, .inl f3))] s.heap.size = A at hD hAr hH ⊢
  have hA : ∀ q : Nat, s.heap.size ≤ q → A q := fun q h => by rw [← hAe]; exact Or.inr h
  have hS : va_S A s.heap s.heap [] := va_S.rf
  have hl := lv_entry ([.ref st, .ref rm]) (n := 4) (Nat.le_of_ble_eq_true rfl)
  rw [lg_entry_eq]
  generalize (lg_sl ([.ref st, .ref rm]) ++ List.replicate (4 - (lg_sl ([.ref st, .ref rm])).length) Slot.unset).toArray = ls at hl ⊢
  have hl : lv_has ls 4 [(0, .ref st), (1, .ref rm)] := hl
  refine lv_aload_n hx hb dX4_countDeadEnds_0 rfl (lv_at hl 0 rfl) ?_
  refine lv_aload_n hx hb dX4_countDeadEnds_1 rfl (lv_at hl 1 rfl) ?_
  refine lv_iconst (v := 0) hx hb dX4_countDeadEnds_2 (by decide) ?_
  have hPr := (hR0).sub (ws' := [(st, .inr (6, [.ref a1, .ref a2, .ref a3])), (rm, .inr (5, [.ref lk, .ref th, .ref pl, .ref gm, .int 0, .int 0, .int 0, .int (-1), .int 1, .int 0, .int 0, .int 0]))]) [0, 1] rfl
  have hPc := hP.sub (ws' := [(a1, .inl (cZ, 1024, .inl f1)), (a2, .inl (cI, 1024, .inl f2)), (a3, .inl (cJ, 1024, .inl f3))]) [0, 1, 2] rfl
  have hDc := hD.sub (ws' := [(a1, .inl (cZ, 1024, .inl f1)), (a2, .inl (cI, 1024, .inl f2)), (a3, .inl (cJ, 1024, .inl f3))]) [0, 1, 2] (by decide) rfl
  have hKc := hK.sub (tys' := [(cZ, .boolean), (cI, .int), (cJ, .int)]) [0, 1, 2] rfl
  have hFc := va_free (wc := [(a1, .inl (cZ, 1024, .inl f1)), (a2, .inl (cI, 1024, .inl f2)), (a3, .inl (cJ, 1024, .inl f3))]) hD hS hA [0, 1, 2] rfl
  refine va_callv (va_runV (As := [.ref rm, .int 0]) (rest := []) ⟨hx, hb, hml, hown, hts⟩ (cz_explore l dC dI ed s.heap.size st a1 a2 a3 cZ cI cJ f1 f2 f3 rm lk th pl gm) (cwV 2 hts gX4_countDeadEnds_X4_explore rfl rfl rfl (by decide +kernel) ⟨Nat.le_of_ble_eq_true rfl, Nat.le_of_ble_eq_true rfl⟩) ⟨zb_blind, va_recv hK hR0 (ci := 6) (q0 := 0) rfl rfl, fun U hU hW => ⟨rfl, zb_mk hU hW hPr hPc hKc hDc hN hH hS hFc (zx_cons (zx_r (hAr _ (List.mem_of_getElem? (i := 0) rfl)) hDc) (zx_cons (zx_r (hAr _ (List.mem_of_getElem? (i := 1) rfl)) hDc) zx_nil))⟩⟩ rfl rfl hl.1 rfl (lv_room (Nat.le_of_ble_eq_true rfl)) dX4_countDeadEnds_3 ⟨Nat.le_of_ble_eq_true rfl, Nat.le_of_ble_eq_true rfl⟩) hS (fun q _ h => hFc q h) hFc (fun u t H1 locs ht hvm hw hB hz1 hk1 hS => ?_)
  obtain ⟨g1_3, g2_3, g3_3, ⟨k3_0, k3_1⟩, hP1, hD1, hK1⟩ := hB
  rw [ht] at hP1
  obtain ⟨hP, hD⟩ := va_join (wr := []) (w1 := [(a1, .inl (cZ, 1024, .inl g1_3)), (a2, .inl (cI, 1024, .inl g2_3)), (a3, .inl (cJ, 1024, .inl g3_3))]) hP hD [0, 1, 2] [] rfl rfl (by decide) (by decide) hk1 hFc hP1 hD1
  have hP : va_P (dC, dI) vwCl [(a1, .inl (cZ, 1024, .inl g1_3)), (a2, .inl (cI, 1024, .inl g2_3)), (a3, .inl (cJ, 1024, .inl g3_3))] H1 := hP
  have hD : va_D A [(a1, .inl (cZ, 1024, .inl g1_3)), (a2, .inl (cI, 1024, .inl g2_3)), (a3, .inl (cJ, 1024, .inl g3_3))] := hD
  refine lv_iconst (v := 0) hx hb dX4_countDeadEnds_6 (by decide) ?_
  refine lv_istore_n (lv' := [(2, .int 0), (0, .ref st), (1, .ref rm)]) hx hb dX4_countDeadEnds_7 rfl hl (by decide) rfl (fun ls hl => ?_)
  refine lv_iconst (v := 0) hx hb dX4_countDeadEnds_8 (by decide) ?_
  refine lv_istore_n (lv' := [(3, .int 0), (2, .int 0), (0, .ref st), (1, .ref rm)]) hx hb dX4_countDeadEnds_9 rfl hl (by decide) rfl (fun ls hl => ?_)
  refine lv_iload_n hx hb dX4_countDeadEnds_10 rfl (lv_at hl 0 rfl) ?_
  refine lv_aload_n hx hb dX4_countDeadEnds_11 rfl (lv_at hl 2 rfl) ?_
  refine lv_aload_n hx hb dX4_countDeadEnds_12 rfl (lv_at hl 3 rfl) ?_
  have hPr := ((zo_R hR0 hS hAr)).sub (ws' := [(rm, .inr (5, [.ref lk, .ref th, .ref pl, .ref gm, .int 0, .int 0, .int 0, .int (-1), .int 1, .int 0, .int 0, .int 0]))]) [1] rfl
  have hPc := hP.sub (ws' := []) [] rfl
  have hDc := hD.sub (ws' := []) [] (by decide) rfl
  have hKc := hK.sub (tys' := []) [] rfl
  have hFc := va_free (wc := []) hD hS hA [] rfl
  refine va_calli (va_runV (As := [.ref rm]) (rest := [.int 0]) ⟨hx, hb, hml, hown, hts⟩ (cz_endOfStands l dC dI ed H1.size st rm lk th pl gm) (cwV 1 hts gX4_countDeadEnds_X4_endOfStands rfl rfl rfl (by decide +kernel) ⟨Nat.le_of_ble_eq_true rfl, Nat.le_of_ble_eq_true rfl⟩) ⟨zb_blind, va_recv hK (zo_R hR0 hS hAr) (ci := 6) (q0 := 0) rfl rfl, fun U hU hW => ⟨rfl, zb_mk hU hW hPr hPc hKc hDc hN hH hS hFc zx_e⟩⟩ rfl rfl hl.1 rfl (lv_room (Nat.le_of_ble_eq_true rfl)) dX4_countDeadEnds_13 ⟨Nat.le_of_ble_eq_true rfl, Nat.le_of_ble_eq_true rfl⟩) hS (fun q _ h => hFc q h) hFc (fun r5 u t H4 locs ht hvm hw hB hz1 hk1 hS => ?_)
  obtain rfl : r5 = 1 := hw
  have hP := zo_K hP hk1
  refine lv_icmp_ge (tgt := 55) hx hb dX4_countDeadEnds_16 (by decide) (fun h => absurd h (by decide)) (fun _ => ?_)
  refine lv_iload_n hx hb dX4_countDeadEnds_19 rfl (lv_at hl 1 rfl) ?_
  refine lv_aload_n hx hb dX4_countDeadEnds_20 rfl (lv_at hl 2 rfl) ?_
  refine va_get (D := (dC, dI)) (ci := 6) (v := .ref a1) (C := RX4) (T := TX4) (N := 3) hx hb hts zi_X4_countDeadEnds_X4 hown hK (zo_R hR0 hS hAr) 0 rfl rfl 0 (by decide) (hts (.fieldLink RX4 9 "LockRooms$Stands" "isReached" "[Z") (by decide +kernel)) (fun _ h9 => h9) rfl dX4_countDeadEnds_21 ?_
  refine lv_iload_n hx hb dX4_countDeadEnds_24 rfl (lv_at hl 0 rfl) ?_
  refine va_zald hx hb hK hP 0 0 rfl rfl (by unfold vp_in; decide) dX4_countDeadEnds_25 ?_
  refine zo_i (v := 1) (by rw [show Int32.toNatClampNeg 0 = 0 from by decide]; exact k3_0) ?_
  refine lv_if_eq (tgt := 43) hx hb dX4_countDeadEnds_26 (by decide) (fun h => absurd h (by decide)) (fun _ => ?_)
  refine lv_aload_n hx hb dX4_countDeadEnds_29 rfl (lv_at hl 2 rfl) ?_
  refine va_get (D := (dC, dI)) (ci := 6) (v := .ref a3) (C := RX4) (T := TX4) (N := 3) hx hb hts zi_X4_countDeadEnds_X4 hown hK (zo_R hR0 hS hAr) 0 rfl rfl 2 (by decide) (hts (.fieldLink RX4 19 "LockRooms$Stands" "yet" "[I") (by decide +kernel)) (fun _ h9 => h9) rfl dX4_countDeadEnds_30 ?_
  refine lv_iload_n hx hb dX4_countDeadEnds_33 rfl (lv_at hl 0 rfl) ?_
  refine va_iald hx hb hK hP 2 2 rfl rfl (by unfold vp_in; decide) dX4_countDeadEnds_34 ?_
  refine zo_i (v := (-1)) (by rw [show Int32.toNatClampNeg 0 = 0 from by decide]; exact k3_1) ?_
  refine lv_iconst (v := (-1)) hx hb dX4_countDeadEnds_35 (by decide) ?_
  refine lv_icmp_ne (tgt := 43) hx hb dX4_countDeadEnds_36 (by decide) (fun h => absurd h (by decide)) (fun _ => ?_)
  refine lv_iconst (v := 1) hx hb dX4_countDeadEnds_39 (by decide) ?_
  refine lv_goto (tgt := 44) hx hb dX4_countDeadEnds_40 (by decide) ?_
  have hPr := (zo_nil : va_P (dC, dI) vwCl [] H4)
  have hPc := hP.sub (ws' := []) [] rfl
  have hDc := hD.sub (ws' := []) [] (by decide) rfl
  have hKc := hK.sub (tys' := []) [] rfl
  have hFc := va_free (wc := []) hD hS hA [] rfl
  refine va_calli (va_runSN (As := [.int 1]) (rest := [.int 0]) ⟨hx, hb, hml, hown, hts⟩ (cz_oneIf_1 l dC dI ed H4.size ) ⟨(va_cnB 1 hts gX4_countDeadEnds_X6_oneIf_n30 rfl rfl rfl (hN.2.1 ("LockRooms$Stands", 30, yX6_oneIf, "LockRooms") (List.mem_of_getElem? (i := 7) rfl)) (hts (.initialized RX6) (by decide +kernel)) (by decide +kernel) ⟨Nat.le_of_ble_eq_true rfl, Nat.le_of_ble_eq_true rfl⟩), (hts (.static yX6_oneIf) (by decide +kernel)), trivial⟩ ⟨zb_blind, fun U hU hW => ⟨rfl, zb_mk hU hW hPr hPc hKc hDc hN hH hS hFc zx_e⟩⟩ rfl rfl hl.1 rfl (lv_room (Nat.le_of_ble_eq_true rfl)) dX4_countDeadEnds_44 ⟨Nat.le_of_ble_eq_true rfl, Nat.le_of_ble_eq_true rfl⟩) hS (fun q _ h => hFc q h) hFc (fun r7 u t H6 locs ht hvm hw hB hz1 hk1 hS => ?_)
  obtain rfl : r7 = 1 := hw
  have hP := zo_K hP hk1
  refine lv_iadd hx hb dX4_countDeadEnds_47 ?_
  refine zo_i (v := 1) (by decide) ?_
  refine lv_istore_n (lv' := [(2, .int 1), (3, .int 0), (0, .ref st), (1, .ref rm)]) hx hb dX4_countDeadEnds_48 rfl hl (by decide) rfl (fun ls hl => ?_)
  refine lv_iinc (v := 1) (lv' := [(3, .int 1), (2, .int 1), (0, .ref st), (1, .ref rm)]) hx hb dX4_countDeadEnds_49 hl (k := 1) rfl (by decide) (by decide) rfl (fun ls hl => ?_)
  refine lv_goto (tgt := 10) hx hb dX4_countDeadEnds_52 (by decide) ?_
  refine lv_iload_n hx hb dX4_countDeadEnds_10 rfl (lv_at hl 0 rfl) ?_
  refine lv_aload_n hx hb dX4_countDeadEnds_11 rfl (lv_at hl 2 rfl) ?_
  refine lv_aload_n hx hb dX4_countDeadEnds_12 rfl (lv_at hl 3 rfl) ?_
  have hPr := ((zo_R hR0 hS hAr)).sub (ws' := [(rm, .inr (5, [.ref lk, .ref th, .ref pl, .ref gm, .int 0, .int 0, .int 0, .int (-1), .int 1, .int 0, .int 0, .int 0]))]) [1] rfl
  have hPc := hP.sub (ws' := []) [] rfl
  have hDc := hD.sub (ws' := []) [] (by decide) rfl
  have hKc := hK.sub (tys' := []) [] rfl
  have hFc := va_free (wc := []) hD hS hA [] rfl
  refine va_calli (va_runV (As := [.ref rm]) (rest := [.int 1]) ⟨hx, hb, hml, hown, hts⟩ (cz_endOfStands l dC dI ed H6.size st rm lk th pl gm) (cwV 1 hts gX4_countDeadEnds_X4_endOfStands rfl rfl rfl (by decide +kernel) ⟨Nat.le_of_ble_eq_true rfl, Nat.le_of_ble_eq_true rfl⟩) ⟨zb_blind, va_recv hK (zo_R hR0 hS hAr) (ci := 6) (q0 := 0) rfl rfl, fun U hU hW => ⟨rfl, zb_mk hU hW hPr hPc hKc hDc hN hH hS hFc zx_e⟩⟩ rfl rfl hl.1 rfl (lv_room (Nat.le_of_ble_eq_true rfl)) dX4_countDeadEnds_13 ⟨Nat.le_of_ble_eq_true rfl, Nat.le_of_ble_eq_true rfl⟩) hS (fun q _ h => hFc q h) hFc (fun r9 u t H8 locs ht hvm hw hB hz1 hk1 hS => ?_)
  obtain rfl : r9 = 1 := hw
  have hP := zo_K hP hk1
  refine lv_icmp_ge (tgt := 55) hx hb dX4_countDeadEnds_16 (by decide) (fun _ => ?_) (fun h => absurd h (by decide))
  refine lv_iload_n hx hb dX4_countDeadEnds_55 rfl (lv_at hl 1 rfl) ?_
  refine W.widen (k := 0) (n := 0) (Nat.le_of_ble_eq_true rfl) (Nat.le_of_ble_eq_true rfl) ?_
  have hP9 := hP.sub (ws' := [(a1, .inl (cZ, 1024, .inl g1_3)), (a2, .inl (cI, 1024, .inl g2_3)), (a3, .inl (cJ, 1024, .inl g3_3))]) [0, 1, 2] rfl
  have hD9 := hD.sub (ws' := [(a1, .inl (cZ, 1024, .inl g1_3)), (a2, .inl (cI, 1024, .inl g2_3)), (a3, .inl (cJ, 1024, .inl g3_3))]) [0, 1, 2] (by decide) rfl
  have hK9 := hK.sub (tys' := [(cZ, .boolean), (cI, .int), (cJ, .int)]) [0, 1, 2] rfl
  exact W.iret hx hb hr (fun t ht hW => ⟨⟨1, (), rfl, rfl, ⟨g1_3, g2_3, g3_3, by rw [ht]; exact hP9, hD9, va_K.moved hW.alike hK9⟩⟩, hS.F ht⟩) hS.2.2 dX4_countDeadEnds_56

set_option maxHeartbeats 4000000 in
set_option maxRecDepth 100000 in
theorem cz_findMusts (l : Launch) (dC : Nat → ClassId) (dI : Nat → Nat → Nat) (ed sz : Nat) (st : Nat) (a1 : Nat) (a2 : Nat) (a3 : Nat) (cZ : ClassId) (cI : ClassId) (cJ : ClassId) (f1 : Nat → Int32) (f2 : Nat → Int32) (f3 : Nat → Int32) (rm : Nat) (lk : Nat) (th : Nat) (pl : Nat) (gm : Nat) : Met l yX4_findMusts wsX4_findMusts ({ frames := 4, cells := 0, slots := 0, locals := 98 } : Jvm.Room) (va_Pc [.ref st, .ref rm] (zB dC dI ed sz [(st, .inr (6, [.ref a1, .ref a2, .ref a3])), (rm, .inr (5, [.ref lk, .ref th, .ref pl, .ref gm, .int 0, .int 0, .int 0, .int (-1), .int 1, .int 0, .int 0, .int 0]))] [(a1, .inl (cZ, 1024, .inl f1)), (a2, .inl (cI, 1024, .inl f2)), (a3, .inl (cJ, 1024, .inl f3))] [(cZ, .boolean), (cI, .int), (cJ, .int)])) (va_Qi (fun (r : Int32) (_ : Unit) => r = 0) (fun (_ : Unit) (t : State) => ∃ (g1 : Nat → Int32), ∃ (g2 : Nat → Int32), ∃ (g3 : Nat → Int32), va_P (dC, dI) vwCl [(a1, .inl (cZ, 1024, .inl g1)), (a2, .inl (cI, 1024, .inl g2)), (a3, .inl (cJ, 1024, .inl g3))] t.heap ∧ va_D (va_A [(a1, .inl (cZ, 1024, .inl f1)), (a2, .inl (cI, 1024, .inl f2)), (a3, .inl (cJ, 1024, .inl f3))] sz) [(a1, .inl (cZ, 1024, .inl g1)), (a2, .inl (cI, 1024, .inl g2)), (a3, .inl (cJ, 1024, .inl g3))] ∧ va_K (dC, dI) vwCl [(cZ, .boolean), (cI, .int), (cJ, .int)] t) (va_A [(a1, .inl (cZ, 1024, .inl f1)), (a2, .inl (cI, 1024, .inl f2)), (a3, .inl (cJ, 1024, .inl f3))] sz)) 0 0 (va_A [(a1, .inl (cZ, 1024, .inl f1)), (a2, .inl (cI, 1024, .inl f2)), (a3, .inl (cJ, 1024, .inl f3))] sz) := by
  refine Met.ofW (cc := cX4_findMusts) (maxL := 5) (ret := (some .int)) (by decide) rfl ?_
  intro p e s m args below meth c s₁ B hml hv
  obtain ⟨rfl, hsz, hR0, hP, hK, hD0, hN, hH, hX0⟩ := hv
  have hx := B.exec
  have hb := B.bytes
  have hr := B.returns
  have hts := atoms_spec (ws := wsX4_findMusts) B.pre
  have hown : s.vm.findClass RX4 = some m.cls := findClass_of_methodNamed B.named
  have hlocks := B.notSynchronized
  subst hsz
  have hD := hD0.self (sz := s.heap.size)
  have hAr := zx_A hX0 hR0
  generalize hAe : va_A [(a1, .inl (cZ, 1024, .inl f1)), (a2, .inl (cI, 1024, .inl f2)), (a3, .inl (cJ, 1024, .inl f3))] s.heap.size = A at hD hAr hH ⊢
  have hA : ∀ q : Nat, s.heap.size ≤ q → A q := fun q h => by rw [← hAe]; exact Or.inr h
  have hS : va_S A s.heap s.heap [] := va_S.rf
  have hl := lv_entry ([.ref st, .ref rm]) (n := 5) (Nat.le_of_ble_eq_true rfl)
  rw [lg_entry_eq]
  generalize (lg_sl ([.ref st, .ref rm]) ++ List.replicate (5 - (lg_sl ([.ref st, .ref rm])).length) Slot.unset).toArray = ls at hl ⊢
  have hl : lv_has ls 5 [(0, .ref st), (1, .ref rm)] := hl
  refine lv_aload_n hx hb dX4_findMusts_0 rfl (lv_at hl 1 rfl) ?_
  have hPr := (hR0).sub (ws' := [(rm, .inr (5, [.ref lk, .ref th, .ref pl, .ref gm, .int 0, .int 0, .int 0, .int (-1), .int 1, .int 0, .int 0, .int 0]))]) [1] rfl
  have hPc := hP.sub (ws' := []) [] rfl
  have hDc := hD.sub (ws' := []) [] (by decide) rfl
  have hKc := hK.sub (tys' := []) [] rfl
  have hFc := va_free (wc := []) hD hS hA [] rfl
  refine va_calli (va_runV (As := []) (rest := []) ⟨hx, hb, hml, hown, hts⟩ (cz_openLocks l dC dI ed s.heap.size rm lk th pl gm) (cwV 0 hts gX4_findMusts_X3_openLocks rfl rfl rfl (by decide +kernel) ⟨Nat.le_of_ble_eq_true rfl, Nat.le_of_ble_eq_true rfl⟩) ⟨zb_blind, va_recv hK hR0 (ci := 5) (q0 := 1) rfl rfl, fun U hU hW => ⟨rfl, zb_mk hU hW hPr hPc hKc hDc hN hH hS hFc zx_e⟩⟩ rfl rfl hl.1 rfl (lv_room (Nat.le_of_ble_eq_true rfl)) dX4_findMusts_1 ⟨Nat.le_of_ble_eq_true rfl, Nat.le_of_ble_eq_true rfl⟩) hS (fun q _ h => hFc q h) hFc (fun r2 u t H1 locs ht hvm hw hB hz1 hk1 hS => ?_)
  obtain rfl : r2 = 0 := hw
  have hP := zo_K hP hk1
  refine lv_istore_n (lv' := [(2, .int 0), (0, .ref st), (1, .ref rm)]) hx hb dX4_findMusts_4 rfl hl (by decide) rfl (fun ls hl => ?_)
  refine lv_aload_n hx hb dX4_findMusts_5 rfl (lv_at hl 1 rfl) ?_
  refine lv_aload_n hx hb dX4_findMusts_6 rfl (lv_at hl 2 rfl) ?_
  refine lv_iconst (v := 0) hx hb dX4_findMusts_7 (by decide) ?_
  have hPr := ((zo_R hR0 hS hAr)).sub (ws' := [(st, .inr (6, [.ref a1, .ref a2, .ref a3])), (rm, .inr (5, [.ref lk, .ref th, .ref pl, .ref gm, .int 0, .int 0, .int 0, .int (-1), .int 1, .int 0, .int 0, .int 0]))]) [0, 1] rfl
  have hPc := hP.sub (ws' := [(a1, .inl (cZ, 1024, .inl f1)), (a2, .inl (cI, 1024, .inl f2)), (a3, .inl (cJ, 1024, .inl f3))]) [0, 1, 2] rfl
  have hDc := hD.sub (ws' := [(a1, .inl (cZ, 1024, .inl f1)), (a2, .inl (cI, 1024, .inl f2)), (a3, .inl (cJ, 1024, .inl f3))]) [0, 1, 2] (by decide) rfl
  have hKc := hK.sub (tys' := [(cZ, .boolean), (cI, .int), (cJ, .int)]) [0, 1, 2] rfl
  have hFc := va_free (wc := [(a1, .inl (cZ, 1024, .inl f1)), (a2, .inl (cI, 1024, .inl f2)), (a3, .inl (cJ, 1024, .inl f3))]) hD hS hA [0, 1, 2] rfl
  refine va_callv (va_runV (As := [.ref rm, .int 0]) (rest := []) ⟨hx, hb, hml, hown, hts⟩ (cz_explore l dC dI ed H1.size st a1 a2 a3 cZ cI cJ f1 f2 f3 rm lk th pl gm) (cwV 2 hts gX4_findMusts_X4_explore rfl rfl rfl (by decide +kernel) ⟨Nat.le_of_ble_eq_true rfl, Nat.le_of_ble_eq_true rfl⟩) ⟨zb_blind, va_recv hK (zo_R hR0 hS hAr) (ci := 6) (q0 := 0) rfl rfl, fun U hU hW => ⟨rfl, zb_mk hU hW hPr hPc hKc hDc hN hH hS hFc (zx_cons (zx_r (hAr _ (List.mem_of_getElem? (i := 0) rfl)) hDc) (zx_cons (zx_r (hAr _ (List.mem_of_getElem? (i := 1) rfl)) hDc) zx_nil))⟩⟩ rfl rfl hl.1 rfl (lv_room (Nat.le_of_ble_eq_true rfl)) dX4_findMusts_8 ⟨Nat.le_of_ble_eq_true rfl, Nat.le_of_ble_eq_true rfl⟩) hS (fun q _ h => hFc q h) hFc (fun u t H3 locs ht hvm hw hB hz1 hk1 hS => ?_)
  obtain ⟨g1_5, g2_5, g3_5, ⟨k5_0, k5_1⟩, hP1, hD1, hK1⟩ := hB
  rw [ht] at hP1
  obtain ⟨hP, hD⟩ := va_join (wr := []) (w1 := [(a1, .inl (cZ, 1024, .inl g1_5)), (a2, .inl (cI, 1024, .inl g2_5)), (a3, .inl (cJ, 1024, .inl g3_5))]) hP hD [0, 1, 2] [] rfl rfl (by decide) (by decide) hk1 hFc hP1 hD1
  have hP : va_P (dC, dI) vwCl [(a1, .inl (cZ, 1024, .inl g1_5)), (a2, .inl (cI, 1024, .inl g2_5)), (a3, .inl (cJ, 1024, .inl g3_5))] H3 := hP
  have hD : va_D A [(a1, .inl (cZ, 1024, .inl g1_5)), (a2, .inl (cI, 1024, .inl g2_5)), (a3, .inl (cJ, 1024, .inl g3_5))] := hD
  refine lv_aload_n hx hb dX4_findMusts_11 rfl (lv_at hl 1 rfl) ?_
  refine lv_iload_n hx hb dX4_findMusts_12 rfl (lv_at hl 0 rfl) ?_
  have hPr := (show va_P (dC, dI) vwCl [(st, .inr (6, [.ref a1, .ref a2, .ref a3])), (a3, .inl (cJ, 1024, .inl g3_5))] H3 from (zo_cons (((zo_R hR0 hS hAr)) 0 _ rfl) (zo_cons ((hP) 2 _ rfl) (zo_nil : va_P (dC, dI) vwCl [] H3))))
  have hPc := hP.sub (ws' := []) [] rfl
  have hDc := hD.sub (ws' := []) [] (by decide) rfl
  have hKc := hK.sub (tys' := [(cJ, .int)]) [2] rfl
  have hFc := va_free (wc := []) hD hS hA [] rfl
  refine va_calli (va_runV (As := [.int 0]) (rest := []) ⟨hx, hb, hml, hown, hts⟩ (cz_yetBehind_n1 l dC dI ed H3.size st a1 a2 a3 cJ g3_5 k5_1) (cwV 1 hts gX4_findMusts_X4_yetBehind rfl rfl rfl (by decide +kernel) ⟨Nat.le_of_ble_eq_true rfl, Nat.le_of_ble_eq_true rfl⟩) ⟨zb_blind, va_recv hK (zo_R hR0 hS hAr) (ci := 6) (q0 := 0) rfl rfl, fun U hU hW => ⟨rfl, zb_mk hU hW hPr hPc hKc hDc hN hH hS hFc zx_e⟩⟩ rfl rfl hl.1 rfl (lv_room (Nat.le_of_ble_eq_true rfl)) dX4_findMusts_13 ⟨Nat.le_of_ble_eq_true rfl, Nat.le_of_ble_eq_true rfl⟩) hS (fun q _ h => hFc q h) hFc (fun r7 u t H6 locs ht hvm hw hB hz1 hk1 hS => ?_)
  obtain rfl : r7 = (-1) := hw
  have hP := zo_K hP hk1
  refine lv_iconst (v := (-1)) hx hb dX4_findMusts_16 (by decide) ?_
  refine lv_icmp_ne (tgt := 22) hx hb dX4_findMusts_17 (by decide) (fun h => absurd h (by decide)) (fun _ => ?_)
  refine lv_iconst (v := 0) hx hb dX4_findMusts_20 (by decide) ?_
  refine W.widen (k := 0) (n := 0) (Nat.le_of_ble_eq_true rfl) (Nat.le_of_ble_eq_true rfl) ?_
  have hP9 := hP.sub (ws' := [(a1, .inl (cZ, 1024, .inl g1_5)), (a2, .inl (cI, 1024, .inl g2_5)), (a3, .inl (cJ, 1024, .inl g3_5))]) [0, 1, 2] rfl
  have hD9 := hD.sub (ws' := [(a1, .inl (cZ, 1024, .inl g1_5)), (a2, .inl (cI, 1024, .inl g2_5)), (a3, .inl (cJ, 1024, .inl g3_5))]) [0, 1, 2] (by decide) rfl
  have hK9 := hK.sub (tys' := [(cZ, .boolean), (cI, .int), (cJ, .int)]) [0, 1, 2] rfl
  exact W.iret hx hb hr (fun t ht hW => ⟨⟨0, (), rfl, rfl, ⟨g1_5, g2_5, g3_5, by rw [ht]; exact hP9, hD9, va_K.moved hW.alike hK9⟩⟩, hS.F ht⟩) hS.2.2 dX4_findMusts_21

set_option maxRecDepth 20000 in
theorem zi_X4_findBestReady_X3 : ∀ w ∈ u_ws RX3 TX3 12, w ∈ wsX4_findBestReady := by decide +kernel
set_option maxHeartbeats 4000000 in
set_option maxRecDepth 100000 in
theorem cz_findBestReady (l : Launch) (dC : Nat → ClassId) (dI : Nat → Nat → Nat) (ed sz : Nat) (st : Nat) (a1 : Nat) (a2 : Nat) (a3 : Nat) (cZ : ClassId) (cI : ClassId) (cJ : ClassId) (f1 : Nat → Int32) (f2 : Nat → Int32) (f3 : Nat → Int32) (rm : Nat) (lk : Nat) (th : Nat) (pl : Nat) (gm : Nat) : Met l yX4_findBestReady wsX4_findBestReady ({ frames := 4, cells := 0, slots := 0, locals := 98 } : Jvm.Room) (va_Pc [.ref st, .ref rm] (zB dC dI ed sz [(st, .inr (6, [.ref a1, .ref a2, .ref a3])), (rm, .inr (5, [.ref lk, .ref th, .ref pl, .ref gm, .int 0, .int 0, .int 0, .int (-1), .int 1, .int 0, .int 0, .int 0]))] [(a1, .inl (cZ, 1024, .inl f1)), (a2, .inl (cI, 1024, .inl f2)), (a3, .inl (cJ, 1024, .inl f3))] [(cZ, .boolean), (cI, .int), (cJ, .int)])) (va_Qi (fun (r : Int32) (_ : Unit) => r = (-1)) (fun (_ : Unit) (t : State) => ∃ (g1 : Nat → Int32), ∃ (g2 : Nat → Int32), ∃ (g3 : Nat → Int32), va_P (dC, dI) vwCl [(a1, .inl (cZ, 1024, .inl g1)), (a2, .inl (cI, 1024, .inl g2)), (a3, .inl (cJ, 1024, .inl g3))] t.heap ∧ va_D (va_A [(a1, .inl (cZ, 1024, .inl f1)), (a2, .inl (cI, 1024, .inl f2)), (a3, .inl (cJ, 1024, .inl f3))] sz) [(a1, .inl (cZ, 1024, .inl g1)), (a2, .inl (cI, 1024, .inl g2)), (a3, .inl (cJ, 1024, .inl g3))] ∧ va_K (dC, dI) vwCl [(cZ, .boolean), (cI, .int), (cJ, .int)] t) (va_A [(a1, .inl (cZ, 1024, .inl f1)), (a2, .inl (cI, 1024, .inl f2)), (a3, .inl (cJ, 1024, .inl f3))] sz)) 0 0 (va_A [(a1, .inl (cZ, 1024, .inl f1)), (a2, .inl (cI, 1024, .inl f2)), (a3, .inl (cJ, 1024, .inl f3))] sz) := by
  refine Met.ofW (cc := cX4_findBestReady) (maxL := 8) (ret := (some .int)) (by decide) rfl ?_
  intro p e s m args below meth c s₁ B hml hv
  obtain ⟨rfl, hsz, hR0, hP, hK, hD0, hN, hH, hX0⟩ := hv
  have hx := B.exec
  have hb := B.bytes
  have hr := B.returns
  have hts := atoms_spec (ws := wsX4_findBestReady) B.pre
  have hown : s.vm.findClass RX4 = some m.cls := findClass_of_methodNamed B.named
  have hlocks := B.notSynchronized
  subst hsz
  have hD := hD0.self (sz := s.heap.size)
  have hAr := zx_A hX0 hR0
  generalize hAe : va_A [(a1, .inl (cZ, 1024, .inl f1)), (a2, .inl (cI, 1024, .inl f2)), (a3, .inl (cJ, 1024, .inl f3))] s.heap.size = A at hD hAr hH ⊢
  have hA : ∀ q : Nat, s.heap.size ≤ q → A q := fun q h => by rw [← hAe]; exact Or.inr h
  have hS : va_S A s.heap s.heap [] := va_S.rf
  have hl := lv_entry ([.ref st, .ref rm]) (n := 8) (Nat.le_of_ble_eq_true rfl)
  rw [lg_entry_eq]
  generalize (lg_sl ([.ref st, .ref rm]) ++ List.replicate (8 - (lg_sl ([.ref st, .ref rm])).length) Slot.unset).toArray = ls at hl ⊢
  have hl : lv_has ls 8 [(0, .ref st), (1, .ref rm)] := hl
  refine lv_aload_n hx hb dX4_findBestReady_0 rfl (lv_at hl 0 rfl) ?_
  refine lv_aload_n hx hb dX4_findBestReady_1 rfl (lv_at hl 1 rfl) ?_
  refine lv_iconst (v := 0) hx hb dX4_findBestReady_2 (by decide) ?_
  have hPr := (hR0).sub (ws' := [(st, .inr (6, [.ref a1, .ref a2, .ref a3])), (rm, .inr (5, [.ref lk, .ref th, .ref pl, .ref gm, .int 0, .int 0, .int 0, .int (-1), .int 1, .int 0, .int 0, .int 0]))]) [0, 1] rfl
  have hPc := hP.sub (ws' := [(a1, .inl (cZ, 1024, .inl f1)), (a2, .inl (cI, 1024, .inl f2)), (a3, .inl (cJ, 1024, .inl f3))]) [0, 1, 2] rfl
  have hDc := hD.sub (ws' := [(a1, .inl (cZ, 1024, .inl f1)), (a2, .inl (cI, 1024, .inl f2)), (a3, .inl (cJ, 1024, .inl f3))]) [0, 1, 2] (by decide) rfl
  have hKc := hK.sub (tys' := [(cZ, .boolean), (cI, .int), (cJ, .int)]) [0, 1, 2] rfl
  have hFc := va_free (wc := [(a1, .inl (cZ, 1024, .inl f1)), (a2, .inl (cI, 1024, .inl f2)), (a3, .inl (cJ, 1024, .inl f3))]) hD hS hA [0, 1, 2] rfl
  refine va_callv (va_runV (As := [.ref rm, .int 0]) (rest := []) ⟨hx, hb, hml, hown, hts⟩ (cz_explore l dC dI ed s.heap.size st a1 a2 a3 cZ cI cJ f1 f2 f3 rm lk th pl gm) (cwV 2 hts gX4_findBestReady_X4_explore rfl rfl rfl (by decide +kernel) ⟨Nat.le_of_ble_eq_true rfl, Nat.le_of_ble_eq_true rfl⟩) ⟨zb_blind, va_recv hK hR0 (ci := 6) (q0 := 0) rfl rfl, fun U hU hW => ⟨rfl, zb_mk hU hW hPr hPc hKc hDc hN hH hS hFc (zx_cons (zx_r (hAr _ (List.mem_of_getElem? (i := 0) rfl)) hDc) (zx_cons (zx_r (hAr _ (List.mem_of_getElem? (i := 1) rfl)) hDc) zx_nil))⟩⟩ rfl rfl hl.1 rfl (lv_room (Nat.le_of_ble_eq_true rfl)) dX4_findBestReady_3 ⟨Nat.le_of_ble_eq_true rfl, Nat.le_of_ble_eq_true rfl⟩) hS (fun q _ h => hFc q h) hFc (fun u t H1 locs ht hvm hw hB hz1 hk1 hS => ?_)
  obtain ⟨g1_3, g2_3, g3_3, ⟨k3_0, k3_1⟩, hP1, hD1, hK1⟩ := hB
  rw [ht] at hP1
  obtain ⟨hP, hD⟩ := va_join (wr := []) (w1 := [(a1, .inl (cZ, 1024, .inl g1_3)), (a2, .inl (cI, 1024, .inl g2_3)), (a3, .inl (cJ, 1024, .inl g3_3))]) hP hD [0, 1, 2] [] rfl rfl (by decide) (by decide) hk1 hFc hP1 hD1
  have hP : va_P (dC, dI) vwCl [(a1, .inl (cZ, 1024, .inl g1_3)), (a2, .inl (cI, 1024, .inl g2_3)), (a3, .inl (cJ, 1024, .inl g3_3))] H1 := hP
  have hD : va_D A [(a1, .inl (cZ, 1024, .inl g1_3)), (a2, .inl (cI, 1024, .inl g2_3)), (a3, .inl (cJ, 1024, .inl g3_3))] := hD
  refine lv_aload_n hx hb dX4_findBestReady_6 rfl (lv_at hl 1 rfl) ?_
  have hPr := ((zo_R hR0 hS hAr)).sub (ws' := [(rm, .inr (5, [.ref lk, .ref th, .ref pl, .ref gm, .int 0, .int 0, .int 0, .int (-1), .int 1, .int 0, .int 0, .int 0]))]) [1] rfl
  have hPc := hP.sub (ws' := []) [] rfl
  have hDc := hD.sub (ws' := []) [] (by decide) rfl
  have hKc := hK.sub (tys' := []) [] rfl
  have hFc := va_free (wc := []) hD hS hA [] rfl
  refine va_calli (va_runV (As := []) (rest := []) ⟨hx, hb, hml, hown, hts⟩ (cz_openLocks l dC dI ed H1.size rm lk th pl gm) (cwV 0 hts gX4_findBestReady_X3_openLocks rfl rfl rfl (by decide +kernel) ⟨Nat.le_of_ble_eq_true rfl, Nat.le_of_ble_eq_true rfl⟩) ⟨zb_blind, va_recv hK (zo_R hR0 hS hAr) (ci := 5) (q0 := 1) rfl rfl, fun U hU hW => ⟨rfl, zb_mk hU hW hPr hPc hKc hDc hN hH hS hFc zx_e⟩⟩ rfl rfl hl.1 rfl (lv_room (Nat.le_of_ble_eq_true rfl)) dX4_findBestReady_7 ⟨Nat.le_of_ble_eq_true rfl, Nat.le_of_ble_eq_true rfl⟩) hS (fun q _ h => hFc q h) hFc (fun r5 u t H4 locs ht hvm hw hB hz1 hk1 hS => ?_)
  obtain rfl : r5 = 0 := hw
  have hP := zo_K hP hk1
  refine lv_istore_n (lv' := [(2, .int 0), (0, .ref st), (1, .ref rm)]) hx hb dX4_findBestReady_10 rfl hl (by decide) rfl (fun ls hl => ?_)
  refine lv_aload_n hx hb dX4_findBestReady_11 rfl (lv_at hl 2 rfl) ?_
  have hPr := ((zo_R hR0 hS hAr)).sub (ws' := [(rm, .inr (5, [.ref lk, .ref th, .ref pl, .ref gm, .int 0, .int 0, .int 0, .int (-1), .int 1, .int 0, .int 0, .int 0]))]) [1] rfl
  have hPc := hP.sub (ws' := []) [] rfl
  have hDc := hD.sub (ws' := []) [] (by decide) rfl
  have hKc := hK.sub (tys' := []) [] rfl
  have hFc := va_free (wc := []) hD hS hA [] rfl
  refine va_calli (va_runV (As := []) (rest := []) ⟨hx, hb, hml, hown, hts⟩ (cz_readyLocks l dC dI ed H4.size rm lk th pl gm) (cwV 0 hts gX4_findBestReady_X3_readyLocks rfl rfl rfl (by decide +kernel) ⟨Nat.le_of_ble_eq_true rfl, Nat.le_of_ble_eq_true rfl⟩) ⟨zb_blind, va_recv hK (zo_R hR0 hS hAr) (ci := 5) (q0 := 1) rfl rfl, fun U hU hW => ⟨rfl, zb_mk hU hW hPr hPc hKc hDc hN hH hS hFc zx_e⟩⟩ rfl rfl hl.1 rfl (lv_room (Nat.le_of_ble_eq_true rfl)) dX4_findBestReady_12 ⟨Nat.le_of_ble_eq_true rfl, Nat.le_of_ble_eq_true rfl⟩) hS (fun q _ h => hFc q h) hFc (fun r7 u t H6 locs ht hvm hw hB hz1 hk1 hS => ?_)
  obtain rfl : r7 = 0 := hw
  have hP := zo_K hP hk1
  refine lv_istore_n (lv' := [(3, .int 0), (2, .int 0), (0, .ref st), (1, .ref rm)]) hx hb dX4_findBestReady_15 rfl hl (by decide) rfl (fun ls hl => ?_)
  refine lv_iconst (v := (-1)) hx hb dX4_findBestReady_16 (by decide) ?_
  refine lv_istore (lv' := [(4, .int (-1)), (3, .int 0), (2, .int 0), (0, .ref st), (1, .ref rm)]) hx hb dX4_findBestReady_17 hl (by decide) rfl (fun ls hl => ?_)
  refine lv_iconst (v := (-1)) hx hb dX4_findBestReady_19 (by decide) ?_
  refine lv_istore (lv' := [(5, .int (-1)), (4, .int (-1)), (3, .int 0), (2, .int 0), (0, .ref st), (1, .ref rm)]) hx hb dX4_findBestReady_20 hl (by decide) rfl (fun ls hl => ?_)
  refine lv_iconst (v := 0) hx hb dX4_findBestReady_22 (by decide) ?_
  refine lv_istore (lv' := [(6, .int 0), (5, .int (-1)), (4, .int (-1)), (3, .int 0), (2, .int 0), (0, .ref st), (1, .ref rm)]) hx hb dX4_findBestReady_23 hl (by decide) rfl (fun ls hl => ?_)
  refine lv_iload hx hb dX4_findBestReady_25 (lv_at hl 0 rfl) ?_
  refine lv_aload_n hx hb dX4_findBestReady_27 rfl (lv_at hl 6 rfl) ?_
  refine va_get (D := (dC, dI)) (ci := 5) (v := .int 0) (C := RX3) (T := TX3) (N := 12) hx hb hts zi_X4_findBestReady_X3 hown hK (zo_R hR0 hS hAr) 1 rfl rfl 4 (by decide) (hts (.fieldLink RX4 51 "LockRooms$Room" "lockCount" "I") (by decide +kernel)) (fun _ h9 => h9) rfl dX4_findBestReady_28 ?_
  refine lv_icmp_ge (tgt := 92) hx hb dX4_findBestReady_31 (by decide) (fun _ => ?_) (fun h => absurd h (by decide))
  refine lv_iload hx hb dX4_findBestReady_92 (lv_at hl 2 rfl) ?_
  refine W.widen (k := 0) (n := 0) (Nat.le_of_ble_eq_true rfl) (Nat.le_of_ble_eq_true rfl) ?_
  have hP9 := hP.sub (ws' := [(a1, .inl (cZ, 1024, .inl g1_3)), (a2, .inl (cI, 1024, .inl g2_3)), (a3, .inl (cJ, 1024, .inl g3_3))]) [0, 1, 2] rfl
  have hD9 := hD.sub (ws' := [(a1, .inl (cZ, 1024, .inl g1_3)), (a2, .inl (cI, 1024, .inl g2_3)), (a3, .inl (cJ, 1024, .inl g3_3))]) [0, 1, 2] (by decide) rfl
  have hK9 := hK.sub (tys' := [(cZ, .boolean), (cI, .int), (cJ, .int)]) [0, 1, 2] rfl
  exact W.iret hx hb hr (fun t ht hW => ⟨⟨(-1), (), rfl, rfl, ⟨g1_3, g2_3, g3_3, by rw [ht]; exact hP9, hD9, va_K.moved hW.alike hK9⟩⟩, hS.F ht⟩) hS.2.2 dX4_findBestReady_94


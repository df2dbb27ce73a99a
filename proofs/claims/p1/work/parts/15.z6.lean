set_option maxRecDepth 20000 in
theorem zi_X6_canEnd_X6 : ∀ w ∈ u_ws RX6 TX6 3, w ∈ wsX6_canEnd := by decide +kernel
set_option maxHeartbeats 4000000 in
set_option maxRecDepth 100000 in
theorem cz_X6_canEnd (l : Launch) (dC : Nat → ClassId) (dI : Nat → Nat → Nat) (ed sz : Nat) (x : Nat) (rm : Nat) (tr : Nat) (st : Nat) (lk : Nat) (th : Nat) (pl : Nat) (gm : Nat) (a1 : Nat) (a2 : Nat) (a3 : Nat) (cZ : ClassId) (cI : ClassId) (cJ : ClassId) (f1 : Nat → Int32) (f2 : Nat → Int32) (f3 : Nat → Int32) : Met l yX6_canEnd wsX6_canEnd ({ frames := 5, cells := 0, slots := 0, locals := 119 } : Jvm.Room) (va_Pc [.ref x] (zB dC dI ed sz [(x, .inr (8, [.ref rm, .ref tr, .ref st])), (rm, .inr (5, [.ref lk, .ref th, .ref pl, .ref gm, .int 0, .int 0, .int 0, .int (-1), .int 1, .int 0, .int 0, .int 0])), (st, .inr (6, [.ref a1, .ref a2, .ref a3]))] [(a1, .inl (cZ, 1024, .inl f1)), (a2, .inl (cI, 1024, .inl f2)), (a3, .inl (cJ, 1024, .inl f3))] [(cZ, .boolean), (cI, .int), (cJ, .int)])) (va_Qi (fun (r : Int32) (_ : Unit) => r = 0) (fun (_ : Unit) (t : State) => ∃ (g1 : Nat → Int32), ∃ (g2 : Nat → Int32), ∃ (g3 : Nat → Int32), va_P (dC, dI) vwCl [(a1, .inl (cZ, 1024, .inl g1)), (a2, .inl (cI, 1024, .inl g2)), (a3, .inl (cJ, 1024, .inl g3))] t.heap ∧ va_D (va_A [(a1, .inl (cZ, 1024, .inl f1)), (a2, .inl (cI, 1024, .inl f2)), (a3, .inl (cJ, 1024, .inl f3))] sz) [(a1, .inl (cZ, 1024, .inl g1)), (a2, .inl (cI, 1024, .inl g2)), (a3, .inl (cJ, 1024, .inl g3))] ∧ va_K (dC, dI) vwCl [(cZ, .boolean), (cI, .int), (cJ, .int)] t) (va_A [(a1, .inl (cZ, 1024, .inl f1)), (a2, .inl (cI, 1024, .inl f2)), (a3, .inl (cJ, 1024, .inl f3))] sz)) 0 0 (va_A [(a1, .inl (cZ, 1024, .inl f1)), (a2, .inl (cI, 1024, .inl f2)), (a3, .inl (cJ, 1024, .inl f3))] sz) := by
  refine Met.ofW (cc := cX6_canEnd) (maxL := 1) (ret := (some .boolean)) (by decide) rfl ?_
  intro p e s m args below meth c s₁ B hml hv
  obtain ⟨rfl, hsz, hR0, hP, hK, hD0, hN, hH, hX0⟩ := hv
  have hx := B.exec
  have hb := B.bytes
  have hr := B.returns
  have hts := atoms_spec (ws := wsX6_canEnd) B.pre
  have hown : s.vm.findClass RX6 = some m.cls := findClass_of_methodNamed B.named
  have hlocks := B.notSynchronized
  subst hsz
  have hD := hD0.self (sz := s.heap.size)
  have hAr := zx_A hX0 hR0
  generalize hAe : va_A [(a1, .inl (cZ, 1024, .inl f1)), (a2, .inl (cI, 1024, .inl f2)), (a3, .inl (cJ, 1024, .inl f3))] s.heap.size = A at hD hAr hH ⊢
  have hA : ∀ q : Nat, s.heap.size ≤ q → A q := fun q h => by rw [← hAe]; exact Or.inr h
  have hS : va_S A s.heap s.heap [] := va_S.rf
  have hl := lv_entry ([.ref x]) (n := 1) (Nat.le_of_ble_eq_true rfl)
  rw [lg_entry_eq]
  generalize (lg_sl ([.ref x]) ++ List.replicate (1 - (lg_sl ([.ref x])).length) Slot.unset).toArray = ls at hl ⊢
  have hl : lv_has ls 1 [(0, .ref x)] := hl
  refine lv_aload_n hx hb dX6_canEnd_0 rfl (lv_at hl 0 rfl) ?_
  refine va_get (D := (dC, dI)) (ci := 8) (v := .ref st) (C := RX6) (T := TX6) (N := 3) hx hb hts zi_X6_canEnd_X6 hown hK hR0 0 rfl rfl 2 (by decide) (hts (.fieldLink RX6 22 "LockRooms" "future" "LLockRooms$Stands;") (by decide +kernel)) (fun _ h9 => h9) rfl dX6_canEnd_1 ?_
  refine lv_aload_n hx hb dX6_canEnd_4 rfl (lv_at hl 0 rfl) ?_
  refine va_get (D := (dC, dI)) (ci := 8) (v := .ref rm) (C := RX6) (T := TX6) (N := 3) hx hb hts zi_X6_canEnd_X6 hown hK hR0 0 rfl rfl 0 (by decide) (hts (.fieldLink RX6 12 "LockRooms" "room" "LLockRooms$Room;") (by decide +kernel)) (fun _ h9 => h9) rfl dX6_canEnd_5 ?_
  have hPr := (hR0).sub (ws' := [(st, .inr (6, [.ref a1, .ref a2, .ref a3])), (rm, .inr (5, [.ref lk, .ref th, .ref pl, .ref gm, .int 0, .int 0, .int 0, .int (-1), .int 1, .int 0, .int 0, .int 0]))]) [2, 1] rfl
  have hPc := hP.sub (ws' := [(a1, .inl (cZ, 1024, .inl f1)), (a2, .inl (cI, 1024, .inl f2)), (a3, .inl (cJ, 1024, .inl f3))]) [0, 1, 2] rfl
  have hDc := hD.sub (ws' := [(a1, .inl (cZ, 1024, .inl f1)), (a2, .inl (cI, 1024, .inl f2)), (a3, .inl (cJ, 1024, .inl f3))]) [0, 1, 2] (by decide) rfl
  have hKc := hK.sub (tys' := [(cZ, .boolean), (cI, .int), (cJ, .int)]) [0, 1, 2] rfl
  have hFc := va_free (wc := [(a1, .inl (cZ, 1024, .inl f1)), (a2, .inl (cI, 1024, .inl f2)), (a3, .inl (cJ, 1024, .inl f3))]) hD hS hA [0, 1, 2] rfl
  refine va_calli (va_runV (As := [.ref rm]) (rest := []) ⟨hx, hb, hml, hown, hts⟩ (cz_findDepth l dC dI ed s.heap.size st a1 a2 a3 cZ cI cJ f1 f2 f3 rm lk th pl gm) (cwV 1 hts gX6_canEnd_X4_findDepth rfl rfl rfl (by decide +kernel) ⟨Nat.le_of_ble_eq_true rfl, Nat.le_of_ble_eq_true rfl⟩) ⟨zb_blind, va_recv hK hR0 (ci := 6) (q0 := 2) rfl rfl, fun U hU hW => ⟨rfl, zb_mk hU hW hPr hPc hKc hDc hN hH hS hFc (zx_cons (zx_r (hAr _ (List.mem_of_getElem? (i := 2) rfl)) hDc) (zx_cons (zx_r (hAr _ (List.mem_of_getElem? (i := 1) rfl)) hDc) zx_nil))⟩⟩ rfl rfl hl.1 rfl (lv_room (Nat.le_of_ble_eq_true rfl)) dX6_canEnd_8 ⟨Nat.le_of_ble_eq_true rfl, Nat.le_of_ble_eq_true rfl⟩) hS (fun q _ h => hFc q h) hFc (fun r2 u t H1 locs ht hvm hw hB hz1 hk1 hS => ?_)
  obtain rfl : r2 = (-1) := hw
  obtain ⟨g1_3, g2_3, g3_3, hP1, hD1, hK1⟩ := hB
  rw [ht] at hP1
  obtain ⟨hP, hD⟩ := va_join (wr := []) (w1 := [(a1, .inl (cZ, 1024, .inl g1_3)), (a2, .inl (cI, 1024, .inl g2_3)), (a3, .inl (cJ, 1024, .inl g3_3))]) hP hD [0, 1, 2] [] rfl rfl (by decide) (by decide) hk1 hFc hP1 hD1
  have hP : va_P (dC, dI) vwCl [(a1, .inl (cZ, 1024, .inl g1_3)), (a2, .inl (cI, 1024, .inl g2_3)), (a3, .inl (cJ, 1024, .inl g3_3))] H1 := hP
  have hD : va_D A [(a1, .inl (cZ, 1024, .inl g1_3)), (a2, .inl (cI, 1024, .inl g2_3)), (a3, .inl (cJ, 1024, .inl g3_3))] := hD
  refine lv_iconst (v := (-1)) hx hb dX6_canEnd_11 (by decide) ?_
  refine lv_icmp_eq (tgt := 19) hx hb dX6_canEnd_12 (by decide) (fun _ => ?_) (fun h => absurd h (by decide))
  refine lv_iconst (v := 0) hx hb dX6_canEnd_19 (by decide) ?_
  refine W.widen (k := 0) (n := 0) (Nat.le_of_ble_eq_true rfl) (Nat.le_of_ble_eq_true rfl) ?_
  have hP9 := hP.sub (ws' := [(a1, .inl (cZ, 1024, .inl g1_3)), (a2, .inl (cI, 1024, .inl g2_3)), (a3, .inl (cJ, 1024, .inl g3_3))]) [0, 1, 2] rfl
  have hD9 := hD.sub (ws' := [(a1, .inl (cZ, 1024, .inl g1_3)), (a2, .inl (cI, 1024, .inl g2_3)), (a3, .inl (cJ, 1024, .inl g3_3))]) [0, 1, 2] (by decide) rfl
  have hK9 := hK.sub (tys' := [(cZ, .boolean), (cI, .int), (cJ, .int)]) [0, 1, 2] rfl
  exact W.zret hx hb hr (by decide) (fun t ht hW => ⟨⟨0, (), rfl, rfl, ⟨g1_3, g2_3, g3_3, by rw [ht]; exact hP9, hD9, va_K.moved hW.alike hK9⟩⟩, hS.F ht⟩) hS.2.2 dX6_canEnd_20

set_option maxRecDepth 20000 in
theorem zi_X6_stands_X6 : ∀ w ∈ u_ws RX6 TX6 3, w ∈ wsX6_stands := by decide +kernel
set_option maxHeartbeats 4000000 in
set_option maxRecDepth 100000 in
theorem cz_X6_stands (l : Launch) (dC : Nat → ClassId) (dI : Nat → Nat → Nat) (ed sz : Nat) (x : Nat) (rm : Nat) (tr : Nat) (st : Nat) (lk : Nat) (th : Nat) (pl : Nat) (gm : Nat) (a1 : Nat) (a2 : Nat) (a3 : Nat) (cZ : ClassId) (cI : ClassId) (cJ : ClassId) (f1 : Nat → Int32) (f2 : Nat → Int32) (f3 : Nat → Int32) : Met l yX6_stands wsX6_stands ({ frames := 5, cells := 0, slots := 0, locals := 121 } : Jvm.Room) (va_Pc [.ref x] (zB dC dI ed sz [(x, .inr (8, [.ref rm, .ref tr, .ref st])), (rm, .inr (5, [.ref lk, .ref th, .ref pl, .ref gm, .int 0, .int 0, .int 0, .int (-1), .int 1, .int 0, .int 0, .int 0])), (st, .inr (6, [.ref a1, .ref a2, .ref a3]))] [(a1, .inl (cZ, 1024, .inl f1)), (a2, .inl (cI, 1024, .inl f2)), (a3, .inl (cJ, 1024, .inl f3))] [(cZ, .boolean), (cI, .int), (cJ, .int)])) (va_Qi (fun (r : Int32) (_ : Unit) => r = 1) (fun (_ : Unit) (t : State) => ∃ (g1 : Nat → Int32), ∃ (g2 : Nat → Int32), ∃ (g3 : Nat → Int32), va_P (dC, dI) vwCl [(a1, .inl (cZ, 1024, .inl g1)), (a2, .inl (cI, 1024, .inl g2)), (a3, .inl (cJ, 1024, .inl g3))] t.heap ∧ va_D (va_A [(a1, .inl (cZ, 1024, .inl f1)), (a2, .inl (cI, 1024, .inl f2)), (a3, .inl (cJ, 1024, .inl f3))] sz) [(a1, .inl (cZ, 1024, .inl g1)), (a2, .inl (cI, 1024, .inl g2)), (a3, .inl (cJ, 1024, .inl g3))] ∧ va_K (dC, dI) vwCl [(cZ, .boolean), (cI, .int), (cJ, .int)] t) (va_A [(a1, .inl (cZ, 1024, .inl f1)), (a2, .inl (cI, 1024, .inl f2)), (a3, .inl (cJ, 1024, .inl f3))] sz)) 0 0 (va_A [(a1, .inl (cZ, 1024, .inl f1)), (a2, .inl (cI, 1024, .inl f2)), (a3, .inl (cJ, 1024, .inl f3))] sz) := by
  refine Met.ofW (cc := cX6_stands) (maxL := 1) (ret := (some .int)) (by decide) rfl ?_
  intro p e s m args below meth c s₁ B hml hv
  obtain ⟨rfl, hsz, hR0, hP, hK, hD0, hN, hH, hX0⟩ := hv
  have hx := B.exec
  have hb := B.bytes
  have hr := B.returns
  have hts := atoms_spec (ws := wsX6_stands) B.pre
  have hown : s.vm.findClass RX6 = some m.cls := findClass_of_methodNamed B.named
  have hlocks := B.notSynchronized
  subst hsz
  have hD := hD0.self (sz := s.heap.size)
  have hAr := zx_A hX0 hR0
  generalize hAe : va_A [(a1, .inl (cZ, 1024, .inl f1)), (a2, .inl (cI, 1024, .inl f2)), (a3, .inl (cJ, 1024, .inl f3))] s.heap.size = A at hD hAr hH ⊢
  have hA : ∀ q : Nat, s.heap.size ≤ q → A q := fun q h => by rw [← hAe]; exact Or.inr h
  have hS : va_S A s.heap s.heap [] := va_S.rf
  have hl := lv_entry ([.ref x]) (n := 1) (Nat.le_of_ble_eq_true rfl)
  rw [lg_entry_eq]
  generalize (lg_sl ([.ref x]) ++ List.replicate (1 - (lg_sl ([.ref x])).length) Slot.unset).toArray = ls at hl ⊢
  have hl : lv_has ls 1 [(0, .ref x)] := hl
  refine lv_aload_n hx hb dX6_stands_0 rfl (lv_at hl 0 rfl) ?_
  refine va_get (D := (dC, dI)) (ci := 8) (v := .ref st) (C := RX6) (T := TX6) (N := 3) hx hb hts zi_X6_stands_X6 hown hK hR0 0 rfl rfl 2 (by decide) (hts (.fieldLink RX6 22 "LockRooms" "future" "LLockRooms$Stands;") (by decide +kernel)) (fun _ h9 => h9) rfl dX6_stands_1 ?_
  refine lv_aload_n hx hb dX6_stands_4 rfl (lv_at hl 0 rfl) ?_
  refine va_get (D := (dC, dI)) (ci := 8) (v := .ref rm) (C := RX6) (T := TX6) (N := 3) hx hb hts zi_X6_stands_X6 hown hK hR0 0 rfl rfl 0 (by decide) (hts (.fieldLink RX6 12 "LockRooms" "room" "LLockRooms$Room;") (by decide +kernel)) (fun _ h9 => h9) rfl dX6_stands_5 ?_
  have hPr := (hR0).sub (ws' := [(st, .inr (6, [.ref a1, .ref a2, .ref a3])), (rm, .inr (5, [.ref lk, .ref th, .ref pl, .ref gm, .int 0, .int 0, .int 0, .int (-1), .int 1, .int 0, .int 0, .int 0]))]) [2, 1] rfl
  have hPc := hP.sub (ws' := [(a1, .inl (cZ, 1024, .inl f1)), (a2, .inl (cI, 1024, .inl f2)), (a3, .inl (cJ, 1024, .inl f3))]) [0, 1, 2] rfl
  have hDc := hD.sub (ws' := [(a1, .inl (cZ, 1024, .inl f1)), (a2, .inl (cI, 1024, .inl f2)), (a3, .inl (cJ, 1024, .inl f3))]) [0, 1, 2] (by decide) rfl
  have hKc := hK.sub (tys' := [(cZ, .boolean), (cI, .int), (cJ, .int)]) [0, 1, 2] rfl
  have hFc := va_free (wc := [(a1, .inl (cZ, 1024, .inl f1)), (a2, .inl (cI, 1024, .inl f2)), (a3, .inl (cJ, 1024, .inl f3))]) hD hS hA [0, 1, 2] rfl
  refine va_calli (va_runV (As := [.ref rm]) (rest := []) ⟨hx, hb, hml, hown, hts⟩ (cz_countReached l dC dI ed s.heap.size st a1 a2 a3 cZ cI cJ f1 f2 f3 rm lk th pl gm) (cwV 1 hts gX6_stands_X4_countReached rfl rfl rfl (by decide +kernel) ⟨Nat.le_of_ble_eq_true rfl, Nat.le_of_ble_eq_true rfl⟩) ⟨zb_blind, va_recv hK hR0 (ci := 6) (q0 := 2) rfl rfl, fun U hU hW => ⟨rfl, zb_mk hU hW hPr hPc hKc hDc hN hH hS hFc (zx_cons (zx_r (hAr _ (List.mem_of_getElem? (i := 2) rfl)) hDc) (zx_cons (zx_r (hAr _ (List.mem_of_getElem? (i := 1) rfl)) hDc) zx_nil))⟩⟩ rfl rfl hl.1 rfl (lv_room (Nat.le_of_ble_eq_true rfl)) dX6_stands_8 ⟨Nat.le_of_ble_eq_true rfl, Nat.le_of_ble_eq_true rfl⟩) hS (fun q _ h => hFc q h) hFc (fun r2 u t H1 locs ht hvm hw hB hz1 hk1 hS => ?_)
  obtain rfl : r2 = 1 := hw
  obtain ⟨g1_3, g2_3, g3_3, hP1, hD1, hK1⟩ := hB
  rw [ht] at hP1
  obtain ⟨hP, hD⟩ := va_join (wr := []) (w1 := [(a1, .inl (cZ, 1024, .inl g1_3)), (a2, .inl (cI, 1024, .inl g2_3)), (a3, .inl (cJ, 1024, .inl g3_3))]) hP hD [0, 1, 2] [] rfl rfl (by decide) (by decide) hk1 hFc hP1 hD1
  have hP : va_P (dC, dI) vwCl [(a1, .inl (cZ, 1024, .inl g1_3)), (a2, .inl (cI, 1024, .inl g2_3)), (a3, .inl (cJ, 1024, .inl g3_3))] H1 := hP
  have hD : va_D A [(a1, .inl (cZ, 1024, .inl g1_3)), (a2, .inl (cI, 1024, .inl g2_3)), (a3, .inl (cJ, 1024, .inl g3_3))] := hD
  refine W.widen (k := 0) (n := 0) (Nat.le_of_ble_eq_true rfl) (Nat.le_of_ble_eq_true rfl) ?_
  have hP9 := hP.sub (ws' := [(a1, .inl (cZ, 1024, .inl g1_3)), (a2, .inl (cI, 1024, .inl g2_3)), (a3, .inl (cJ, 1024, .inl g3_3))]) [0, 1, 2] rfl
  have hD9 := hD.sub (ws' := [(a1, .inl (cZ, 1024, .inl g1_3)), (a2, .inl (cI, 1024, .inl g2_3)), (a3, .inl (cJ, 1024, .inl g3_3))]) [0, 1, 2] (by decide) rfl
  have hK9 := hK.sub (tys' := [(cZ, .boolean), (cI, .int), (cJ, .int)]) [0, 1, 2] rfl
  exact W.iret hx hb hr (fun t ht hW => ⟨⟨1, (), rfl, rfl, ⟨g1_3, g2_3, g3_3, by rw [ht]; exact hP9, hD9, va_K.moved hW.alike hK9⟩⟩, hS.F ht⟩) hS.2.2 dX6_stands_11

set_option maxRecDepth 20000 in
theorem zi_X6_deadEnds_X6 : ∀ w ∈ u_ws RX6 TX6 3, w ∈ wsX6_deadEnds := by decide +kernel
set_option maxHeartbeats 4000000 in
set_option maxRecDepth 100000 in
theorem cz_X6_deadEnds (l : Launch) (dC : Nat → ClassId) (dI : Nat → Nat → Nat) (ed sz : Nat) (x : Nat) (rm : Nat) (tr : Nat) (st : Nat) (lk : Nat) (th : Nat) (pl : Nat) (gm : Nat) (a1 : Nat) (a2 : Nat) (a3 : Nat) (cZ : ClassId) (cI : ClassId) (cJ : ClassId) (f1 : Nat → Int32) (f2 : Nat → Int32) (f3 : Nat → Int32) : Met l yX6_deadEnds wsX6_deadEnds ({ frames := 5, cells := 0, slots := 0, locals := 121 } : Jvm.Room) (va_Pc [.ref x] (zB dC dI ed sz [(x, .inr (8, [.ref rm, .ref tr, .ref st])), (rm, .inr (5, [.ref lk, .ref th, .ref pl, .ref gm, .int 0, .int 0, .int 0, .int (-1), .int 1, .int 0, .int 0, .int 0])), (st, .inr (6, [.ref a1, .ref a2, .ref a3]))] [(a1, .inl (cZ, 1024, .inl f1)), (a2, .inl (cI, 1024, .inl f2)), (a3, .inl (cJ, 1024, .inl f3))] [(cZ, .boolean), (cI, .int), (cJ, .int)])) (va_Qi (fun (r : Int32) (_ : Unit) => r = 1) (fun (_ : Unit) (t : State) => ∃ (g1 : Nat → Int32), ∃ (g2 : Nat → Int32), ∃ (g3 : Nat → Int32), va_P (dC, dI) vwCl [(a1, .inl (cZ, 1024, .inl g1)), (a2, .inl (cI, 1024, .inl g2)), (a3, .inl (cJ, 1024, .inl g3))] t.heap ∧ va_D (va_A [(a1, .inl (cZ, 1024, .inl f1)), (a2, .inl (cI, 1024, .inl f2)), (a3, .inl (cJ, 1024, .inl f3))] sz) [(a1, .inl (cZ, 1024, .inl g1)), (a2, .inl (cI, 1024, .inl g2)), (a3, .inl (cJ, 1024, .inl g3))] ∧ va_K (dC, dI) vwCl [(cZ, .boolean), (cI, .int), (cJ, .int)] t) (va_A [(a1, .inl (cZ, 1024, .inl f1)), (a2, .inl (cI, 1024, .inl f2)), (a3, .inl (cJ, 1024, .inl f3))] sz)) 0 0 (va_A [(a1, .inl (cZ, 1024, .inl f1)), (a2, .inl (cI, 1024, .inl f2)), (a3, .inl (cJ, 1024, .inl f3))] sz) := by
  refine Met.ofW (cc := cX6_deadEnds) (maxL := 1) (ret := (some .int)) (by decide) rfl ?_
  intro p e s m args below meth c s₁ B hml hv
  obtain ⟨rfl, hsz, hR0, hP, hK, hD0, hN, hH, hX0⟩ := hv
  have hx := B.exec
  have hb := B.bytes
  have hr := B.returns
  have hts := atoms_spec (ws := wsX6_deadEnds) B.pre
  have hown : s.vm.findClass RX6 = some m.cls := findClass_of_methodNamed B.named
  have hlocks := B.notSynchronized
  subst hsz
  have hD := hD0.self (sz := s.heap.size)
  have hAr := zx_A hX0 hR0
  generalize hAe : va_A [(a1, .inl (cZ, 1024, .inl f1)), (a2, .inl (cI, 1024, .inl f2)), (a3, .inl (cJ, 1024, .inl f3))] s.heap.size = A at hD hAr hH ⊢
  have hA : ∀ q : Nat, s.heap.size ≤ q → A q := fun q h => by rw [← hAe]; exact Or.inr h
  have hS : va_S A s.heap s.heap [] := va_S.rf
  have hl := lv_entry ([.ref x]) (n := 1) (Nat.le_of_ble_eq_true rfl)
  rw [lg_entry_eq]
  generalize (lg_sl ([.ref x]) ++ List.replicate (1 - (lg_sl ([.ref x])).length) Slot.unset).toArray = ls at hl ⊢
  have hl : lv_has ls 1 [(0, .ref x)] := hl
  refine lv_aload_n hx hb dX6_deadEnds_0 rfl (lv_at hl 0 rfl) ?_
  refine va_get (D := (dC, dI)) (ci := 8) (v := .ref st) (C := RX6) (T := TX6) (N := 3) hx hb hts zi_X6_deadEnds_X6 hown hK hR0 0 rfl rfl 2 (by decide) (hts (.fieldLink RX6 22 "LockRooms" "future" "LLockRooms$Stands;") (by decide +kernel)) (fun _ h9 => h9) rfl dX6_deadEnds_1 ?_
  refine lv_aload_n hx hb dX6_deadEnds_4 rfl (lv_at hl 0 rfl) ?_
  refine va_get (D := (dC, dI)) (ci := 8) (v := .ref rm) (C := RX6) (T := TX6) (N := 3) hx hb hts zi_X6_deadEnds_X6 hown hK hR0 0 rfl rfl 0 (by decide) (hts (.fieldLink RX6 12 "LockRooms" "room" "LLockRooms$Room;") (by decide +kernel)) (fun _ h9 => h9) rfl dX6_deadEnds_5 ?_
  have hPr := (hR0).sub (ws' := [(st, .inr (6, [.ref a1, .ref a2, .ref a3])), (rm, .inr (5, [.ref lk, .ref th, .ref pl, .ref gm, .int 0, .int 0, .int 0, .int (-1), .int 1, .int 0, .int 0, .int 0]))]) [2, 1] rfl
  have hPc := hP.sub (ws' := [(a1, .inl (cZ, 1024, .inl f1)), (a2, .inl (cI, 1024, .inl f2)), (a3, .inl (cJ, 1024, .inl f3))]) [0, 1, 2] rfl
  have hDc := hD.sub (ws' := [(a1, .inl (cZ, 1024, .inl f1)), (a2, .inl (cI, 1024, .inl f2)), (a3, .inl (cJ, 1024, .inl f3))]) [0, 1, 2] (by decide) rfl
  have hKc := hK.sub (tys' := [(cZ, .boolean), (cI, .int), (cJ, .int)]) [0, 1, 2] rfl
  have hFc := va_free (wc := [(a1, .inl (cZ, 1024, .inl f1)), (a2, .inl (cI, 1024, .inl f2)), (a3, .inl (cJ, 1024, .inl f3))]) hD hS hA [0, 1, 2] rfl
  refine va_calli (va_runV (As := [.ref rm]) (rest := []) ⟨hx, hb, hml, hown, hts⟩ (cz_countDeadEnds l dC dI ed s.heap.size st a1 a2 a3 cZ cI cJ f1 f2 f3 rm lk th pl gm) (cwV 1 hts gX6_deadEnds_X4_countDeadEnds rfl rfl rfl (by decide +kernel) ⟨Nat.le_of_ble_eq_true rfl, Nat.le_of_ble_eq_true rfl⟩) ⟨zb_blind, va_recv hK hR0 (ci := 6) (q0 := 2) rfl rfl, fun U hU hW => ⟨rfl, zb_mk hU hW hPr hPc hKc hDc hN hH hS hFc (zx_cons (zx_r (hAr _ (List.mem_of_getElem? (i := 2) rfl)) hDc) (zx_cons (zx_r (hAr _ (List.mem_of_getElem? (i := 1) rfl)) hDc) zx_nil))⟩⟩ rfl rfl hl.1 rfl (lv_room (Nat.le_of_ble_eq_true rfl)) dX6_deadEnds_8 ⟨Nat.le_of_ble_eq_true rfl, Nat.le_of_ble_eq_true rfl⟩) hS (fun q _ h => hFc q h) hFc (fun r2 u t H1 locs ht hvm hw hB hz1 hk1 hS => ?_)
  obtain rfl : r2 = 1 := hw
  obtain ⟨g1_3, g2_3, g3_3, hP1, hD1, hK1⟩ := hB
  rw [ht] at hP1
  obtain ⟨hP, hD⟩ := va_join (wr := []) (w1 := [(a1, .inl (cZ, 1024, .inl g1_3)), (a2, .inl (cI, 1024, .inl g2_3)), (a3, .inl (cJ, 1024, .inl g3_3))]) hP hD [0, 1, 2] [] rfl rfl (by decide) (by decide) hk1 hFc hP1 hD1
  have hP : va_P (dC, dI) vwCl [(a1, .inl (cZ, 1024, .inl g1_3)), (a2, .inl (cI, 1024, .inl g2_3)), (a3, .inl (cJ, 1024, .inl g3_3))] H1 := hP
  have hD : va_D A [(a1, .inl (cZ, 1024, .inl g1_3)), (a2, .inl (cI, 1024, .inl g2_3)), (a3, .inl (cJ, 1024, .inl g3_3))] := hD
  refine W.widen (k := 0) (n := 0) (Nat.le_of_ble_eq_true rfl) (Nat.le_of_ble_eq_true rfl) ?_
  have hP9 := hP.sub (ws' := [(a1, .inl (cZ, 1024, .inl g1_3)), (a2, .inl (cI, 1024, .inl g2_3)), (a3, .inl (cJ, 1024, .inl g3_3))]) [0, 1, 2] rfl
  have hD9 := hD.sub (ws' := [(a1, .inl (cZ, 1024, .inl g1_3)), (a2, .inl (cI, 1024, .inl g2_3)), (a3, .inl (cJ, 1024, .inl g3_3))]) [0, 1, 2] (by decide) rfl
  have hK9 := hK.sub (tys' := [(cZ, .boolean), (cI, .int), (cJ, .int)]) [0, 1, 2] rfl
  exact W.iret hx hb hr (fun t ht hW => ⟨⟨1, (), rfl, rfl, ⟨g1_3, g2_3, g3_3, by rw [ht]; exact hP9, hD9, va_K.moved hW.alike hK9⟩⟩, hS.F ht⟩) hS.2.2 dX6_deadEnds_11

set_option maxRecDepth 20000 in
theorem zi_X6_depth_X6 : ∀ w ∈ u_ws RX6 TX6 3, w ∈ wsX6_depth := by decide +kernel
set_option maxHeartbeats 4000000 in
set_option maxRecDepth 100000 in
theorem cz_X6_depth (l : Launch) (dC : Nat → ClassId) (dI : Nat → Nat → Nat) (ed sz : Nat) (x : Nat) (rm : Nat) (tr : Nat) (st : Nat) (lk : Nat) (th : Nat) (pl : Nat) (gm : Nat) (a1 : Nat) (a2 : Nat) (a3 : Nat) (cZ : ClassId) (cI : ClassId) (cJ : ClassId) (f1 : Nat → Int32) (f2 : Nat → Int32) (f3 : Nat → Int32) : Met l yX6_depth wsX6_depth ({ frames := 5, cells := 0, slots := 0, locals := 119 } : Jvm.Room) (va_Pc [.ref x] (zB dC dI ed sz [(x, .inr (8, [.ref rm, .ref tr, .ref st])), (rm, .inr (5, [.ref lk, .ref th, .ref pl, .ref gm, .int 0, .int 0, .int 0, .int (-1), .int 1, .int 0, .int 0, .int 0])), (st, .inr (6, [.ref a1, .ref a2, .ref a3]))] [(a1, .inl (cZ, 1024, .inl f1)), (a2, .inl (cI, 1024, .inl f2)), (a3, .inl (cJ, 1024, .inl f3))] [(cZ, .boolean), (cI, .int), (cJ, .int)])) (va_Qi (fun (r : Int32) (_ : Unit) => r = (-1)) (fun (_ : Unit) (t : State) => ∃ (g1 : Nat → Int32), ∃ (g2 : Nat → Int32), ∃ (g3 : Nat → Int32), va_P (dC, dI) vwCl [(a1, .inl (cZ, 1024, .inl g1)), (a2, .inl (cI, 1024, .inl g2)), (a3, .inl (cJ, 1024, .inl g3))] t.heap ∧ va_D (va_A [(a1, .inl (cZ, 1024, .inl f1)), (a2, .inl (cI, 1024, .inl f2)), (a3, .inl (cJ, 1024, .inl f3))] sz) [(a1, .inl (cZ, 1024, .inl g1)), (a2, .inl (cI, 1024, .inl g2)), (a3, .inl (cJ, 1024, .inl g3))] ∧ va_K (dC, dI) vwCl [(cZ, .boolean), (cI, .int), (cJ, .int)] t) (va_A [(a1, .inl (cZ, 1024, .inl f1)), (a2, .inl (cI, 1024, .inl f2)), (a3, .inl (cJ, 1024, .inl f3))] sz)) 0 0 (va_A [(a1, .inl (cZ, 1024, .inl f1)), (a2, .inl (cI, 1024, .inl f2)), (a3, .inl (cJ, 1024, .inl f3))] sz) := by
  refine Met.ofW (cc := cX6_depth) (maxL := 1) (ret := (some .int)) (by decide) rfl ?_
  intro p e s m args below meth c s₁ B hml hv
  obtain ⟨rfl, hsz, hR0, hP, hK, hD0, hN, hH, hX0⟩ := hv
  have hx := B.exec
  have hb := B.bytes
  have hr := B.returns
  have hts := atoms_spec (ws := wsX6_depth) B.pre
  have hown : s.vm.findClass RX6 = some m.cls := findClass_of_methodNamed B.named
  have hlocks := B.notSynchronized
  subst hsz
  have hD := hD0.self (sz := s.heap.size)
  have hAr := zx_A hX0 hR0
  generalize hAe : va_A [(a1, .inl (cZ, 1024, .inl f1)), (a2, .inl (cI, 1024, .inl f2)), (a3, .inl (cJ, 1024, .inl f3))] s.heap.size = A at hD hAr hH ⊢
  have hA : ∀ q : Nat, s.heap.size ≤ q → A q := fun q h => by rw [← hAe]; exact Or.inr h
  have hS : va_S A s.heap s.heap [] := va_S.rf
  have hl := lv_entry ([.ref x]) (n := 1) (Nat.le_of_ble_eq_true rfl)
  rw [lg_entry_eq]
  generalize (lg_sl ([.ref x]) ++ List.replicate (1 - (lg_sl ([.ref x])).length) Slot.unset).toArray = ls at hl ⊢
  have hl : lv_has ls 1 [(0, .ref x)] := hl
  refine lv_aload_n hx hb dX6_depth_0 rfl (lv_at hl 0 rfl) ?_
  refine va_get (D := (dC, dI)) (ci := 8) (v := .ref st) (C := RX6) (T := TX6) (N := 3) hx hb hts zi_X6_depth_X6 hown hK hR0 0 rfl rfl 2 (by decide) (hts (.fieldLink RX6 22 "LockRooms" "future" "LLockRooms$Stands;") (by decide +kernel)) (fun _ h9 => h9) rfl dX6_depth_1 ?_
  refine lv_aload_n hx hb dX6_depth_4 rfl (lv_at hl 0 rfl) ?_
  refine va_get (D := (dC, dI)) (ci := 8) (v := .ref rm) (C := RX6) (T := TX6) (N := 3) hx hb hts zi_X6_depth_X6 hown hK hR0 0 rfl rfl 0 (by decide) (hts (.fieldLink RX6 12 "LockRooms" "room" "LLockRooms$Room;") (by decide +kernel)) (fun _ h9 => h9) rfl dX6_depth_5 ?_
  have hPr := (hR0).sub (ws' := [(st, .inr (6, [.ref a1, .ref a2, .ref a3])), (rm, .inr (5, [.ref lk, .ref th, .ref pl, .ref gm, .int 0, .int 0, .int 0, .int (-1), .int 1, .int 0, .int 0, .int 0]))]) [2, 1] rfl
  have hPc := hP.sub (ws' := [(a1, .inl (cZ, 1024, .inl f1)), (a2, .inl (cI, 1024, .inl f2)), (a3, .inl (cJ, 1024, .inl f3))]) [0, 1, 2] rfl
  have hDc := hD.sub (ws' := [(a1, .inl (cZ, 1024, .inl f1)), (a2, .inl (cI, 1024, .inl f2)), (a3, .inl (cJ, 1024, .inl f3))]) [0, 1, 2] (by decide) rfl
  have hKc := hK.sub (tys' := [(cZ, .boolean), (cI, .int), (cJ, .int)]) [0, 1, 2] rfl
  have hFc := va_free (wc := [(a1, .inl (cZ, 1024, .inl f1)), (a2, .inl (cI, 1024, .inl f2)), (a3, .inl (cJ, 1024, .inl f3))]) hD hS hA [0, 1, 2] rfl
  refine va_calli (va_runV (As := [.ref rm]) (rest := []) ⟨hx, hb, hml, hown, hts⟩ (cz_findDepth l dC dI ed s.heap.size st a1 a2 a3 cZ cI cJ f1 f2 f3 rm lk th pl gm) (cwV 1 hts gX6_depth_X4_findDepth rfl rfl rfl (by decide +kernel) ⟨Nat.le_of_ble_eq_true rfl, Nat.le_of_ble_eq_true rfl⟩) ⟨zb_blind, va_recv hK hR0 (ci := 6) (q0 := 2) rfl rfl, fun U hU hW => ⟨rfl, zb_mk hU hW hPr hPc hKc hDc hN hH hS hFc (zx_cons (zx_r (hAr _ (List.mem_of_getElem? (i := 2) rfl)) hDc) (zx_cons (zx_r (hAr _ (List.mem_of_getElem? (i := 1) rfl)) hDc) zx_nil))⟩⟩ rfl rfl hl.1 rfl (lv_room (Nat.le_of_ble_eq_true rfl)) dX6_depth_8 ⟨Nat.le_of_ble_eq_true rfl, Nat.le_of_ble_eq_true rfl⟩) hS (fun q _ h => hFc q h) hFc (fun r2 u t H1 locs ht hvm hw hB hz1 hk1 hS => ?_)
  obtain rfl : r2 = (-1) := hw
  obtain ⟨g1_3, g2_3, g3_3, hP1, hD1, hK1⟩ := hB
  rw [ht] at hP1
  obtain ⟨hP, hD⟩ := va_join (wr := []) (w1 := [(a1, .inl (cZ, 1024, .inl g1_3)), (a2, .inl (cI, 1024, .inl g2_3)), (a3, .inl (cJ, 1024, .inl g3_3))]) hP hD [0, 1, 2] [] rfl rfl (by decide) (by decide) hk1 hFc hP1 hD1
  have hP : va_P (dC, dI) vwCl [(a1, .inl (cZ, 1024, .inl g1_3)), (a2, .inl (cI, 1024, .inl g2_3)), (a3, .inl (cJ, 1024, .inl g3_3))] H1 := hP
  have hD : va_D A [(a1, .inl (cZ, 1024, .inl g1_3)), (a2, .inl (cI, 1024, .inl g2_3)), (a3, .inl (cJ, 1024, .inl g3_3))] := hD
  refine W.widen (k := 0) (n := 0) (Nat.le_of_ble_eq_true rfl) (Nat.le_of_ble_eq_true rfl) ?_
  have hP9 := hP.sub (ws' := [(a1, .inl (cZ, 1024, .inl g1_3)), (a2, .inl (cI, 1024, .inl g2_3)), (a3, .inl (cJ, 1024, .inl g3_3))]) [0, 1, 2] rfl
  have hD9 := hD.sub (ws' := [(a1, .inl (cZ, 1024, .inl g1_3)), (a2, .inl (cI, 1024, .inl g2_3)), (a3, .inl (cJ, 1024, .inl g3_3))]) [0, 1, 2] (by decide) rfl
  have hK9 := hK.sub (tys' := [(cZ, .boolean), (cI, .int), (cJ, .int)]) [0, 1, 2] rfl
  exact W.iret hx hb hr (fun t ht hW => ⟨⟨(-1), (), rfl, rfl, ⟨g1_3, g2_3, g3_3, by rw [ht]; exact hP9, hD9, va_K.moved hW.alike hK9⟩⟩, hS.F ht⟩) hS.2.2 dX6_depth_11

set_option maxRecDepth 20000 in
theorem zi_X6_cannotMiss_X6 : ∀ w ∈ u_ws RX6 TX6 3, w ∈ wsX6_cannotMiss := by decide +kernel
set_option maxHeartbeats 4000000 in
set_option maxRecDepth 100000 in
theorem cz_X6_cannotMiss (l : Launch) (dC : Nat → ClassId) (dI : Nat → Nat → Nat) (ed sz : Nat) (x : Nat) (rm : Nat) (tr : Nat) (st : Nat) (lk : Nat) (th : Nat) (pl : Nat) (gm : Nat) (a1 : Nat) (a2 : Nat) (a3 : Nat) (cZ : ClassId) (cI : ClassId) (cJ : ClassId) (f1 : Nat → Int32) (f2 : Nat → Int32) (f3 : Nat → Int32) : Met l yX6_cannotMiss wsX6_cannotMiss ({ frames := 5, cells := 0, slots := 0, locals := 122 } : Jvm.Room) (va_Pc [.ref x] (zB dC dI ed sz [(x, .inr (8, [.ref rm, .ref tr, .ref st])), (rm, .inr (5, [.ref lk, .ref th, .ref pl, .ref gm, .int 0, .int 0, .int 0, .int (-1), .int 1, .int 0, .int 0, .int 0])), (st, .inr (6, [.ref a1, .ref a2, .ref a3]))] [(a1, .inl (cZ, 1024, .inl f1)), (a2, .inl (cI, 1024, .inl f2)), (a3, .inl (cJ, 1024, .inl f3))] [(cZ, .boolean), (cI, .int), (cJ, .int)])) (va_Qi (fun (r : Int32) (_ : Unit) => r = 0) (fun (_ : Unit) (t : State) => ∃ (g1 : Nat → Int32), ∃ (g2 : Nat → Int32), ∃ (g3 : Nat → Int32), va_P (dC, dI) vwCl [(a1, .inl (cZ, 1024, .inl g1)), (a2, .inl (cI, 1024, .inl g2)), (a3, .inl (cJ, 1024, .inl g3))] t.heap ∧ va_D (va_A [(a1, .inl (cZ, 1024, .inl f1)), (a2, .inl (cI, 1024, .inl f2)), (a3, .inl (cJ, 1024, .inl f3))] sz) [(a1, .inl (cZ, 1024, .inl g1)), (a2, .inl (cI, 1024, .inl g2)), (a3, .inl (cJ, 1024, .inl g3))] ∧ va_K (dC, dI) vwCl [(cZ, .boolean), (cI, .int), (cJ, .int)] t) (va_A [(a1, .inl (cZ, 1024, .inl f1)), (a2, .inl (cI, 1024, .inl f2)), (a3, .inl (cJ, 1024, .inl f3))] sz)) 0 0 (va_A [(a1, .inl (cZ, 1024, .inl f1)), (a2, .inl (cI, 1024, .inl f2)), (a3, .inl (cJ, 1024, .inl f3))] sz) := by
  refine Met.ofW (cc := cX6_cannotMiss) (maxL := 1) (ret := (some .int)) (by decide) rfl ?_
  intro p e s m args below meth c s₁ B hml hv
  obtain ⟨rfl, hsz, hR0, hP, hK, hD0, hN, hH, hX0⟩ := hv
  have hx := B.exec
  have hb := B.bytes
  have hr := B.returns
  have hts := atoms_spec (ws := wsX6_cannotMiss) B.pre
  have hown : s.vm.findClass RX6 = some m.cls := findClass_of_methodNamed B.named
  have hlocks := B.notSynchronized
  subst hsz
  have hD := hD0.self (sz := s.heap.size)
  have hAr := zx_A hX0 hR0
  generalize hAe : va_A [(a1, .inl (cZ, 1024, .inl f1)), (a2, .inl (cI, 1024, .inl f2)), (a3, .inl (cJ, 1024, .inl f3))] s.heap.size = A at hD hAr hH ⊢
  have hA : ∀ q : Nat, s.heap.size ≤ q → A q := fun q h => by rw [← hAe]; exact Or.inr h
  have hS : va_S A s.heap s.heap [] := va_S.rf
  have hl := lv_entry ([.ref x]) (n := 1) (Nat.le_of_ble_eq_true rfl)
  rw [lg_entry_eq]
  generalize (lg_sl ([.ref x]) ++ List.replicate (1 - (lg_sl ([.ref x])).length) Slot.unset).toArray = ls at hl ⊢
  have hl : lv_has ls 1 [(0, .ref x)] := hl
  refine lv_aload_n hx hb dX6_cannotMiss_0 rfl (lv_at hl 0 rfl) ?_
  refine va_get (D := (dC, dI)) (ci := 8) (v := .ref st) (C := RX6) (T := TX6) (N := 3) hx hb hts zi_X6_cannotMiss_X6 hown hK hR0 0 rfl rfl 2 (by decide) (hts (.fieldLink RX6 22 "LockRooms" "future" "LLockRooms$Stands;") (by decide +kernel)) (fun _ h9 => h9) rfl dX6_cannotMiss_1 ?_
  refine lv_aload_n hx hb dX6_cannotMiss_4 rfl (lv_at hl 0 rfl) ?_
  refine va_get (D := (dC, dI)) (ci := 8) (v := .ref rm) (C := RX6) (T := TX6) (N := 3) hx hb hts zi_X6_cannotMiss_X6 hown hK hR0 0 rfl rfl 0 (by decide) (hts (.fieldLink RX6 12 "LockRooms" "room" "LLockRooms$Room;") (by decide +kernel)) (fun _ h9 => h9) rfl dX6_cannotMiss_5 ?_
  have hPr := (hR0).sub (ws' := [(st, .inr (6, [.ref a1, .ref a2, .ref a3])), (rm, .inr (5, [.ref lk, .ref th, .ref pl, .ref gm, .int 0, .int 0, .int 0, .int (-1), .int 1, .int 0, .int 0, .int 0]))]) [2, 1] rfl
  have hPc := hP.sub (ws' := [(a1, .inl (cZ, 1024, .inl f1)), (a2, .inl (cI, 1024, .inl f2)), (a3, .inl (cJ, 1024, .inl f3))]) [0, 1, 2] rfl
  have hDc := hD.sub (ws' := [(a1, .inl (cZ, 1024, .inl f1)), (a2, .inl (cI, 1024, .inl f2)), (a3, .inl (cJ, 1024, .inl f3))]) [0, 1, 2] (by decide) rfl
  have hKc := hK.sub (tys' := [(cZ, .boolean), (cI, .int), (cJ, .int)]) [0, 1, 2] rfl
  have hFc := va_free (wc := [(a1, .inl (cZ, 1024, .inl f1)), (a2, .inl (cI, 1024, .inl f2)), (a3, .inl (cJ, 1024, .inl f3))]) hD hS hA [0, 1, 2] rfl
  refine va_calli (va_runV (As := [.ref rm]) (rest := []) ⟨hx, hb, hml, hown, hts⟩ (cz_findMusts l dC dI ed s.heap.size st a1 a2 a3 cZ cI cJ f1 f2 f3 rm lk th pl gm) (cwV 1 hts gX6_cannotMiss_X4_findMusts rfl rfl rfl (by decide +kernel) ⟨Nat.le_of_ble_eq_true rfl, Nat.le_of_ble_eq_true rfl⟩) ⟨zb_blind, va_recv hK hR0 (ci := 6) (q0 := 2) rfl rfl, fun U hU hW => ⟨rfl, zb_mk hU hW hPr hPc hKc hDc hN hH hS hFc (zx_cons (zx_r (hAr _ (List.mem_of_getElem? (i := 2) rfl)) hDc) (zx_cons (zx_r (hAr _ (List.mem_of_getElem? (i := 1) rfl)) hDc) zx_nil))⟩⟩ rfl rfl hl.1 rfl (lv_room (Nat.le_of_ble_eq_true rfl)) dX6_cannotMiss_8 ⟨Nat.le_of_ble_eq_true rfl, Nat.le_of_ble_eq_true rfl⟩) hS (fun q _ h => hFc q h) hFc (fun r2 u t H1 locs ht hvm hw hB hz1 hk1 hS => ?_)
  obtain rfl : r2 = 0 := hw
  obtain ⟨g1_3, g2_3, g3_3, hP1, hD1, hK1⟩ := hB
  rw [ht] at hP1
  obtain ⟨hP, hD⟩ := va_join (wr := []) (w1 := [(a1, .inl (cZ, 1024, .inl g1_3)), (a2, .inl (cI, 1024, .inl g2_3)), (a3, .inl (cJ, 1024, .inl g3_3))]) hP hD [0, 1, 2] [] rfl rfl (by decide) (by decide) hk1 hFc hP1 hD1
  have hP : va_P (dC, dI) vwCl [(a1, .inl (cZ, 1024, .inl g1_3)), (a2, .inl (cI, 1024, .inl g2_3)), (a3, .inl (cJ, 1024, .inl g3_3))] H1 := hP
  have hD : va_D A [(a1, .inl (cZ, 1024, .inl g1_3)), (a2, .inl (cI, 1024, .inl g2_3)), (a3, .inl (cJ, 1024, .inl g3_3))] := hD
  refine W.widen (k := 0) (n := 0) (Nat.le_of_ble_eq_true rfl) (Nat.le_of_ble_eq_true rfl) ?_
  have hP9 := hP.sub (ws' := [(a1, .inl (cZ, 1024, .inl g1_3)), (a2, .inl (cI, 1024, .inl g2_3)), (a3, .inl (cJ, 1024, .inl g3_3))]) [0, 1, 2] rfl
  have hD9 := hD.sub (ws' := [(a1, .inl (cZ, 1024, .inl g1_3)), (a2, .inl (cI, 1024, .inl g2_3)), (a3, .inl (cJ, 1024, .inl g3_3))]) [0, 1, 2] (by decide) rfl
  have hK9 := hK.sub (tys' := [(cZ, .boolean), (cI, .int), (cJ, .int)]) [0, 1, 2] rfl
  exact W.iret hx hb hr (fun t ht hW => ⟨⟨0, (), rfl, rfl, ⟨g1_3, g2_3, g3_3, by rw [ht]; exact hP9, hD9, va_K.moved hW.alike hK9⟩⟩, hS.F ht⟩) hS.2.2 dX6_cannotMiss_11

set_option maxRecDepth 20000 in
theorem zi_X6_bestHint_X6 : ∀ w ∈ u_ws RX6 TX6 3, w ∈ wsX6_bestHint := by decide +kernel
set_option maxHeartbeats 4000000 in
set_option maxRecDepth 100000 in
theorem cz_X6_bestHint (l : Launch) (dC : Nat → ClassId) (dI : Nat → Nat → Nat) (ed sz : Nat) (x : Nat) (rm : Nat) (tr : Nat) (st : Nat) (lk : Nat) (th : Nat) (pl : Nat) (gm : Nat) (a1 : Nat) (a2 : Nat) (a3 : Nat) (cZ : ClassId) (cI : ClassId) (cJ : ClassId) (f1 : Nat → Int32) (f2 : Nat → Int32) (f3 : Nat → Int32) : Met l yX6_bestHint wsX6_bestHint ({ frames := 5, cells := 0, slots := 0, locals := 125 } : Jvm.Room) (va_Pc [.ref x] (zB dC dI ed sz [(x, .inr (8, [.ref rm, .ref tr, .ref st])), (rm, .inr (5, [.ref lk, .ref th, .ref pl, .ref gm, .int 0, .int 0, .int 0, .int (-1), .int 1, .int 0, .int 0, .int 0])), (st, .inr (6, [.ref a1, .ref a2, .ref a3]))] [(a1, .inl (cZ, 1024, .inl f1)), (a2, .inl (cI, 1024, .inl f2)), (a3, .inl (cJ, 1024, .inl f3))] [(cZ, .boolean), (cI, .int), (cJ, .int)])) (va_Qi (fun (r : Int32) (_ : Unit) => r = (-1)) (fun (_ : Unit) (t : State) => ∃ (g1 : Nat → Int32), ∃ (g2 : Nat → Int32), ∃ (g3 : Nat → Int32), va_P (dC, dI) vwCl [(a1, .inl (cZ, 1024, .inl g1)), (a2, .inl (cI, 1024, .inl g2)), (a3, .inl (cJ, 1024, .inl g3))] t.heap ∧ va_D (va_A [(a1, .inl (cZ, 1024, .inl f1)), (a2, .inl (cI, 1024, .inl f2)), (a3, .inl (cJ, 1024, .inl f3))] sz) [(a1, .inl (cZ, 1024, .inl g1)), (a2, .inl (cI, 1024, .inl g2)), (a3, .inl (cJ, 1024, .inl g3))] ∧ va_K (dC, dI) vwCl [(cZ, .boolean), (cI, .int), (cJ, .int)] t) (va_A [(a1, .inl (cZ, 1024, .inl f1)), (a2, .inl (cI, 1024, .inl f2)), (a3, .inl (cJ, 1024, .inl f3))] sz)) 0 0 (va_A [(a1, .inl (cZ, 1024, .inl f1)), (a2, .inl (cI, 1024, .inl f2)), (a3, .inl (cJ, 1024, .inl f3))] sz) := by
  refine Met.ofW (cc := cX6_bestHint) (maxL := 1) (ret := (some .int)) (by decide) rfl ?_
  intro p e s m args below meth c s₁ B hml hv
  obtain ⟨rfl, hsz, hR0, hP, hK, hD0, hN, hH, hX0⟩ := hv
  have hx := B.exec
  have hb := B.bytes
  have hr := B.returns
  have hts := atoms_spec (ws := wsX6_bestHint) B.pre
  have hown : s.vm.findClass RX6 = some m.cls := findClass_of_methodNamed B.named
  have hlocks := B.notSynchronized
  subst hsz
  have hD := hD0.self (sz := s.heap.size)
  have hAr := zx_A hX0 hR0
  generalize hAe : va_A [(a1, .inl (cZ, 1024, .inl f1)), (a2, .inl (cI, 1024, .inl f2)), (a3, .inl (cJ, 1024, .inl f3))] s.heap.size = A at hD hAr hH ⊢
  have hA : ∀ q : Nat, s.heap.size ≤ q → A q := fun q h => by rw [← hAe]; exact Or.inr h
  have hS : va_S A s.heap s.heap [] := va_S.rf
  have hl := lv_entry ([.ref x]) (n := 1) (Nat.le_of_ble_eq_true rfl)
  rw [lg_entry_eq]
  generalize (lg_sl ([.ref x]) ++ List.replicate (1 - (lg_sl ([.ref x])).length) Slot.unset).toArray = ls at hl ⊢
  have hl : lv_has ls 1 [(0, .ref x)] := hl
  refine lv_aload_n hx hb dX6_bestHint_0 rfl (lv_at hl 0 rfl) ?_
  refine va_get (D := (dC, dI)) (ci := 8) (v := .ref st) (C := RX6) (T := TX6) (N := 3) hx hb hts zi_X6_bestHint_X6 hown hK hR0 0 rfl rfl 2 (by decide) (hts (.fieldLink RX6 22 "LockRooms" "future" "LLockRooms$Stands;") (by decide +kernel)) (fun _ h9 => h9) rfl dX6_bestHint_1 ?_
  refine lv_aload_n hx hb dX6_bestHint_4 rfl (lv_at hl 0 rfl) ?_
  refine va_get (D := (dC, dI)) (ci := 8) (v := .ref rm) (C := RX6) (T := TX6) (N := 3) hx hb hts zi_X6_bestHint_X6 hown hK hR0 0 rfl rfl 0 (by decide) (hts (.fieldLink RX6 12 "LockRooms" "room" "LLockRooms$Room;") (by decide +kernel)) (fun _ h9 => h9) rfl dX6_bestHint_5 ?_
  have hPr := (hR0).sub (ws' := [(st, .inr (6, [.ref a1, .ref a2, .ref a3])), (rm, .inr (5, [.ref lk, .ref th, .ref pl, .ref gm, .int 0, .int 0, .int 0, .int (-1), .int 1, .int 0, .int 0, .int 0]))]) [2, 1] rfl
  have hPc := hP.sub (ws' := [(a1, .inl (cZ, 1024, .inl f1)), (a2, .inl (cI, 1024, .inl f2)), (a3, .inl (cJ, 1024, .inl f3))]) [0, 1, 2] rfl
  have hDc := hD.sub (ws' := [(a1, .inl (cZ, 1024, .inl f1)), (a2, .inl (cI, 1024, .inl f2)), (a3, .inl (cJ, 1024, .inl f3))]) [0, 1, 2] (by decide) rfl
  have hKc := hK.sub (tys' := [(cZ, .boolean), (cI, .int), (cJ, .int)]) [0, 1, 2] rfl
  have hFc := va_free (wc := [(a1, .inl (cZ, 1024, .inl f1)), (a2, .inl (cI, 1024, .inl f2)), (a3, .inl (cJ, 1024, .inl f3))]) hD hS hA [0, 1, 2] rfl
  refine va_calli (va_runV (As := [.ref rm]) (rest := []) ⟨hx, hb, hml, hown, hts⟩ (cz_findBestReady l dC dI ed s.heap.size st a1 a2 a3 cZ cI cJ f1 f2 f3 rm lk th pl gm) (cwV 1 hts gX6_bestHint_X4_findBestReady rfl rfl rfl (by decide +kernel) ⟨Nat.le_of_ble_eq_true rfl, Nat.le_of_ble_eq_true rfl⟩) ⟨zb_blind, va_recv hK hR0 (ci := 6) (q0 := 2) rfl rfl, fun U hU hW => ⟨rfl, zb_mk hU hW hPr hPc hKc hDc hN hH hS hFc (zx_cons (zx_r (hAr _ (List.mem_of_getElem? (i := 2) rfl)) hDc) (zx_cons (zx_r (hAr _ (List.mem_of_getElem? (i := 1) rfl)) hDc) zx_nil))⟩⟩ rfl rfl hl.1 rfl (lv_room (Nat.le_of_ble_eq_true rfl)) dX6_bestHint_8 ⟨Nat.le_of_ble_eq_true rfl, Nat.le_of_ble_eq_true rfl⟩) hS (fun q _ h => hFc q h) hFc (fun r2 u t H1 locs ht hvm hw hB hz1 hk1 hS => ?_)
  obtain rfl : r2 = (-1) := hw
  obtain ⟨g1_3, g2_3, g3_3, hP1, hD1, hK1⟩ := hB
  rw [ht] at hP1
  obtain ⟨hP, hD⟩ := va_join (wr := []) (w1 := [(a1, .inl (cZ, 1024, .inl g1_3)), (a2, .inl (cI, 1024, .inl g2_3)), (a3, .inl (cJ, 1024, .inl g3_3))]) hP hD [0, 1, 2] [] rfl rfl (by decide) (by decide) hk1 hFc hP1 hD1
  have hP : va_P (dC, dI) vwCl [(a1, .inl (cZ, 1024, .inl g1_3)), (a2, .inl (cI, 1024, .inl g2_3)), (a3, .inl (cJ, 1024, .inl g3_3))] H1 := hP
  have hD : va_D A [(a1, .inl (cZ, 1024, .inl g1_3)), (a2, .inl (cI, 1024, .inl g2_3)), (a3, .inl (cJ, 1024, .inl g3_3))] := hD
  refine W.widen (k := 0) (n := 0) (Nat.le_of_ble_eq_true rfl) (Nat.le_of_ble_eq_true rfl) ?_
  have hP9 := hP.sub (ws' := [(a1, .inl (cZ, 1024, .inl g1_3)), (a2, .inl (cI, 1024, .inl g2_3)), (a3, .inl (cJ, 1024, .inl g3_3))]) [0, 1, 2] rfl
  have hD9 := hD.sub (ws' := [(a1, .inl (cZ, 1024, .inl g1_3)), (a2, .inl (cI, 1024, .inl g2_3)), (a3, .inl (cJ, 1024, .inl g3_3))]) [0, 1, 2] (by decide) rfl
  have hK9 := hK.sub (tys' := [(cZ, .boolean), (cI, .int), (cJ, .int)]) [0, 1, 2] rfl
  exact W.iret hx hb hr (fun t ht hW => ⟨⟨(-1), (), rfl, rfl, ⟨g1_3, g2_3, g3_3, by rw [ht]; exact hP9, hD9, va_K.moved hW.alike hK9⟩⟩, hS.F ht⟩) hS.2.2 dX6_bestHint_11

set_option maxRecDepth 20000 in
theorem zi_X6_endsAt_X6 : ∀ w ∈ u_ws RX6 TX6 3, w ∈ wsX6_endsAt := by decide +kernel
set_option maxRecDepth 20000 in
theorem zi_X6_endsAt_X3 : ∀ w ∈ u_ws RX3 TX3 12, w ∈ wsX6_endsAt := by decide +kernel
set_option maxRecDepth 20000 in
theorem zi_X6_endsAt_X0 : ∀ w ∈ u_ws RX0 TX0 7, w ∈ wsX6_endsAt := by decide +kernel
set_option maxHeartbeats 4000000 in
set_option maxRecDepth 100000 in
theorem cz_X6_endsAt (l : Launch) (dC : Nat → ClassId) (dI : Nat → Nat → Nat) (ed sz : Nat) (x : Nat) (rm : Nat) (tr : Nat) (st : Nat) (lk : Nat) (th : Nat) (pl : Nat) (gm : Nat) : Met l yX6_endsAt wsX6_endsAt ({ frames := 0, cells := 0, slots := 0, locals := 0 } : Jvm.Room) (va_Pc [.ref x] (zB dC dI ed sz [(x, .inr (8, [.ref rm, .ref tr, .ref st])), (rm, .inr (5, [.ref lk, .ref th, .ref pl, .ref gm, .int 0, .int 0, .int 0, .int (-1), .int 1, .int 0, .int 0, .int 0])), (gm, .inr (2, [.int 0, .int 0, .int 0, .int 0, .int 0, .int (-1), .long 0]))] [] [])) (va_Qi (fun (r : Int32) (_ : Unit) => r = (-1)) (fun (_ : Unit) (_ : State) => True) (va_A [] sz)) 0 0 (va_A [] sz) := by
  refine Met.ofW (cc := cX6_endsAt) (maxL := 2) (ret := (some .int)) (by decide) rfl ?_
  intro p e s m args below meth c s₁ B hml hv
  obtain ⟨rfl, hsz, hR0, hP, hK, hD0, hN, hH, hX0⟩ := hv
  have hx := B.exec
  have hb := B.bytes
  have hr := B.returns
  have hts := atoms_spec (ws := wsX6_endsAt) B.pre
  have hown : s.vm.findClass RX6 = some m.cls := findClass_of_methodNamed B.named
  have hlocks := B.notSynchronized
  subst hsz
  have hD := hD0.self (sz := s.heap.size)
  have hAr := zx_A hX0 hR0
  generalize hAe : va_A [] s.heap.size = A at hD hAr hH ⊢
  have hA : ∀ q : Nat, s.heap.size ≤ q → A q := fun q h => by rw [← hAe]; exact Or.inr h
  have hS : va_S A s.heap s.heap [] := va_S.rf
  have hl := lv_entry ([.ref x]) (n := 2) (Nat.le_of_ble_eq_true rfl)
  rw [lg_entry_eq]
  generalize (lg_sl ([.ref x]) ++ List.replicate (2 - (lg_sl ([.ref x])).length) Slot.unset).toArray = ls at hl ⊢
  have hl : lv_has ls 2 [(0, .ref x)] := hl
  refine lv_aload_n hx hb dX6_endsAt_0 rfl (lv_at hl 0 rfl) ?_
  refine va_get (D := (dC, dI)) (ci := 8) (v := .ref rm) (C := RX6) (T := TX6) (N := 3) hx hb hts zi_X6_endsAt_X6 hown hK hR0 0 rfl rfl 0 (by decide) (hts (.fieldLink RX6 12 "LockRooms" "room" "LLockRooms$Room;") (by decide +kernel)) (fun _ h9 => h9) rfl dX6_endsAt_1 ?_
  refine va_get (D := (dC, dI)) (ci := 5) (v := .ref gm) (C := RX3) (T := TX3) (N := 12) hx hb hts zi_X6_endsAt_X3 hown hK hR0 1 rfl rfl 3 (by decide) (hts (.fieldLink RX6 41 "LockRooms$Room" "games" "LLockRooms$Games;") (by decide +kernel)) (fun _ h9 => h9) rfl dX6_endsAt_4 ?_
  refine va_get (D := (dC, dI)) (ci := 2) (v := .int 0) (C := RX0) (T := TX0) (N := 7) hx hb hts zi_X6_endsAt_X0 hown hK hR0 2 rfl rfl 0 (by decide) (hts (.fieldLink RX6 45 "LockRooms$Games" "isRunning" "Z") (by decide +kernel)) (fun _ h9 => h9) rfl dX6_endsAt_7 ?_
  refine lv_if_ne (tgt := 15) hx hb dX6_endsAt_10 (by decide) (fun h => absurd h (by decide)) (fun _ => ?_)
  refine lv_iconst (v := (-1)) hx hb dX6_endsAt_13 (by decide) ?_
  refine W.widen (k := 0) (n := 0) (Nat.le_of_ble_eq_true rfl) (Nat.le_of_ble_eq_true rfl) ?_
  exact W.iret hx hb hr (fun t ht hW => ⟨⟨(-1), (), rfl, rfl, trivial⟩, hS.F ht⟩) hS.2.2 dX6_endsAt_14

set_option maxRecDepth 20000 in
theorem zi_X6_meanScore_X6 : ∀ w ∈ u_ws RX6 TX6 3, w ∈ wsX6_meanScore := by decide +kernel
set_option maxRecDepth 20000 in
theorem zi_X6_meanScore_X3 : ∀ w ∈ u_ws RX3 TX3 12, w ∈ wsX6_meanScore := by decide +kernel
set_option maxRecDepth 20000 in
theorem zi_X6_meanScore_X0 : ∀ w ∈ u_ws RX0 TX0 7, w ∈ wsX6_meanScore := by decide +kernel
set_option maxHeartbeats 4000000 in
set_option maxRecDepth 100000 in
theorem cz_X6_meanScore (l : Launch) (dC : Nat → ClassId) (dI : Nat → Nat → Nat) (ed sz : Nat) (x : Nat) (rm : Nat) (tr : Nat) (st : Nat) (lk : Nat) (th : Nat) (pl : Nat) (gm : Nat) : Met l yX6_meanScore wsX6_meanScore ({ frames := 0, cells := 0, slots := 0, locals := 0 } : Jvm.Room) (va_Pc [.ref x] (zB dC dI ed sz [(x, .inr (8, [.ref rm, .ref tr, .ref st])), (rm, .inr (5, [.ref lk, .ref th, .ref pl, .ref gm, .int 0, .int 0, .int 0, .int (-1), .int 1, .int 0, .int 0, .int 0])), (gm, .inr (2, [.int 0, .int 0, .int 0, .int 0, .int 0, .int (-1), .long 0]))] [] [])) (va_Qd (fun (r : UInt64) (_ : Unit) => r = 0) (fun (_ : Unit) (_ : State) => True) (va_A [] sz)) 0 0 (va_A [] sz) := by
  refine Met.ofW (cc := cX6_meanScore) (maxL := 1) (ret := (some .double)) (by decide) rfl ?_
  intro p e s m args below meth c s₁ B hml hv
  obtain ⟨rfl, hsz, hR0, hP, hK, hD0, hN, hH, hX0⟩ := hv
  have hx := B.exec
  have hb := B.bytes
  have hr := B.returns
  have hts := atoms_spec (ws := wsX6_meanScore) B.pre
  have hown : s.vm.findClass RX6 = some m.cls := findClass_of_methodNamed B.named
  have hlocks := B.notSynchronized
  subst hsz
  have hD := hD0.self (sz := s.heap.size)
  have hAr := zx_A hX0 hR0
  generalize hAe : va_A [] s.heap.size = A at hD hAr hH ⊢
  have hA : ∀ q : Nat, s.heap.size ≤ q → A q := fun q h => by rw [← hAe]; exact Or.inr h
  have hS : va_S A s.heap s.heap [] := va_S.rf
  have hl := lv_entry ([.ref x]) (n := 1) (Nat.le_of_ble_eq_true rfl)
  rw [lg_entry_eq]
  generalize (lg_sl ([.ref x]) ++ List.replicate (1 - (lg_sl ([.ref x])).length) Slot.unset).toArray = ls at hl ⊢
  have hl : lv_has ls 1 [(0, .ref x)] := hl
  refine lv_aload_n hx hb dX6_meanScore_0 rfl (lv_at hl 0 rfl) ?_
  refine va_get (D := (dC, dI)) (ci := 8) (v := .ref rm) (C := RX6) (T := TX6) (N := 3) hx hb hts zi_X6_meanScore_X6 hown hK hR0 0 rfl rfl 0 (by decide) (hts (.fieldLink RX6 12 "LockRooms" "room" "LLockRooms$Room;") (by decide +kernel)) (fun _ h9 => h9) rfl dX6_meanScore_1 ?_
  refine va_get (D := (dC, dI)) (ci := 5) (v := .ref gm) (C := RX3) (T := TX3) (N := 12) hx hb hts zi_X6_meanScore_X3 hown hK hR0 1 rfl rfl 3 (by decide) (hts (.fieldLink RX6 41 "LockRooms$Room" "games" "LLockRooms$Games;") (by decide +kernel)) (fun _ h9 => h9) rfl dX6_meanScore_4 ?_
  refine va_get (D := (dC, dI)) (ci := 2) (v := .int 0) (C := RX0) (T := TX0) (N := 7) hx hb hts zi_X6_meanScore_X0 hown hK hR0 2 rfl rfl 3 (by decide) (hts (.fieldLink RX6 232 "LockRooms$Games" "solved" "I") (by decide +kernel)) (fun _ h9 => h9) rfl dX6_meanScore_7 ?_
  refine lv_if_ne (tgt := 15) hx hb dX6_meanScore_10 (by decide) (fun h => absurd h (by decide)) (fun _ => ?_)
  refine lv_dconst0 hx hb dX6_meanScore_13 ?_
  refine W.widen (k := 0) (n := 0) (Nat.le_of_ble_eq_true rfl) (Nat.le_of_ble_eq_true rfl) ?_
  exact W.dret hx hb hr (fun t ht hW => ⟨⟨0, (), rfl, rfl, trivial⟩, hS.F ht⟩) hS.2.2 dX6_meanScore_14

set_option maxRecDepth 20000 in
theorem zi_X3_releaseMagnets_X3 : ∀ w ∈ u_ws RX3 TX3 12, w ∈ wsX3_releaseMagnets := by decide +kernel
set_option maxRecDepth 20000 in
theorem zi_X3_releaseMagnets_X0 : ∀ w ∈ u_ws RX0 TX0 7, w ∈ wsX3_releaseMagnets := by decide +kernel
set_option maxHeartbeats 4000000 in
set_option maxRecDepth 100000 in
theorem cz_releaseMagnets (l : Launch) (dC : Nat → ClassId) (dI : Nat → Nat → Nat) (ed sz : Nat) (rm : Nat) (lk : Nat) (th : Nat) (pl : Nat) (gm : Nat) : Met l yX3_releaseMagnets wsX3_releaseMagnets ({ frames := 0, cells := 0, slots := 0, locals := 0 } : Jvm.Room) (va_Pc [.ref rm] (zB dC dI ed sz [(rm, .inr (5, [.ref lk, .ref th, .ref pl, .ref gm, .int 0, .int 0, .int 0, .int (-1), .int 0, .int 0, .int 0, .int 0])), (gm, .inr (2, [.int 0, .int 0, .int 0, .int 0, .int 0, .int (-1), .long 0]))] [] [])) (va_Qi (fun (r : Int32) (_ : Unit) => r = 0) (fun (_ : Unit) (_ : State) => True) (va_A [] sz)) 0 0 (va_A [] sz) := by
  refine Met.ofW (cc := cX3_releaseMagnets) (maxL := 3) (ret := (some .int)) (by decide) rfl ?_
  intro p e s m args below meth c s₁ B hml hv
  obtain ⟨rfl, hsz, hR0, hP, hK, hD0, hN, hH, hX0⟩ := hv
  have hx := B.exec
  have hb := B.bytes
  have hr := B.returns
  have hts := atoms_spec (ws := wsX3_releaseMagnets) B.pre
  have hown : s.vm.findClass RX3 = some m.cls := findClass_of_methodNamed B.named
  have hlocks := B.notSynchronized
  subst hsz
  have hD := hD0.self (sz := s.heap.size)
  have hAr := zx_A hX0 hR0
  generalize hAe : va_A [] s.heap.size = A at hD hAr hH ⊢
  have hA : ∀ q : Nat, s.heap.size ≤ q → A q := fun q h => by rw [← hAe]; exact Or.inr h
  have hS : va_S A s.heap s.heap [] := va_S.rf
  have hl := lv_entry ([.ref rm]) (n := 3) (Nat.le_of_ble_eq_true rfl)
  rw [lg_entry_eq]
  generalize (lg_sl ([.ref rm]) ++ List.replicate (3 - (lg_sl ([.ref rm])).length) Slot.unset).toArray = ls at hl ⊢
  have hl : lv_has ls 3 [(0, .ref rm)] := hl
  refine lv_iconst (v := 0) hx hb dX3_releaseMagnets_0 (by decide) ?_
  refine lv_istore_n (lv' := [(1, .int 0), (0, .ref rm)]) hx hb dX3_releaseMagnets_1 rfl hl (by decide) rfl (fun ls hl => ?_)
  refine lv_iconst (v := 0) hx hb dX3_releaseMagnets_2 (by decide) ?_
  refine lv_istore_n (lv' := [(2, .int 0), (1, .int 0), (0, .ref rm)]) hx hb dX3_releaseMagnets_3 rfl hl (by decide) rfl (fun ls hl => ?_)
  refine lv_iload_n hx hb dX3_releaseMagnets_4 rfl (lv_at hl 0 rfl) ?_
  refine lv_aload_n hx hb dX3_releaseMagnets_5 rfl (lv_at hl 2 rfl) ?_
  refine va_get (D := (dC, dI)) (ci := 5) (v := .int 0) (C := RX3) (T := TX3) (N := 12) hx hb hts zi_X3_releaseMagnets_X3 hown hK hR0 0 rfl rfl 4 (by decide) (hts (.fieldLink RX3 47 "LockRooms$Room" "lockCount" "I") (by decide +kernel)) (fun _ h9 => h9) rfl dX3_releaseMagnets_6 ?_
  refine lv_icmp_ge (tgt := 58) hx hb dX3_releaseMagnets_9 (by decide) (fun _ => ?_) (fun h => absurd h (by decide))
  refine lv_aload_n hx hb dX3_releaseMagnets_58 rfl (lv_at hl 2 rfl) ?_
  refine va_get (D := (dC, dI)) (ci := 5) (v := .ref gm) (C := RX3) (T := TX3) (N := 12) hx hb hts zi_X3_releaseMagnets_X3 hown hK hR0 0 rfl rfl 3 (by decide) (hts (.fieldLink RX3 32 "LockRooms$Room" "games" "LLockRooms$Games;") (by decide +kernel)) (fun _ h9 => h9) rfl dX3_releaseMagnets_59 ?_
  refine va_get (D := (dC, dI)) (ci := 2) (v := .int 0) (C := RX0) (T := TX0) (N := 7) hx hb hts zi_X3_releaseMagnets_X0 hown hK hR0 1 rfl rfl 0 (by decide) (hts (.fieldLink RX3 134 "LockRooms$Games" "isRunning" "Z") (by decide +kernel)) (fun _ h9 => h9) rfl dX3_releaseMagnets_62 ?_
  refine lv_if_eq (tgt := 83) hx hb dX3_releaseMagnets_65 (by decide) (fun _ => ?_) (fun h => absurd h (by decide))
  refine lv_iload_n hx hb dX3_releaseMagnets_83 rfl (lv_at hl 1 rfl) ?_
  refine W.widen (k := 0) (n := 0) (Nat.le_of_ble_eq_true rfl) (Nat.le_of_ble_eq_true rfl) ?_
  exact W.iret hx hb hr (fun t ht hW => ⟨⟨0, (), rfl, rfl, trivial⟩, hS.F ht⟩) hS.2.2 dX3_releaseMagnets_84

set_option maxRecDepth 20000 in
theorem zi_X6_power_X6 : ∀ w ∈ u_ws RX6 TX6 3, w ∈ wsX6_power := by decide +kernel
set_option maxRecDepth 20000 in
theorem zi_X6_power_X3 : ∀ w ∈ u_ws RX3 TX3 12, w ∈ wsX6_power := by decide +kernel
set_option maxHeartbeats 4000000 in
set_option maxRecDepth 100000 in
theorem cz_X6_power_0 (l : Launch) (dC : Nat → ClassId) (dI : Nat → Nat → Nat) (ed sz : Nat) (x : Nat) (rm : Nat) (tr : Nat) (st : Nat) (lk : Nat) (th : Nat) (pl : Nat) (gm : Nat) : Met l yX6_power wsX6_power ({ frames := 1, cells := 0, slots := 0, locals := 22 } : Jvm.Room) (va_Pc [.ref x, .int 0] (zB dC dI ed sz [(x, .inr (8, [.ref rm, .ref tr, .ref st])), (gm, .inr (2, [.int 0, .int 0, .int 0, .int 0, .int 0, .int (-1), .long 0]))] [(rm, .inr (5, [.ref lk, .ref th, .ref pl, .ref gm, .int 0, .int 0, .int 0, .int (-1), .int 1, .int 0, .int 0, .int 0]))] [])) (va_Qi (fun (r : Int32) (_ : Unit) => r = 0) (fun (_ : Unit) (t : State) => va_P (dC, dI) vwCl [] t.heap ∧ va_D (va_A [(rm, .inr (5, [.ref lk, .ref th, .ref pl, .ref gm, .int 0, .int 0, .int 0, .int (-1), .int 1, .int 0, .int 0, .int 0]))] sz) [] ∧ va_K (dC, dI) vwCl [] t) (va_A [(rm, .inr (5, [.ref lk, .ref th, .ref pl, .ref gm, .int 0, .int 0, .int 0, .int (-1), .int 1, .int 0, .int 0, .int 0]))] sz)) 0 0 (va_A [(rm, .inr (5, [.ref lk, .ref th, .ref pl, .ref gm, .int 0, .int 0, .int 0, .int (-1), .int 1, .int 0, .int 0, .int 0]))] sz) := by
  refine Met.ofW (cc := cX6_power) (maxL := 3) (ret := (some .int)) (by decide) rfl ?_
  intro p e s m args below meth c s₁ B hml hv
  obtain ⟨rfl, hsz, hR0, hP, hK, hD0, hN, hH, hX0⟩ := hv
  have hx := B.exec
  have hb := B.bytes
  have hr := B.returns
  have hts := atoms_spec (ws := wsX6_power) B.pre
  have hown : s.vm.findClass RX6 = some m.cls := findClass_of_methodNamed B.named
  have hlocks := B.notSynchronized
  subst hsz
  have hD := hD0.self (sz := s.heap.size)
  have hAr := zx_A hX0 hR0
  generalize hAe : va_A [(rm, .inr (5, [.ref lk, .ref th, .ref pl, .ref gm, .int 0, .int 0, .int 0, .int (-1), .int 1, .int 0, .int 0, .int 0]))] s.heap.size = A at hD hAr hH ⊢
  have hA : ∀ q : Nat, s.heap.size ≤ q → A q := fun q h => by rw [← hAe]; exact Or.inr h
  have hS : va_S A s.heap s.heap [] := va_S.rf
  have hl := lv_entry ([.ref x, .int 0]) (n := 3) (Nat.le_of_ble_eq_true rfl)
  rw [lg_entry_eq]
  generalize (lg_sl ([.ref x, .int 0]) ++ List.replicate (3 - (lg_sl ([.ref x, .int 0])).length) Slot.unset).toArray = ls at hl ⊢
  have hl : lv_has ls 3 [(0, .ref x), (1, .int 0)] := hl
  refine lv_aload_n hx hb dX6_power_0 rfl (lv_at hl 0 rfl) ?_
  refine va_get (D := (dC, dI)) (ci := 8) (v := .ref rm) (C := RX6) (T := TX6) (N := 3) hx hb hts zi_X6_power_X6 hown hK hR0 0 rfl rfl 0 (by decide) (hts (.fieldLink RX6 12 "LockRooms" "room" "LLockRooms$Room;") (by decide +kernel)) (fun _ h9 => h9) rfl dX6_power_1 ?_
  refine va_get (D := (dC, dI)) (ci := 5) (v := .int 1) (C := RX3) (T := TX3) (N := 12) hx hb hts zi_X6_power_X3 hown hK hP 0 rfl rfl 8 (by decide) (hts (.fieldLink RX6 188 "LockRooms$Room" "hasPower" "Z") (by decide +kernel)) (fun _ h9 => h9) rfl dX6_power_4 ?_
  refine lv_if_eq (tgt := 18) hx hb dX6_power_7 (by decide) (fun h => absurd h (by decide)) (fun _ => ?_)
  refine lv_iload_n hx hb dX6_power_10 rfl (lv_at hl 1 rfl) ?_
  refine lv_if_ne (tgt := 18) hx hb dX6_power_11 (by decide) (fun h => absurd h (by decide)) (fun _ => ?_)
  refine lv_iconst (v := 1) hx hb dX6_power_14 (by decide) ?_
  refine lv_goto (tgt := 19) hx hb dX6_power_15 (by decide) ?_
  refine lv_istore_n (lv' := [(2, .int 1), (0, .ref x), (1, .int 0)]) hx hb dX6_power_19 rfl hl (by decide) rfl (fun ls hl => ?_)
  refine lv_aload_n hx hb dX6_power_20 rfl (lv_at hl 1 rfl) ?_
  refine va_get (D := (dC, dI)) (ci := 8) (v := .ref rm) (C := RX6) (T := TX6) (N := 3) hx hb hts zi_X6_power_X6 hown hK hR0 0 rfl rfl 0 (by decide) (hts (.fieldLink RX6 12 "LockRooms" "room" "LLockRooms$Room;") (by decide +kernel)) (fun _ h9 => h9) rfl dX6_power_21 ?_
  refine lv_iload_n hx hb dX6_power_24 rfl (lv_at hl 2 rfl) ?_
  refine va_put (D := (dC, dI)) (ci := 5) (v := .int 0) (ty := .boolean) (C := RX3) (T := TX3) (N := 12) hx hb hts zi_X6_power_X3 tyX3 tyX3_ok nmX3 hown hK hP hD hS 0 rfl rfl 8 (by decide) (hts (.fieldLink RX6 188 "LockRooms$Room" "hasPower" "Z") (by decide +kernel)) (fun _ h9 => h9) rfl (by decide +kernel) (by decide) (by decide) (Nat.le_of_ble_eq_true rfl) dX6_power_25 (fun H1 locs hP hD hS => ?_)
  have hP : va_P (dC, dI) vwCl [(rm, .inr (5, [.ref lk, .ref th, .ref pl, .ref gm, .int 0, .int 0, .int 0, .int (-1), .int 0, .int 0, .int 0, .int 0]))] H1 := hP
  have hD : va_D A [(rm, .inr (5, [.ref lk, .ref th, .ref pl, .ref gm, .int 0, .int 0, .int 0, .int (-1), .int 0, .int 0, .int 0, .int 0]))] := hD
  refine lv_iload_n hx hb dX6_power_28 rfl (lv_at hl 0 rfl) ?_
  refine lv_if_eq (tgt := 42) hx hb dX6_power_29 (by decide) (fun h => absurd h (by decide)) (fun _ => ?_)
  refine lv_aload_n hx hb dX6_power_32 rfl (lv_at hl 1 rfl) ?_
  refine va_get (D := (dC, dI)) (ci := 8) (v := .ref rm) (C := RX6) (T := TX6) (N := 3) hx hb hts zi_X6_power_X6 hown hK (zo_R hR0 hS hAr) 0 rfl rfl 0 (by decide) (hts (.fieldLink RX6 12 "LockRooms" "room" "LLockRooms$Room;") (by decide +kernel)) (fun _ h9 => h9) rfl dX6_power_33 ?_
  have hPr := (show va_P (dC, dI) vwCl [(rm, .inr (5, [.ref lk, .ref th, .ref pl, .ref gm, .int 0, .int 0, .int 0, .int (-1), .int 0, .int 0, .int 0, .int 0])), (gm, .inr (2, [.int 0, .int 0, .int 0, .int 0, .int 0, .int (-1), .long 0]))] H1 from (zo_cons ((hP) 0 _ rfl) (zo_cons (((zo_R hR0 hS hAr)) 1 _ rfl) (zo_nil : va_P (dC, dI) vwCl [] H1))))
  have hPc := hP.sub (ws' := []) [] rfl
  have hDc := hD.sub (ws' := []) [] (by decide) rfl
  have hKc := hK.sub (tys' := []) [] rfl
  have hFc := va_free (wc := []) hD hS hA [] rfl
  refine va_calli (va_runV (As := []) (rest := []) ⟨hx, hb, hml, hown, hts⟩ (cz_releaseMagnets l dC dI ed H1.size rm lk th pl gm) (cwV 0 hts gX6_power_X3_releaseMagnets rfl rfl rfl (by decide +kernel) ⟨Nat.le_of_ble_eq_true rfl, Nat.le_of_ble_eq_true rfl⟩) ⟨zb_blind, va_recv hK hP (ci := 5) (q0 := 0) rfl rfl, fun U hU hW => ⟨rfl, zb_mk hU hW hPr hPc hKc hDc hN hH hS hFc zx_e⟩⟩ rfl rfl hl.1 rfl (lv_room (Nat.le_of_ble_eq_true rfl)) dX6_power_36 ⟨Nat.le_of_ble_eq_true rfl, Nat.le_of_ble_eq_true rfl⟩) hS (fun q _ h => hFc q h) hFc (fun r3 u t H2 locs ht hvm hw hB hz1 hk1 hS => ?_)
  obtain rfl : r3 = 0 := hw
  have hP := zo_K hP hk1
  refine lv_goto (tgt := 43) hx hb dX6_power_39 (by decide) ?_
  refine W.widen (k := 0) (n := 0) (Nat.le_of_ble_eq_true rfl) (Nat.le_of_ble_eq_true rfl) ?_
  have hP9 := hP.sub (ws' := []) [] rfl
  have hD9 := hD.sub (ws' := []) [] (by decide) rfl
  have hK9 := hK.sub (tys' := []) [] rfl
  exact W.iret hx hb hr (fun t ht hW => ⟨⟨0, (), rfl, rfl, ⟨by rw [ht]; exact hP9, hD9, va_K.moved hW.alike hK9⟩⟩, hS.F ht⟩) hS.2.2 dX6_power_43

set_option maxHeartbeats 4000000 in
set_option maxRecDepth 100000 in
theorem cz_X6_power_1 (l : Launch) (dC : Nat → ClassId) (dI : Nat → Nat → Nat) (ed sz : Nat) (x : Nat) (rm : Nat) (tr : Nat) (st : Nat) (lk : Nat) (th : Nat) (pl : Nat) (gm : Nat) : Met l yX6_power wsX6_power ({ frames := 0, cells := 0, slots := 0, locals := 0 } : Jvm.Room) (va_Pc [.ref x, .int 1] (zB dC dI ed sz [(x, .inr (8, [.ref rm, .ref tr, .ref st])), (gm, .inr (2, [.int 0, .int 0, .int 0, .int 0, .int 0, .int (-1), .long 0]))] [(rm, .inr (5, [.ref lk, .ref th, .ref pl, .ref gm, .int 0, .int 0, .int 0, .int (-1), .int 1, .int 0, .int 0, .int 0]))] [])) (va_Qi (fun (r : Int32) (_ : Unit) => r = 0) (fun (_ : Unit) (t : State) => va_P (dC, dI) vwCl [] t.heap ∧ va_D (va_A [(rm, .inr (5, [.ref lk, .ref th, .ref pl, .ref gm, .int 0, .int 0, .int 0, .int (-1), .int 1, .int 0, .int 0, .int 0]))] sz) [] ∧ va_K (dC, dI) vwCl [] t) (va_A [(rm, .inr (5, [.ref lk, .ref th, .ref pl, .ref gm, .int 0, .int 0, .int 0, .int (-1), .int 1, .int 0, .int 0, .int 0]))] sz)) 0 0 (va_A [(rm, .inr (5, [.ref lk, .ref th, .ref pl, .ref gm, .int 0, .int 0, .int 0, .int (-1), .int 1, .int 0, .int 0, .int 0]))] sz) := by
  refine Met.ofW (cc := cX6_power) (maxL := 3) (ret := (some .int)) (by decide) rfl ?_
  intro p e s m args below meth c s₁ B hml hv
  obtain ⟨rfl, hsz, hR0, hP, hK, hD0, hN, hH, hX0⟩ := hv
  have hx := B.exec
  have hb := B.bytes
  have hr := B.returns
  have hts := atoms_spec (ws := wsX6_power) B.pre
  have hown : s.vm.findClass RX6 = some m.cls := findClass_of_methodNamed B.named
  have hlocks := B.notSynchronized
  subst hsz
  have hD := hD0.self (sz := s.heap.size)
  have hAr := zx_A hX0 hR0
  generalize hAe : va_A [(rm, .inr (5, [.ref lk, .ref th, .ref pl, .ref gm, .int 0, .int 0, .int 0, .int (-1), .int 1, .int 0, .int 0, .int 0]))] s.heap.size = A at hD hAr hH ⊢
  have hA : ∀ q : Nat, s.heap.size ≤ q → A q := fun q h => by rw [← hAe]; exact Or.inr h
  have hS : va_S A s.heap s.heap [] := va_S.rf
  have hl := lv_entry ([.ref x, .int 1]) (n := 3) (Nat.le_of_ble_eq_true rfl)
  rw [lg_entry_eq]
  generalize (lg_sl ([.ref x, .int 1]) ++ List.replicate (3 - (lg_sl ([.ref x, .int 1])).length) Slot.unset).toArray = ls at hl ⊢
  have hl : lv_has ls 3 [(0, .ref x), (1, .int 1)] := hl
  refine lv_aload_n hx hb dX6_power_0 rfl (lv_at hl 0 rfl) ?_
  refine va_get (D := (dC, dI)) (ci := 8) (v := .ref rm) (C := RX6) (T := TX6) (N := 3) hx hb hts zi_X6_power_X6 hown hK hR0 0 rfl rfl 0 (by decide) (hts (.fieldLink RX6 12 "LockRooms" "room" "LLockRooms$Room;") (by decide +kernel)) (fun _ h9 => h9) rfl dX6_power_1 ?_
  refine va_get (D := (dC, dI)) (ci := 5) (v := .int 1) (C := RX3) (T := TX3) (N := 12) hx hb hts zi_X6_power_X3 hown hK hP 0 rfl rfl 8 (by decide) (hts (.fieldLink RX6 188 "LockRooms$Room" "hasPower" "Z") (by decide +kernel)) (fun _ h9 => h9) rfl dX6_power_4 ?_
  refine lv_if_eq (tgt := 18) hx hb dX6_power_7 (by decide) (fun h => absurd h (by decide)) (fun _ => ?_)
  refine lv_iload_n hx hb dX6_power_10 rfl (lv_at hl 1 rfl) ?_
  refine lv_if_ne (tgt := 18) hx hb dX6_power_11 (by decide) (fun _ => ?_) (fun h => absurd h (by decide))
  refine lv_iconst (v := 0) hx hb dX6_power_18 (by decide) ?_
  refine lv_istore_n (lv' := [(2, .int 0), (0, .ref x), (1, .int 1)]) hx hb dX6_power_19 rfl hl (by decide) rfl (fun ls hl => ?_)
  refine lv_aload_n hx hb dX6_power_20 rfl (lv_at hl 1 rfl) ?_
  refine va_get (D := (dC, dI)) (ci := 8) (v := .ref rm) (C := RX6) (T := TX6) (N := 3) hx hb hts zi_X6_power_X6 hown hK hR0 0 rfl rfl 0 (by decide) (hts (.fieldLink RX6 12 "LockRooms" "room" "LLockRooms$Room;") (by decide +kernel)) (fun _ h9 => h9) rfl dX6_power_21 ?_
  refine lv_iload_n hx hb dX6_power_24 rfl (lv_at hl 2 rfl) ?_
  refine va_put (D := (dC, dI)) (ci := 5) (v := .int 1) (ty := .boolean) (C := RX3) (T := TX3) (N := 12) hx hb hts zi_X6_power_X3 tyX3 tyX3_ok nmX3 hown hK hP hD hS 0 rfl rfl 8 (by decide) (hts (.fieldLink RX6 188 "LockRooms$Room" "hasPower" "Z") (by decide +kernel)) (fun _ h9 => h9) rfl (by decide +kernel) (by decide) (by decide) (Nat.le_of_ble_eq_true rfl) dX6_power_25 (fun H1 locs hP hD hS => ?_)
  have hP : va_P (dC, dI) vwCl [(rm, .inr (5, [.ref lk, .ref th, .ref pl, .ref gm, .int 0, .int 0, .int 0, .int (-1), .int 1, .int 0, .int 0, .int 0]))] H1 := hP
  have hD : va_D A [(rm, .inr (5, [.ref lk, .ref th, .ref pl, .ref gm, .int 0, .int 0, .int 0, .int (-1), .int 1, .int 0, .int 0, .int 0]))] := hD
  refine lv_iload_n hx hb dX6_power_28 rfl (lv_at hl 0 rfl) ?_
  refine lv_if_eq (tgt := 42) hx hb dX6_power_29 (by decide) (fun _ => ?_) (fun h => absurd h (by decide))
  refine lv_iconst (v := 0) hx hb dX6_power_42 (by decide) ?_
  refine W.widen (k := 0) (n := 0) (Nat.le_of_ble_eq_true rfl) (Nat.le_of_ble_eq_true rfl) ?_
  have hP9 := hP.sub (ws' := []) [] rfl
  have hD9 := hD.sub (ws' := []) [] (by decide) rfl
  have hK9 := hK.sub (tys' := []) [] rfl
  exact W.iret hx hb hr (fun t ht hW => ⟨⟨0, (), rfl, rfl, ⟨by rw [ht]; exact hP9, hD9, va_K.moved hW.alike hK9⟩⟩, hS.F ht⟩) hS.2.2 dX6_power_43

set_option maxHeartbeats 4000000 in
set_option maxRecDepth 100000 in
theorem cz_X6_mix (l : Launch) (dC : Nat → ClassId) (dI : Nat → Nat → Nat) (ed sz : Nat) (x0 : Int64) (x1 : Int32) : Met l yX6_mix wsX6_mix ({ frames := 0, cells := 0, slots := 0, locals := 0 } : Jvm.Room) (va_Pc [.long x0, .int x1] (zB dC dI ed sz [] [] [])) (va_Ql (fun (r : Int64) (_ : Unit) => r = ((x0 * 31) + x1.toInt64)) (fun (_ : Unit) (_ : State) => True) (va_A [] sz)) 0 0 (va_A [] sz) := by
  refine Met.ofW (cc := cX6_mix) (maxL := 3) (ret := (some .long)) (by decide) rfl ?_
  intro p e s m args below meth c s₁ B hml hv
  obtain ⟨rfl, hsz, hR0, hP, hK, hD0, hN, hH, hX0⟩ := hv
  have hx := B.exec
  have hb := B.bytes
  have hr := B.returns
  have hts := atoms_spec (ws := wsX6_mix) B.pre
  have hown : s.vm.findClass RX6 = some m.cls := findClass_of_methodNamed B.named
  have hlocks := B.notSynchronized
  subst hsz
  have hD := hD0.self (sz := s.heap.size)
  have hAr := zx_A hX0 hR0
  generalize hAe : va_A [] s.heap.size = A at hD hAr hH ⊢
  have hA : ∀ q : Nat, s.heap.size ≤ q → A q := fun q h => by rw [← hAe]; exact Or.inr h
  have hS : va_S A s.heap s.heap [] := va_S.rf
  have hl := lv_entry ([.long x0, .int x1]) (n := 3) (Nat.le_of_ble_eq_true rfl)
  rw [lg_entry_eq]
  generalize (lg_sl ([.long x0, .int x1]) ++ List.replicate (3 - (lg_sl ([.long x0, .int x1])).length) Slot.unset).toArray = ls at hl ⊢
  have hl : lv_has ls 3 [(0, .long x0), (2, .int x1)] := hl
  refine lv_lload_n hx hb dX6_mix_0 rfl (lv_at hl 0 rfl) ?_
  refine lv_ldc2 (v := 31) hx hb hown (hts (.constantLong RX6 296 (31)) (by decide +kernel)) dX6_mix_1 ?_
  refine lv_lmul hx hb dX6_mix_4 ?_
  refine lv_iload_n hx hb dX6_mix_5 rfl (lv_at hl 1 rfl) ?_
  refine lv_i2l (v := x1.toInt64) hx hb dX6_mix_6 (by rfl) ?_
  refine lv_ladd hx hb dX6_mix_7 ?_
  refine W.widen (k := 0) (n := 0) (Nat.le_of_ble_eq_true rfl) (Nat.le_of_ble_eq_true rfl) ?_
  exact W.lret hx hb hr (fun t ht hW => ⟨⟨((x0 * 31) + x1.toInt64), (), rfl, rfl, trivial⟩, hS.F ht⟩) hS.2.2 dX6_mix_8

set_option maxRecDepth 20000 in
theorem zi_X6_mixLocks_X6 : ∀ w ∈ u_ws RX6 TX6 3, w ∈ wsX6_mixLocks := by decide +kernel
set_option maxRecDepth 20000 in
theorem zi_X6_mixLocks_X3 : ∀ w ∈ u_ws RX3 TX3 12, w ∈ wsX6_mixLocks := by decide +kernel
set_option maxHeartbeats 4000000 in
set_option maxRecDepth 100000 in
theorem cz_X6_mixLocks (l : Launch) (dC : Nat → ClassId) (dI : Nat → Nat → Nat) (ed sz : Nat) (x : Nat) (rm : Nat) (tr : Nat) (st : Nat) (lk : Nat) (th : Nat) (pl : Nat) (gm : Nat) (x0 : Int64) : Met l yX6_mixLocks wsX6_mixLocks ({ frames := 0, cells := 0, slots := 0, locals := 0 } : Jvm.Room) (va_Pc [.ref x, .long x0] (zB dC dI ed sz [(x, .inr (8, [.ref rm, .ref tr, .ref st])), (rm, .inr (5, [.ref lk, .ref th, .ref pl, .ref gm, .int 0, .int 0, .int 0, .int (-1), .int 1, .int 0, .int 0, .int 0]))] [] [])) (va_Ql (fun (r : Int64) (_ : Unit) => r = x0) (fun (_ : Unit) (_ : State) => True) (va_A [] sz)) 0 0 (va_A [] sz) := by
  refine Met.ofW (cc := cX6_mixLocks) (maxL := 7) (ret := (some .long)) (by decide) rfl ?_
  intro p e s m args below meth c s₁ B hml hv
  obtain ⟨rfl, hsz, hR0, hP, hK, hD0, hN, hH, hX0⟩ := hv
  have hx := B.exec
  have hb := B.bytes
  have hr := B.returns
  have hts := atoms_spec (ws := wsX6_mixLocks) B.pre
  have hown : s.vm.findClass RX6 = some m.cls := findClass_of_methodNamed B.named
  have hlocks := B.notSynchronized
  subst hsz
  have hD := hD0.self (sz := s.heap.size)
  have hAr := zx_A hX0 hR0
  generalize hAe : va_A [] s.heap.size = A at hD hAr hH ⊢
  have hA : ∀ q : Nat, s.heap.size ≤ q → A q := fun q h => by rw [← hAe]; exact Or.inr h
  have hS : va_S A s.heap s.heap [] := va_S.rf
  have hl := lv_entry ([.ref x, .long x0]) (n := 7) (Nat.le_of_ble_eq_true rfl)
  rw [lg_entry_eq]
  generalize (lg_sl ([.ref x, .long x0]) ++ List.replicate (7 - (lg_sl ([.ref x, .long x0])).length) Slot.unset).toArray = ls at hl ⊢
  have hl : lv_has ls 7 [(0, .ref x), (1, .long x0)] := hl
  refine lv_lload_n hx hb dX6_mixLocks_0 rfl (lv_at hl 1 rfl) ?_
  refine lv_lstore_n (lv' := [(3, .long x0), (0, .ref x), (1, .long x0)]) hx hb dX6_mixLocks_1 rfl hl (by decide) rfl (fun ls hl => ?_)
  refine lv_iconst (v := 0) hx hb dX6_mixLocks_2 (by decide) ?_
  refine lv_istore (lv' := [(5, .int 0), (3, .long x0), (0, .ref x), (1, .long x0)]) hx hb dX6_mixLocks_3 hl (by decide) rfl (fun ls hl => ?_)
  refine lv_iload hx hb dX6_mixLocks_5 (lv_at hl 0 rfl) ?_
  refine lv_aload_n hx hb dX6_mixLocks_7 rfl (lv_at hl 2 rfl) ?_
  refine va_get (D := (dC, dI)) (ci := 8) (v := .ref rm) (C := RX6) (T := TX6) (N := 3) hx hb hts zi_X6_mixLocks_X6 hown hK hR0 0 rfl rfl 0 (by decide) (hts (.fieldLink RX6 12 "LockRooms" "room" "LLockRooms$Room;") (by decide +kernel)) (fun _ h9 => h9) rfl dX6_mixLocks_8 ?_
  refine va_get (D := (dC, dI)) (ci := 5) (v := .int 0) (C := RX3) (T := TX3) (N := 12) hx hb hts zi_X6_mixLocks_X3 hown hK hR0 1 rfl rfl 4 (by decide) (hts (.fieldLink RX6 37 "LockRooms$Room" "lockCount" "I") (by decide +kernel)) (fun _ h9 => h9) rfl dX6_mixLocks_11 ?_
  refine lv_icmp_ge (tgt := 55) hx hb dX6_mixLocks_14 (by decide) (fun _ => ?_) (fun h => absurd h (by decide))
  refine lv_lload_n hx hb dX6_mixLocks_55 rfl (lv_at hl 1 rfl) ?_
  refine W.widen (k := 0) (n := 0) (Nat.le_of_ble_eq_true rfl) (Nat.le_of_ble_eq_true rfl) ?_
  exact W.lret hx hb hr (fun t ht hW => ⟨⟨x0, (), rfl, rfl, trivial⟩, hS.F ht⟩) hS.2.2 dX6_mixLocks_56

set_option maxRecDepth 20000 in
theorem zi_X6_mixThings_X6 : ∀ w ∈ u_ws RX6 TX6 3, w ∈ wsX6_mixThings := by decide +kernel
set_option maxRecDepth 20000 in
theorem zi_X6_mixThings_X3 : ∀ w ∈ u_ws RX3 TX3 12, w ∈ wsX6_mixThings := by decide +kernel
set_option maxHeartbeats 4000000 in
set_option maxRecDepth 100000 in
theorem cz_X6_mixThings (l : Launch) (dC : Nat → ClassId) (dI : Nat → Nat → Nat) (ed sz : Nat) (x : Nat) (rm : Nat) (tr : Nat) (st : Nat) (lk : Nat) (th : Nat) (pl : Nat) (gm : Nat) (x0 : Int64) : Met l yX6_mixThings wsX6_mixThings ({ frames := 0, cells := 0, slots := 0, locals := 0 } : Jvm.Room) (va_Pc [.ref x, .long x0] (zB dC dI ed sz [(x, .inr (8, [.ref rm, .ref tr, .ref st])), (rm, .inr (5, [.ref lk, .ref th, .ref pl, .ref gm, .int 0, .int 0, .int 0, .int (-1), .int 1, .int 0, .int 0, .int 0]))] [] [])) (va_Ql (fun (r : Int64) (_ : Unit) => r = x0) (fun (_ : Unit) (_ : State) => True) (va_A [] sz)) 0 0 (va_A [] sz) := by
  refine Met.ofW (cc := cX6_mixThings) (maxL := 7) (ret := (some .long)) (by decide) rfl ?_
  intro p e s m args below meth c s₁ B hml hv
  obtain ⟨rfl, hsz, hR0, hP, hK, hD0, hN, hH, hX0⟩ := hv
  have hx := B.exec
  have hb := B.bytes
  have hr := B.returns
  have hts := atoms_spec (ws := wsX6_mixThings) B.pre
  have hown : s.vm.findClass RX6 = some m.cls := findClass_of_methodNamed B.named
  have hlocks := B.notSynchronized
  subst hsz
  have hD := hD0.self (sz := s.heap.size)
  have hAr := zx_A hX0 hR0
  generalize hAe : va_A [] s.heap.size = A at hD hAr hH ⊢
  have hA : ∀ q : Nat, s.heap.size ≤ q → A q := fun q h => by rw [← hAe]; exact Or.inr h
  have hS : va_S A s.heap s.heap [] := va_S.rf
  have hl := lv_entry ([.ref x, .long x0]) (n := 7) (Nat.le_of_ble_eq_true rfl)
  rw [lg_entry_eq]
  generalize (lg_sl ([.ref x, .long x0]) ++ List.replicate (7 - (lg_sl ([.ref x, .long x0])).length) Slot.unset).toArray = ls at hl ⊢
  have hl : lv_has ls 7 [(0, .ref x), (1, .long x0)] := hl
  refine lv_lload_n hx hb dX6_mixThings_0 rfl (lv_at hl 1 rfl) ?_
  refine lv_lstore_n (lv' := [(3, .long x0), (0, .ref x), (1, .long x0)]) hx hb dX6_mixThings_1 rfl hl (by decide) rfl (fun ls hl => ?_)
  refine lv_iconst (v := 0) hx hb dX6_mixThings_2 (by decide) ?_
  refine lv_istore (lv' := [(5, .int 0), (3, .long x0), (0, .ref x), (1, .long x0)]) hx hb dX6_mixThings_3 hl (by decide) rfl (fun ls hl => ?_)
  refine lv_iload hx hb dX6_mixThings_5 (lv_at hl 0 rfl) ?_
  refine lv_aload_n hx hb dX6_mixThings_7 rfl (lv_at hl 2 rfl) ?_
  refine va_get (D := (dC, dI)) (ci := 8) (v := .ref rm) (C := RX6) (T := TX6) (N := 3) hx hb hts zi_X6_mixThings_X6 hown hK hR0 0 rfl rfl 0 (by decide) (hts (.fieldLink RX6 12 "LockRooms" "room" "LLockRooms$Room;") (by decide +kernel)) (fun _ h9 => h9) rfl dX6_mixThings_8 ?_
  refine va_get (D := (dC, dI)) (ci := 5) (v := .int 0) (C := RX3) (T := TX3) (N := 12) hx hb hts zi_X6_mixThings_X3 hown hK hR0 1 rfl rfl 5 (by decide) (hts (.fieldLink RX6 71 "LockRooms$Room" "thingCount" "I") (by decide +kernel)) (fun _ h9 => h9) rfl dX6_mixThings_11 ?_
  refine lv_icmp_ge (tgt := 55) hx hb dX6_mixThings_14 (by decide) (fun _ => ?_) (fun h => absurd h (by decide))
  refine lv_lload_n hx hb dX6_mixThings_55 rfl (lv_at hl 1 rfl) ?_
  refine W.widen (k := 0) (n := 0) (Nat.le_of_ble_eq_true rfl) (Nat.le_of_ble_eq_true rfl) ?_
  exact W.lret hx hb hr (fun t ht hW => ⟨⟨x0, (), rfl, rfl, trivial⟩, hS.F ht⟩) hS.2.2 dX6_mixThings_56

set_option maxRecDepth 20000 in
theorem zi_X6_mixPlayers_X6 : ∀ w ∈ u_ws RX6 TX6 3, w ∈ wsX6_mixPlayers := by decide +kernel
set_option maxRecDepth 20000 in
theorem zi_X6_mixPlayers_X3 : ∀ w ∈ u_ws RX3 TX3 12, w ∈ wsX6_mixPlayers := by decide +kernel
set_option maxHeartbeats 4000000 in
set_option maxRecDepth 100000 in
theorem cz_X6_mixPlayers (l : Launch) (dC : Nat → ClassId) (dI : Nat → Nat → Nat) (ed sz : Nat) (x : Nat) (rm : Nat) (tr : Nat) (st : Nat) (lk : Nat) (th : Nat) (pl : Nat) (gm : Nat) (x0 : Int64) : Met l yX6_mixPlayers wsX6_mixPlayers ({ frames := 0, cells := 0, slots := 0, locals := 0 } : Jvm.Room) (va_Pc [.ref x, .long x0] (zB dC dI ed sz [(x, .inr (8, [.ref rm, .ref tr, .ref st])), (rm, .inr (5, [.ref lk, .ref th, .ref pl, .ref gm, .int 0, .int 0, .int 0, .int (-1), .int 1, .int 0, .int 0, .int 0]))] [] [])) (va_Ql (fun (r : Int64) (_ : Unit) => r = x0) (fun (_ : Unit) (_ : State) => True) (va_A [] sz)) 0 0 (va_A [] sz) := by
  refine Met.ofW (cc := cX6_mixPlayers) (maxL := 7) (ret := (some .long)) (by decide) rfl ?_
  intro p e s m args below meth c s₁ B hml hv
  obtain ⟨rfl, hsz, hR0, hP, hK, hD0, hN, hH, hX0⟩ := hv
  have hx := B.exec
  have hb := B.bytes
  have hr := B.returns
  have hts := atoms_spec (ws := wsX6_mixPlayers) B.pre
  have hown : s.vm.findClass RX6 = some m.cls := findClass_of_methodNamed B.named
  have hlocks := B.notSynchronized
  subst hsz
  have hD := hD0.self (sz := s.heap.size)
  have hAr := zx_A hX0 hR0
  generalize hAe : va_A [] s.heap.size = A at hD hAr hH ⊢
  have hA : ∀ q : Nat, s.heap.size ≤ q → A q := fun q h => by rw [← hAe]; exact Or.inr h
  have hS : va_S A s.heap s.heap [] := va_S.rf
  have hl := lv_entry ([.ref x, .long x0]) (n := 7) (Nat.le_of_ble_eq_true rfl)
  rw [lg_entry_eq]
  generalize (lg_sl ([.ref x, .long x0]) ++ List.replicate (7 - (lg_sl ([.ref x, .long x0])).length) Slot.unset).toArray = ls at hl ⊢
  have hl : lv_has ls 7 [(0, .ref x), (1, .long x0)] := hl
  refine lv_lload_n hx hb dX6_mixPlayers_0 rfl (lv_at hl 1 rfl) ?_
  refine lv_lstore_n (lv' := [(3, .long x0), (0, .ref x), (1, .long x0)]) hx hb dX6_mixPlayers_1 rfl hl (by decide) rfl (fun ls hl => ?_)
  refine lv_iconst (v := 0) hx hb dX6_mixPlayers_2 (by decide) ?_
  refine lv_istore (lv' := [(5, .int 0), (3, .long x0), (0, .ref x), (1, .long x0)]) hx hb dX6_mixPlayers_3 hl (by decide) rfl (fun ls hl => ?_)
  refine lv_iload hx hb dX6_mixPlayers_5 (lv_at hl 0 rfl) ?_
  refine lv_aload_n hx hb dX6_mixPlayers_7 rfl (lv_at hl 2 rfl) ?_
  refine va_get (D := (dC, dI)) (ci := 8) (v := .ref rm) (C := RX6) (T := TX6) (N := 3) hx hb hts zi_X6_mixPlayers_X6 hown hK hR0 0 rfl rfl 0 (by decide) (hts (.fieldLink RX6 12 "LockRooms" "room" "LLockRooms$Room;") (by decide +kernel)) (fun _ h9 => h9) rfl dX6_mixPlayers_8 ?_
  refine va_get (D := (dC, dI)) (ci := 5) (v := .int 0) (C := RX3) (T := TX3) (N := 12) hx hb hts zi_X6_mixPlayers_X3 hown hK hR0 1 rfl rfl 6 (by decide) (hts (.fieldLink RX6 82 "LockRooms$Room" "playerCount" "I") (by decide +kernel)) (fun _ h9 => h9) rfl dX6_mixPlayers_11 ?_
  refine lv_icmp_ge (tgt := 54) hx hb dX6_mixPlayers_14 (by decide) (fun _ => ?_) (fun h => absurd h (by decide))
  refine lv_lload_n hx hb dX6_mixPlayers_54 rfl (lv_at hl 1 rfl) ?_
  refine W.widen (k := 0) (n := 0) (Nat.le_of_ble_eq_true rfl) (Nat.le_of_ble_eq_true rfl) ?_
  exact W.lret hx hb hr (fun t ht hW => ⟨⟨x0, (), rfl, rfl, trivial⟩, hS.F ht⟩) hS.2.2 dX6_mixPlayers_55

set_option maxRecDepth 20000 in
theorem zi_X6_digest_X6 : ∀ w ∈ u_ws RX6 TX6 3, w ∈ wsX6_digest := by decide +kernel
set_option maxHeartbeats 4000000 in
set_option maxRecDepth 100000 in
theorem cz_X6_digest (l : Launch) (dC : Nat → ClassId) (dI : Nat → Nat → Nat) (ed sz : Nat) (x : Nat) (rm : Nat) (tr : Nat) (st : Nat) (lk : Nat) (th : Nat) (pl : Nat) (gm : Nat) (a1 : Nat) (a2 : Nat) (a3 : Nat) (cZ : ClassId) (cI : ClassId) (cJ : ClassId) (f1 : Nat → Int32) (f2 : Nat → Int32) (f3 : Nat → Int32) : Met l yX6_digest wsX6_digest ({ frames := 6, cells := 0, slots := 0, locals := 145 } : Jvm.Room) (va_Pc [.ref x] (zB dC dI ed sz [(x, .inr (8, [.ref rm, .ref tr, .ref st])), (rm, .inr (5, [.ref lk, .ref th, .ref pl, .ref gm, .int 0, .int 0, .int 0, .int (-1), .int 1, .int 0, .int 0, .int 0])), (st, .inr (6, [.ref a1, .ref a2, .ref a3])), (gm, .inr (2, [.int 0, .int 0, .int 0, .int 0, .int 0, .int (-1), .long 0]))] [(a1, .inl (cZ, 1024, .inl f1)), (a2, .inl (cI, 1024, .inl f2)), (a3, .inl (cJ, 1024, .inl f3))] [(cZ, .boolean), (cI, .int), (cJ, .int)])) (va_Ql (fun (r : Int64) (_ : Unit) => r = 804375242039053392) (fun (_ : Unit) (t : State) => ∃ (g1 : Nat → Int32), ∃ (g2 : Nat → Int32), ∃ (g3 : Nat → Int32), va_P (dC, dI) vwCl [(a1, .inl (cZ, 1024, .inl g1)), (a2, .inl (cI, 1024, .inl g2)), (a3, .inl (cJ, 1024, .inl g3))] t.heap ∧ va_D (va_A [(a1, .inl (cZ, 1024, .inl f1)), (a2, .inl (cI, 1024, .inl f2)), (a3, .inl (cJ, 1024, .inl f3))] sz) [(a1, .inl (cZ, 1024, .inl g1)), (a2, .inl (cI, 1024, .inl g2)), (a3, .inl (cJ, 1024, .inl g3))] ∧ va_K (dC, dI) vwCl [(cZ, .boolean), (cI, .int), (cJ, .int)] t) (va_A [(a1, .inl (cZ, 1024, .inl f1)), (a2, .inl (cI, 1024, .inl f2)), (a3, .inl (cJ, 1024, .inl f3))] sz)) 0 0 (va_A [(a1, .inl (cZ, 1024, .inl f1)), (a2, .inl (cI, 1024, .inl f2)), (a3, .inl (cJ, 1024, .inl f3))] sz) := by
  refine Met.ofW (cc := cX6_digest) (maxL := 4) (ret := (some .long)) (by decide) rfl ?_
  intro p e s m args below meth c s₁ B hml hv
  obtain ⟨rfl, hsz, hR0, hP, hK, hD0, hN, hH, hX0⟩ := hv
  have hx := B.exec
  have hb := B.bytes
  have hr := B.returns
  have hts := atoms_spec (ws := wsX6_digest) B.pre
  have hown : s.vm.findClass RX6 = some m.cls := findClass_of_methodNamed B.named
  have hlocks := B.notSynchronized
  subst hsz
  have hD := hD0.self (sz := s.heap.size)
  have hAr := zx_A hX0 hR0
  generalize hAe : va_A [(a1, .inl (cZ, 1024, .inl f1)), (a2, .inl (cI, 1024, .inl f2)), (a3, .inl (cJ, 1024, .inl f3))] s.heap.size = A at hD hAr hH ⊢
  have hA : ∀ q : Nat, s.heap.size ≤ q → A q := fun q h => by rw [← hAe]; exact Or.inr h
  have hS : va_S A s.heap s.heap [] := va_S.rf
  have hl := lv_entry ([.ref x]) (n := 4) (Nat.le_of_ble_eq_true rfl)
  rw [lg_entry_eq]
  generalize (lg_sl ([.ref x]) ++ List.replicate (4 - (lg_sl ([.ref x])).length) Slot.unset).toArray = ls at hl ⊢
  have hl : lv_has ls 4 [(0, .ref x)] := hl
  refine lv_ldc2 (v := 9102) hx hb hown (hts (.constantLong RX6 259 (9102)) (by decide +kernel)) dX6_digest_0 ?_
  refine lv_lstore_n (lv' := [(1, .long 9102), (0, .ref x)]) hx hb dX6_digest_3 rfl hl (by decide) rfl (fun ls hl => ?_)
  refine lv_iconst (v := 0) hx hb dX6_digest_4 (by decide) ?_
  refine lv_istore_n (lv' := [(3, .int 0), (1, .long 9102), (0, .ref x)]) hx hb dX6_digest_5 rfl hl (by decide) rfl (fun ls hl => ?_)
  refine lv_iload_n hx hb dX6_digest_6 rfl (lv_at hl 0 rfl) ?_
  refine lv_bipush (v := 19) hx hb dX6_digest_7 (by decide) ?_
  refine lv_icmp_ge (tgt := 31) hx hb dX6_digest_9 (by decide) (fun h => absurd h (by decide)) (fun _ => ?_)
  refine lv_lload_n hx hb dX6_digest_12 rfl (lv_at hl 1 rfl) ?_
  refine lv_aload_n hx hb dX6_digest_13 rfl (lv_at hl 2 rfl) ?_
  refine va_get (D := (dC, dI)) (ci := 8) (v := .ref rm) (C := RX6) (T := TX6) (N := 3) hx hb hts zi_X6_digest_X6 hown hK hR0 0 rfl rfl 0 (by decide) (hts (.fieldLink RX6 12 "LockRooms" "room" "LLockRooms$Room;") (by decide +kernel)) (fun _ h9 => h9) rfl dX6_digest_14 ?_
  refine lv_iload_n hx hb dX6_digest_17 rfl (lv_at hl 0 rfl) ?_
  have hPr := (hR0).sub (ws' := [(rm, .inr (5, [.ref lk, .ref th, .ref pl, .ref gm, .int 0, .int 0, .int 0, .int (-1), .int 1, .int 0, .int 0, .int 0])), (gm, .inr (2, [.int 0, .int 0, .int 0, .int 0, .int 0, .int (-1), .long 0]))]) [1, 3] rfl
  have hPc := hP.sub (ws' := []) [] rfl
  have hDc := hD.sub (ws' := []) [] (by decide) rfl
  have hKc := hK.sub (tys' := []) [] rfl
  have hFc := va_free (wc := []) hD hS hA [] rfl
  refine va_calli (va_runV (As := [.int 0]) (rest := [.long 9102]) ⟨hx, hb, hml, hown, hts⟩ (cz_tell_0 l dC dI ed s.heap.size rm lk th pl gm) (cwV 1 hts gX6_digest_X3_tell rfl rfl rfl (by decide +kernel) ⟨Nat.le_of_ble_eq_true rfl, Nat.le_of_ble_eq_true rfl⟩) ⟨zb_blind, va_recv hK hR0 (ci := 5) (q0 := 1) rfl rfl, fun U hU hW => ⟨rfl, zb_mk hU hW hPr hPc hKc hDc hN hH hS hFc zx_e⟩⟩ rfl rfl hl.1 rfl (lv_room (Nat.le_of_ble_eq_true rfl)) dX6_digest_18 ⟨Nat.le_of_ble_eq_true rfl, Nat.le_of_ble_eq_true rfl⟩) hS (fun q _ h => hFc q h) hFc (fun r2 u t H1 locs ht hvm hw hB hz1 hk1 hS => ?_)
  obtain rfl : r2 = 0 := hw
  have hP := zo_K hP hk1
  have hPr := (zo_nil : va_P (dC, dI) vwCl [] H1)
  have hPc := hP.sub (ws' := []) [] rfl
  have hDc := hD.sub (ws' := []) [] (by decide) rfl
  have hKc := hK.sub (tys' := []) [] rfl
  have hFc := va_free (wc := []) hD hS hA [] rfl
  refine va_calll (va_runS (As := [.long 9102, .int 0]) (rest := []) ⟨hx, hb, hml, hown, hts⟩ (cz_X6_mix l dC dI ed H1.size 9102 0) (va_cwS 2 hts gX6_digest_X6_mix rfl rfl rfl (by decide +kernel) ⟨Nat.le_of_ble_eq_true rfl, Nat.le_of_ble_eq_true rfl⟩) ⟨zb_blind, fun U hU hW => ⟨rfl, zb_mk hU hW hPr hPc hKc hDc hN hH hS hFc zx_e⟩⟩ rfl rfl hl.1 rfl (lv_room (Nat.le_of_ble_eq_true rfl)) dX6_digest_21 ⟨Nat.le_of_ble_eq_true rfl, Nat.le_of_ble_eq_true rfl⟩) hS (fun q _ h => hFc q h) hFc (fun r4 u t H3 locs ht hvm hw hB hz1 hk1 hS => ?_)
  obtain rfl : r4 = 282162 := hw.trans (by decide +kernel)
  have hP := zo_K hP hk1
  refine lv_lstore_n (lv' := [(1, .long 282162), (3, .int 0), (0, .ref x)]) hx hb dX6_digest_24 rfl hl (by decide) rfl (fun ls hl => ?_)
  refine lv_iinc (v := 1) (lv' := [(3, .int 1), (1, .long 282162), (0, .ref x)]) hx hb dX6_digest_25 hl (k := 1) rfl (by decide) (by decide) rfl (fun ls hl => ?_)
  refine lv_goto (tgt := 6) hx hb dX6_digest_28 (by decide) ?_
  refine lv_iload_n hx hb dX6_digest_6 rfl (lv_at hl 0 rfl) ?_
  refine lv_bipush (v := 19) hx hb dX6_digest_7 (by decide) ?_
  refine lv_icmp_ge (tgt := 31) hx hb dX6_digest_9 (by decide) (fun h => absurd h (by decide)) (fun _ => ?_)
  refine lv_lload_n hx hb dX6_digest_12 rfl (lv_at hl 1 rfl) ?_
  refine lv_aload_n hx hb dX6_digest_13 rfl (lv_at hl 2 rfl) ?_
  refine va_get (D := (dC, dI)) (ci := 8) (v := .ref rm) (C := RX6) (T := TX6) (N := 3) hx hb hts zi_X6_digest_X6 hown hK (zo_R hR0 hS hAr) 0 rfl rfl 0 (by decide) (hts (.fieldLink RX6 12 "LockRooms" "room" "LLockRooms$Room;") (by decide +kernel)) (fun _ h9 => h9) rfl dX6_digest_14 ?_
  refine lv_iload_n hx hb dX6_digest_17 rfl (lv_at hl 0 rfl) ?_
  have hPr := ((zo_R hR0 hS hAr)).sub (ws' := [(rm, .inr (5, [.ref lk, .ref th, .ref pl, .ref gm, .int 0, .int 0, .int 0, .int (-1), .int 1, .int 0, .int 0, .int 0])), (gm, .inr (2, [.int 0, .int 0, .int 0, .int 0, .int 0, .int (-1), .long 0]))]) [1, 3] rfl
  have hPc := hP.sub (ws' := []) [] rfl
  have hDc := hD.sub (ws' := []) [] (by decide) rfl
  have hKc := hK.sub (tys' := []) [] rfl
  have hFc := va_free (wc := []) hD hS hA [] rfl
  refine va_calli (va_runV (As := [.int 1]) (rest := [.long 282162]) ⟨hx, hb, hml, hown, hts⟩ (cz_tell_1 l dC dI ed H3.size rm lk th pl gm) (cwV 1 hts gX6_digest_X3_tell rfl rfl rfl (by decide +kernel) ⟨Nat.le_of_ble_eq_true rfl, Nat.le_of_ble_eq_true rfl⟩) ⟨zb_blind, va_recv hK (zo_R hR0 hS hAr) (ci := 5) (q0 := 1) rfl rfl, fun U hU hW => ⟨rfl, zb_mk hU hW hPr hPc hKc hDc hN hH hS hFc zx_e⟩⟩ rfl rfl hl.1 rfl (lv_room (Nat.le_of_ble_eq_true rfl)) dX6_digest_18 ⟨Nat.le_of_ble_eq_true rfl, Nat.le_of_ble_eq_true rfl⟩) hS (fun q _ h => hFc q h) hFc (fun r6 u t H5 locs ht hvm hw hB hz1 hk1 hS => ?_)
  obtain rfl : r6 = 0 := hw
  have hP := zo_K hP hk1
  have hPr := (zo_nil : va_P (dC, dI) vwCl [] H5)
  have hPc := hP.sub (ws' := []) [] rfl
  have hDc := hD.sub (ws' := []) [] (by decide) rfl
  have hKc := hK.sub (tys' := []) [] rfl
  have hFc := va_free (wc := []) hD hS hA [] rfl
  refine va_calll (va_runS (As := [.long 282162, .int 0]) (rest := []) ⟨hx, hb, hml, hown, hts⟩ (cz_X6_mix l dC dI ed H5.size 282162 0) (va_cwS 2 hts gX6_digest_X6_mix rfl rfl rfl (by decide +kernel) ⟨Nat.le_of_ble_eq_true rfl, Nat.le_of_ble_eq_true rfl⟩) ⟨zb_blind, fun U hU hW => ⟨rfl, zb_mk hU hW hPr hPc hKc hDc hN hH hS hFc zx_e⟩⟩ rfl rfl hl.1 rfl (lv_room (Nat.le_of_ble_eq_true rfl)) dX6_digest_21 ⟨Nat.le_of_ble_eq_true rfl, Nat.le_of_ble_eq_true rfl⟩) hS (fun q _ h => hFc q h) hFc (fun r8 u t H7 locs ht hvm hw hB hz1 hk1 hS => ?_)
  obtain rfl : r8 = 8747022 := hw.trans (by decide +kernel)
  have hP := zo_K hP hk1
  refine lv_lstore_n (lv' := [(1, .long 8747022), (3, .int 1), (0, .ref x)]) hx hb dX6_digest_24 rfl hl (by decide) rfl (fun ls hl => ?_)
  refine lv_iinc (v := 2) (lv' := [(3, .int 2), (1, .long 8747022), (0, .ref x)]) hx hb dX6_digest_25 hl (k := 1) rfl (by decide) (by decide) rfl (fun ls hl => ?_)
  refine lv_goto (tgt := 6) hx hb dX6_digest_28 (by decide) ?_
  refine lv_iload_n hx hb dX6_digest_6 rfl (lv_at hl 0 rfl) ?_
  refine lv_bipush (v := 19) hx hb dX6_digest_7 (by decide) ?_
  refine lv_icmp_ge (tgt := 31) hx hb dX6_digest_9 (by decide) (fun h => absurd h (by decide)) (fun _ => ?_)
  refine lv_lload_n hx hb dX6_digest_12 rfl (lv_at hl 1 rfl) ?_
  refine lv_aload_n hx hb dX6_digest_13 rfl (lv_at hl 2 rfl) ?_
  refine va_get (D := (dC, dI)) (ci := 8) (v := .ref rm) (C := RX6) (T := TX6) (N := 3) hx hb hts zi_X6_digest_X6 hown hK (zo_R hR0 hS hAr) 0 rfl rfl 0 (by decide) (hts (.fieldLink RX6 12 "LockRooms" "room" "LLockRooms$Room;") (by decide +kernel)) (fun _ h9 => h9) rfl dX6_digest_14 ?_
  refine lv_iload_n hx hb dX6_digest_17 rfl (lv_at hl 0 rfl) ?_
  have hPr := ((zo_R hR0 hS hAr)).sub (ws' := [(rm, .inr (5, [.ref lk, .ref th, .ref pl, .ref gm, .int 0, .int 0, .int 0, .int (-1), .int 1, .int 0, .int 0, .int 0])), (gm, .inr (2, [.int 0, .int 0, .int 0, .int 0, .int 0, .int (-1), .long 0]))]) [1, 3] rfl
  have hPc := hP.sub (ws' := []) [] rfl
  have hDc := hD.sub (ws' := []) [] (by decide) rfl
  have hKc := hK.sub (tys' := []) [] rfl
  have hFc := va_free (wc := []) hD hS hA [] rfl
  refine va_calli (va_runV (As := [.int 2]) (rest := [.long 8747022]) ⟨hx, hb, hml, hown, hts⟩ (cz_tell_2 l dC dI ed H7.size rm lk th pl gm) (cwV 1 hts gX6_digest_X3_tell rfl rfl rfl (by decide +kernel) ⟨Nat.le_of_ble_eq_true rfl, Nat.le_of_ble_eq_true rfl⟩) ⟨zb_blind, va_recv hK (zo_R hR0 hS hAr) (ci := 5) (q0 := 1) rfl rfl, fun U hU hW => ⟨rfl, zb_mk hU hW hPr hPc hKc hDc hN hH hS hFc zx_e⟩⟩ rfl rfl hl.1 rfl (lv_room (Nat.le_of_ble_eq_true rfl)) dX6_digest_18 ⟨Nat.le_of_ble_eq_true rfl, Nat.le_of_ble_eq_true rfl⟩) hS (fun q _ h => hFc q h) hFc (fun r10 u t H9 locs ht hvm hw hB hz1 hk1 hS => ?_)
  obtain rfl : r10 = 0 := hw
  have hP := zo_K hP hk1
  have hPr := (zo_nil : va_P (dC, dI) vwCl [] H9)
  have hPc := hP.sub (ws' := []) [] rfl
  have hDc := hD.sub (ws' := []) [] (by decide) rfl
  have hKc := hK.sub (tys' := []) [] rfl
  have hFc := va_free (wc := []) hD hS hA [] rfl
  refine va_calll (va_runS (As := [.long 8747022, .int 0]) (rest := []) ⟨hx, hb, hml, hown, hts⟩ (cz_X6_mix l dC dI ed H9.size 8747022 0) (va_cwS 2 hts gX6_digest_X6_mix rfl rfl rfl (by decide +kernel) ⟨Nat.le_of_ble_eq_true rfl, Nat.le_of_ble_eq_true rfl⟩) ⟨zb_blind, fun U hU hW => ⟨rfl, zb_mk hU hW hPr hPc hKc hDc hN hH hS hFc zx_e⟩⟩ rfl rfl hl.1 rfl (lv_room (Nat.le_of_ble_eq_true rfl)) dX6_digest_21 ⟨Nat.le_of_ble_eq_true rfl, Nat.le_of_ble_eq_true rfl⟩) hS (fun q _ h => hFc q h) hFc (fun r12 u t H11 locs ht hvm hw hB hz1 hk1 hS => ?_)
  obtain rfl : r12 = 271157682 := hw.trans (by decide +kernel)
  have hP := zo_K hP hk1
  refine lv_lstore_n (lv' := [(1, .long 271157682), (3, .int 2), (0, .ref x)]) hx hb dX6_digest_24 rfl hl (by decide) rfl (fun ls hl => ?_)
  refine lv_iinc (v := 3) (lv' := [(3, .int 3), (1, .long 271157682), (0, .ref x)]) hx hb dX6_digest_25 hl (k := 1) rfl (by decide) (by decide) rfl (fun ls hl => ?_)
  refine lv_goto (tgt := 6) hx hb dX6_digest_28 (by decide) ?_
  refine lv_iload_n hx hb dX6_digest_6 rfl (lv_at hl 0 rfl) ?_
  refine lv_bipush (v := 19) hx hb dX6_digest_7 (by decide) ?_
  refine lv_icmp_ge (tgt := 31) hx hb dX6_digest_9 (by decide) (fun h => absurd h (by decide)) (fun _ => ?_)
  refine lv_lload_n hx hb dX6_digest_12 rfl (lv_at hl 1 rfl) ?_
  refine lv_aload_n hx hb dX6_digest_13 rfl (lv_at hl 2 rfl) ?_
  refine va_get (D := (dC, dI)) (ci := 8) (v := .ref rm) (C := RX6) (T := TX6) (N := 3) hx hb hts zi_X6_digest_X6 hown hK (zo_R hR0 hS hAr) 0 rfl rfl 0 (by decide) (hts (.fieldLink RX6 12 "LockRooms" "room" "LLockRooms$Room;") (by decide +kernel)) (fun _ h9 => h9) rfl dX6_digest_14 ?_
  refine lv_iload_n hx hb dX6_digest_17 rfl (lv_at hl 0 rfl) ?_
  have hPr := ((zo_R hR0 hS hAr)).sub (ws' := [(rm, .inr (5, [.ref lk, .ref th, .ref pl, .ref gm, .int 0, .int 0, .int 0, .int (-1), .int 1, .int 0, .int 0, .int 0])), (gm, .inr (2, [.int 0, .int 0, .int 0, .int 0, .int 0, .int (-1), .long 0]))]) [1, 3] rfl
  have hPc := hP.sub (ws' := []) [] rfl
  have hDc := hD.sub (ws' := []) [] (by decide) rfl
  have hKc := hK.sub (tys' := []) [] rfl
  have hFc := va_free (wc := []) hD hS hA [] rfl
  refine va_calli (va_runV (As := [.int 3]) (rest := [.long 271157682]) ⟨hx, hb, hml, hown, hts⟩ (cz_tell_3 l dC dI ed H11.size rm lk th pl gm) (cwV 1 hts gX6_digest_X3_tell rfl rfl rfl (by decide +kernel) ⟨Nat.le_of_ble_eq_true rfl, Nat.le_of_ble_eq_true rfl⟩) ⟨zb_blind, va_recv hK (zo_R hR0 hS hAr) (ci := 5) (q0 := 1) rfl rfl, fun U hU hW => ⟨rfl, zb_mk hU hW hPr hPc hKc hDc hN hH hS hFc zx_e⟩⟩ rfl rfl hl.1 rfl (lv_room (Nat.le_of_ble_eq_true rfl)) dX6_digest_18 ⟨Nat.le_of_ble_eq_true rfl, Nat.le_of_ble_eq_true rfl⟩) hS (fun q _ h => hFc q h) hFc (fun r14 u t H13 locs ht hvm hw hB hz1 hk1 hS => ?_)
  obtain rfl : r14 = 0 := hw
  have hP := zo_K hP hk1
  have hPr := (zo_nil : va_P (dC, dI) vwCl [] H13)
  have hPc := hP.sub (ws' := []) [] rfl
  have hDc := hD.sub (ws' := []) [] (by decide) rfl
  have hKc := hK.sub (tys' := []) [] rfl
  have hFc := va_free (wc := []) hD hS hA [] rfl
  refine va_calll (va_runS (As := [.long 271157682, .int 0]) (rest := []) ⟨hx, hb, hml, hown, hts⟩ (cz_X6_mix l dC dI ed H13.size 271157682 0) (va_cwS 2 hts gX6_digest_X6_mix rfl rfl rfl (by decide +kernel) ⟨Nat.le_of_ble_eq_true rfl, Nat.le_of_ble_eq_true rfl⟩) ⟨zb_blind, fun U hU hW => ⟨rfl, zb_mk hU hW hPr hPc hKc hDc hN hH hS hFc zx_e⟩⟩ rfl rfl hl.1 rfl (lv_room (Nat.le_of_ble_eq_true rfl)) dX6_digest_21 ⟨Nat.le_of_ble_eq_true rfl, Nat.le_of_ble_eq_true rfl⟩) hS (fun q _ h => hFc q h) hFc (fun r16 u t H15 locs ht hvm hw hB hz1 hk1 hS => ?_)
  obtain rfl : r16 = 8405888142 := hw.trans (by decide +kernel)
  have hP := zo_K hP hk1
  refine lv_lstore_n (lv' := [(1, .long 8405888142), (3, .int 3), (0, .ref x)]) hx hb dX6_digest_24 rfl hl (by decide) rfl (fun ls hl => ?_)
  refine lv_iinc (v := 4) (lv' := [(3, .int 4), (1, .long 8405888142), (0, .ref x)]) hx hb dX6_digest_25 hl (k := 1) rfl (by decide) (by decide) rfl (fun ls hl => ?_)
  refine lv_goto (tgt := 6) hx hb dX6_digest_28 (by decide) ?_
  refine lv_iload_n hx hb dX6_digest_6 rfl (lv_at hl 0 rfl) ?_
  refine lv_bipush (v := 19) hx hb dX6_digest_7 (by decide) ?_
  refine lv_icmp_ge (tgt := 31) hx hb dX6_digest_9 (by decide) (fun h => absurd h (by decide)) (fun _ => ?_)
  refine lv_lload_n hx hb dX6_digest_12 rfl (lv_at hl 1 rfl) ?_
  refine lv_aload_n hx hb dX6_digest_13 rfl (lv_at hl 2 rfl) ?_
  refine va_get (D := (dC, dI)) (ci := 8) (v := .ref rm) (C := RX6) (T := TX6) (N := 3) hx hb hts zi_X6_digest_X6 hown hK (zo_R hR0 hS hAr) 0 rfl rfl 0 (by decide) (hts (.fieldLink RX6 12 "LockRooms" "room" "LLockRooms$Room;") (by decide +kernel)) (fun _ h9 => h9) rfl dX6_digest_14 ?_
  refine lv_iload_n hx hb dX6_digest_17 rfl (lv_at hl 0 rfl) ?_
  have hPr := ((zo_R hR0 hS hAr)).sub (ws' := [(rm, .inr (5, [.ref lk, .ref th, .ref pl, .ref gm, .int 0, .int 0, .int 0, .int (-1), .int 1, .int 0, .int 0, .int 0])), (gm, .inr (2, [.int 0, .int 0, .int 0, .int 0, .int 0, .int (-1), .long 0]))]) [1, 3] rfl
  have hPc := hP.sub (ws' := []) [] rfl
  have hDc := hD.sub (ws' := []) [] (by decide) rfl
  have hKc := hK.sub (tys' := []) [] rfl
  have hFc := va_free (wc := []) hD hS hA [] rfl
  refine va_calli (va_runV (As := [.int 4]) (rest := [.long 8405888142]) ⟨hx, hb, hml, hown, hts⟩ (cz_tell_4 l dC dI ed H15.size rm lk th pl gm) (cwV 1 hts gX6_digest_X3_tell rfl rfl rfl (by decide +kernel) ⟨Nat.le_of_ble_eq_true rfl, Nat.le_of_ble_eq_true rfl⟩) ⟨zb_blind, va_recv hK (zo_R hR0 hS hAr) (ci := 5) (q0 := 1) rfl rfl, fun U hU hW => ⟨rfl, zb_mk hU hW hPr hPc hKc hDc hN hH hS hFc zx_e⟩⟩ rfl rfl hl.1 rfl (lv_room (Nat.le_of_ble_eq_true rfl)) dX6_digest_18 ⟨Nat.le_of_ble_eq_true rfl, Nat.le_of_ble_eq_true rfl⟩) hS (fun q _ h => hFc q h) hFc (fun r18 u t H17 locs ht hvm hw hB hz1 hk1 hS => ?_)
  obtain rfl : r18 = 0 := hw
  have hP := zo_K hP hk1
  have hPr := (zo_nil : va_P (dC, dI) vwCl [] H17)
  have hPc := hP.sub (ws' := []) [] rfl
  have hDc := hD.sub (ws' := []) [] (by decide) rfl
  have hKc := hK.sub (tys' := []) [] rfl
  have hFc := va_free (wc := []) hD hS hA [] rfl
  refine va_calll (va_runS (As := [.long 8405888142, .int 0]) (rest := []) ⟨hx, hb, hml, hown, hts⟩ (cz_X6_mix l dC dI ed H17.size 8405888142 0) (va_cwS 2 hts gX6_digest_X6_mix rfl rfl rfl (by decide +kernel) ⟨Nat.le_of_ble_eq_true rfl, Nat.le_of_ble_eq_true rfl⟩) ⟨zb_blind, fun U hU hW => ⟨rfl, zb_mk hU hW hPr hPc hKc hDc hN hH hS hFc zx_e⟩⟩ rfl rfl hl.1 rfl (lv_room (Nat.le_of_ble_eq_true rfl)) dX6_digest_21 ⟨Nat.le_of_ble_eq_true rfl, Nat.le_of_ble_eq_true rfl⟩) hS (fun q _ h => hFc q h) hFc (fun r20 u t H19 locs ht hvm hw hB hz1 hk1 hS => ?_)
  obtain rfl : r20 = 260582532402 := hw.trans (by decide +kernel)
  have hP := zo_K hP hk1
  refine lv_lstore_n (lv' := [(1, .long 260582532402), (3, .int 4), (0, .ref x)]) hx hb dX6_digest_24 rfl hl (by decide) rfl (fun ls hl => ?_)
  refine lv_iinc (v := 5) (lv' := [(3, .int 5), (1, .long 260582532402), (0, .ref x)]) hx hb dX6_digest_25 hl (k := 1) rfl (by decide) (by decide) rfl (fun ls hl => ?_)
  refine lv_goto (tgt := 6) hx hb dX6_digest_28 (by decide) ?_
  refine lv_iload_n hx hb dX6_digest_6 rfl (lv_at hl 0 rfl) ?_
  refine lv_bipush (v := 19) hx hb dX6_digest_7 (by decide) ?_
  refine lv_icmp_ge (tgt := 31) hx hb dX6_digest_9 (by decide) (fun h => absurd h (by decide)) (fun _ => ?_)
  refine lv_lload_n hx hb dX6_digest_12 rfl (lv_at hl 1 rfl) ?_
  refine lv_aload_n hx hb dX6_digest_13 rfl (lv_at hl 2 rfl) ?_
  refine va_get (D := (dC, dI)) (ci := 8) (v := .ref rm) (C := RX6) (T := TX6) (N := 3) hx hb hts zi_X6_digest_X6 hown hK (zo_R hR0 hS hAr) 0 rfl rfl 0 (by decide) (hts (.fieldLink RX6 12 "LockRooms" "room" "LLockRooms$Room;") (by decide +kernel)) (fun _ h9 => h9) rfl dX6_digest_14 ?_
  refine lv_iload_n hx hb dX6_digest_17 rfl (lv_at hl 0 rfl) ?_
  have hPr := ((zo_R hR0 hS hAr)).sub (ws' := [(rm, .inr (5, [.ref lk, .ref th, .ref pl, .ref gm, .int 0, .int 0, .int 0, .int (-1), .int 1, .int 0, .int 0, .int 0])), (gm, .inr (2, [.int 0, .int 0, .int 0, .int 0, .int 0, .int (-1), .long 0]))]) [1, 3] rfl
  have hPc := hP.sub (ws' := []) [] rfl
  have hDc := hD.sub (ws' := []) [] (by decide) rfl
  have hKc := hK.sub (tys' := []) [] rfl
  have hFc := va_free (wc := []) hD hS hA [] rfl
  refine va_calli (va_runV (As := [.int 5]) (rest := [.long 260582532402]) ⟨hx, hb, hml, hown, hts⟩ (cz_tell_5 l dC dI ed H19.size rm lk th pl gm) (cwV 1 hts gX6_digest_X3_tell rfl rfl rfl (by decide +kernel) ⟨Nat.le_of_ble_eq_true rfl, Nat.le_of_ble_eq_true rfl⟩) ⟨zb_blind, va_recv hK (zo_R hR0 hS hAr) (ci := 5) (q0 := 1) rfl rfl, fun U hU hW => ⟨rfl, zb_mk hU hW hPr hPc hKc hDc hN hH hS hFc zx_e⟩⟩ rfl rfl hl.1 rfl (lv_room (Nat.le_of_ble_eq_true rfl)) dX6_digest_18 ⟨Nat.le_of_ble_eq_true rfl, Nat.le_of_ble_eq_true rfl⟩) hS (fun q _ h => hFc q h) hFc (fun r22 u t H21 locs ht hvm hw hB hz1 hk1 hS => ?_)
  obtain rfl : r22 = 0 := hw
  have hP := zo_K hP hk1
  have hPr := (zo_nil : va_P (dC, dI) vwCl [] H21)
  have hPc := hP.sub (ws' := []) [] rfl
  have hDc := hD.sub (ws' := []) [] (by decide) rfl
  have hKc := hK.sub (tys' := []) [] rfl
  have hFc := va_free (wc := []) hD hS hA [] rfl
  refine va_calll (va_runS (As := [.long 260582532402, .int 0]) (rest := []) ⟨hx, hb, hml, hown, hts⟩ (cz_X6_mix l dC dI ed H21.size 260582532402 0) (va_cwS 2 hts gX6_digest_X6_mix rfl rfl rfl (by decide +kernel) ⟨Nat.le_of_ble_eq_true rfl, Nat.le_of_ble_eq_true rfl⟩) ⟨zb_blind, fun U hU hW => ⟨rfl, zb_mk hU hW hPr hPc hKc hDc hN hH hS hFc zx_e⟩⟩ rfl rfl hl.1 rfl (lv_room (Nat.le_of_ble_eq_true rfl)) dX6_digest_21 ⟨Nat.le_of_ble_eq_true rfl, Nat.le_of_ble_eq_true rfl⟩) hS (fun q _ h => hFc q h) hFc (fun r24 u t H23 locs ht hvm hw hB hz1 hk1 hS => ?_)
  obtain rfl : r24 = 8078058504462 := hw.trans (by decide +kernel)
  have hP := zo_K hP hk1
  refine lv_lstore_n (lv' := [(1, .long 8078058504462), (3, .int 5), (0, .ref x)]) hx hb dX6_digest_24 rfl hl (by decide) rfl (fun ls hl => ?_)
  refine lv_iinc (v := 6) (lv' := [(3, .int 6), (1, .long 8078058504462), (0, .ref x)]) hx hb dX6_digest_25 hl (k := 1) rfl (by decide) (by decide) rfl (fun ls hl => ?_)
  refine lv_goto (tgt := 6) hx hb dX6_digest_28 (by decide) ?_
  refine lv_iload_n hx hb dX6_digest_6 rfl (lv_at hl 0 rfl) ?_
  refine lv_bipush (v := 19) hx hb dX6_digest_7 (by decide) ?_
  refine lv_icmp_ge (tgt := 31) hx hb dX6_digest_9 (by decide) (fun h => absurd h (by decide)) (fun _ => ?_)
  refine lv_lload_n hx hb dX6_digest_12 rfl (lv_at hl 1 rfl) ?_
  refine lv_aload_n hx hb dX6_digest_13 rfl (lv_at hl 2 rfl) ?_
  refine va_get (D := (dC, dI)) (ci := 8) (v := .ref rm) (C := RX6) (T := TX6) (N := 3) hx hb hts zi_X6_digest_X6 hown hK (zo_R hR0 hS hAr) 0 rfl rfl 0 (by decide) (hts (.fieldLink RX6 12 "LockRooms" "room" "LLockRooms$Room;") (by decide +kernel)) (fun _ h9 => h9) rfl dX6_digest_14 ?_
  refine lv_iload_n hx hb dX6_digest_17 rfl (lv_at hl 0 rfl) ?_
  have hPr := ((zo_R hR0 hS hAr)).sub (ws' := [(rm, .inr (5, [.ref lk, .ref th, .ref pl, .ref gm, .int 0, .int 0, .int 0, .int (-1), .int 1, .int 0, .int 0, .int 0])), (gm, .inr (2, [.int 0, .int 0, .int 0, .int 0, .int 0, .int (-1), .long 0]))]) [1, 3] rfl
  have hPc := hP.sub (ws' := []) [] rfl
  have hDc := hD.sub (ws' := []) [] (by decide) rfl
  have hKc := hK.sub (tys' := []) [] rfl
  have hFc := va_free (wc := []) hD hS hA [] rfl
  refine va_calli (va_runV (As := [.int 6]) (rest := [.long 8078058504462]) ⟨hx, hb, hml, hown, hts⟩ (cz_tell_6 l dC dI ed H23.size rm lk th pl gm) (cwV 1 hts gX6_digest_X3_tell rfl rfl rfl (by decide +kernel) ⟨Nat.le_of_ble_eq_true rfl, Nat.le_of_ble_eq_true rfl⟩) ⟨zb_blind, va_recv hK (zo_R hR0 hS hAr) (ci := 5) (q0 := 1) rfl rfl, fun U hU hW => ⟨rfl, zb_mk hU hW hPr hPc hKc hDc hN hH hS hFc zx_e⟩⟩ rfl rfl hl.1 rfl (lv_room (Nat.le_of_ble_eq_true rfl)) dX6_digest_18 ⟨Nat.le_of_ble_eq_true rfl, Nat.le_of_ble_eq_true rfl⟩) hS (fun q _ h => hFc q h) hFc (fun r26 u t H25 locs ht hvm hw hB hz1 hk1 hS => ?_)
  obtain rfl : r26 = 0 := hw
  have hP := zo_K hP hk1
  have hPr := (zo_nil : va_P (dC, dI) vwCl [] H25)
  have hPc := hP.sub (ws' := []) [] rfl
  have hDc := hD.sub (ws' := []) [] (by decide) rfl
  have hKc := hK.sub (tys' := []) [] rfl
  have hFc := va_free (wc := []) hD hS hA [] rfl
  refine va_calll (va_runS (As := [.long 8078058504462, .int 0]) (rest := []) ⟨hx, hb, hml, hown, hts⟩ (cz_X6_mix l dC dI ed H25.size 8078058504462 0) (va_cwS 2 hts gX6_digest_X6_mix rfl rfl rfl (by decide +kernel) ⟨Nat.le_of_ble_eq_true rfl, Nat.le_of_ble_eq_true rfl⟩) ⟨zb_blind, fun U hU hW => ⟨rfl, zb_mk hU hW hPr hPc hKc hDc hN hH hS hFc zx_e⟩⟩ rfl rfl hl.1 rfl (lv_room (Nat.le_of_ble_eq_true rfl)) dX6_digest_21 ⟨Nat.le_of_ble_eq_true rfl, Nat.le_of_ble_eq_true rfl⟩) hS (fun q _ h => hFc q h) hFc (fun r28 u t H27 locs ht hvm hw hB hz1 hk1 hS => ?_)
  obtain rfl : r28 = 250419813638322 := hw.trans (by decide +kernel)
  have hP := zo_K hP hk1
  refine lv_lstore_n (lv' := [(1, .long 250419813638322), (3, .int 6), (0, .ref x)]) hx hb dX6_digest_24 rfl hl (by decide) rfl (fun ls hl => ?_)
  refine lv_iinc (v := 7) (lv' := [(3, .int 7), (1, .long 250419813638322), (0, .ref x)]) hx hb dX6_digest_25 hl (k := 1) rfl (by decide) (by decide) rfl (fun ls hl => ?_)
  refine lv_goto (tgt := 6) hx hb dX6_digest_28 (by decide) ?_
  refine lv_iload_n hx hb dX6_digest_6 rfl (lv_at hl 0 rfl) ?_
  refine lv_bipush (v := 19) hx hb dX6_digest_7 (by decide) ?_
  refine lv_icmp_ge (tgt := 31) hx hb dX6_digest_9 (by decide) (fun h => absurd h (by decide)) (fun _ => ?_)
  refine lv_lload_n hx hb dX6_digest_12 rfl (lv_at hl 1 rfl) ?_
  refine lv_aload_n hx hb dX6_digest_13 rfl (lv_at hl 2 rfl) ?_
  refine va_get (D := (dC, dI)) (ci := 8) (v := .ref rm) (C := RX6) (T := TX6) (N := 3) hx hb hts zi_X6_digest_X6 hown hK (zo_R hR0 hS hAr) 0 rfl rfl 0 (by decide) (hts (.fieldLink RX6 12 "LockRooms" "room" "LLockRooms$Room;") (by decide +kernel)) (fun _ h9 => h9) rfl dX6_digest_14 ?_
  refine lv_iload_n hx hb dX6_digest_17 rfl (lv_at hl 0 rfl) ?_
  have hPr := ((zo_R hR0 hS hAr)).sub (ws' := [(rm, .inr (5, [.ref lk, .ref th, .ref pl, .ref gm, .int 0, .int 0, .int 0, .int (-1), .int 1, .int 0, .int 0, .int 0])), (gm, .inr (2, [.int 0, .int 0, .int 0, .int 0, .int 0, .int (-1), .long 0]))]) [1, 3] rfl
  have hPc := hP.sub (ws' := []) [] rfl
  have hDc := hD.sub (ws' := []) [] (by decide) rfl
  have hKc := hK.sub (tys' := []) [] rfl
  have hFc := va_free (wc := []) hD hS hA [] rfl
  refine va_calli (va_runV (As := [.int 7]) (rest := [.long 250419813638322]) ⟨hx, hb, hml, hown, hts⟩ (cz_tell_7 l dC dI ed H27.size rm lk th pl gm) (cwV 1 hts gX6_digest_X3_tell rfl rfl rfl (by decide +kernel) ⟨Nat.le_of_ble_eq_true rfl, Nat.le_of_ble_eq_true rfl⟩) ⟨zb_blind, va_recv hK (zo_R hR0 hS hAr) (ci := 5) (q0 := 1) rfl rfl, fun U hU hW => ⟨rfl, zb_mk hU hW hPr hPc hKc hDc hN hH hS hFc zx_e⟩⟩ rfl rfl hl.1 rfl (lv_room (Nat.le_of_ble_eq_true rfl)) dX6_digest_18 ⟨Nat.le_of_ble_eq_true rfl, Nat.le_of_ble_eq_true rfl⟩) hS (fun q _ h => hFc q h) hFc (fun r30 u t H29 locs ht hvm hw hB hz1 hk1 hS => ?_)
  obtain rfl : r30 = 0 := hw
  have hP := zo_K hP hk1
  have hPr := (zo_nil : va_P (dC, dI) vwCl [] H29)
  have hPc := hP.sub (ws' := []) [] rfl
  have hDc := hD.sub (ws' := []) [] (by decide) rfl
  have hKc := hK.sub (tys' := []) [] rfl
  have hFc := va_free (wc := []) hD hS hA [] rfl
  refine va_calll (va_runS (As := [.long 250419813638322, .int 0]) (rest := []) ⟨hx, hb, hml, hown, hts⟩ (cz_X6_mix l dC dI ed H29.size 250419813638322 0) (va_cwS 2 hts gX6_digest_X6_mix rfl rfl rfl (by decide +kernel) ⟨Nat.le_of_ble_eq_true rfl, Nat.le_of_ble_eq_true rfl⟩) ⟨zb_blind, fun U hU hW => ⟨rfl, zb_mk hU hW hPr hPc hKc hDc hN hH hS hFc zx_e⟩⟩ rfl rfl hl.1 rfl (lv_room (Nat.le_of_ble_eq_true rfl)) dX6_digest_21 ⟨Nat.le_of_ble_eq_true rfl, Nat.le_of_ble_eq_true rfl⟩) hS (fun q _ h => hFc q h) hFc (fun r32 u t H31 locs ht hvm hw hB hz1 hk1 hS => ?_)
  obtain rfl : r32 = 7763014222787982 := hw.trans (by decide +kernel)
  have hP := zo_K hP hk1
  refine lv_lstore_n (lv' := [(1, .long 7763014222787982), (3, .int 7), (0, .ref x)]) hx hb dX6_digest_24 rfl hl (by decide) rfl (fun ls hl => ?_)
  refine lv_iinc (v := 8) (lv' := [(3, .int 8), (1, .long 7763014222787982), (0, .ref x)]) hx hb dX6_digest_25 hl (k := 1) rfl (by decide) (by decide) rfl (fun ls hl => ?_)
  refine lv_goto (tgt := 6) hx hb dX6_digest_28 (by decide) ?_
  refine lv_iload_n hx hb dX6_digest_6 rfl (lv_at hl 0 rfl) ?_
  refine lv_bipush (v := 19) hx hb dX6_digest_7 (by decide) ?_
  refine lv_icmp_ge (tgt := 31) hx hb dX6_digest_9 (by decide) (fun h => absurd h (by decide)) (fun _ => ?_)
  refine lv_lload_n hx hb dX6_digest_12 rfl (lv_at hl 1 rfl) ?_
  refine lv_aload_n hx hb dX6_digest_13 rfl (lv_at hl 2 rfl) ?_
  refine va_get (D := (dC, dI)) (ci := 8) (v := .ref rm) (C := RX6) (T := TX6) (N := 3) hx hb hts zi_X6_digest_X6 hown hK (zo_R hR0 hS hAr) 0 rfl rfl 0 (by decide) (hts (.fieldLink RX6 12 "LockRooms" "room" "LLockRooms$Room;") (by decide +kernel)) (fun _ h9 => h9) rfl dX6_digest_14 ?_
  refine lv_iload_n hx hb dX6_digest_17 rfl (lv_at hl 0 rfl) ?_
  have hPr := ((zo_R hR0 hS hAr)).sub (ws' := [(rm, .inr (5, [.ref lk, .ref th, .ref pl, .ref gm, .int 0, .int 0, .int 0, .int (-1), .int 1, .int 0, .int 0, .int 0])), (gm, .inr (2, [.int 0, .int 0, .int 0, .int 0, .int 0, .int (-1), .long 0]))]) [1, 3] rfl
  have hPc := hP.sub (ws' := []) [] rfl
  have hDc := hD.sub (ws' := []) [] (by decide) rfl
  have hKc := hK.sub (tys' := []) [] rfl
  have hFc := va_free (wc := []) hD hS hA [] rfl
  refine va_calli (va_runV (As := [.int 8]) (rest := [.long 7763014222787982]) ⟨hx, hb, hml, hown, hts⟩ (cz_tell_8 l dC dI ed H31.size rm lk th pl gm) (cwV 1 hts gX6_digest_X3_tell rfl rfl rfl (by decide +kernel) ⟨Nat.le_of_ble_eq_true rfl, Nat.le_of_ble_eq_true rfl⟩) ⟨zb_blind, va_recv hK (zo_R hR0 hS hAr) (ci := 5) (q0 := 1) rfl rfl, fun U hU hW => ⟨rfl, zb_mk hU hW hPr hPc hKc hDc hN hH hS hFc zx_e⟩⟩ rfl rfl hl.1 rfl (lv_room (Nat.le_of_ble_eq_true rfl)) dX6_digest_18 ⟨Nat.le_of_ble_eq_true rfl, Nat.le_of_ble_eq_true rfl⟩) hS (fun q _ h => hFc q h) hFc (fun r34 u t H33 locs ht hvm hw hB hz1 hk1 hS => ?_)
  obtain rfl : r34 = (-1) := hw
  have hP := zo_K hP hk1
  have hPr := (zo_nil : va_P (dC, dI) vwCl [] H33)
  have hPc := hP.sub (ws' := []) [] rfl
  have hDc := hD.sub (ws' := []) [] (by decide) rfl
  have hKc := hK.sub (tys' := []) [] rfl
  have hFc := va_free (wc := []) hD hS hA [] rfl
  refine va_calll (va_runS (As := [.long 7763014222787982, .int (-1)]) (rest := []) ⟨hx, hb, hml, hown, hts⟩ (cz_X6_mix l dC dI ed H33.size 7763014222787982 (-1)) (va_cwS 2 hts gX6_digest_X6_mix rfl rfl rfl (by decide +kernel) ⟨Nat.le_of_ble_eq_true rfl, Nat.le_of_ble_eq_true rfl⟩) ⟨zb_blind, fun U hU hW => ⟨rfl, zb_mk hU hW hPr hPc hKc hDc hN hH hS hFc zx_e⟩⟩ rfl rfl hl.1 rfl (lv_room (Nat.le_of_ble_eq_true rfl)) dX6_digest_21 ⟨Nat.le_of_ble_eq_true rfl, Nat.le_of_ble_eq_true rfl⟩) hS (fun q _ h => hFc q h) hFc (fun r36 u t H35 locs ht hvm hw hB hz1 hk1 hS => ?_)
  obtain rfl : r36 = 240653440906427441 := hw.trans (by decide +kernel)
  have hP := zo_K hP hk1
  refine lv_lstore_n (lv' := [(1, .long 240653440906427441), (3, .int 8), (0, .ref x)]) hx hb dX6_digest_24 rfl hl (by decide) rfl (fun ls hl => ?_)
  refine lv_iinc (v := 9) (lv' := [(3, .int 9), (1, .long 240653440906427441), (0, .ref x)]) hx hb dX6_digest_25 hl (k := 1) rfl (by decide) (by decide) rfl (fun ls hl => ?_)
  refine lv_goto (tgt := 6) hx hb dX6_digest_28 (by decide) ?_
  refine lv_iload_n hx hb dX6_digest_6 rfl (lv_at hl 0 rfl) ?_
  refine lv_bipush (v := 19) hx hb dX6_digest_7 (by decide) ?_
  refine lv_icmp_ge (tgt := 31) hx hb dX6_digest_9 (by decide) (fun h => absurd h (by decide)) (fun _ => ?_)
  refine lv_lload_n hx hb dX6_digest_12 rfl (lv_at hl 1 rfl) ?_
  refine lv_aload_n hx hb dX6_digest_13 rfl (lv_at hl 2 rfl) ?_
  refine va_get (D := (dC, dI)) (ci := 8) (v := .ref rm) (C := RX6) (T := TX6) (N := 3) hx hb hts zi_X6_digest_X6 hown hK (zo_R hR0 hS hAr) 0 rfl rfl 0 (by decide) (hts (.fieldLink RX6 12 "LockRooms" "room" "LLockRooms$Room;") (by decide +kernel)) (fun _ h9 => h9) rfl dX6_digest_14 ?_
  refine lv_iload_n hx hb dX6_digest_17 rfl (lv_at hl 0 rfl) ?_
  have hPr := ((zo_R hR0 hS hAr)).sub (ws' := [(rm, .inr (5, [.ref lk, .ref th, .ref pl, .ref gm, .int 0, .int 0, .int 0, .int (-1), .int 1, .int 0, .int 0, .int 0])), (gm, .inr (2, [.int 0, .int 0, .int 0, .int 0, .int 0, .int (-1), .long 0]))]) [1, 3] rfl
  have hPc := hP.sub (ws' := []) [] rfl
  have hDc := hD.sub (ws' := []) [] (by decide) rfl
  have hKc := hK.sub (tys' := []) [] rfl
  have hFc := va_free (wc := []) hD hS hA [] rfl
  refine va_calli (va_runV (As := [.int 9]) (rest := [.long 240653440906427441]) ⟨hx, hb, hml, hown, hts⟩ (cz_tell_9 l dC dI ed H35.size rm lk th pl gm) (cwV 1 hts gX6_digest_X3_tell rfl rfl rfl (by decide +kernel) ⟨Nat.le_of_ble_eq_true rfl, Nat.le_of_ble_eq_true rfl⟩) ⟨zb_blind, va_recv hK (zo_R hR0 hS hAr) (ci := 5) (q0 := 1) rfl rfl, fun U hU hW => ⟨rfl, zb_mk hU hW hPr hPc hKc hDc hN hH hS hFc zx_e⟩⟩ rfl rfl hl.1 rfl (lv_room (Nat.le_of_ble_eq_true rfl)) dX6_digest_18 ⟨Nat.le_of_ble_eq_true rfl, Nat.le_of_ble_eq_true rfl⟩) hS (fun q _ h => hFc q h) hFc (fun r38 u t H37 locs ht hvm hw hB hz1 hk1 hS => ?_)
  obtain rfl : r38 = 0 := hw
  have hP := zo_K hP hk1
  have hPr := (zo_nil : va_P (dC, dI) vwCl [] H37)
  have hPc := hP.sub (ws' := []) [] rfl
  have hDc := hD.sub (ws' := []) [] (by decide) rfl
  have hKc := hK.sub (tys' := []) [] rfl
  have hFc := va_free (wc := []) hD hS hA [] rfl
  refine va_calll (va_runS (As := [.long 240653440906427441, .int 0]) (rest := []) ⟨hx, hb, hml, hown, hts⟩ (cz_X6_mix l dC dI ed H37.size 240653440906427441 0) (va_cwS 2 hts gX6_digest_X6_mix rfl rfl rfl (by decide +kernel) ⟨Nat.le_of_ble_eq_true rfl, Nat.le_of_ble_eq_true rfl⟩) ⟨zb_blind, fun U hU hW => ⟨rfl, zb_mk hU hW hPr hPc hKc hDc hN hH hS hFc zx_e⟩⟩ rfl rfl hl.1 rfl (lv_room (Nat.le_of_ble_eq_true rfl)) dX6_digest_21 ⟨Nat.le_of_ble_eq_true rfl, Nat.le_of_ble_eq_true rfl⟩) hS (fun q _ h => hFc q h) hFc (fun r40 u t H39 locs ht hvm hw hB hz1 hk1 hS => ?_)
  obtain rfl : r40 = 7460256668099250671 := hw.trans (by decide +kernel)
  have hP := zo_K hP hk1
  refine lv_lstore_n (lv' := [(1, .long 7460256668099250671), (3, .int 9), (0, .ref x)]) hx hb dX6_digest_24 rfl hl (by decide) rfl (fun ls hl => ?_)
  refine lv_iinc (v := 10) (lv' := [(3, .int 10), (1, .long 7460256668099250671), (0, .ref x)]) hx hb dX6_digest_25 hl (k := 1) rfl (by decide) (by decide) rfl (fun ls hl => ?_)
  refine lv_goto (tgt := 6) hx hb dX6_digest_28 (by decide) ?_
  refine lv_iload_n hx hb dX6_digest_6 rfl (lv_at hl 0 rfl) ?_
  refine lv_bipush (v := 19) hx hb dX6_digest_7 (by decide) ?_
  refine lv_icmp_ge (tgt := 31) hx hb dX6_digest_9 (by decide) (fun h => absurd h (by decide)) (fun _ => ?_)
  refine lv_lload_n hx hb dX6_digest_12 rfl (lv_at hl 1 rfl) ?_
  refine lv_aload_n hx hb dX6_digest_13 rfl (lv_at hl 2 rfl) ?_
  refine va_get (D := (dC, dI)) (ci := 8) (v := .ref rm) (C := RX6) (T := TX6) (N := 3) hx hb hts zi_X6_digest_X6 hown hK (zo_R hR0 hS hAr) 0 rfl rfl 0 (by decide) (hts (.fieldLink RX6 12 "LockRooms" "room" "LLockRooms$Room;") (by decide +kernel)) (fun _ h9 => h9) rfl dX6_digest_14 ?_
  refine lv_iload_n hx hb dX6_digest_17 rfl (lv_at hl 0 rfl) ?_
  have hPr := ((zo_R hR0 hS hAr)).sub (ws' := [(rm, .inr (5, [.ref lk, .ref th, .ref pl, .ref gm, .int 0, .int 0, .int 0, .int (-1), .int 1, .int 0, .int 0, .int 0])), (gm, .inr (2, [.int 0, .int 0, .int 0, .int 0, .int 0, .int (-1), .long 0]))]) [1, 3] rfl
  have hPc := hP.sub (ws' := []) [] rfl
  have hDc := hD.sub (ws' := []) [] (by decide) rfl
  have hKc := hK.sub (tys' := []) [] rfl
  have hFc := va_free (wc := []) hD hS hA [] rfl
  refine va_calli (va_runV (As := [.int 10]) (rest := [.long 7460256668099250671]) ⟨hx, hb, hml, hown, hts⟩ (cz_tell_10 l dC dI ed H39.size rm lk th pl gm) (cwV 1 hts gX6_digest_X3_tell rfl rfl rfl (by decide +kernel) ⟨Nat.le_of_ble_eq_true rfl, Nat.le_of_ble_eq_true rfl⟩) ⟨zb_blind, va_recv hK (zo_R hR0 hS hAr) (ci := 5) (q0 := 1) rfl rfl, fun U hU hW => ⟨rfl, zb_mk hU hW hPr hPc hKc hDc hN hH hS hFc zx_e⟩⟩ rfl rfl hl.1 rfl (lv_room (Nat.le_of_ble_eq_true rfl)) dX6_digest_18 ⟨Nat.le_of_ble_eq_true rfl, Nat.le_of_ble_eq_true rfl⟩) hS (fun q _ h => hFc q h) hFc (fun r42 u t H41 locs ht hvm hw hB hz1 hk1 hS => ?_)
  obtain rfl : r42 = 0 := hw
  have hP := zo_K hP hk1
  have hPr := (zo_nil : va_P (dC, dI) vwCl [] H41)
  have hPc := hP.sub (ws' := []) [] rfl
  have hDc := hD.sub (ws' := []) [] (by decide) rfl
  have hKc := hK.sub (tys' := []) [] rfl
  have hFc := va_free (wc := []) hD hS hA [] rfl
  refine va_calll (va_runS (As := [.long 7460256668099250671, .int 0]) (rest := []) ⟨hx, hb, hml, hown, hts⟩ (cz_X6_mix l dC dI ed H41.size 7460256668099250671 0) (va_cwS 2 hts gX6_digest_X6_mix rfl rfl rfl (by decide +kernel) ⟨Nat.le_of_ble_eq_true rfl, Nat.le_of_ble_eq_true rfl⟩) ⟨zb_blind, fun U hU hW => ⟨rfl, zb_mk hU hW hPr hPc hKc hDc hN hH hS hFc zx_e⟩⟩ rfl rfl hl.1 rfl (lv_room (Nat.le_of_ble_eq_true rfl)) dX6_digest_21 ⟨Nat.le_of_ble_eq_true rfl, Nat.le_of_ble_eq_true rfl⟩) hS (fun q _ h => hFc q h) hFc (fun r44 u t H43 locs ht hvm hw hB hz1 hk1 hS => ?_)
  obtain rfl : r44 = (-8539716247147400207) := hw.trans (by decide +kernel)
  have hP := zo_K hP hk1
  refine lv_lstore_n (lv' := [(1, .long (-8539716247147400207)), (3, .int 10), (0, .ref x)]) hx hb dX6_digest_24 rfl hl (by decide) rfl (fun ls hl => ?_)
  refine lv_iinc (v := 11) (lv' := [(3, .int 11), (1, .long (-8539716247147400207)), (0, .ref x)]) hx hb dX6_digest_25 hl (k := 1) rfl (by decide) (by decide) rfl (fun ls hl => ?_)
  refine lv_goto (tgt := 6) hx hb dX6_digest_28 (by decide) ?_
  refine lv_iload_n hx hb dX6_digest_6 rfl (lv_at hl 0 rfl) ?_
  refine lv_bipush (v := 19) hx hb dX6_digest_7 (by decide) ?_
  refine lv_icmp_ge (tgt := 31) hx hb dX6_digest_9 (by decide) (fun h => absurd h (by decide)) (fun _ => ?_)
  refine lv_lload_n hx hb dX6_digest_12 rfl (lv_at hl 1 rfl) ?_
  refine lv_aload_n hx hb dX6_digest_13 rfl (lv_at hl 2 rfl) ?_
  refine va_get (D := (dC, dI)) (ci := 8) (v := .ref rm) (C := RX6) (T := TX6) (N := 3) hx hb hts zi_X6_digest_X6 hown hK (zo_R hR0 hS hAr) 0 rfl rfl 0 (by decide) (hts (.fieldLink RX6 12 "LockRooms" "room" "LLockRooms$Room;") (by decide +kernel)) (fun _ h9 => h9) rfl dX6_digest_14 ?_
  refine lv_iload_n hx hb dX6_digest_17 rfl (lv_at hl 0 rfl) ?_
  have hPr := ((zo_R hR0 hS hAr)).sub (ws' := [(rm, .inr (5, [.ref lk, .ref th, .ref pl, .ref gm, .int 0, .int 0, .int 0, .int (-1), .int 1, .int 0, .int 0, .int 0])), (gm, .inr (2, [.int 0, .int 0, .int 0, .int 0, .int 0, .int (-1), .long 0]))]) [1, 3] rfl
  have hPc := hP.sub (ws' := []) [] rfl
  have hDc := hD.sub (ws' := []) [] (by decide) rfl
  have hKc := hK.sub (tys' := []) [] rfl
  have hFc := va_free (wc := []) hD hS hA [] rfl
  refine va_calli (va_runV (As := [.int 11]) (rest := [.long (-8539716247147400207)]) ⟨hx, hb, hml, hown, hts⟩ (cz_tell_11 l dC dI ed H43.size rm lk th pl gm) (cwV 1 hts gX6_digest_X3_tell rfl rfl rfl (by decide +kernel) ⟨Nat.le_of_ble_eq_true rfl, Nat.le_of_ble_eq_true rfl⟩) ⟨zb_blind, va_recv hK (zo_R hR0 hS hAr) (ci := 5) (q0 := 1) rfl rfl, fun U hU hW => ⟨rfl, zb_mk hU hW hPr hPc hKc hDc hN hH hS hFc zx_e⟩⟩ rfl rfl hl.1 rfl (lv_room (Nat.le_of_ble_eq_true rfl)) dX6_digest_18 ⟨Nat.le_of_ble_eq_true rfl, Nat.le_of_ble_eq_true rfl⟩) hS (fun q _ h => hFc q h) hFc (fun r46 u t H45 locs ht hvm hw hB hz1 hk1 hS => ?_)
  obtain rfl : r46 = (-1) := hw
  have hP := zo_K hP hk1
  have hPr := (zo_nil : va_P (dC, dI) vwCl [] H45)
  have hPc := hP.sub (ws' := []) [] rfl
  have hDc := hD.sub (ws' := []) [] (by decide) rfl
  have hKc := hK.sub (tys' := []) [] rfl
  have hFc := va_free (wc := []) hD hS hA [] rfl
  refine va_calll (va_runS (As := [.long (-8539716247147400207), .int (-1)]) (rest := []) ⟨hx, hb, hml, hown, hts⟩ (cz_X6_mix l dC dI ed H45.size (-8539716247147400207) (-1)) (va_cwS 2 hts gX6_digest_X6_mix rfl rfl rfl (by decide +kernel) ⟨Nat.le_of_ble_eq_true rfl, Nat.le_of_ble_eq_true rfl⟩) ⟨zb_blind, fun U hU hW => ⟨rfl, zb_mk hU hW hPr hPc hKc hDc hN hH hS hFc zx_e⟩⟩ rfl rfl hl.1 rfl (lv_room (Nat.le_of_ble_eq_true rfl)) dX6_digest_21 ⟨Nat.le_of_ble_eq_true rfl, Nat.le_of_ble_eq_true rfl⟩) hS (fun q _ h => hFc q h) hFc (fun r48 u t H47 locs ht hvm hw hB hz1 hk1 hS => ?_)
  obtain rfl : r48 = (-6476786629635683794) := hw.trans (by decide +kernel)
  have hP := zo_K hP hk1
  refine lv_lstore_n (lv' := [(1, .long (-6476786629635683794)), (3, .int 11), (0, .ref x)]) hx hb dX6_digest_24 rfl hl (by decide) rfl (fun ls hl => ?_)
  refine lv_iinc (v := 12) (lv' := [(3, .int 12), (1, .long (-6476786629635683794)), (0, .ref x)]) hx hb dX6_digest_25 hl (k := 1) rfl (by decide) (by decide) rfl (fun ls hl => ?_)
  refine lv_goto (tgt := 6) hx hb dX6_digest_28 (by decide) ?_
  refine lv_iload_n hx hb dX6_digest_6 rfl (lv_at hl 0 rfl) ?_
  refine lv_bipush (v := 19) hx hb dX6_digest_7 (by decide) ?_
  refine lv_icmp_ge (tgt := 31) hx hb dX6_digest_9 (by decide) (fun h => absurd h (by decide)) (fun _ => ?_)
  refine lv_lload_n hx hb dX6_digest_12 rfl (lv_at hl 1 rfl) ?_
  refine lv_aload_n hx hb dX6_digest_13 rfl (lv_at hl 2 rfl) ?_
  refine va_get (D := (dC, dI)) (ci := 8) (v := .ref rm) (C := RX6) (T := TX6) (N := 3) hx hb hts zi_X6_digest_X6 hown hK (zo_R hR0 hS hAr) 0 rfl rfl 0 (by decide) (hts (.fieldLink RX6 12 "LockRooms" "room" "LLockRooms$Room;") (by decide +kernel)) (fun _ h9 => h9) rfl dX6_digest_14 ?_
  refine lv_iload_n hx hb dX6_digest_17 rfl (lv_at hl 0 rfl) ?_
  have hPr := ((zo_R hR0 hS hAr)).sub (ws' := [(rm, .inr (5, [.ref lk, .ref th, .ref pl, .ref gm, .int 0, .int 0, .int 0, .int (-1), .int 1, .int 0, .int 0, .int 0])), (gm, .inr (2, [.int 0, .int 0, .int 0, .int 0, .int 0, .int (-1), .long 0]))]) [1, 3] rfl
  have hPc := hP.sub (ws' := []) [] rfl
  have hDc := hD.sub (ws' := []) [] (by decide) rfl
  have hKc := hK.sub (tys' := []) [] rfl
  have hFc := va_free (wc := []) hD hS hA [] rfl
  refine va_calli (va_runV (As := [.int 12]) (rest := [.long (-6476786629635683794)]) ⟨hx, hb, hml, hown, hts⟩ (cz_tell_12 l dC dI ed H47.size rm lk th pl gm) (cwV 1 hts gX6_digest_X3_tell rfl rfl rfl (by decide +kernel) ⟨Nat.le_of_ble_eq_true rfl, Nat.le_of_ble_eq_true rfl⟩) ⟨zb_blind, va_recv hK (zo_R hR0 hS hAr) (ci := 5) (q0 := 1) rfl rfl, fun U hU hW => ⟨rfl, zb_mk hU hW hPr hPc hKc hDc hN hH hS hFc zx_e⟩⟩ rfl rfl hl.1 rfl (lv_room (Nat.le_of_ble_eq_true rfl)) dX6_digest_18 ⟨Nat.le_of_ble_eq_true rfl, Nat.le_of_ble_eq_true rfl⟩) hS (fun q _ h => hFc q h) hFc (fun r50 u t H49 locs ht hvm hw hB hz1 hk1 hS => ?_)
  obtain rfl : r50 = 0 := hw
  have hP := zo_K hP hk1
  have hPr := (zo_nil : va_P (dC, dI) vwCl [] H49)
  have hPc := hP.sub (ws' := []) [] rfl
  have hDc := hD.sub (ws' := []) [] (by decide) rfl
  have hKc := hK.sub (tys' := []) [] rfl
  have hFc := va_free (wc := []) hD hS hA [] rfl
  refine va_calll (va_runS (As := [.long (-6476786629635683794), .int 0]) (rest := []) ⟨hx, hb, hml, hown, hts⟩ (cz_X6_mix l dC dI ed H49.size (-6476786629635683794) 0) (va_cwS 2 hts gX6_digest_X6_mix rfl rfl rfl (by decide +kernel) ⟨Nat.le_of_ble_eq_true rfl, Nat.le_of_ble_eq_true rfl⟩) ⟨zb_blind, fun U hU hW => ⟨rfl, zb_mk hU hW hPr hPc hKc hDc hN hH hS hFc zx_e⟩⟩ rfl rfl hl.1 rfl (lv_room (Nat.le_of_ble_eq_true rfl)) dX6_digest_21 ⟨Nat.le_of_ble_eq_true rfl, Nat.le_of_ble_eq_true rfl⟩) hS (fun q _ h => hFc q h) hFc (fun r52 u t H51 locs ht hvm hw hB hz1 hk1 hS => ?_)
  obtain rfl : r52 = 2133799292098870162 := hw.trans (by decide +kernel)
  have hP := zo_K hP hk1
  refine lv_lstore_n (lv' := [(1, .long 2133799292098870162), (3, .int 12), (0, .ref x)]) hx hb dX6_digest_24 rfl hl (by decide) rfl (fun ls hl => ?_)
  refine lv_iinc (v := 13) (lv' := [(3, .int 13), (1, .long 2133799292098870162), (0, .ref x)]) hx hb dX6_digest_25 hl (k := 1) rfl (by decide) (by decide) rfl (fun ls hl => ?_)
  refine lv_goto (tgt := 6) hx hb dX6_digest_28 (by decide) ?_
  refine lv_iload_n hx hb dX6_digest_6 rfl (lv_at hl 0 rfl) ?_
  refine lv_bipush (v := 19) hx hb dX6_digest_7 (by decide) ?_
  refine lv_icmp_ge (tgt := 31) hx hb dX6_digest_9 (by decide) (fun h => absurd h (by decide)) (fun _ => ?_)
  refine lv_lload_n hx hb dX6_digest_12 rfl (lv_at hl 1 rfl) ?_
  refine lv_aload_n hx hb dX6_digest_13 rfl (lv_at hl 2 rfl) ?_
  refine va_get (D := (dC, dI)) (ci := 8) (v := .ref rm) (C := RX6) (T := TX6) (N := 3) hx hb hts zi_X6_digest_X6 hown hK (zo_R hR0 hS hAr) 0 rfl rfl 0 (by decide) (hts (.fieldLink RX6 12 "LockRooms" "room" "LLockRooms$Room;") (by decide +kernel)) (fun _ h9 => h9) rfl dX6_digest_14 ?_
  refine lv_iload_n hx hb dX6_digest_17 rfl (lv_at hl 0 rfl) ?_
  have hPr := ((zo_R hR0 hS hAr)).sub (ws' := [(rm, .inr (5, [.ref lk, .ref th, .ref pl, .ref gm, .int 0, .int 0, .int 0, .int (-1), .int 1, .int 0, .int 0, .int 0])), (gm, .inr (2, [.int 0, .int 0, .int 0, .int 0, .int 0, .int (-1), .long 0]))]) [1, 3] rfl
  have hPc := hP.sub (ws' := []) [] rfl
  have hDc := hD.sub (ws' := []) [] (by decide) rfl
  have hKc := hK.sub (tys' := []) [] rfl
  have hFc := va_free (wc := []) hD hS hA [] rfl
  refine va_calli (va_runV (As := [.int 13]) (rest := [.long 2133799292098870162]) ⟨hx, hb, hml, hown, hts⟩ (cz_tell_13 l dC dI ed H51.size rm lk th pl gm) (cwV 1 hts gX6_digest_X3_tell rfl rfl rfl (by decide +kernel) ⟨Nat.le_of_ble_eq_true rfl, Nat.le_of_ble_eq_true rfl⟩) ⟨zb_blind, va_recv hK (zo_R hR0 hS hAr) (ci := 5) (q0 := 1) rfl rfl, fun U hU hW => ⟨rfl, zb_mk hU hW hPr hPc hKc hDc hN hH hS hFc zx_e⟩⟩ rfl rfl hl.1 rfl (lv_room (Nat.le_of_ble_eq_true rfl)) dX6_digest_18 ⟨Nat.le_of_ble_eq_true rfl, Nat.le_of_ble_eq_true rfl⟩) hS (fun q _ h => hFc q h) hFc (fun r54 u t H53 locs ht hvm hw hB hz1 hk1 hS => ?_)
  obtain rfl : r54 = 0 := hw
  have hP := zo_K hP hk1
  have hPr := (zo_nil : va_P (dC, dI) vwCl [] H53)
  have hPc := hP.sub (ws' := []) [] rfl
  have hDc := hD.sub (ws' := []) [] (by decide) rfl
  have hKc := hK.sub (tys' := []) [] rfl
  have hFc := va_free (wc := []) hD hS hA [] rfl
  refine va_calll (va_runS (As := [.long 2133799292098870162, .int 0]) (rest := []) ⟨hx, hb, hml, hown, hts⟩ (cz_X6_mix l dC dI ed H53.size 2133799292098870162 0) (va_cwS 2 hts gX6_digest_X6_mix rfl rfl rfl (by decide +kernel) ⟨Nat.le_of_ble_eq_true rfl, Nat.le_of_ble_eq_true rfl⟩) ⟨zb_blind, fun U hU hW => ⟨rfl, zb_mk hU hW hPr hPc hKc hDc hN hH hS hFc zx_e⟩⟩ rfl rfl hl.1 rfl (lv_room (Nat.le_of_ble_eq_true rfl)) dX6_digest_21 ⟨Nat.le_of_ble_eq_true rfl, Nat.le_of_ble_eq_true rfl⟩) hS (fun q _ h => hFc q h) hFc (fun r56 u t H55 locs ht hvm hw hB hz1 hk1 hS => ?_)
  obtain rfl : r56 = (-7639198239773231442) := hw.trans (by decide +kernel)
  have hP := zo_K hP hk1
  refine lv_lstore_n (lv' := [(1, .long (-7639198239773231442)), (3, .int 13), (0, .ref x)]) hx hb dX6_digest_24 rfl hl (by decide) rfl (fun ls hl => ?_)
  refine lv_iinc (v := 14) (lv' := [(3, .int 14), (1, .long (-7639198239773231442)), (0, .ref x)]) hx hb dX6_digest_25 hl (k := 1) rfl (by decide) (by decide) rfl (fun ls hl => ?_)
  refine lv_goto (tgt := 6) hx hb dX6_digest_28 (by decide) ?_
  refine lv_iload_n hx hb dX6_digest_6 rfl (lv_at hl 0 rfl) ?_
  refine lv_bipush (v := 19) hx hb dX6_digest_7 (by decide) ?_
  refine lv_icmp_ge (tgt := 31) hx hb dX6_digest_9 (by decide) (fun h => absurd h (by decide)) (fun _ => ?_)
  refine lv_lload_n hx hb dX6_digest_12 rfl (lv_at hl 1 rfl) ?_
  refine lv_aload_n hx hb dX6_digest_13 rfl (lv_at hl 2 rfl) ?_
  refine va_get (D := (dC, dI)) (ci := 8) (v := .ref rm) (C := RX6) (T := TX6) (N := 3) hx hb hts zi_X6_digest_X6 hown hK (zo_R hR0 hS hAr) 0 rfl rfl 0 (by decide) (hts (.fieldLink RX6 12 "LockRooms" "room" "LLockRooms$Room;") (by decide +kernel)) (fun _ h9 => h9) rfl dX6_digest_14 ?_
  refine lv_iload_n hx hb dX6_digest_17 rfl (lv_at hl 0 rfl) ?_
  have hPr := ((zo_R hR0 hS hAr)).sub (ws' := [(rm, .inr (5, [.ref lk, .ref th, .ref pl, .ref gm, .int 0, .int 0, .int 0, .int (-1), .int 1, .int 0, .int 0, .int 0])), (gm, .inr (2, [.int 0, .int 0, .int 0, .int 0, .int 0, .int (-1), .long 0]))]) [1, 3] rfl
  have hPc := hP.sub (ws' := []) [] rfl
  have hDc := hD.sub (ws' := []) [] (by decide) rfl
  have hKc := hK.sub (tys' := []) [] rfl
  have hFc := va_free (wc := []) hD hS hA [] rfl
  refine va_calli (va_runV (As := [.int 14]) (rest := [.long (-7639198239773231442)]) ⟨hx, hb, hml, hown, hts⟩ (cz_tell_14 l dC dI ed H55.size rm lk th pl gm) (cwV 1 hts gX6_digest_X3_tell rfl rfl rfl (by decide +kernel) ⟨Nat.le_of_ble_eq_true rfl, Nat.le_of_ble_eq_true rfl⟩) ⟨zb_blind, va_recv hK (zo_R hR0 hS hAr) (ci := 5) (q0 := 1) rfl rfl, fun U hU hW => ⟨rfl, zb_mk hU hW hPr hPc hKc hDc hN hH hS hFc zx_e⟩⟩ rfl rfl hl.1 rfl (lv_room (Nat.le_of_ble_eq_true rfl)) dX6_digest_18 ⟨Nat.le_of_ble_eq_true rfl, Nat.le_of_ble_eq_true rfl⟩) hS (fun q _ h => hFc q h) hFc (fun r58 u t H57 locs ht hvm hw hB hz1 hk1 hS => ?_)
  obtain rfl : r58 = 0 := hw
  have hP := zo_K hP hk1
  have hPr := (zo_nil : va_P (dC, dI) vwCl [] H57)
  have hPc := hP.sub (ws' := []) [] rfl
  have hDc := hD.sub (ws' := []) [] (by decide) rfl
  have hKc := hK.sub (tys' := []) [] rfl
  have hFc := va_free (wc := []) hD hS hA [] rfl
  refine va_calll (va_runS (As := [.long (-7639198239773231442), .int 0]) (rest := []) ⟨hx, hb, hml, hown, hts⟩ (cz_X6_mix l dC dI ed H57.size (-7639198239773231442) 0) (va_cwS 2 hts gX6_digest_X6_mix rfl rfl rfl (by decide +kernel) ⟨Nat.le_of_ble_eq_true rfl, Nat.le_of_ble_eq_true rfl⟩) ⟨zb_blind, fun U hU hW => ⟨rfl, zb_mk hU hW hPr hPc hKc hDc hN hH hS hFc zx_e⟩⟩ rfl rfl hl.1 rfl (lv_room (Nat.le_of_ble_eq_true rfl)) dX6_digest_21 ⟨Nat.le_of_ble_eq_true rfl, Nat.le_of_ble_eq_true rfl⟩) hS (fun q _ h => hFc q h) hFc (fun r60 u t H59 locs ht hvm hw hB hz1 hk1 hS => ?_)
  obtain rfl : r60 = 2992527525253996306 := hw.trans (by decide +kernel)
  have hP := zo_K hP hk1
  refine lv_lstore_n (lv' := [(1, .long 2992527525253996306), (3, .int 14), (0, .ref x)]) hx hb dX6_digest_24 rfl hl (by decide) rfl (fun ls hl => ?_)
  refine lv_iinc (v := 15) (lv' := [(3, .int 15), (1, .long 2992527525253996306), (0, .ref x)]) hx hb dX6_digest_25 hl (k := 1) rfl (by decide) (by decide) rfl (fun ls hl => ?_)
  refine lv_goto (tgt := 6) hx hb dX6_digest_28 (by decide) ?_
  refine lv_iload_n hx hb dX6_digest_6 rfl (lv_at hl 0 rfl) ?_
  refine lv_bipush (v := 19) hx hb dX6_digest_7 (by decide) ?_
  refine lv_icmp_ge (tgt := 31) hx hb dX6_digest_9 (by decide) (fun h => absurd h (by decide)) (fun _ => ?_)
  refine lv_lload_n hx hb dX6_digest_12 rfl (lv_at hl 1 rfl) ?_
  refine lv_aload_n hx hb dX6_digest_13 rfl (lv_at hl 2 rfl) ?_
  refine va_get (D := (dC, dI)) (ci := 8) (v := .ref rm) (C := RX6) (T := TX6) (N := 3) hx hb hts zi_X6_digest_X6 hown hK (zo_R hR0 hS hAr) 0 rfl rfl 0 (by decide) (hts (.fieldLink RX6 12 "LockRooms" "room" "LLockRooms$Room;") (by decide +kernel)) (fun _ h9 => h9) rfl dX6_digest_14 ?_
  refine lv_iload_n hx hb dX6_digest_17 rfl (lv_at hl 0 rfl) ?_
  have hPr := ((zo_R hR0 hS hAr)).sub (ws' := [(rm, .inr (5, [.ref lk, .ref th, .ref pl, .ref gm, .int 0, .int 0, .int 0, .int (-1), .int 1, .int 0, .int 0, .int 0])), (gm, .inr (2, [.int 0, .int 0, .int 0, .int 0, .int 0, .int (-1), .long 0]))]) [1, 3] rfl
  have hPc := hP.sub (ws' := []) [] rfl
  have hDc := hD.sub (ws' := []) [] (by decide) rfl
  have hKc := hK.sub (tys' := []) [] rfl
  have hFc := va_free (wc := []) hD hS hA [] rfl
  refine va_calli (va_runV (As := [.int 15]) (rest := [.long 2992527525253996306]) ⟨hx, hb, hml, hown, hts⟩ (cz_tell_15 l dC dI ed H59.size rm lk th pl gm) (cwV 1 hts gX6_digest_X3_tell rfl rfl rfl (by decide +kernel) ⟨Nat.le_of_ble_eq_true rfl, Nat.le_of_ble_eq_true rfl⟩) ⟨zb_blind, va_recv hK (zo_R hR0 hS hAr) (ci := 5) (q0 := 1) rfl rfl, fun U hU hW => ⟨rfl, zb_mk hU hW hPr hPc hKc hDc hN hH hS hFc zx_e⟩⟩ rfl rfl hl.1 rfl (lv_room (Nat.le_of_ble_eq_true rfl)) dX6_digest_18 ⟨Nat.le_of_ble_eq_true rfl, Nat.le_of_ble_eq_true rfl⟩) hS (fun q _ h => hFc q h) hFc (fun r62 u t H61 locs ht hvm hw hB hz1 hk1 hS => ?_)
  obtain rfl : r62 = 0 := hw
  have hP := zo_K hP hk1
  have hPr := (zo_nil : va_P (dC, dI) vwCl [] H61)
  have hPc := hP.sub (ws' := []) [] rfl
  have hDc := hD.sub (ws' := []) [] (by decide) rfl
  have hKc := hK.sub (tys' := []) [] rfl
  have hFc := va_free (wc := []) hD hS hA [] rfl
  refine va_calll (va_runS (As := [.long 2992527525253996306, .int 0]) (rest := []) ⟨hx, hb, hml, hown, hts⟩ (cz_X6_mix l dC dI ed H61.size 2992527525253996306 0) (va_cwS 2 hts gX6_digest_X6_mix rfl rfl rfl (by decide +kernel) ⟨Nat.le_of_ble_eq_true rfl, Nat.le_of_ble_eq_true rfl⟩) ⟨zb_blind, fun U hU hW => ⟨rfl, zb_mk hU hW hPr hPc hKc hDc hN hH hS hFc zx_e⟩⟩ rfl rfl hl.1 rfl (lv_room (Nat.le_of_ble_eq_true rfl)) dX6_digest_21 ⟨Nat.le_of_ble_eq_true rfl, Nat.le_of_ble_eq_true rfl⟩) hS (fun q _ h => hFc q h) hFc (fun r64 u t H63 locs ht hvm hw hB hz1 hk1 hS => ?_)
  obtain rfl : r64 = 534632914326127406 := hw.trans (by decide +kernel)
  have hP := zo_K hP hk1
  refine lv_lstore_n (lv' := [(1, .long 534632914326127406), (3, .int 15), (0, .ref x)]) hx hb dX6_digest_24 rfl hl (by decide) rfl (fun ls hl => ?_)
  refine lv_iinc (v := 16) (lv' := [(3, .int 16), (1, .long 534632914326127406), (0, .ref x)]) hx hb dX6_digest_25 hl (k := 1) rfl (by decide) (by decide) rfl (fun ls hl => ?_)
  refine lv_goto (tgt := 6) hx hb dX6_digest_28 (by decide) ?_
  refine lv_iload_n hx hb dX6_digest_6 rfl (lv_at hl 0 rfl) ?_
  refine lv_bipush (v := 19) hx hb dX6_digest_7 (by decide) ?_
  refine lv_icmp_ge (tgt := 31) hx hb dX6_digest_9 (by decide) (fun h => absurd h (by decide)) (fun _ => ?_)
  refine lv_lload_n hx hb dX6_digest_12 rfl (lv_at hl 1 rfl) ?_
  refine lv_aload_n hx hb dX6_digest_13 rfl (lv_at hl 2 rfl) ?_
  refine va_get (D := (dC, dI)) (ci := 8) (v := .ref rm) (C := RX6) (T := TX6) (N := 3) hx hb hts zi_X6_digest_X6 hown hK (zo_R hR0 hS hAr) 0 rfl rfl 0 (by decide) (hts (.fieldLink RX6 12 "LockRooms" "room" "LLockRooms$Room;") (by decide +kernel)) (fun _ h9 => h9) rfl dX6_digest_14 ?_
  refine lv_iload_n hx hb dX6_digest_17 rfl (lv_at hl 0 rfl) ?_
  have hPr := ((zo_R hR0 hS hAr)).sub (ws' := [(rm, .inr (5, [.ref lk, .ref th, .ref pl, .ref gm, .int 0, .int 0, .int 0, .int (-1), .int 1, .int 0, .int 0, .int 0])), (gm, .inr (2, [.int 0, .int 0, .int 0, .int 0, .int 0, .int (-1), .long 0]))]) [1, 3] rfl
  have hPc := hP.sub (ws' := []) [] rfl
  have hDc := hD.sub (ws' := []) [] (by decide) rfl
  have hKc := hK.sub (tys' := []) [] rfl
  have hFc := va_free (wc := []) hD hS hA [] rfl
  refine va_calli (va_runV (As := [.int 16]) (rest := [.long 534632914326127406]) ⟨hx, hb, hml, hown, hts⟩ (cz_tell_16 l dC dI ed H63.size rm lk th pl gm) (cwV 1 hts gX6_digest_X3_tell rfl rfl rfl (by decide +kernel) ⟨Nat.le_of_ble_eq_true rfl, Nat.le_of_ble_eq_true rfl⟩) ⟨zb_blind, va_recv hK (zo_R hR0 hS hAr) (ci := 5) (q0 := 1) rfl rfl, fun U hU hW => ⟨rfl, zb_mk hU hW hPr hPc hKc hDc hN hH hS hFc zx_e⟩⟩ rfl rfl hl.1 rfl (lv_room (Nat.le_of_ble_eq_true rfl)) dX6_digest_18 ⟨Nat.le_of_ble_eq_true rfl, Nat.le_of_ble_eq_true rfl⟩) hS (fun q _ h => hFc q h) hFc (fun r66 u t H65 locs ht hvm hw hB hz1 hk1 hS => ?_)
  obtain rfl : r66 = 0 := hw
  have hP := zo_K hP hk1
  have hPr := (zo_nil : va_P (dC, dI) vwCl [] H65)
  have hPc := hP.sub (ws' := []) [] rfl
  have hDc := hD.sub (ws' := []) [] (by decide) rfl
  have hKc := hK.sub (tys' := []) [] rfl
  have hFc := va_free (wc := []) hD hS hA [] rfl
  refine va_calll (va_runS (As := [.long 534632914326127406, .int 0]) (rest := []) ⟨hx, hb, hml, hown, hts⟩ (cz_X6_mix l dC dI ed H65.size 534632914326127406 0) (va_cwS 2 hts gX6_digest_X6_mix rfl rfl rfl (by decide +kernel) ⟨Nat.le_of_ble_eq_true rfl, Nat.le_of_ble_eq_true rfl⟩) ⟨zb_blind, fun U hU hW => ⟨rfl, zb_mk hU hW hPr hPc hKc hDc hN hH hS hFc zx_e⟩⟩ rfl rfl hl.1 rfl (lv_room (Nat.le_of_ble_eq_true rfl)) dX6_digest_21 ⟨Nat.le_of_ble_eq_true rfl, Nat.le_of_ble_eq_true rfl⟩) hS (fun q _ h => hFc q h) hFc (fun r68 u t H67 locs ht hvm hw hB hz1 hk1 hS => ?_)
  obtain rfl : r68 = (-1873123729599602030) := hw.trans (by decide +kernel)
  have hP := zo_K hP hk1
  refine lv_lstore_n (lv' := [(1, .long (-1873123729599602030)), (3, .int 16), (0, .ref x)]) hx hb dX6_digest_24 rfl hl (by decide) rfl (fun ls hl => ?_)
  refine lv_iinc (v := 17) (lv' := [(3, .int 17), (1, .long (-1873123729599602030)), (0, .ref x)]) hx hb dX6_digest_25 hl (k := 1) rfl (by decide) (by decide) rfl (fun ls hl => ?_)
  refine lv_goto (tgt := 6) hx hb dX6_digest_28 (by decide) ?_
  refine lv_iload_n hx hb dX6_digest_6 rfl (lv_at hl 0 rfl) ?_
  refine lv_bipush (v := 19) hx hb dX6_digest_7 (by decide) ?_
  refine lv_icmp_ge (tgt := 31) hx hb dX6_digest_9 (by decide) (fun h => absurd h (by decide)) (fun _ => ?_)
  refine lv_lload_n hx hb dX6_digest_12 rfl (lv_at hl 1 rfl) ?_
  refine lv_aload_n hx hb dX6_digest_13 rfl (lv_at hl 2 rfl) ?_
  refine va_get (D := (dC, dI)) (ci := 8) (v := .ref rm) (C := RX6) (T := TX6) (N := 3) hx hb hts zi_X6_digest_X6 hown hK (zo_R hR0 hS hAr) 0 rfl rfl 0 (by decide) (hts (.fieldLink RX6 12 "LockRooms" "room" "LLockRooms$Room;") (by decide +kernel)) (fun _ h9 => h9) rfl dX6_digest_14 ?_
  refine lv_iload_n hx hb dX6_digest_17 rfl (lv_at hl 0 rfl) ?_
  have hPr := ((zo_R hR0 hS hAr)).sub (ws' := [(rm, .inr (5, [.ref lk, .ref th, .ref pl, .ref gm, .int 0, .int 0, .int 0, .int (-1), .int 1, .int 0, .int 0, .int 0])), (gm, .inr (2, [.int 0, .int 0, .int 0, .int 0, .int 0, .int (-1), .long 0]))]) [1, 3] rfl
  have hPc := hP.sub (ws' := []) [] rfl
  have hDc := hD.sub (ws' := []) [] (by decide) rfl
  have hKc := hK.sub (tys' := []) [] rfl
  have hFc := va_free (wc := []) hD hS hA [] rfl
  refine va_calli (va_runV (As := [.int 17]) (rest := [.long (-1873123729599602030)]) ⟨hx, hb, hml, hown, hts⟩ (cz_tell_17 l dC dI ed H67.size rm lk th pl gm) (cwV 1 hts gX6_digest_X3_tell rfl rfl rfl (by decide +kernel) ⟨Nat.le_of_ble_eq_true rfl, Nat.le_of_ble_eq_true rfl⟩) ⟨zb_blind, va_recv hK (zo_R hR0 hS hAr) (ci := 5) (q0 := 1) rfl rfl, fun U hU hW => ⟨rfl, zb_mk hU hW hPr hPc hKc hDc hN hH hS hFc zx_e⟩⟩ rfl rfl hl.1 rfl (lv_room (Nat.le_of_ble_eq_true rfl)) dX6_digest_18 ⟨Nat.le_of_ble_eq_true rfl, Nat.le_of_ble_eq_true rfl⟩) hS (fun q _ h => hFc q h) hFc (fun r70 u t H69 locs ht hvm hw hB hz1 hk1 hS => ?_)
  obtain rfl : r70 = 1 := hw
  have hP := zo_K hP hk1
  have hPr := (zo_nil : va_P (dC, dI) vwCl [] H69)
  have hPc := hP.sub (ws' := []) [] rfl
  have hDc := hD.sub (ws' := []) [] (by decide) rfl
  have hKc := hK.sub (tys' := []) [] rfl
  have hFc := va_free (wc := []) hD hS hA [] rfl
  refine va_calll (va_runS (As := [.long (-1873123729599602030), .int 1]) (rest := []) ⟨hx, hb, hml, hown, hts⟩ (cz_X6_mix l dC dI ed H69.size (-1873123729599602030) 1) (va_cwS 2 hts gX6_digest_X6_mix rfl rfl rfl (by decide +kernel) ⟨Nat.le_of_ble_eq_true rfl, Nat.le_of_ble_eq_true rfl⟩) ⟨zb_blind, fun U hU hW => ⟨rfl, zb_mk hU hW hPr hPc hKc hDc hN hH hS hFc zx_e⟩⟩ rfl rfl hl.1 rfl (lv_room (Nat.le_of_ble_eq_true rfl)) dX6_digest_21 ⟨Nat.le_of_ble_eq_true rfl, Nat.le_of_ble_eq_true rfl⟩) hS (fun q _ h => hFc q h) hFc (fun r72 u t H71 locs ht hvm hw hB hz1 hk1 hS => ?_)
  obtain rfl : r72 = (-2726603396459008081) := hw.trans (by decide +kernel)
  have hP := zo_K hP hk1
  refine lv_lstore_n (lv' := [(1, .long (-2726603396459008081)), (3, .int 17), (0, .ref x)]) hx hb dX6_digest_24 rfl hl (by decide) rfl (fun ls hl => ?_)
  refine lv_iinc (v := 18) (lv' := [(3, .int 18), (1, .long (-2726603396459008081)), (0, .ref x)]) hx hb dX6_digest_25 hl (k := 1) rfl (by decide) (by decide) rfl (fun ls hl => ?_)
  refine lv_goto (tgt := 6) hx hb dX6_digest_28 (by decide) ?_
  refine lv_iload_n hx hb dX6_digest_6 rfl (lv_at hl 0 rfl) ?_
  refine lv_bipush (v := 19) hx hb dX6_digest_7 (by decide) ?_
  refine lv_icmp_ge (tgt := 31) hx hb dX6_digest_9 (by decide) (fun h => absurd h (by decide)) (fun _ => ?_)
  refine lv_lload_n hx hb dX6_digest_12 rfl (lv_at hl 1 rfl) ?_
  refine lv_aload_n hx hb dX6_digest_13 rfl (lv_at hl 2 rfl) ?_
  refine va_get (D := (dC, dI)) (ci := 8) (v := .ref rm) (C := RX6) (T := TX6) (N := 3) hx hb hts zi_X6_digest_X6 hown hK (zo_R hR0 hS hAr) 0 rfl rfl 0 (by decide) (hts (.fieldLink RX6 12 "LockRooms" "room" "LLockRooms$Room;") (by decide +kernel)) (fun _ h9 => h9) rfl dX6_digest_14 ?_
  refine lv_iload_n hx hb dX6_digest_17 rfl (lv_at hl 0 rfl) ?_
  have hPr := ((zo_R hR0 hS hAr)).sub (ws' := [(rm, .inr (5, [.ref lk, .ref th, .ref pl, .ref gm, .int 0, .int 0, .int 0, .int (-1), .int 1, .int 0, .int 0, .int 0])), (gm, .inr (2, [.int 0, .int 0, .int 0, .int 0, .int 0, .int (-1), .long 0]))]) [1, 3] rfl
  have hPc := hP.sub (ws' := []) [] rfl
  have hDc := hD.sub (ws' := []) [] (by decide) rfl
  have hKc := hK.sub (tys' := []) [] rfl
  have hFc := va_free (wc := []) hD hS hA [] rfl
  refine va_calli (va_runV (As := [.int 18]) (rest := [.long (-2726603396459008081)]) ⟨hx, hb, hml, hown, hts⟩ (cz_tell_18 l dC dI ed H71.size rm lk th pl gm) (cwV 1 hts gX6_digest_X3_tell rfl rfl rfl (by decide +kernel) ⟨Nat.le_of_ble_eq_true rfl, Nat.le_of_ble_eq_true rfl⟩) ⟨zb_blind, va_recv hK (zo_R hR0 hS hAr) (ci := 5) (q0 := 1) rfl rfl, fun U hU hW => ⟨rfl, zb_mk hU hW hPr hPc hKc hDc hN hH hS hFc zx_e⟩⟩ rfl rfl hl.1 rfl (lv_room (Nat.le_of_ble_eq_true rfl)) dX6_digest_18 ⟨Nat.le_of_ble_eq_true rfl, Nat.le_of_ble_eq_true rfl⟩) hS (fun q _ h => hFc q h) hFc (fun r74 u t H73 locs ht hvm hw hB hz1 hk1 hS => ?_)
  obtain rfl : r74 = 0 := hw
  have hP := zo_K hP hk1
  have hPr := (zo_nil : va_P (dC, dI) vwCl [] H73)
  have hPc := hP.sub (ws' := []) [] rfl
  have hDc := hD.sub (ws' := []) [] (by decide) rfl
  have hKc := hK.sub (tys' := []) [] rfl
  have hFc := va_free (wc := []) hD hS hA [] rfl
  refine va_calll (va_runS (As := [.long (-2726603396459008081), .int 0]) (rest := []) ⟨hx, hb, hml, hown, hts⟩ (cz_X6_mix l dC dI ed H73.size (-2726603396459008081) 0) (va_cwS 2 hts gX6_digest_X6_mix rfl rfl rfl (by decide +kernel) ⟨Nat.le_of_ble_eq_true rfl, Nat.le_of_ble_eq_true rfl⟩) ⟨zb_blind, fun U hU hW => ⟨rfl, zb_mk hU hW hPr hPc hKc hDc hN hH hS hFc zx_e⟩⟩ rfl rfl hl.1 rfl (lv_room (Nat.le_of_ble_eq_true rfl)) dX6_digest_21 ⟨Nat.le_of_ble_eq_true rfl, Nat.le_of_ble_eq_true rfl⟩) hS (fun q _ h => hFc q h) hFc (fun r76 u t H75 locs ht hvm hw hB hz1 hk1 hS => ?_)
  obtain rfl : r76 = 7709015078318507569 := hw.trans (by decide +kernel)
  have hP := zo_K hP hk1
  refine lv_lstore_n (lv' := [(1, .long 7709015078318507569), (3, .int 18), (0, .ref x)]) hx hb dX6_digest_24 rfl hl (by decide) rfl (fun ls hl => ?_)
  refine lv_iinc (v := 19) (lv' := [(3, .int 19), (1, .long 7709015078318507569), (0, .ref x)]) hx hb dX6_digest_25 hl (k := 1) rfl (by decide) (by decide) rfl (fun ls hl => ?_)
  refine lv_goto (tgt := 6) hx hb dX6_digest_28 (by decide) ?_
  refine lv_iload_n hx hb dX6_digest_6 rfl (lv_at hl 0 rfl) ?_
  refine lv_bipush (v := 19) hx hb dX6_digest_7 (by decide) ?_
  refine lv_icmp_ge (tgt := 31) hx hb dX6_digest_9 (by decide) (fun _ => ?_) (fun h => absurd h (by decide))
  refine lv_aload_n hx hb dX6_digest_31 rfl (lv_at hl 2 rfl) ?_
  refine lv_lload_n hx hb dX6_digest_32 rfl (lv_at hl 1 rfl) ?_
  have hPr := ((zo_R hR0 hS hAr)).sub (ws' := [(x, .inr (8, [.ref rm, .ref tr, .ref st])), (rm, .inr (5, [.ref lk, .ref th, .ref pl, .ref gm, .int 0, .int 0, .int 0, .int (-1), .int 1, .int 0, .int 0, .int 0]))]) [0, 1] rfl
  have hPc := hP.sub (ws' := []) [] rfl
  have hDc := hD.sub (ws' := []) [] (by decide) rfl
  have hKc := hK.sub (tys' := []) [] rfl
  have hFc := va_free (wc := []) hD hS hA [] rfl
  refine va_calll (va_runV (As := [.long 7709015078318507569]) (rest := []) ⟨hx, hb, hml, hown, hts⟩ (cz_X6_mixLocks l dC dI ed H75.size x rm tr st lk th pl gm 7709015078318507569) (cwV 1 hts gX6_digest_X6_mixLocks rfl rfl rfl (by decide +kernel) ⟨Nat.le_of_ble_eq_true rfl, Nat.le_of_ble_eq_true rfl⟩) ⟨zb_blind, va_recv hK (zo_R hR0 hS hAr) (ci := 8) (q0 := 0) rfl rfl, fun U hU hW => ⟨rfl, zb_mk hU hW hPr hPc hKc hDc hN hH hS hFc zx_e⟩⟩ rfl rfl hl.1 rfl (lv_room (Nat.le_of_ble_eq_true rfl)) dX6_digest_33 ⟨Nat.le_of_ble_eq_true rfl, Nat.le_of_ble_eq_true rfl⟩) hS (fun q _ h => hFc q h) hFc (fun r78 u t H77 locs ht hvm hw hB hz1 hk1 hS => ?_)
  obtain rfl : r78 = 7709015078318507569 := hw.trans (by decide +kernel)
  have hP := zo_K hP hk1
  refine lv_lstore_n (lv' := [(1, .long 7709015078318507569), (3, .int 19), (0, .ref x)]) hx hb dX6_digest_36 rfl hl (by decide) rfl (fun ls hl => ?_)
  refine lv_aload_n hx hb dX6_digest_37 rfl (lv_at hl 2 rfl) ?_
  refine lv_lload_n hx hb dX6_digest_38 rfl (lv_at hl 0 rfl) ?_
  have hPr := ((zo_R hR0 hS hAr)).sub (ws' := [(x, .inr (8, [.ref rm, .ref tr, .ref st])), (rm, .inr (5, [.ref lk, .ref th, .ref pl, .ref gm, .int 0, .int 0, .int 0, .int (-1), .int 1, .int 0, .int 0, .int 0]))]) [0, 1] rfl
  have hPc := hP.sub (ws' := []) [] rfl
  have hDc := hD.sub (ws' := []) [] (by decide) rfl
  have hKc := hK.sub (tys' := []) [] rfl
  have hFc := va_free (wc := []) hD hS hA [] rfl
  refine va_calll (va_runV (As := [.long 7709015078318507569]) (rest := []) ⟨hx, hb, hml, hown, hts⟩ (cz_X6_mixThings l dC dI ed H77.size x rm tr st lk th pl gm 7709015078318507569) (cwV 1 hts gX6_digest_X6_mixThings rfl rfl rfl (by decide +kernel) ⟨Nat.le_of_ble_eq_true rfl, Nat.le_of_ble_eq_true rfl⟩) ⟨zb_blind, va_recv hK (zo_R hR0 hS hAr) (ci := 8) (q0 := 0) rfl rfl, fun U hU hW => ⟨rfl, zb_mk hU hW hPr hPc hKc hDc hN hH hS hFc zx_e⟩⟩ rfl rfl hl.1 rfl (lv_room (Nat.le_of_ble_eq_true rfl)) dX6_digest_39 ⟨Nat.le_of_ble_eq_true rfl, Nat.le_of_ble_eq_true rfl⟩) hS (fun q _ h => hFc q h) hFc (fun r80 u t H79 locs ht hvm hw hB hz1 hk1 hS => ?_)
  obtain rfl : r80 = 7709015078318507569 := hw.trans (by decide +kernel)
  have hP := zo_K hP hk1
  refine lv_lstore_n (lv' := [(1, .long 7709015078318507569), (3, .int 19), (0, .ref x)]) hx hb dX6_digest_42 rfl hl (by decide) rfl (fun ls hl => ?_)
  refine lv_aload_n hx hb dX6_digest_43 rfl (lv_at hl 2 rfl) ?_
  refine lv_lload_n hx hb dX6_digest_44 rfl (lv_at hl 0 rfl) ?_
  have hPr := ((zo_R hR0 hS hAr)).sub (ws' := [(x, .inr (8, [.ref rm, .ref tr, .ref st])), (rm, .inr (5, [.ref lk, .ref th, .ref pl, .ref gm, .int 0, .int 0, .int 0, .int (-1), .int 1, .int 0, .int 0, .int 0]))]) [0, 1] rfl
  have hPc := hP.sub (ws' := []) [] rfl
  have hDc := hD.sub (ws' := []) [] (by decide) rfl
  have hKc := hK.sub (tys' := []) [] rfl
  have hFc := va_free (wc := []) hD hS hA [] rfl
  refine va_calll (va_runV (As := [.long 7709015078318507569]) (rest := []) ⟨hx, hb, hml, hown, hts⟩ (cz_X6_mixPlayers l dC dI ed H79.size x rm tr st lk th pl gm 7709015078318507569) (cwV 1 hts gX6_digest_X6_mixPlayers rfl rfl rfl (by decide +kernel) ⟨Nat.le_of_ble_eq_true rfl, Nat.le_of_ble_eq_true rfl⟩) ⟨zb_blind, va_recv hK (zo_R hR0 hS hAr) (ci := 8) (q0 := 0) rfl rfl, fun U hU hW => ⟨rfl, zb_mk hU hW hPr hPc hKc hDc hN hH hS hFc zx_e⟩⟩ rfl rfl hl.1 rfl (lv_room (Nat.le_of_ble_eq_true rfl)) dX6_digest_45 ⟨Nat.le_of_ble_eq_true rfl, Nat.le_of_ble_eq_true rfl⟩) hS (fun q _ h => hFc q h) hFc (fun r82 u t H81 locs ht hvm hw hB hz1 hk1 hS => ?_)
  obtain rfl : r82 = 7709015078318507569 := hw.trans (by decide +kernel)
  have hP := zo_K hP hk1
  refine lv_lstore_n (lv' := [(1, .long 7709015078318507569), (3, .int 19), (0, .ref x)]) hx hb dX6_digest_48 rfl hl (by decide) rfl (fun ls hl => ?_)
  refine lv_lload_n hx hb dX6_digest_49 rfl (lv_at hl 0 rfl) ?_
  refine lv_aload_n hx hb dX6_digest_50 rfl (lv_at hl 2 rfl) ?_
  have hPr := ((zo_R hR0 hS hAr)).sub (ws' := [(x, .inr (8, [.ref rm, .ref tr, .ref st])), (rm, .inr (5, [.ref lk, .ref th, .ref pl, .ref gm, .int 0, .int 0, .int 0, .int (-1), .int 1, .int 0, .int 0, .int 0])), (st, .inr (6, [.ref a1, .ref a2, .ref a3]))]) [0, 1, 2] rfl
  have hPc := hP.sub (ws' := [(a1, .inl (cZ, 1024, .inl f1)), (a2, .inl (cI, 1024, .inl f2)), (a3, .inl (cJ, 1024, .inl f3))]) [0, 1, 2] rfl
  have hDc := hD.sub (ws' := [(a1, .inl (cZ, 1024, .inl f1)), (a2, .inl (cI, 1024, .inl f2)), (a3, .inl (cJ, 1024, .inl f3))]) [0, 1, 2] (by decide) rfl
  have hKc := hK.sub (tys' := [(cZ, .boolean), (cI, .int), (cJ, .int)]) [0, 1, 2] rfl
  have hFc := va_free (wc := [(a1, .inl (cZ, 1024, .inl f1)), (a2, .inl (cI, 1024, .inl f2)), (a3, .inl (cJ, 1024, .inl f3))]) hD hS hA [0, 1, 2] rfl
  refine va_calli (va_runV (As := []) (rest := [.long 7709015078318507569]) ⟨hx, hb, hml, hown, hts⟩ (cz_X6_canEnd l dC dI ed H81.size x rm tr st lk th pl gm a1 a2 a3 cZ cI cJ f1 f2 f3) (cwV 0 hts gX6_digest_X6_canEnd rfl rfl rfl (by decide +kernel) ⟨Nat.le_of_ble_eq_true rfl, Nat.le_of_ble_eq_true rfl⟩) ⟨zb_blind, va_recv hK (zo_R hR0 hS hAr) (ci := 8) (q0 := 0) rfl rfl, fun U hU hW => ⟨rfl, zb_mk hU hW hPr hPc hKc hDc hN hH hS hFc (zx_cons (zx_r (hAr _ (List.mem_of_getElem? (i := 0) rfl)) hDc) (zx_cons (zx_r (hAr _ (List.mem_of_getElem? (i := 1) rfl)) hDc) (zx_cons (zx_r (hAr _ (List.mem_of_getElem? (i := 2) rfl)) hDc) zx_nil)))⟩⟩ rfl rfl hl.1 rfl (lv_room (Nat.le_of_ble_eq_true rfl)) dX6_digest_51 ⟨Nat.le_of_ble_eq_true rfl, Nat.le_of_ble_eq_true rfl⟩) hS (fun q _ h => hFc q h) hFc (fun r84 u t H83 locs ht hvm hw hB hz1 hk1 hS => ?_)
  obtain rfl : r84 = 0 := hw
  obtain ⟨g1_85, g2_85, g3_85, hP1, hD1, hK1⟩ := hB
  rw [ht] at hP1
  obtain ⟨hP, hD⟩ := va_join (wr := []) (w1 := [(a1, .inl (cZ, 1024, .inl g1_85)), (a2, .inl (cI, 1024, .inl g2_85)), (a3, .inl (cJ, 1024, .inl g3_85))]) hP hD [0, 1, 2] [] rfl rfl (by decide) (by decide) hk1 hFc hP1 hD1
  have hP : va_P (dC, dI) vwCl [(a1, .inl (cZ, 1024, .inl g1_85)), (a2, .inl (cI, 1024, .inl g2_85)), (a3, .inl (cJ, 1024, .inl g3_85))] H83 := hP
  have hD : va_D A [(a1, .inl (cZ, 1024, .inl g1_85)), (a2, .inl (cI, 1024, .inl g2_85)), (a3, .inl (cJ, 1024, .inl g3_85))] := hD
  refine lv_if_eq (tgt := 61) hx hb dX6_digest_54 (by decide) (fun _ => ?_) (fun h => absurd h (by decide))
  refine lv_iconst (v := 0) hx hb dX6_digest_61 (by decide) ?_
  have hPr := (zo_nil : va_P (dC, dI) vwCl [] H83)
  have hPc := hP.sub (ws' := []) [] rfl
  have hDc := hD.sub (ws' := []) [] (by decide) rfl
  have hKc := hK.sub (tys' := []) [] rfl
  have hFc := va_free (wc := []) hD hS hA [] rfl
  refine va_calll (va_runS (As := [.long 7709015078318507569, .int 0]) (rest := []) ⟨hx, hb, hml, hown, hts⟩ (cz_X6_mix l dC dI ed H83.size 7709015078318507569 0) (va_cwS 2 hts gX6_digest_X6_mix rfl rfl rfl (by decide +kernel) ⟨Nat.le_of_ble_eq_true rfl, Nat.le_of_ble_eq_true rfl⟩) ⟨zb_blind, fun U hU hW => ⟨rfl, zb_mk hU hW hPr hPc hKc hDc hN hH hS hFc zx_e⟩⟩ rfl rfl hl.1 rfl (lv_room (Nat.le_of_ble_eq_true rfl)) dX6_digest_62 ⟨Nat.le_of_ble_eq_true rfl, Nat.le_of_ble_eq_true rfl⟩) hS (fun q _ h => hFc q h) hFc (fun r87 u t H86 locs ht hvm hw hB hz1 hk1 hS => ?_)
  obtain rfl : r87 = (-828205530350436369) := hw.trans (by decide +kernel)
  have hP := zo_K hP hk1
  refine lv_lstore_n (lv' := [(1, .long (-828205530350436369)), (3, .int 19), (0, .ref x)]) hx hb dX6_digest_65 rfl hl (by decide) rfl (fun ls hl => ?_)
  refine lv_lload_n hx hb dX6_digest_66 rfl (lv_at hl 0 rfl) ?_
  refine lv_aload_n hx hb dX6_digest_67 rfl (lv_at hl 2 rfl) ?_
  have hPr := ((zo_R hR0 hS hAr)).sub (ws' := [(x, .inr (8, [.ref rm, .ref tr, .ref st])), (rm, .inr (5, [.ref lk, .ref th, .ref pl, .ref gm, .int 0, .int 0, .int 0, .int (-1), .int 1, .int 0, .int 0, .int 0])), (st, .inr (6, [.ref a1, .ref a2, .ref a3]))]) [0, 1, 2] rfl
  have hPc := hP.sub (ws' := [(a1, .inl (cZ, 1024, .inl g1_85)), (a2, .inl (cI, 1024, .inl g2_85)), (a3, .inl (cJ, 1024, .inl g3_85))]) [0, 1, 2] rfl
  have hDc := hD.sub (ws' := [(a1, .inl (cZ, 1024, .inl g1_85)), (a2, .inl (cI, 1024, .inl g2_85)), (a3, .inl (cJ, 1024, .inl g3_85))]) [0, 1, 2] (by decide) rfl
  have hKc := hK.sub (tys' := [(cZ, .boolean), (cI, .int), (cJ, .int)]) [0, 1, 2] rfl
  have hFc := va_free (wc := [(a1, .inl (cZ, 1024, .inl g1_85)), (a2, .inl (cI, 1024, .inl g2_85)), (a3, .inl (cJ, 1024, .inl g3_85))]) hD hS hA [0, 1, 2] rfl
  refine va_calli (va_runV (As := []) (rest := [.long (-828205530350436369)]) ⟨hx, hb, hml, hown, hts⟩ (cz_X6_stands l dC dI ed H86.size x rm tr st lk th pl gm a1 a2 a3 cZ cI cJ g1_85 g2_85 g3_85) (cwV 0 hts gX6_digest_X6_stands rfl rfl rfl (by decide +kernel) ⟨Nat.le_of_ble_eq_true rfl, Nat.le_of_ble_eq_true rfl⟩) ⟨zb_blind, va_recv hK (zo_R hR0 hS hAr) (ci := 8) (q0 := 0) rfl rfl, fun U hU hW => ⟨rfl, zb_mk hU hW hPr hPc hKc hDc hN hH hS hFc (zx_cons (zx_r (hAr _ (List.mem_of_getElem? (i := 0) rfl)) hDc) (zx_cons (zx_r (hAr _ (List.mem_of_getElem? (i := 1) rfl)) hDc) (zx_cons (zx_r (hAr _ (List.mem_of_getElem? (i := 2) rfl)) hDc) zx_nil)))⟩⟩ rfl rfl hl.1 rfl (lv_room (Nat.le_of_ble_eq_true rfl)) dX6_digest_68 ⟨Nat.le_of_ble_eq_true rfl, Nat.le_of_ble_eq_true rfl⟩) hS (fun q _ h => hFc q h) hFc (fun r89 u t H88 locs ht hvm hw hB hz1 hk1 hS => ?_)
  obtain rfl : r89 = 1 := hw
  obtain ⟨g1_90, g2_90, g3_90, hP1, hD1, hK1⟩ := hB
  rw [ht] at hP1
  obtain ⟨hP, hD⟩ := va_join (wr := []) (w1 := [(a1, .inl (cZ, 1024, .inl g1_90)), (a2, .inl (cI, 1024, .inl g2_90)), (a3, .inl (cJ, 1024, .inl g3_90))]) hP hD [0, 1, 2] [] rfl rfl (by decide) (by decide) hk1 hFc hP1 hD1
  have hP : va_P (dC, dI) vwCl [(a1, .inl (cZ, 1024, .inl g1_90)), (a2, .inl (cI, 1024, .inl g2_90)), (a3, .inl (cJ, 1024, .inl g3_90))] H88 := hP
  have hD : va_D A [(a1, .inl (cZ, 1024, .inl g1_90)), (a2, .inl (cI, 1024, .inl g2_90)), (a3, .inl (cJ, 1024, .inl g3_90))] := hD
  have hPr := (zo_nil : va_P (dC, dI) vwCl [] H88)
  have hPc := hP.sub (ws' := []) [] rfl
  have hDc := hD.sub (ws' := []) [] (by decide) rfl
  have hKc := hK.sub (tys' := []) [] rfl
  have hFc := va_free (wc := []) hD hS hA [] rfl
  refine va_calll (va_runS (As := [.long (-828205530350436369), .int 1]) (rest := []) ⟨hx, hb, hml, hown, hts⟩ (cz_X6_mix l dC dI ed H88.size (-828205530350436369) 1) (va_cwS 2 hts gX6_digest_X6_mix rfl rfl rfl (by decide +kernel) ⟨Nat.le_of_ble_eq_true rfl, Nat.le_of_ble_eq_true rfl⟩) ⟨zb_blind, fun U hU hW => ⟨rfl, zb_mk hU hW hPr hPc hKc hDc hN hH hS hFc zx_e⟩⟩ rfl rfl hl.1 rfl (lv_room (Nat.le_of_ble_eq_true rfl)) dX6_digest_71 ⟨Nat.le_of_ble_eq_true rfl, Nat.le_of_ble_eq_true rfl⟩) hS (fun q _ h => hFc q h) hFc (fun r92 u t H91 locs ht hvm hw hB hz1 hk1 hS => ?_)
  obtain rfl : r92 = (-7227627367153975822) := hw.trans (by decide +kernel)
  have hP := zo_K hP hk1
  refine lv_lstore_n (lv' := [(1, .long (-7227627367153975822)), (3, .int 19), (0, .ref x)]) hx hb dX6_digest_74 rfl hl (by decide) rfl (fun ls hl => ?_)
  refine lv_lload_n hx hb dX6_digest_75 rfl (lv_at hl 0 rfl) ?_
  refine lv_aload_n hx hb dX6_digest_76 rfl (lv_at hl 2 rfl) ?_
  have hPr := ((zo_R hR0 hS hAr)).sub (ws' := [(x, .inr (8, [.ref rm, .ref tr, .ref st])), (rm, .inr (5, [.ref lk, .ref th, .ref pl, .ref gm, .int 0, .int 0, .int 0, .int (-1), .int 1, .int 0, .int 0, .int 0])), (st, .inr (6, [.ref a1, .ref a2, .ref a3]))]) [0, 1, 2] rfl
  have hPc := hP.sub (ws' := [(a1, .inl (cZ, 1024, .inl g1_90)), (a2, .inl (cI, 1024, .inl g2_90)), (a3, .inl (cJ, 1024, .inl g3_90))]) [0, 1, 2] rfl
  have hDc := hD.sub (ws' := [(a1, .inl (cZ, 1024, .inl g1_90)), (a2, .inl (cI, 1024, .inl g2_90)), (a3, .inl (cJ, 1024, .inl g3_90))]) [0, 1, 2] (by decide) rfl
  have hKc := hK.sub (tys' := [(cZ, .boolean), (cI, .int), (cJ, .int)]) [0, 1, 2] rfl
  have hFc := va_free (wc := [(a1, .inl (cZ, 1024, .inl g1_90)), (a2, .inl (cI, 1024, .inl g2_90)), (a3, .inl (cJ, 1024, .inl g3_90))]) hD hS hA [0, 1, 2] rfl
  refine va_calli (va_runV (As := []) (rest := [.long (-7227627367153975822)]) ⟨hx, hb, hml, hown, hts⟩ (cz_X6_deadEnds l dC dI ed H91.size x rm tr st lk th pl gm a1 a2 a3 cZ cI cJ g1_90 g2_90 g3_90) (cwV 0 hts gX6_digest_X6_deadEnds rfl rfl rfl (by decide +kernel) ⟨Nat.le_of_ble_eq_true rfl, Nat.le_of_ble_eq_true rfl⟩) ⟨zb_blind, va_recv hK (zo_R hR0 hS hAr) (ci := 8) (q0 := 0) rfl rfl, fun U hU hW => ⟨rfl, zb_mk hU hW hPr hPc hKc hDc hN hH hS hFc (zx_cons (zx_r (hAr _ (List.mem_of_getElem? (i := 0) rfl)) hDc) (zx_cons (zx_r (hAr _ (List.mem_of_getElem? (i := 1) rfl)) hDc) (zx_cons (zx_r (hAr _ (List.mem_of_getElem? (i := 2) rfl)) hDc) zx_nil)))⟩⟩ rfl rfl hl.1 rfl (lv_room (Nat.le_of_ble_eq_true rfl)) dX6_digest_77 ⟨Nat.le_of_ble_eq_true rfl, Nat.le_of_ble_eq_true rfl⟩) hS (fun q _ h => hFc q h) hFc (fun r94 u t H93 locs ht hvm hw hB hz1 hk1 hS => ?_)
  obtain rfl : r94 = 1 := hw
  obtain ⟨g1_95, g2_95, g3_95, hP1, hD1, hK1⟩ := hB
  rw [ht] at hP1
  obtain ⟨hP, hD⟩ := va_join (wr := []) (w1 := [(a1, .inl (cZ, 1024, .inl g1_95)), (a2, .inl (cI, 1024, .inl g2_95)), (a3, .inl (cJ, 1024, .inl g3_95))]) hP hD [0, 1, 2] [] rfl rfl (by decide) (by decide) hk1 hFc hP1 hD1
  have hP : va_P (dC, dI) vwCl [(a1, .inl (cZ, 1024, .inl g1_95)), (a2, .inl (cI, 1024, .inl g2_95)), (a3, .inl (cJ, 1024, .inl g3_95))] H93 := hP
  have hD : va_D A [(a1, .inl (cZ, 1024, .inl g1_95)), (a2, .inl (cI, 1024, .inl g2_95)), (a3, .inl (cJ, 1024, .inl g3_95))] := hD
  have hPr := (zo_nil : va_P (dC, dI) vwCl [] H93)
  have hPc := hP.sub (ws' := []) [] rfl
  have hDc := hD.sub (ws' := []) [] (by decide) rfl
  have hKc := hK.sub (tys' := []) [] rfl
  have hFc := va_free (wc := []) hD hS hA [] rfl
  refine va_calll (va_runS (As := [.long (-7227627367153975822), .int 1]) (rest := []) ⟨hx, hb, hml, hown, hts⟩ (cz_X6_mix l dC dI ed H93.size (-7227627367153975822) 1) (va_cwS 2 hts gX6_digest_X6_mix rfl rfl rfl (by decide +kernel) ⟨Nat.le_of_ble_eq_true rfl, Nat.le_of_ble_eq_true rfl⟩) ⟨zb_blind, fun U hU hW => ⟨rfl, zb_mk hU hW hPr hPc hKc hDc hN hH hS hFc zx_e⟩⟩ rfl rfl hl.1 rfl (lv_room (Nat.le_of_ble_eq_true rfl)) dX6_digest_80 ⟨Nat.le_of_ble_eq_true rfl, Nat.le_of_ble_eq_true rfl⟩) hS (fun q _ h => hFc q h) hFc (fun r97 u t H96 locs ht hvm hw hB hz1 hk1 hS => ?_)
  obtain rfl : r97 = (-2695519497258631089) := hw.trans (by decide +kernel)
  have hP := zo_K hP hk1
  refine lv_lstore_n (lv' := [(1, .long (-2695519497258631089)), (3, .int 19), (0, .ref x)]) hx hb dX6_digest_83 rfl hl (by decide) rfl (fun ls hl => ?_)
  refine lv_lload_n hx hb dX6_digest_84 rfl (lv_at hl 0 rfl) ?_
  refine lv_aload_n hx hb dX6_digest_85 rfl (lv_at hl 2 rfl) ?_
  have hPr := ((zo_R hR0 hS hAr)).sub (ws' := [(x, .inr (8, [.ref rm, .ref tr, .ref st])), (rm, .inr (5, [.ref lk, .ref th, .ref pl, .ref gm, .int 0, .int 0, .int 0, .int (-1), .int 1, .int 0, .int 0, .int 0])), (st, .inr (6, [.ref a1, .ref a2, .ref a3]))]) [0, 1, 2] rfl
  have hPc := hP.sub (ws' := [(a1, .inl (cZ, 1024, .inl g1_95)), (a2, .inl (cI, 1024, .inl g2_95)), (a3, .inl (cJ, 1024, .inl g3_95))]) [0, 1, 2] rfl
  have hDc := hD.sub (ws' := [(a1, .inl (cZ, 1024, .inl g1_95)), (a2, .inl (cI, 1024, .inl g2_95)), (a3, .inl (cJ, 1024, .inl g3_95))]) [0, 1, 2] (by decide) rfl
  have hKc := hK.sub (tys' := [(cZ, .boolean), (cI, .int), (cJ, .int)]) [0, 1, 2] rfl
  have hFc := va_free (wc := [(a1, .inl (cZ, 1024, .inl g1_95)), (a2, .inl (cI, 1024, .inl g2_95)), (a3, .inl (cJ, 1024, .inl g3_95))]) hD hS hA [0, 1, 2] rfl
  refine va_calli (va_runV (As := []) (rest := [.long (-2695519497258631089)]) ⟨hx, hb, hml, hown, hts⟩ (cz_X6_depth l dC dI ed H96.size x rm tr st lk th pl gm a1 a2 a3 cZ cI cJ g1_95 g2_95 g3_95) (cwV 0 hts gX6_digest_X6_depth rfl rfl rfl (by decide +kernel) ⟨Nat.le_of_ble_eq_true rfl, Nat.le_of_ble_eq_true rfl⟩) ⟨zb_blind, va_recv hK (zo_R hR0 hS hAr) (ci := 8) (q0 := 0) rfl rfl, fun U hU hW => ⟨rfl, zb_mk hU hW hPr hPc hKc hDc hN hH hS hFc (zx_cons (zx_r (hAr _ (List.mem_of_getElem? (i := 0) rfl)) hDc) (zx_cons (zx_r (hAr _ (List.mem_of_getElem? (i := 1) rfl)) hDc) (zx_cons (zx_r (hAr _ (List.mem_of_getElem? (i := 2) rfl)) hDc) zx_nil)))⟩⟩ rfl rfl hl.1 rfl (lv_room (Nat.le_of_ble_eq_true rfl)) dX6_digest_86 ⟨Nat.le_of_ble_eq_true rfl, Nat.le_of_ble_eq_true rfl⟩) hS (fun q _ h => hFc q h) hFc (fun r99 u t H98 locs ht hvm hw hB hz1 hk1 hS => ?_)
  obtain rfl : r99 = (-1) := hw
  obtain ⟨g1_100, g2_100, g3_100, hP1, hD1, hK1⟩ := hB
  rw [ht] at hP1
  obtain ⟨hP, hD⟩ := va_join (wr := []) (w1 := [(a1, .inl (cZ, 1024, .inl g1_100)), (a2, .inl (cI, 1024, .inl g2_100)), (a3, .inl (cJ, 1024, .inl g3_100))]) hP hD [0, 1, 2] [] rfl rfl (by decide) (by decide) hk1 hFc hP1 hD1
  have hP : va_P (dC, dI) vwCl [(a1, .inl (cZ, 1024, .inl g1_100)), (a2, .inl (cI, 1024, .inl g2_100)), (a3, .inl (cJ, 1024, .inl g3_100))] H98 := hP
  have hD : va_D A [(a1, .inl (cZ, 1024, .inl g1_100)), (a2, .inl (cI, 1024, .inl g2_100)), (a3, .inl (cJ, 1024, .inl g3_100))] := hD
  have hPr := (zo_nil : va_P (dC, dI) vwCl [] H98)
  have hPc := hP.sub (ws' := []) [] rfl
  have hDc := hD.sub (ws' := []) [] (by decide) rfl
  have hKc := hK.sub (tys' := []) [] rfl
  have hFc := va_free (wc := []) hD hS hA [] rfl
  refine va_calll (va_runS (As := [.long (-2695519497258631089), .int (-1)]) (rest := []) ⟨hx, hb, hml, hown, hts⟩ (cz_X6_mix l dC dI ed H98.size (-2695519497258631089) (-1)) (va_cwS 2 hts gX6_digest_X6_mix rfl rfl rfl (by decide +kernel) ⟨Nat.le_of_ble_eq_true rfl, Nat.le_of_ble_eq_true rfl⟩) ⟨zb_blind, fun U hU hW => ⟨rfl, zb_mk hU hW hPr hPc hKc hDc hN hH hS hFc zx_e⟩⟩ rfl rfl hl.1 rfl (lv_room (Nat.le_of_ble_eq_true rfl)) dX6_digest_89 ⟨Nat.le_of_ble_eq_true rfl, Nat.le_of_ble_eq_true rfl⟩) hS (fun q _ h => hFc q h) hFc (fun r102 u t H101 locs ht hvm hw hB hz1 hk1 hS => ?_)
  obtain rfl : r102 = 8672615953530194320 := hw.trans (by decide +kernel)
  have hP := zo_K hP hk1
  refine lv_lstore_n (lv' := [(1, .long 8672615953530194320), (3, .int 19), (0, .ref x)]) hx hb dX6_digest_92 rfl hl (by decide) rfl (fun ls hl => ?_)
  refine lv_lload_n hx hb dX6_digest_93 rfl (lv_at hl 0 rfl) ?_
  refine lv_aload_n hx hb dX6_digest_94 rfl (lv_at hl 2 rfl) ?_
  have hPr := ((zo_R hR0 hS hAr)).sub (ws' := [(x, .inr (8, [.ref rm, .ref tr, .ref st])), (rm, .inr (5, [.ref lk, .ref th, .ref pl, .ref gm, .int 0, .int 0, .int 0, .int (-1), .int 1, .int 0, .int 0, .int 0])), (st, .inr (6, [.ref a1, .ref a2, .ref a3]))]) [0, 1, 2] rfl
  have hPc := hP.sub (ws' := [(a1, .inl (cZ, 1024, .inl g1_100)), (a2, .inl (cI, 1024, .inl g2_100)), (a3, .inl (cJ, 1024, .inl g3_100))]) [0, 1, 2] rfl
  have hDc := hD.sub (ws' := [(a1, .inl (cZ, 1024, .inl g1_100)), (a2, .inl (cI, 1024, .inl g2_100)), (a3, .inl (cJ, 1024, .inl g3_100))]) [0, 1, 2] (by decide) rfl
  have hKc := hK.sub (tys' := [(cZ, .boolean), (cI, .int), (cJ, .int)]) [0, 1, 2] rfl
  have hFc := va_free (wc := [(a1, .inl (cZ, 1024, .inl g1_100)), (a2, .inl (cI, 1024, .inl g2_100)), (a3, .inl (cJ, 1024, .inl g3_100))]) hD hS hA [0, 1, 2] rfl
  refine va_calli (va_runV (As := []) (rest := [.long 8672615953530194320]) ⟨hx, hb, hml, hown, hts⟩ (cz_X6_cannotMiss l dC dI ed H101.size x rm tr st lk th pl gm a1 a2 a3 cZ cI cJ g1_100 g2_100 g3_100) (cwV 0 hts gX6_digest_X6_cannotMiss rfl rfl rfl (by decide +kernel) ⟨Nat.le_of_ble_eq_true rfl, Nat.le_of_ble_eq_true rfl⟩) ⟨zb_blind, va_recv hK (zo_R hR0 hS hAr) (ci := 8) (q0 := 0) rfl rfl, fun U hU hW => ⟨rfl, zb_mk hU hW hPr hPc hKc hDc hN hH hS hFc (zx_cons (zx_r (hAr _ (List.mem_of_getElem? (i := 0) rfl)) hDc) (zx_cons (zx_r (hAr _ (List.mem_of_getElem? (i := 1) rfl)) hDc) (zx_cons (zx_r (hAr _ (List.mem_of_getElem? (i := 2) rfl)) hDc) zx_nil)))⟩⟩ rfl rfl hl.1 rfl (lv_room (Nat.le_of_ble_eq_true rfl)) dX6_digest_95 ⟨Nat.le_of_ble_eq_true rfl, Nat.le_of_ble_eq_true rfl⟩) hS (fun q _ h => hFc q h) hFc (fun r104 u t H103 locs ht hvm hw hB hz1 hk1 hS => ?_)
  obtain rfl : r104 = 0 := hw
  obtain ⟨g1_105, g2_105, g3_105, hP1, hD1, hK1⟩ := hB
  rw [ht] at hP1
  obtain ⟨hP, hD⟩ := va_join (wr := []) (w1 := [(a1, .inl (cZ, 1024, .inl g1_105)), (a2, .inl (cI, 1024, .inl g2_105)), (a3, .inl (cJ, 1024, .inl g3_105))]) hP hD [0, 1, 2] [] rfl rfl (by decide) (by decide) hk1 hFc hP1 hD1
  have hP : va_P (dC, dI) vwCl [(a1, .inl (cZ, 1024, .inl g1_105)), (a2, .inl (cI, 1024, .inl g2_105)), (a3, .inl (cJ, 1024, .inl g3_105))] H103 := hP
  have hD : va_D A [(a1, .inl (cZ, 1024, .inl g1_105)), (a2, .inl (cI, 1024, .inl g2_105)), (a3, .inl (cJ, 1024, .inl g3_105))] := hD
  have hPr := (zo_nil : va_P (dC, dI) vwCl [] H103)
  have hPc := hP.sub (ws' := []) [] rfl
  have hDc := hD.sub (ws' := []) [] (by decide) rfl
  have hKc := hK.sub (tys' := []) [] rfl
  have hFc := va_free (wc := []) hD hS hA [] rfl
  refine va_calll (va_runS (As := [.long 8672615953530194320, .int 0]) (rest := []) ⟨hx, hb, hml, hown, hts⟩ (cz_X6_mix l dC dI ed H103.size 8672615953530194320 0) (va_cwS 2 hts gX6_digest_X6_mix rfl rfl rfl (by decide +kernel) ⟨Nat.le_of_ble_eq_true rfl, Nat.le_of_ble_eq_true rfl⟩) ⟨zb_blind, fun U hU hW => ⟨rfl, zb_mk hU hW hPr hPc hKc hDc hN hH hS hFc zx_e⟩⟩ rfl rfl hl.1 rfl (lv_room (Nat.le_of_ble_eq_true rfl)) dX6_digest_98 ⟨Nat.le_of_ble_eq_true rfl, Nat.le_of_ble_eq_true rfl⟩) hS (fun q _ h => hFc q h) hFc (fun r107 u t H106 locs ht hvm hw hB hz1 hk1 hS => ?_)
  obtain rfl : r107 = (-7850066546207250320) := hw.trans (by decide +kernel)
  have hP := zo_K hP hk1
  refine lv_lstore_n (lv' := [(1, .long (-7850066546207250320)), (3, .int 19), (0, .ref x)]) hx hb dX6_digest_101 rfl hl (by decide) rfl (fun ls hl => ?_)
  refine lv_lload_n hx hb dX6_digest_102 rfl (lv_at hl 0 rfl) ?_
  refine lv_aload_n hx hb dX6_digest_103 rfl (lv_at hl 2 rfl) ?_
  have hPr := ((zo_R hR0 hS hAr)).sub (ws' := [(x, .inr (8, [.ref rm, .ref tr, .ref st])), (rm, .inr (5, [.ref lk, .ref th, .ref pl, .ref gm, .int 0, .int 0, .int 0, .int (-1), .int 1, .int 0, .int 0, .int 0])), (st, .inr (6, [.ref a1, .ref a2, .ref a3]))]) [0, 1, 2] rfl
  have hPc := hP.sub (ws' := [(a1, .inl (cZ, 1024, .inl g1_105)), (a2, .inl (cI, 1024, .inl g2_105)), (a3, .inl (cJ, 1024, .inl g3_105))]) [0, 1, 2] rfl
  have hDc := hD.sub (ws' := [(a1, .inl (cZ, 1024, .inl g1_105)), (a2, .inl (cI, 1024, .inl g2_105)), (a3, .inl (cJ, 1024, .inl g3_105))]) [0, 1, 2] (by decide) rfl
  have hKc := hK.sub (tys' := [(cZ, .boolean), (cI, .int), (cJ, .int)]) [0, 1, 2] rfl
  have hFc := va_free (wc := [(a1, .inl (cZ, 1024, .inl g1_105)), (a2, .inl (cI, 1024, .inl g2_105)), (a3, .inl (cJ, 1024, .inl g3_105))]) hD hS hA [0, 1, 2] rfl
  refine va_calli (va_runV (As := []) (rest := [.long (-7850066546207250320)]) ⟨hx, hb, hml, hown, hts⟩ (cz_X6_bestHint l dC dI ed H106.size x rm tr st lk th pl gm a1 a2 a3 cZ cI cJ g1_105 g2_105 g3_105) (cwV 0 hts gX6_digest_X6_bestHint rfl rfl rfl (by decide +kernel) ⟨Nat.le_of_ble_eq_true rfl, Nat.le_of_ble_eq_true rfl⟩) ⟨zb_blind, va_recv hK (zo_R hR0 hS hAr) (ci := 8) (q0 := 0) rfl rfl, fun U hU hW => ⟨rfl, zb_mk hU hW hPr hPc hKc hDc hN hH hS hFc (zx_cons (zx_r (hAr _ (List.mem_of_getElem? (i := 0) rfl)) hDc) (zx_cons (zx_r (hAr _ (List.mem_of_getElem? (i := 1) rfl)) hDc) (zx_cons (zx_r (hAr _ (List.mem_of_getElem? (i := 2) rfl)) hDc) zx_nil)))⟩⟩ rfl rfl hl.1 rfl (lv_room (Nat.le_of_ble_eq_true rfl)) dX6_digest_104 ⟨Nat.le_of_ble_eq_true rfl, Nat.le_of_ble_eq_true rfl⟩) hS (fun q _ h => hFc q h) hFc (fun r109 u t H108 locs ht hvm hw hB hz1 hk1 hS => ?_)
  obtain rfl : r109 = (-1) := hw
  obtain ⟨g1_110, g2_110, g3_110, hP1, hD1, hK1⟩ := hB
  rw [ht] at hP1
  obtain ⟨hP, hD⟩ := va_join (wr := []) (w1 := [(a1, .inl (cZ, 1024, .inl g1_110)), (a2, .inl (cI, 1024, .inl g2_110)), (a3, .inl (cJ, 1024, .inl g3_110))]) hP hD [0, 1, 2] [] rfl rfl (by decide) (by decide) hk1 hFc hP1 hD1
  have hP : va_P (dC, dI) vwCl [(a1, .inl (cZ, 1024, .inl g1_110)), (a2, .inl (cI, 1024, .inl g2_110)), (a3, .inl (cJ, 1024, .inl g3_110))] H108 := hP
  have hD : va_D A [(a1, .inl (cZ, 1024, .inl g1_110)), (a2, .inl (cI, 1024, .inl g2_110)), (a3, .inl (cJ, 1024, .inl g3_110))] := hD
  have hPr := (zo_nil : va_P (dC, dI) vwCl [] H108)
  have hPc := hP.sub (ws' := []) [] rfl
  have hDc := hD.sub (ws' := []) [] (by decide) rfl
  have hKc := hK.sub (tys' := []) [] rfl
  have hFc := va_free (wc := []) hD hS hA [] rfl
  refine va_calll (va_runS (As := [.long (-7850066546207250320), .int (-1)]) (rest := []) ⟨hx, hb, hml, hown, hts⟩ (cz_X6_mix l dC dI ed H108.size (-7850066546207250320) (-1)) (va_cwS 2 hts gX6_digest_X6_mix rfl rfl rfl (by decide +kernel) ⟨Nat.le_of_ble_eq_true rfl, Nat.le_of_ble_eq_true rfl⟩) ⟨zb_blind, fun U hU hW => ⟨rfl, zb_mk hU hW hPr hPc hKc hDc hN hH hS hFc zx_e⟩⟩ rfl rfl hl.1 rfl (lv_room (Nat.le_of_ble_eq_true rfl)) dX6_digest_107 ⟨Nat.le_of_ble_eq_true rfl, Nat.le_of_ble_eq_true rfl⟩) hS (fun q _ h => hFc q h) hFc (fun r112 u t H111 locs ht hvm hw hB hz1 hk1 hS => ?_)
  obtain rfl : r112 = (-3544389974200588913) := hw.trans (by decide +kernel)
  have hP := zo_K hP hk1
  refine lv_lstore_n (lv' := [(1, .long (-3544389974200588913)), (3, .int 19), (0, .ref x)]) hx hb dX6_digest_110 rfl hl (by decide) rfl (fun ls hl => ?_)
  refine lv_lload_n hx hb dX6_digest_111 rfl (lv_at hl 0 rfl) ?_
  refine lv_aload_n hx hb dX6_digest_112 rfl (lv_at hl 2 rfl) ?_
  have hPr := ((zo_R hR0 hS hAr)).sub (ws' := [(x, .inr (8, [.ref rm, .ref tr, .ref st])), (rm, .inr (5, [.ref lk, .ref th, .ref pl, .ref gm, .int 0, .int 0, .int 0, .int (-1), .int 1, .int 0, .int 0, .int 0])), (gm, .inr (2, [.int 0, .int 0, .int 0, .int 0, .int 0, .int (-1), .long 0]))]) [0, 1, 3] rfl
  have hPc := hP.sub (ws' := []) [] rfl
  have hDc := hD.sub (ws' := []) [] (by decide) rfl
  have hKc := hK.sub (tys' := []) [] rfl
  have hFc := va_free (wc := []) hD hS hA [] rfl
  refine va_calli (va_runV (As := []) (rest := [.long (-3544389974200588913)]) ⟨hx, hb, hml, hown, hts⟩ (cz_X6_endsAt l dC dI ed H111.size x rm tr st lk th pl gm) (cwV 0 hts gX6_digest_X6_endsAt rfl rfl rfl (by decide +kernel) ⟨Nat.le_of_ble_eq_true rfl, Nat.le_of_ble_eq_true rfl⟩) ⟨zb_blind, va_recv hK (zo_R hR0 hS hAr) (ci := 8) (q0 := 0) rfl rfl, fun U hU hW => ⟨rfl, zb_mk hU hW hPr hPc hKc hDc hN hH hS hFc zx_e⟩⟩ rfl rfl hl.1 rfl (lv_room (Nat.le_of_ble_eq_true rfl)) dX6_digest_113 ⟨Nat.le_of_ble_eq_true rfl, Nat.le_of_ble_eq_true rfl⟩) hS (fun q _ h => hFc q h) hFc (fun r114 u t H113 locs ht hvm hw hB hz1 hk1 hS => ?_)
  obtain rfl : r114 = (-1) := hw
  have hP := zo_K hP hk1
  have hPr := (zo_nil : va_P (dC, dI) vwCl [] H113)
  have hPc := hP.sub (ws' := []) [] rfl
  have hDc := hD.sub (ws' := []) [] (by decide) rfl
  have hKc := hK.sub (tys' := []) [] rfl
  have hFc := va_free (wc := []) hD hS hA [] rfl
  refine va_calll (va_runS (As := [.long (-3544389974200588913), .int (-1)]) (rest := []) ⟨hx, hb, hml, hown, hts⟩ (cz_X6_mix l dC dI ed H113.size (-3544389974200588913) (-1)) (va_cwS 2 hts gX6_digest_X6_mix rfl rfl rfl (by decide +kernel) ⟨Nat.le_of_ble_eq_true rfl, Nat.le_of_ble_eq_true rfl⟩) ⟨zb_blind, fun U hU hW => ⟨rfl, zb_mk hU hW hPr hPc hKc hDc hN hH hS hFc zx_e⟩⟩ rfl rfl hl.1 rfl (lv_room (Nat.le_of_ble_eq_true rfl)) dX6_digest_116 ⟨Nat.le_of_ble_eq_true rfl, Nat.le_of_ble_eq_true rfl⟩) hS (fun q _ h => hFc q h) hFc (fun r116 u t H115 locs ht hvm hw hB hz1 hk1 hS => ?_)
  obtain rfl : r116 = 804375242039053392 := hw.trans (by decide +kernel)
  have hP := zo_K hP hk1
  refine W.widen (k := 0) (n := 0) (Nat.le_of_ble_eq_true rfl) (Nat.le_of_ble_eq_true rfl) ?_
  have hP9 := hP.sub (ws' := [(a1, .inl (cZ, 1024, .inl g1_110)), (a2, .inl (cI, 1024, .inl g2_110)), (a3, .inl (cJ, 1024, .inl g3_110))]) [0, 1, 2] rfl
  have hD9 := hD.sub (ws' := [(a1, .inl (cZ, 1024, .inl g1_110)), (a2, .inl (cI, 1024, .inl g2_110)), (a3, .inl (cJ, 1024, .inl g3_110))]) [0, 1, 2] (by decide) rfl
  have hK9 := hK.sub (tys' := [(cZ, .boolean), (cI, .int), (cJ, .int)]) [0, 1, 2] rfl
  exact W.lret hx hb hr (fun t ht hW => ⟨⟨804375242039053392, (), rfl, rfl, ⟨g1_110, g2_110, g3_110, by rw [ht]; exact hP9, hD9, va_K.moved hW.alike hK9⟩⟩, hS.F ht⟩) hS.2.2 dX6_digest_119


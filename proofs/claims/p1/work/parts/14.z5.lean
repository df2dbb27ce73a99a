set_option maxHeartbeats 4000000 in
set_option maxRecDepth 100000 in
theorem cz_X6_isWithin (l : Launch) (dC : Nat → ClassId) (dI : Nat → Nat → Nat) (ed sz : Nat) (x0 : Int32) (x1 : Int32) (x2 : Int32) : Met l yX6_isWithin wsX6_isWithin ({ frames := 0, cells := 0, slots := 0, locals := 0 } : Jvm.Room) (va_Pc [.int x0, .int x1, .int x2] (zB dC dI ed sz [] [] [])) (va_Qi (fun (r : Int32) (_ : Unit) => r = if (¬ x0 < x1 ∧ ¬ x2 < x0) then 1 else 0) (fun (_ : Unit) (_ : State) => True) (va_A [] sz)) 0 0 (va_A [] sz) := by
  refine Met.ofW (cc := cX6_isWithin) (maxL := 3) (ret := (some .boolean)) (by decide) rfl ?_
  intro p e s m args below meth c s₁ B hml hv
  obtain ⟨rfl, hsz, hR0, hP, hK, hD0, hN, hH, hX0⟩ := hv
  have hx := B.exec
  have hb := B.bytes
  have hr := B.returns
  have hts := atoms_spec (ws := wsX6_isWithin) B.pre
  have hown : s.vm.findClass RX6 = some m.cls := findClass_of_methodNamed B.named
  have hlocks := B.notSynchronized
  subst hsz
  have hD := hD0.self (sz := s.heap.size)
  have hAr := zx_A hX0 hR0
  generalize hAe : va_A [] s.heap.size = A at hD hAr hH ⊢
  have hA : ∀ q : Nat, s.heap.size ≤ q → A q := fun q h => by rw [← hAe]; exact Or.inr h
  have hS : va_S A s.heap s.heap [] := va_S.rf
  have hl := lv_entry ([.int x0, .int x1, .int x2]) (n := 3) (Nat.le_of_ble_eq_true rfl)
  rw [lg_entry_eq]
  generalize (lg_sl ([.int x0, .int x1, .int x2]) ++ List.replicate (3 - (lg_sl ([.int x0, .int x1, .int x2])).length) Slot.unset).toArray = ls at hl ⊢
  have hl : lv_has ls 3 [(0, .int x0), (1, .int x1), (2, .int x2)] := hl
  refine lv_iload_n hx hb dX6_isWithin_0 rfl (lv_at hl 0 rfl) ?_
  refine lv_iload_n hx hb dX6_isWithin_1 rfl (lv_at hl 1 rfl) ?_
  refine lv_icmp_lt (tgt := 14) hx hb dX6_isWithin_2 (by decide) (fun c1 => ?_) (fun c1 => ?_)
  · skip
    refine lv_iconst (v := 0) hx hb dX6_isWithin_14 (by decide) ?_
    refine W.widen (k := 0) (n := 0) (Nat.le_of_ble_eq_true rfl) (Nat.le_of_ble_eq_true rfl) ?_
    exact W.zret hx hb hr (by decide) (fun t ht hW => ⟨⟨0, (), rfl, (if_neg (fun z => z.1 c1)).symm, trivial⟩, hS.F ht⟩) hS.2.2 dX6_isWithin_15
  · skip
    refine lv_iload_n hx hb dX6_isWithin_5 rfl (lv_at hl 0 rfl) ?_
    refine lv_iload_n hx hb dX6_isWithin_6 rfl (lv_at hl 2 rfl) ?_
    refine lv_icmp_gt (tgt := 14) hx hb dX6_isWithin_7 (by decide) (fun c2 => ?_) (fun c2 => ?_)
    · skip
      refine lv_iconst (v := 0) hx hb dX6_isWithin_14 (by decide) ?_
      refine W.widen (k := 0) (n := 0) (Nat.le_of_ble_eq_true rfl) (Nat.le_of_ble_eq_true rfl) ?_
      exact W.zret hx hb hr (by decide) (fun t ht hW => ⟨⟨0, (), rfl, (if_neg (fun z => z.2 c2)).symm, trivial⟩, hS.F ht⟩) hS.2.2 dX6_isWithin_15
    · skip
      refine lv_iconst (v := 1) hx hb dX6_isWithin_10 (by decide) ?_
      refine lv_goto (tgt := 15) hx hb dX6_isWithin_11 (by decide) ?_
      refine W.widen (k := 0) (n := 0) (Nat.le_of_ble_eq_true rfl) (Nat.le_of_ble_eq_true rfl) ?_
      exact W.zret hx hb hr (by decide) (fun t ht hW => ⟨⟨1, (), rfl, (if_pos ⟨c1, c2⟩).symm, trivial⟩, hS.F ht⟩) hS.2.2 dX6_isWithin_15

set_option maxHeartbeats 4000000 in
set_option maxRecDepth 100000 in
theorem cz_X8_is (l : Launch) (dC : Nat → ClassId) (dI : Nat → Nat → Nat) (ed sz : Nat) (x0 : Int32) (x1 : Int32) (x2 : Int32) : Met l yX8_is wsX8_is ({ frames := 0, cells := 0, slots := 0, locals := 0 } : Jvm.Room) (va_Pc [.int x0, .int x1, .int x2] (zB dC dI ed sz [] [] [])) (va_Qi (fun (r : Int32) (_ : Unit) => r = if (¬ x0 < x1 ∧ ¬ x2 < x0) then 1 else 0) (fun (_ : Unit) (_ : State) => True) (va_A [] sz)) 0 0 (va_A [] sz) := by
  refine Met.ofW (cc := cX8_is) (maxL := 3) (ret := (some .boolean)) (by decide) rfl ?_
  intro p e s m args below meth c s₁ B hml hv
  obtain ⟨rfl, hsz, hR0, hP, hK, hD0, hN, hH, hX0⟩ := hv
  have hx := B.exec
  have hb := B.bytes
  have hr := B.returns
  have hts := atoms_spec (ws := wsX8_is) B.pre
  have hown : s.vm.findClass RX8 = some m.cls := findClass_of_methodNamed B.named
  have hlocks := B.notSynchronized
  subst hsz
  have hD := hD0.self (sz := s.heap.size)
  have hAr := zx_A hX0 hR0
  generalize hAe : va_A [] s.heap.size = A at hD hAr hH ⊢
  have hA : ∀ q : Nat, s.heap.size ≤ q → A q := fun q h => by rw [← hAe]; exact Or.inr h
  have hS : va_S A s.heap s.heap [] := va_S.rf
  have hl := lv_entry ([.int x0, .int x1, .int x2]) (n := 3) (Nat.le_of_ble_eq_true rfl)
  rw [lg_entry_eq]
  generalize (lg_sl ([.int x0, .int x1, .int x2]) ++ List.replicate (3 - (lg_sl ([.int x0, .int x1, .int x2])).length) Slot.unset).toArray = ls at hl ⊢
  have hl : lv_has ls 3 [(0, .int x0), (1, .int x1), (2, .int x2)] := hl
  refine lv_iload_n hx hb dX8_is_0 rfl (lv_at hl 0 rfl) ?_
  refine lv_iload_n hx hb dX8_is_1 rfl (lv_at hl 1 rfl) ?_
  refine lv_icmp_lt (tgt := 14) hx hb dX8_is_2 (by decide) (fun c1 => ?_) (fun c1 => ?_)
  · skip
    refine lv_iconst (v := 0) hx hb dX8_is_14 (by decide) ?_
    refine W.widen (k := 0) (n := 0) (Nat.le_of_ble_eq_true rfl) (Nat.le_of_ble_eq_true rfl) ?_
    exact W.zret hx hb hr (by decide) (fun t ht hW => ⟨⟨0, (), rfl, (if_neg (fun z => z.1 c1)).symm, trivial⟩, hS.F ht⟩) hS.2.2 dX8_is_15
  · skip
    refine lv_iload_n hx hb dX8_is_5 rfl (lv_at hl 0 rfl) ?_
    refine lv_iload_n hx hb dX8_is_6 rfl (lv_at hl 2 rfl) ?_
    refine lv_icmp_gt (tgt := 14) hx hb dX8_is_7 (by decide) (fun c2 => ?_) (fun c2 => ?_)
    · skip
      refine lv_iconst (v := 0) hx hb dX8_is_14 (by decide) ?_
      refine W.widen (k := 0) (n := 0) (Nat.le_of_ble_eq_true rfl) (Nat.le_of_ble_eq_true rfl) ?_
      exact W.zret hx hb hr (by decide) (fun t ht hW => ⟨⟨0, (), rfl, (if_neg (fun z => z.2 c2)).symm, trivial⟩, hS.F ht⟩) hS.2.2 dX8_is_15
    · skip
      refine lv_iconst (v := 1) hx hb dX8_is_10 (by decide) ?_
      refine lv_goto (tgt := 15) hx hb dX8_is_11 (by decide) ?_
      refine W.widen (k := 0) (n := 0) (Nat.le_of_ble_eq_true rfl) (Nat.le_of_ble_eq_true rfl) ?_
      exact W.zret hx hb hr (by decide) (fun t ht hW => ⟨⟨1, (), rfl, (if_pos ⟨c1, c2⟩).symm, trivial⟩, hS.F ht⟩) hS.2.2 dX8_is_15

set_option maxRecDepth 20000 in
theorem zi_X6_begin_X6 : ∀ w ∈ u_ws RX6 TX6 3, w ∈ wsX6_begin := by decide +kernel
set_option maxRecDepth 20000 in
theorem zi_X6_begin_X3 : ∀ w ∈ u_ws RX3 TX3 12, w ∈ wsX6_begin := by decide +kernel
set_option maxRecDepth 20000 in
theorem zi_X6_begin_X0 : ∀ w ∈ u_ws RX0 TX0 7, w ∈ wsX6_begin := by decide +kernel
theorem zf_X6_begin_55 : ∀ w ∈ (vx_atS RX6 55 "java/lang/IllegalStateException" ["java/lang/RuntimeException", "java/lang/Exception"]).filter goodWord, w ∈ wsX6_begin := fun _ h => List.mem_cons_of_mem _ (List.mem_append_right _ h)
theorem zg_55 : ∀ w ∈ (vx_atS RX6 55 "java/lang/IllegalStateException" ["java/lang/RuntimeException", "java/lang/Exception"]).filter (fun w => !goodWord w), w ∈ zTB "java/lang/IllegalStateException" := by decide +kernel
theorem zh_55 : ∀ w ∈ Cond.classLink RX6 51 "java/lang/IllegalStateException" :: Cond.initialized "java/lang/IllegalStateException" :: vx_atS RX6 55 "java/lang/IllegalStateException" ["java/lang/RuntimeException", "java/lang/Exception"], vx_ot w = true := by decide +kernel
set_option maxHeartbeats 4000000 in
set_option maxRecDepth 100000 in
theorem cz_X6_begin (l : Launch) (dC : Nat → ClassId) (dI : Nat → Nat → Nat) (ed sz : Nat) (x : Nat) (rm : Nat) (tr : Nat) (st : Nat) (lk : Nat) (th : Nat) (pl : Nat) (gm : Nat) (htr : l.stackTraces = false) : vx_Met l yX6_begin wsX6_begin ({ frames := 6, cells := 1, slots := 6, locals := 82 } : Jvm.Room) (va_Pc [.ref x] (zB dC dI ed sz [(x, .inr (8, [.ref rm, .ref tr, .ref st])), (rm, .inr (5, [.ref lk, .ref th, .ref pl, .ref gm, .int 0, .int 0, .int 0, .int (-1), .int 1, .int 0, .int 0, .int 0])), (gm, .inr (2, [.int 0, .int 0, .int 0, .int 0, .int 0, .int (-1), .long 0]))] [] [])) (va_Qi (fun (r : Int32) (_ : Unit) => r = 0) (fun (_ : Unit) (_ : State) => True) (va_A [] sz)) (vx_X (fun (_ : Unit) => True) (fun (E : String) (_ : Unit) (_ : State) => E = "java/lang/IllegalStateException") (va_A [] sz)) 1 6 (va_A [] sz) := by
  refine vx_ofW (cc := cX6_begin) (maxL := 1) (ret := (some .int)) (by decide) rfl ?_
  intro p e s m args below meth c s₁ B hml hnt hv
  obtain ⟨rfl, hsz, hR0, hP, hK, hD0, hN, hH, hX0⟩ := hv
  have hx := B.exec
  have hb := B.bytes
  have hr := B.returns
  have hts := atoms_spec (ws := wsX6_begin) B.pre
  have hown : s.vm.findClass RX6 = some m.cls := findClass_of_methodNamed B.named
  have hlocks := B.notSynchronized
  subst hsz
  have hD := hD0.self (sz := s.heap.size)
  have hAr := zx_A hX0 hR0
  generalize hAe : va_A [] s.heap.size = A at hD hAr hH ⊢
  have hA : ∀ q : Nat, s.heap.size ≤ q → A q := fun q h => by rw [← hAe]; exact Or.inr h
  have hS : va_S A s.heap s.heap [] := va_S.rf
  have hl := lv_entry ([.ref x]) (n := 1) (Nat.le_of_ble_eq_true rfl)
  rw [lg_entry_eq]
  generalize (lg_sl ([.ref x]) ++ List.replicate (1 - (lg_sl ([.ref x])).length) Slot.unset).toArray = ls at hl ⊢
  have hl : lv_has ls 1 [(0, .ref x)] := hl
  refine lv_aload_n hx hb dX6_begin_0 rfl (lv_at hl 0 rfl) ?_
  refine va_get (D := (dC, dI)) (ci := 8) (v := .ref rm) (C := RX6) (T := TX6) (N := 3) hx hb hts zi_X6_begin_X6 hown hK hR0 0 rfl rfl 0 (by decide) (hts (.fieldLink RX6 12 "LockRooms" "room" "LLockRooms$Room;") (by decide +kernel)) (fun _ h9 => h9) rfl dX6_begin_1 ?_
  refine va_get (D := (dC, dI)) (ci := 5) (v := .ref gm) (C := RX3) (T := TX3) (N := 12) hx hb hts zi_X6_begin_X3 hown hK hR0 1 rfl rfl 3 (by decide) (hts (.fieldLink RX6 41 "LockRooms$Room" "games" "LLockRooms$Games;") (by decide +kernel)) (fun _ h9 => h9) rfl dX6_begin_4 ?_
  refine va_get (D := (dC, dI)) (ci := 2) (v := .int 0) (C := RX0) (T := TX0) (N := 7) hx hb hts zi_X6_begin_X0 hown hK hR0 2 rfl rfl 0 (by decide) (hts (.fieldLink RX6 45 "LockRooms$Games" "isRunning" "Z") (by decide +kernel)) (fun _ h9 => h9) rfl dX6_begin_7 ?_
  refine lv_if_ne (tgt := 33) hx hb dX6_begin_10 (by decide) (fun h => absurd h (by decide)) (fun _ => ?_)
  refine lv_aload_n hx hb dX6_begin_13 rfl (lv_at hl 0 rfl) ?_
  refine va_get (D := (dC, dI)) (ci := 8) (v := .ref rm) (C := RX6) (T := TX6) (N := 3) hx hb hts zi_X6_begin_X6 hown hK hR0 0 rfl rfl 0 (by decide) (hts (.fieldLink RX6 12 "LockRooms" "room" "LLockRooms$Room;") (by decide +kernel)) (fun _ h9 => h9) rfl dX6_begin_14 ?_
  refine va_get (D := (dC, dI)) (ci := 5) (v := .int 0) (C := RX3) (T := TX3) (N := 12) hx hb hts zi_X6_begin_X3 hown hK hR0 1 rfl rfl 6 (by decide) (hts (.fieldLink RX6 82 "LockRooms$Room" "playerCount" "I") (by decide +kernel)) (fun _ h9 => h9) rfl dX6_begin_17 ?_
  refine lv_if_eq (tgt := 33) hx hb dX6_begin_20 (by decide) (fun _ => ?_) (fun h => absurd h (by decide))
  obtain ⟨sa, hsa⟩ := hN.2.2.2.1 ("LockRooms", 95, "a game runs, there are no players, or the exit is open") (List.mem_of_getElem? (i := 7) rfl)
  exact vx_throwS (A := A) (cls := "java/lang/IllegalStateException") (names := ["java/lang/RuntimeException", "java/lang/Exception"]) hx hb htr hown (by decide +kernel) (by decide +kernel) (hts (.classLink RX6 51 "java/lang/IllegalStateException") (by decide +kernel)) (hts (.initialized "java/lang/IllegalStateException") (by decide +kernel)) hsa (vx_hat (B := zTB "java/lang/IllegalStateException") (fun w hw => hts w (zf_X6_begin_55 w hw)) zg_55 (zt_B (by decide) hN)) zh_55 hH.1 hH.2.1 hS (hl.1.trans hml.symm) dX6_begin_33 dX6_begin_36 dX6_begin_37 dX6_begin_39 dX6_begin_42 (fun x h => (hnt x h).elim) (Nat.le_of_ble_eq_true rfl) (Nat.le_of_ble_eq_true rfl) (Nat.le_of_ble_eq_true rfl) (Nat.le_of_ble_eq_true rfl) hlocks (fun t hvm hz hk => ⟨(), trivial, rfl, Nat.le_trans hS.1 hz, fun q h1 h2 => (hk q (Nat.lt_of_lt_of_le h1 hS.1)).trans (hS.2.1 q h1 h2)⟩) hS.2.2 (Nat.le_of_ble_eq_true rfl) (Nat.le_of_ble_eq_true rfl)

set_option maxRecDepth 20000 in
theorem zi_X6_stop_X6 : ∀ w ∈ u_ws RX6 TX6 3, w ∈ wsX6_stop := by decide +kernel
set_option maxRecDepth 20000 in
theorem zi_X6_stop_X3 : ∀ w ∈ u_ws RX3 TX3 12, w ∈ wsX6_stop := by decide +kernel
set_option maxRecDepth 20000 in
theorem zi_X6_stop_X0 : ∀ w ∈ u_ws RX0 TX0 7, w ∈ wsX6_stop := by decide +kernel
theorem zf_X6_stop_55 : ∀ w ∈ (vx_atS RX6 55 "java/lang/IllegalStateException" ["java/lang/RuntimeException", "java/lang/Exception"]).filter goodWord, w ∈ wsX6_stop := fun _ h => List.mem_cons_of_mem _ (List.mem_append_right _ h)
set_option maxHeartbeats 4000000 in
set_option maxRecDepth 100000 in
theorem cz_X6_stop (l : Launch) (dC : Nat → ClassId) (dI : Nat → Nat → Nat) (ed sz : Nat) (x : Nat) (rm : Nat) (tr : Nat) (st : Nat) (lk : Nat) (th : Nat) (pl : Nat) (gm : Nat) (htr : l.stackTraces = false) : vx_Met l yX6_stop wsX6_stop ({ frames := 6, cells := 1, slots := 6, locals := 82 } : Jvm.Room) (va_Pc [.ref x] (zB dC dI ed sz [(x, .inr (8, [.ref rm, .ref tr, .ref st])), (rm, .inr (5, [.ref lk, .ref th, .ref pl, .ref gm, .int 0, .int 0, .int 0, .int (-1), .int 1, .int 0, .int 0, .int 0])), (gm, .inr (2, [.int 0, .int 0, .int 0, .int 0, .int 0, .int (-1), .long 0]))] [] [])) (va_Qi (fun (r : Int32) (_ : Unit) => r = 0) (fun (_ : Unit) (_ : State) => True) (va_A [] sz)) (vx_X (fun (_ : Unit) => True) (fun (E : String) (_ : Unit) (_ : State) => E = "java/lang/IllegalStateException") (va_A [] sz)) 1 6 (va_A [] sz) := by
  refine vx_ofW (cc := cX6_stop) (maxL := 1) (ret := (some .int)) (by decide) rfl ?_
  intro p e s m args below meth c s₁ B hml hnt hv
  obtain ⟨rfl, hsz, hR0, hP, hK, hD0, hN, hH, hX0⟩ := hv
  have hx := B.exec
  have hb := B.bytes
  have hr := B.returns
  have hts := atoms_spec (ws := wsX6_stop) B.pre
  have hown : s.vm.findClass RX6 = some m.cls := findClass_of_methodNamed B.named
  have hlocks := B.notSynchronized
  subst hsz
  have hD := hD0.self (sz := s.heap.size)
  have hAr := zx_A hX0 hR0
  generalize hAe : va_A [] s.heap.size = A at hD hAr hH ⊢
  have hA : ∀ q : Nat, s.heap.size ≤ q → A q := fun q h => by rw [← hAe]; exact Or.inr h
  have hS : va_S A s.heap s.heap [] := va_S.rf
  have hl := lv_entry ([.ref x]) (n := 1) (Nat.le_of_ble_eq_true rfl)
  rw [lg_entry_eq]
  generalize (lg_sl ([.ref x]) ++ List.replicate (1 - (lg_sl ([.ref x])).length) Slot.unset).toArray = ls at hl ⊢
  have hl : lv_has ls 1 [(0, .ref x)] := hl
  refine lv_aload_n hx hb dX6_stop_0 rfl (lv_at hl 0 rfl) ?_
  refine va_get (D := (dC, dI)) (ci := 8) (v := .ref rm) (C := RX6) (T := TX6) (N := 3) hx hb hts zi_X6_stop_X6 hown hK hR0 0 rfl rfl 0 (by decide) (hts (.fieldLink RX6 12 "LockRooms" "room" "LLockRooms$Room;") (by decide +kernel)) (fun _ h9 => h9) rfl dX6_stop_1 ?_
  refine va_get (D := (dC, dI)) (ci := 5) (v := .ref gm) (C := RX3) (T := TX3) (N := 12) hx hb hts zi_X6_stop_X3 hown hK hR0 1 rfl rfl 3 (by decide) (hts (.fieldLink RX6 41 "LockRooms$Room" "games" "LLockRooms$Games;") (by decide +kernel)) (fun _ h9 => h9) rfl dX6_stop_4 ?_
  refine va_get (D := (dC, dI)) (ci := 2) (v := .int 0) (C := RX0) (T := TX0) (N := 7) hx hb hts zi_X6_stop_X0 hown hK hR0 2 rfl rfl 0 (by decide) (hts (.fieldLink RX6 45 "LockRooms$Games" "isRunning" "Z") (by decide +kernel)) (fun _ h9 => h9) rfl dX6_stop_7 ?_
  refine lv_if_ne (tgt := 23) hx hb dX6_stop_10 (by decide) (fun h => absurd h (by decide)) (fun _ => ?_)
  obtain ⟨sa, hsa⟩ := hN.2.2.2.1 ("LockRooms", 135, "no game runs") (List.mem_of_getElem? (i := 11) rfl)
  exact vx_throwS (A := A) (cls := "java/lang/IllegalStateException") (names := ["java/lang/RuntimeException", "java/lang/Exception"]) hx hb htr hown (by decide +kernel) (by decide +kernel) (hts (.classLink RX6 51 "java/lang/IllegalStateException") (by decide +kernel)) (hts (.initialized "java/lang/IllegalStateException") (by decide +kernel)) hsa (vx_hat (B := zTB "java/lang/IllegalStateException") (fun w hw => hts w (zf_X6_stop_55 w hw)) zg_55 (zt_B (by decide) hN)) zh_55 hH.1 hH.2.1 hS (hl.1.trans hml.symm) dX6_stop_13 dX6_stop_16 dX6_stop_17 dX6_stop_19 dX6_stop_22 (fun x h => (hnt x h).elim) (Nat.le_of_ble_eq_true rfl) (Nat.le_of_ble_eq_true rfl) (Nat.le_of_ble_eq_true rfl) (Nat.le_of_ble_eq_true rfl) hlocks (fun t hvm hz hk => ⟨(), trivial, rfl, Nat.le_trans hS.1 hz, fun q h1 h2 => (hk q (Nat.lt_of_lt_of_le h1 hS.1)).trans (hS.2.1 q h1 h2)⟩) hS.2.2 (Nat.le_of_ble_eq_true rfl) (Nat.le_of_ble_eq_true rfl)

set_option maxRecDepth 20000 in
theorem zi_X6_hint_X6 : ∀ w ∈ u_ws RX6 TX6 3, w ∈ wsX6_hint := by decide +kernel
theorem zf_X6_hint_68 : ∀ w ∈ (vx_atS RX6 68 "java/lang/IndexOutOfBoundsException" ["java/lang/RuntimeException", "java/lang/Exception"]).filter goodWord, w ∈ wsX6_hint := fun _ h => List.mem_cons_of_mem _ (List.mem_append_left _ (List.mem_append_right _ h))
theorem zg_68 : ∀ w ∈ (vx_atS RX6 68 "java/lang/IndexOutOfBoundsException" ["java/lang/RuntimeException", "java/lang/Exception"]).filter (fun w => !goodWord w), w ∈ zTB "java/lang/IndexOutOfBoundsException" := by decide +kernel
theorem zh_68 : ∀ w ∈ Cond.classLink RX6 64 "java/lang/IndexOutOfBoundsException" :: Cond.initialized "java/lang/IndexOutOfBoundsException" :: vx_atS RX6 68 "java/lang/IndexOutOfBoundsException" ["java/lang/RuntimeException", "java/lang/Exception"], vx_ot w = true := by decide +kernel
set_option maxHeartbeats 4000000 in
set_option maxRecDepth 100000 in
theorem cz_X6_hint (l : Launch) (dC : Nat → ClassId) (dI : Nat → Nat → Nat) (ed sz : Nat) (x : Nat) (rm : Nat) (tr : Nat) (st : Nat) (lk : Nat) (th : Nat) (pl : Nat) (gm : Nat) (x0 : Int32) (htr : l.stackTraces = false) : vx_Met l yX6_hint wsX6_hint ({ frames := 6, cells := 1, slots := 6, locals := 82 } : Jvm.Room) (va_Pc [.ref x, .int x0] (zB dC dI ed sz [(x, .inr (8, [.ref rm, .ref tr, .ref st])), (rm, .inr (5, [.ref lk, .ref th, .ref pl, .ref gm, .int 0, .int 0, .int 0, .int (-1), .int 1, .int 0, .int 0, .int 0]))] [] [])) (va_Qi (fun (r : Int32) (_ : Unit) => r = 0) (fun (_ : Unit) (_ : State) => True) (va_A [] sz)) (vx_X (fun (_ : Unit) => True) (fun (E : String) (_ : Unit) (_ : State) => E = "java/lang/IndexOutOfBoundsException") (va_A [] sz)) 1 6 (va_A [] sz) := by
  refine vx_ofW (cc := cX6_hint) (maxL := 3) (ret := (some .int)) (by decide) rfl ?_
  intro p e s m args below meth c s₁ B hml hnt hv
  obtain ⟨rfl, hsz, hR0, hP, hK, hD0, hN, hH, hX0⟩ := hv
  have hx := B.exec
  have hb := B.bytes
  have hr := B.returns
  have hts := atoms_spec (ws := wsX6_hint) B.pre
  have hown : s.vm.findClass RX6 = some m.cls := findClass_of_methodNamed B.named
  have hlocks := B.notSynchronized
  subst hsz
  have hD := hD0.self (sz := s.heap.size)
  have hAr := zx_A hX0 hR0
  generalize hAe : va_A [] s.heap.size = A at hD hAr hH ⊢
  have hA : ∀ q : Nat, s.heap.size ≤ q → A q := fun q h => by rw [← hAe]; exact Or.inr h
  have hS : va_S A s.heap s.heap [] := va_S.rf
  have hl := lv_entry ([.ref x, .int x0]) (n := 3) (Nat.le_of_ble_eq_true rfl)
  rw [lg_entry_eq]
  generalize (lg_sl ([.ref x, .int x0]) ++ List.replicate (3 - (lg_sl ([.ref x, .int x0])).length) Slot.unset).toArray = ls at hl ⊢
  have hl : lv_has ls 3 [(0, .ref x), (1, .int x0)] := hl
  refine lv_aload_n hx hb dX6_hint_0 rfl (lv_at hl 0 rfl) ?_
  refine va_get (D := (dC, dI)) (ci := 8) (v := .ref rm) (C := RX6) (T := TX6) (N := 3) hx hb hts zi_X6_hint_X6 hown hK hR0 0 rfl rfl 0 (by decide) (hts (.fieldLink RX6 12 "LockRooms" "room" "LLockRooms$Room;") (by decide +kernel)) (fun _ h9 => h9) rfl dX6_hint_1 ?_
  refine lv_iload_n hx hb dX6_hint_4 rfl (lv_at hl 1 rfl) ?_
  have hPr := (hR0).sub (ws' := [(rm, .inr (5, [.ref lk, .ref th, .ref pl, .ref gm, .int 0, .int 0, .int 0, .int (-1), .int 1, .int 0, .int 0, .int 0]))]) [1] rfl
  have hPc := hP.sub (ws' := []) [] rfl
  have hDc := hD.sub (ws' := []) [] (by decide) rfl
  have hKc := hK.sub (tys' := []) [] rfl
  have hFc := va_free (wc := []) hD hS hA [] rfl
  refine va_calli (va_runV (As := [.int x0]) (rest := []) ⟨hx, hb, hml, hown, hts⟩ (cz_hasLock l dC dI ed s.heap.size rm lk th pl gm x0) (cwV 1 hts gX6_hint_X3_hasLock rfl rfl rfl (by decide +kernel) ⟨Nat.le_of_ble_eq_true rfl, Nat.le_of_ble_eq_true rfl⟩) ⟨zb_blind, va_recv hK hR0 (ci := 5) (q0 := 1) rfl rfl, fun U hU hW => ⟨rfl, zb_mk hU hW hPr hPc hKc hDc hN hH hS hFc zx_e⟩⟩ rfl rfl hl.1 rfl (lv_room (Nat.le_of_ble_eq_true rfl)) dX6_hint_5 ⟨Nat.le_of_ble_eq_true rfl, Nat.le_of_ble_eq_true rfl⟩) hS (fun q _ h => hFc q h) hFc (fun r2 u t H1 locs ht hvm hw hB hz1 hk1 hS => ?_)
  obtain rfl : r2 = 0 := hw
  have hP := zo_K hP hk1
  refine lv_if_ne (tgt := 21) hx hb dX6_hint_8 (by decide) (fun h => absurd h (by decide)) (fun _ => ?_)
  obtain ⟨sa, hsa⟩ := hN.2.2.2.1 ("LockRooms", 66, "there is no such lock") (List.mem_of_getElem? (i := 2) rfl)
  exact vx_throwS (A := A) (cls := "java/lang/IndexOutOfBoundsException") (names := ["java/lang/RuntimeException", "java/lang/Exception"]) hx hb htr hown (by decide +kernel) (by decide +kernel) (hts (.classLink RX6 64 "java/lang/IndexOutOfBoundsException") (by decide +kernel)) (hts (.initialized "java/lang/IndexOutOfBoundsException") (by decide +kernel)) hsa (vx_hat (B := zTB "java/lang/IndexOutOfBoundsException") (fun w hw => hts w (zf_X6_hint_68 w hw)) zg_68 (zt_B (by decide) hN)) zh_68 hH.1 hH.2.1 hS (hl.1.trans hml.symm) dX6_hint_11 dX6_hint_14 dX6_hint_15 dX6_hint_17 dX6_hint_20 (fun x h => (hnt x h).elim) (Nat.le_of_ble_eq_true rfl) (Nat.le_of_ble_eq_true rfl) (Nat.le_of_ble_eq_true rfl) (Nat.le_of_ble_eq_true rfl) hlocks (fun t hvm hz hk => ⟨(), trivial, rfl, Nat.le_trans hS.1 hz, fun q h1 h2 => (hk q (Nat.lt_of_lt_of_le h1 hS.1)).trans (hS.2.1 q h1 h2)⟩) hS.2.2 (Nat.le_of_ble_eq_true rfl) (Nat.le_of_ble_eq_true rfl)

set_option maxRecDepth 20000 in
theorem zi_X6_steal_X6 : ∀ w ∈ u_ws RX6 TX6 3, w ∈ wsX6_steal := by decide +kernel
theorem zf_X6_steal_68 : ∀ w ∈ (vx_atS RX6 68 "java/lang/IndexOutOfBoundsException" ["java/lang/RuntimeException", "java/lang/Exception"]).filter goodWord, w ∈ wsX6_steal := fun _ h => List.mem_cons_of_mem _ (List.mem_append_left _ (List.mem_append_right _ h))
set_option maxHeartbeats 4000000 in
set_option maxRecDepth 100000 in
theorem cz_X6_steal (l : Launch) (dC : Nat → ClassId) (dI : Nat → Nat → Nat) (ed sz : Nat) (x : Nat) (rm : Nat) (tr : Nat) (st : Nat) (lk : Nat) (th : Nat) (pl : Nat) (gm : Nat) (x0 : Int32) (htr : l.stackTraces = false) : vx_Met l yX6_steal wsX6_steal ({ frames := 6, cells := 1, slots := 6, locals := 82 } : Jvm.Room) (va_Pc [.ref x, .int x0] (zB dC dI ed sz [(x, .inr (8, [.ref rm, .ref tr, .ref st])), (rm, .inr (5, [.ref lk, .ref th, .ref pl, .ref gm, .int 0, .int 0, .int 0, .int (-1), .int 1, .int 0, .int 0, .int 0]))] [] [])) (va_Qi (fun (r : Int32) (_ : Unit) => r = 0) (fun (_ : Unit) (_ : State) => True) (va_A [] sz)) (vx_X (fun (_ : Unit) => True) (fun (E : String) (_ : Unit) (_ : State) => E = "java/lang/IndexOutOfBoundsException") (va_A [] sz)) 1 6 (va_A [] sz) := by
  refine vx_ofW (cc := cX6_steal) (maxL := 3) (ret := (some .int)) (by decide) rfl ?_
  intro p e s m args below meth c s₁ B hml hnt hv
  obtain ⟨rfl, hsz, hR0, hP, hK, hD0, hN, hH, hX0⟩ := hv
  have hx := B.exec
  have hb := B.bytes
  have hr := B.returns
  have hts := atoms_spec (ws := wsX6_steal) B.pre
  have hown : s.vm.findClass RX6 = some m.cls := findClass_of_methodNamed B.named
  have hlocks := B.notSynchronized
  subst hsz
  have hD := hD0.self (sz := s.heap.size)
  have hAr := zx_A hX0 hR0
  generalize hAe : va_A [] s.heap.size = A at hD hAr hH ⊢
  have hA : ∀ q : Nat, s.heap.size ≤ q → A q := fun q h => by rw [← hAe]; exact Or.inr h
  have hS : va_S A s.heap s.heap [] := va_S.rf
  have hl := lv_entry ([.ref x, .int x0]) (n := 3) (Nat.le_of_ble_eq_true rfl)
  rw [lg_entry_eq]
  generalize (lg_sl ([.ref x, .int x0]) ++ List.replicate (3 - (lg_sl ([.ref x, .int x0])).length) Slot.unset).toArray = ls at hl ⊢
  have hl : lv_has ls 3 [(0, .ref x), (1, .int x0)] := hl
  refine lv_aload_n hx hb dX6_steal_0 rfl (lv_at hl 0 rfl) ?_
  refine va_get (D := (dC, dI)) (ci := 8) (v := .ref rm) (C := RX6) (T := TX6) (N := 3) hx hb hts zi_X6_steal_X6 hown hK hR0 0 rfl rfl 0 (by decide) (hts (.fieldLink RX6 12 "LockRooms" "room" "LLockRooms$Room;") (by decide +kernel)) (fun _ h9 => h9) rfl dX6_steal_1 ?_
  refine lv_iload_n hx hb dX6_steal_4 rfl (lv_at hl 1 rfl) ?_
  have hPr := (hR0).sub (ws' := [(rm, .inr (5, [.ref lk, .ref th, .ref pl, .ref gm, .int 0, .int 0, .int 0, .int (-1), .int 1, .int 0, .int 0, .int 0]))]) [1] rfl
  have hPc := hP.sub (ws' := []) [] rfl
  have hDc := hD.sub (ws' := []) [] (by decide) rfl
  have hKc := hK.sub (tys' := []) [] rfl
  have hFc := va_free (wc := []) hD hS hA [] rfl
  refine va_calli (va_runV (As := [.int x0]) (rest := []) ⟨hx, hb, hml, hown, hts⟩ (cz_hasThing l dC dI ed s.heap.size rm lk th pl gm x0) (cwV 1 hts gX6_steal_X3_hasThing rfl rfl rfl (by decide +kernel) ⟨Nat.le_of_ble_eq_true rfl, Nat.le_of_ble_eq_true rfl⟩) ⟨zb_blind, va_recv hK hR0 (ci := 5) (q0 := 1) rfl rfl, fun U hU hW => ⟨rfl, zb_mk hU hW hPr hPc hKc hDc hN hH hS hFc zx_e⟩⟩ rfl rfl hl.1 rfl (lv_room (Nat.le_of_ble_eq_true rfl)) dX6_steal_5 ⟨Nat.le_of_ble_eq_true rfl, Nat.le_of_ble_eq_true rfl⟩) hS (fun q _ h => hFc q h) hFc (fun r2 u t H1 locs ht hvm hw hB hz1 hk1 hS => ?_)
  obtain rfl : r2 = 0 := hw
  have hP := zo_K hP hk1
  refine lv_if_ne (tgt := 21) hx hb dX6_steal_8 (by decide) (fun h => absurd h (by decide)) (fun _ => ?_)
  obtain ⟨sa, hsa⟩ := hN.2.2.2.1 ("LockRooms", 146, "there is no such thing") (List.mem_of_getElem? (i := 12) rfl)
  exact vx_throwS (A := A) (cls := "java/lang/IndexOutOfBoundsException") (names := ["java/lang/RuntimeException", "java/lang/Exception"]) hx hb htr hown (by decide +kernel) (by decide +kernel) (hts (.classLink RX6 64 "java/lang/IndexOutOfBoundsException") (by decide +kernel)) (hts (.initialized "java/lang/IndexOutOfBoundsException") (by decide +kernel)) hsa (vx_hat (B := zTB "java/lang/IndexOutOfBoundsException") (fun w hw => hts w (zf_X6_steal_68 w hw)) zg_68 (zt_B (by decide) hN)) zh_68 hH.1 hH.2.1 hS (hl.1.trans hml.symm) dX6_steal_11 dX6_steal_14 dX6_steal_15 dX6_steal_17 dX6_steal_20 (fun x h => (hnt x h).elim) (Nat.le_of_ble_eq_true rfl) (Nat.le_of_ble_eq_true rfl) (Nat.le_of_ble_eq_true rfl) (Nat.le_of_ble_eq_true rfl) hlocks (fun t hvm hz hk => ⟨(), trivial, rfl, Nat.le_trans hS.1 hz, fun q h1 h2 => (hk q (Nat.lt_of_lt_of_le h1 hS.1)).trans (hS.2.1 q h1 h2)⟩) hS.2.2 (Nat.le_of_ble_eq_true rfl) (Nat.le_of_ble_eq_true rfl)

set_option maxRecDepth 20000 in
theorem zi_X6_spare_X6 : ∀ w ∈ u_ws RX6 TX6 3, w ∈ wsX6_spare := by decide +kernel
theorem zf_X6_spare_68 : ∀ w ∈ (vx_atS RX6 68 "java/lang/IndexOutOfBoundsException" ["java/lang/RuntimeException", "java/lang/Exception"]).filter goodWord, w ∈ wsX6_spare := fun _ h => List.mem_cons_of_mem _ (List.mem_append_left _ (List.mem_append_right _ h))
set_option maxHeartbeats 4000000 in
set_option maxRecDepth 100000 in
theorem cz_X6_spare (l : Launch) (dC : Nat → ClassId) (dI : Nat → Nat → Nat) (ed sz : Nat) (x : Nat) (rm : Nat) (tr : Nat) (st : Nat) (lk : Nat) (th : Nat) (pl : Nat) (gm : Nat) (x0 : Int32) (htr : l.stackTraces = false) : vx_Met l yX6_spare wsX6_spare ({ frames := 6, cells := 1, slots := 6, locals := 82 } : Jvm.Room) (va_Pc [.ref x, .int x0] (zB dC dI ed sz [(x, .inr (8, [.ref rm, .ref tr, .ref st])), (rm, .inr (5, [.ref lk, .ref th, .ref pl, .ref gm, .int 0, .int 0, .int 0, .int (-1), .int 1, .int 0, .int 0, .int 0]))] [] [])) (va_Qi (fun (r : Int32) (_ : Unit) => r = 0) (fun (_ : Unit) (_ : State) => True) (va_A [] sz)) (vx_X (fun (_ : Unit) => True) (fun (E : String) (_ : Unit) (_ : State) => E = "java/lang/IndexOutOfBoundsException") (va_A [] sz)) 1 6 (va_A [] sz) := by
  refine vx_ofW (cc := cX6_spare) (maxL := 3) (ret := (some .int)) (by decide) rfl ?_
  intro p e s m args below meth c s₁ B hml hnt hv
  obtain ⟨rfl, hsz, hR0, hP, hK, hD0, hN, hH, hX0⟩ := hv
  have hx := B.exec
  have hb := B.bytes
  have hr := B.returns
  have hts := atoms_spec (ws := wsX6_spare) B.pre
  have hown : s.vm.findClass RX6 = some m.cls := findClass_of_methodNamed B.named
  have hlocks := B.notSynchronized
  subst hsz
  have hD := hD0.self (sz := s.heap.size)
  have hAr := zx_A hX0 hR0
  generalize hAe : va_A [] s.heap.size = A at hD hAr hH ⊢
  have hA : ∀ q : Nat, s.heap.size ≤ q → A q := fun q h => by rw [← hAe]; exact Or.inr h
  have hS : va_S A s.heap s.heap [] := va_S.rf
  have hl := lv_entry ([.ref x, .int x0]) (n := 3) (Nat.le_of_ble_eq_true rfl)
  rw [lg_entry_eq]
  generalize (lg_sl ([.ref x, .int x0]) ++ List.replicate (3 - (lg_sl ([.ref x, .int x0])).length) Slot.unset).toArray = ls at hl ⊢
  have hl : lv_has ls 3 [(0, .ref x), (1, .int x0)] := hl
  refine lv_aload_n hx hb dX6_spare_0 rfl (lv_at hl 0 rfl) ?_
  refine va_get (D := (dC, dI)) (ci := 8) (v := .ref rm) (C := RX6) (T := TX6) (N := 3) hx hb hts zi_X6_spare_X6 hown hK hR0 0 rfl rfl 0 (by decide) (hts (.fieldLink RX6 12 "LockRooms" "room" "LLockRooms$Room;") (by decide +kernel)) (fun _ h9 => h9) rfl dX6_spare_1 ?_
  refine lv_iload_n hx hb dX6_spare_4 rfl (lv_at hl 1 rfl) ?_
  have hPr := (hR0).sub (ws' := [(rm, .inr (5, [.ref lk, .ref th, .ref pl, .ref gm, .int 0, .int 0, .int 0, .int (-1), .int 1, .int 0, .int 0, .int 0]))]) [1] rfl
  have hPc := hP.sub (ws' := []) [] rfl
  have hDc := hD.sub (ws' := []) [] (by decide) rfl
  have hKc := hK.sub (tys' := []) [] rfl
  have hFc := va_free (wc := []) hD hS hA [] rfl
  refine va_calli (va_runV (As := [.int x0]) (rest := []) ⟨hx, hb, hml, hown, hts⟩ (cz_hasThing l dC dI ed s.heap.size rm lk th pl gm x0) (cwV 1 hts gX6_spare_X3_hasThing rfl rfl rfl (by decide +kernel) ⟨Nat.le_of_ble_eq_true rfl, Nat.le_of_ble_eq_true rfl⟩) ⟨zb_blind, va_recv hK hR0 (ci := 5) (q0 := 1) rfl rfl, fun U hU hW => ⟨rfl, zb_mk hU hW hPr hPc hKc hDc hN hH hS hFc zx_e⟩⟩ rfl rfl hl.1 rfl (lv_room (Nat.le_of_ble_eq_true rfl)) dX6_spare_5 ⟨Nat.le_of_ble_eq_true rfl, Nat.le_of_ble_eq_true rfl⟩) hS (fun q _ h => hFc q h) hFc (fun r2 u t H1 locs ht hvm hw hB hz1 hk1 hS => ?_)
  obtain rfl : r2 = 0 := hw
  have hP := zo_K hP hk1
  refine lv_if_ne (tgt := 21) hx hb dX6_spare_8 (by decide) (fun h => absurd h (by decide)) (fun _ => ?_)
  obtain ⟨sa, hsa⟩ := hN.2.2.2.1 ("LockRooms", 146, "there is no such thing") (List.mem_of_getElem? (i := 12) rfl)
  exact vx_throwS (A := A) (cls := "java/lang/IndexOutOfBoundsException") (names := ["java/lang/RuntimeException", "java/lang/Exception"]) hx hb htr hown (by decide +kernel) (by decide +kernel) (hts (.classLink RX6 64 "java/lang/IndexOutOfBoundsException") (by decide +kernel)) (hts (.initialized "java/lang/IndexOutOfBoundsException") (by decide +kernel)) hsa (vx_hat (B := zTB "java/lang/IndexOutOfBoundsException") (fun w hw => hts w (zf_X6_spare_68 w hw)) zg_68 (zt_B (by decide) hN)) zh_68 hH.1 hH.2.1 hS (hl.1.trans hml.symm) dX6_spare_11 dX6_spare_14 dX6_spare_15 dX6_spare_17 dX6_spare_20 (fun x h => (hnt x h).elim) (Nat.le_of_ble_eq_true rfl) (Nat.le_of_ble_eq_true rfl) (Nat.le_of_ble_eq_true rfl) (Nat.le_of_ble_eq_true rfl) hlocks (fun t hvm hz hk => ⟨(), trivial, rfl, Nat.le_trans hS.1 hz, fun q h1 h2 => (hk q (Nat.lt_of_lt_of_le h1 hS.1)).trans (hS.2.1 q h1 h2)⟩) hS.2.2 (Nat.le_of_ble_eq_true rfl) (Nat.le_of_ble_eq_true rfl)

set_option maxRecDepth 20000 in
theorem zi_X6_breaks_X6 : ∀ w ∈ u_ws RX6 TX6 3, w ∈ wsX6_breaks := by decide +kernel
theorem zf_X6_breaks_68 : ∀ w ∈ (vx_atS RX6 68 "java/lang/IndexOutOfBoundsException" ["java/lang/RuntimeException", "java/lang/Exception"]).filter goodWord, w ∈ wsX6_breaks := fun _ h => List.mem_cons_of_mem _ (List.mem_append_left _ (List.mem_append_right _ h))
set_option maxHeartbeats 4000000 in
set_option maxRecDepth 100000 in
theorem cz_X6_breaks (l : Launch) (dC : Nat → ClassId) (dI : Nat → Nat → Nat) (ed sz : Nat) (x : Nat) (rm : Nat) (tr : Nat) (st : Nat) (lk : Nat) (th : Nat) (pl : Nat) (gm : Nat) (x0 : Int32) (htr : l.stackTraces = false) : vx_Met l yX6_breaks wsX6_breaks ({ frames := 6, cells := 1, slots := 6, locals := 82 } : Jvm.Room) (va_Pc [.ref x, .int x0] (zB dC dI ed sz [(x, .inr (8, [.ref rm, .ref tr, .ref st])), (rm, .inr (5, [.ref lk, .ref th, .ref pl, .ref gm, .int 0, .int 0, .int 0, .int (-1), .int 1, .int 0, .int 0, .int 0]))] [] [])) (va_Qi (fun (r : Int32) (_ : Unit) => r = 0) (fun (_ : Unit) (_ : State) => True) (va_A [] sz)) (vx_X (fun (_ : Unit) => True) (fun (E : String) (_ : Unit) (_ : State) => E = "java/lang/IndexOutOfBoundsException") (va_A [] sz)) 1 6 (va_A [] sz) := by
  refine vx_ofW (cc := cX6_breaks) (maxL := 3) (ret := (some .int)) (by decide) rfl ?_
  intro p e s m args below meth c s₁ B hml hnt hv
  obtain ⟨rfl, hsz, hR0, hP, hK, hD0, hN, hH, hX0⟩ := hv
  have hx := B.exec
  have hb := B.bytes
  have hr := B.returns
  have hts := atoms_spec (ws := wsX6_breaks) B.pre
  have hown : s.vm.findClass RX6 = some m.cls := findClass_of_methodNamed B.named
  have hlocks := B.notSynchronized
  subst hsz
  have hD := hD0.self (sz := s.heap.size)
  have hAr := zx_A hX0 hR0
  generalize hAe : va_A [] s.heap.size = A at hD hAr hH ⊢
  have hA : ∀ q : Nat, s.heap.size ≤ q → A q := fun q h => by rw [← hAe]; exact Or.inr h
  have hS : va_S A s.heap s.heap [] := va_S.rf
  have hl := lv_entry ([.ref x, .int x0]) (n := 3) (Nat.le_of_ble_eq_true rfl)
  rw [lg_entry_eq]
  generalize (lg_sl ([.ref x, .int x0]) ++ List.replicate (3 - (lg_sl ([.ref x, .int x0])).length) Slot.unset).toArray = ls at hl ⊢
  have hl : lv_has ls 3 [(0, .ref x), (1, .int x0)] := hl
  refine lv_aload_n hx hb dX6_breaks_0 rfl (lv_at hl 0 rfl) ?_
  refine va_get (D := (dC, dI)) (ci := 8) (v := .ref rm) (C := RX6) (T := TX6) (N := 3) hx hb hts zi_X6_breaks_X6 hown hK hR0 0 rfl rfl 0 (by decide) (hts (.fieldLink RX6 12 "LockRooms" "room" "LLockRooms$Room;") (by decide +kernel)) (fun _ h9 => h9) rfl dX6_breaks_1 ?_
  refine lv_iload_n hx hb dX6_breaks_4 rfl (lv_at hl 1 rfl) ?_
  have hPr := (hR0).sub (ws' := [(rm, .inr (5, [.ref lk, .ref th, .ref pl, .ref gm, .int 0, .int 0, .int 0, .int (-1), .int 1, .int 0, .int 0, .int 0]))]) [1] rfl
  have hPc := hP.sub (ws' := []) [] rfl
  have hDc := hD.sub (ws' := []) [] (by decide) rfl
  have hKc := hK.sub (tys' := []) [] rfl
  have hFc := va_free (wc := []) hD hS hA [] rfl
  refine va_calli (va_runV (As := [.int x0]) (rest := []) ⟨hx, hb, hml, hown, hts⟩ (cz_hasLock l dC dI ed s.heap.size rm lk th pl gm x0) (cwV 1 hts gX6_breaks_X3_hasLock rfl rfl rfl (by decide +kernel) ⟨Nat.le_of_ble_eq_true rfl, Nat.le_of_ble_eq_true rfl⟩) ⟨zb_blind, va_recv hK hR0 (ci := 5) (q0 := 1) rfl rfl, fun U hU hW => ⟨rfl, zb_mk hU hW hPr hPc hKc hDc hN hH hS hFc zx_e⟩⟩ rfl rfl hl.1 rfl (lv_room (Nat.le_of_ble_eq_true rfl)) dX6_breaks_5 ⟨Nat.le_of_ble_eq_true rfl, Nat.le_of_ble_eq_true rfl⟩) hS (fun q _ h => hFc q h) hFc (fun r2 u t H1 locs ht hvm hw hB hz1 hk1 hS => ?_)
  obtain rfl : r2 = 0 := hw
  have hP := zo_K hP hk1
  refine lv_if_ne (tgt := 21) hx hb dX6_breaks_8 (by decide) (fun h => absurd h (by decide)) (fun _ => ?_)
  obtain ⟨sa, hsa⟩ := hN.2.2.2.1 ("LockRooms", 66, "there is no such lock") (List.mem_of_getElem? (i := 2) rfl)
  exact vx_throwS (A := A) (cls := "java/lang/IndexOutOfBoundsException") (names := ["java/lang/RuntimeException", "java/lang/Exception"]) hx hb htr hown (by decide +kernel) (by decide +kernel) (hts (.classLink RX6 64 "java/lang/IndexOutOfBoundsException") (by decide +kernel)) (hts (.initialized "java/lang/IndexOutOfBoundsException") (by decide +kernel)) hsa (vx_hat (B := zTB "java/lang/IndexOutOfBoundsException") (fun w hw => hts w (zf_X6_breaks_68 w hw)) zg_68 (zt_B (by decide) hN)) zh_68 hH.1 hH.2.1 hS (hl.1.trans hml.symm) dX6_breaks_11 dX6_breaks_14 dX6_breaks_15 dX6_breaks_17 dX6_breaks_20 (fun x h => (hnt x h).elim) (Nat.le_of_ble_eq_true rfl) (Nat.le_of_ble_eq_true rfl) (Nat.le_of_ble_eq_true rfl) (Nat.le_of_ble_eq_true rfl) hlocks (fun t hvm hz hk => ⟨(), trivial, rfl, Nat.le_trans hS.1 hz, fun q h1 h2 => (hk q (Nat.lt_of_lt_of_le h1 hS.1)).trans (hS.2.1 q h1 h2)⟩) hS.2.2 (Nat.le_of_ble_eq_true rfl) (Nat.le_of_ble_eq_true rfl)

set_option maxRecDepth 20000 in
theorem zi_X6_repair_X6 : ∀ w ∈ u_ws RX6 TX6 3, w ∈ wsX6_repair := by decide +kernel
theorem zf_X6_repair_68 : ∀ w ∈ (vx_atS RX6 68 "java/lang/IndexOutOfBoundsException" ["java/lang/RuntimeException", "java/lang/Exception"]).filter goodWord, w ∈ wsX6_repair := fun _ h => List.mem_cons_of_mem _ (List.mem_append_left _ (List.mem_append_right _ h))
set_option maxHeartbeats 4000000 in
set_option maxRecDepth 100000 in
theorem cz_X6_repair (l : Launch) (dC : Nat → ClassId) (dI : Nat → Nat → Nat) (ed sz : Nat) (x : Nat) (rm : Nat) (tr : Nat) (st : Nat) (lk : Nat) (th : Nat) (pl : Nat) (gm : Nat) (x0 : Int32) (htr : l.stackTraces = false) : vx_Met l yX6_repair wsX6_repair ({ frames := 6, cells := 1, slots := 6, locals := 82 } : Jvm.Room) (va_Pc [.ref x, .int x0] (zB dC dI ed sz [(x, .inr (8, [.ref rm, .ref tr, .ref st])), (rm, .inr (5, [.ref lk, .ref th, .ref pl, .ref gm, .int 0, .int 0, .int 0, .int (-1), .int 1, .int 0, .int 0, .int 0]))] [] [])) (va_Qi (fun (r : Int32) (_ : Unit) => r = 0) (fun (_ : Unit) (_ : State) => True) (va_A [] sz)) (vx_X (fun (_ : Unit) => True) (fun (E : String) (_ : Unit) (_ : State) => E = "java/lang/IndexOutOfBoundsException") (va_A [] sz)) 1 6 (va_A [] sz) := by
  refine vx_ofW (cc := cX6_repair) (maxL := 3) (ret := (some .int)) (by decide) rfl ?_
  intro p e s m args below meth c s₁ B hml hnt hv
  obtain ⟨rfl, hsz, hR0, hP, hK, hD0, hN, hH, hX0⟩ := hv
  have hx := B.exec
  have hb := B.bytes
  have hr := B.returns
  have hts := atoms_spec (ws := wsX6_repair) B.pre
  have hown : s.vm.findClass RX6 = some m.cls := findClass_of_methodNamed B.named
  have hlocks := B.notSynchronized
  subst hsz
  have hD := hD0.self (sz := s.heap.size)
  have hAr := zx_A hX0 hR0
  generalize hAe : va_A [] s.heap.size = A at hD hAr hH ⊢
  have hA : ∀ q : Nat, s.heap.size ≤ q → A q := fun q h => by rw [← hAe]; exact Or.inr h
  have hS : va_S A s.heap s.heap [] := va_S.rf
  have hl := lv_entry ([.ref x, .int x0]) (n := 3) (Nat.le_of_ble_eq_true rfl)
  rw [lg_entry_eq]
  generalize (lg_sl ([.ref x, .int x0]) ++ List.replicate (3 - (lg_sl ([.ref x, .int x0])).length) Slot.unset).toArray = ls at hl ⊢
  have hl : lv_has ls 3 [(0, .ref x), (1, .int x0)] := hl
  refine lv_aload_n hx hb dX6_repair_0 rfl (lv_at hl 0 rfl) ?_
  refine va_get (D := (dC, dI)) (ci := 8) (v := .ref rm) (C := RX6) (T := TX6) (N := 3) hx hb hts zi_X6_repair_X6 hown hK hR0 0 rfl rfl 0 (by decide) (hts (.fieldLink RX6 12 "LockRooms" "room" "LLockRooms$Room;") (by decide +kernel)) (fun _ h9 => h9) rfl dX6_repair_1 ?_
  refine lv_iload_n hx hb dX6_repair_4 rfl (lv_at hl 1 rfl) ?_
  have hPr := (hR0).sub (ws' := [(rm, .inr (5, [.ref lk, .ref th, .ref pl, .ref gm, .int 0, .int 0, .int 0, .int (-1), .int 1, .int 0, .int 0, .int 0]))]) [1] rfl
  have hPc := hP.sub (ws' := []) [] rfl
  have hDc := hD.sub (ws' := []) [] (by decide) rfl
  have hKc := hK.sub (tys' := []) [] rfl
  have hFc := va_free (wc := []) hD hS hA [] rfl
  refine va_calli (va_runV (As := [.int x0]) (rest := []) ⟨hx, hb, hml, hown, hts⟩ (cz_hasLock l dC dI ed s.heap.size rm lk th pl gm x0) (cwV 1 hts gX6_repair_X3_hasLock rfl rfl rfl (by decide +kernel) ⟨Nat.le_of_ble_eq_true rfl, Nat.le_of_ble_eq_true rfl⟩) ⟨zb_blind, va_recv hK hR0 (ci := 5) (q0 := 1) rfl rfl, fun U hU hW => ⟨rfl, zb_mk hU hW hPr hPc hKc hDc hN hH hS hFc zx_e⟩⟩ rfl rfl hl.1 rfl (lv_room (Nat.le_of_ble_eq_true rfl)) dX6_repair_5 ⟨Nat.le_of_ble_eq_true rfl, Nat.le_of_ble_eq_true rfl⟩) hS (fun q _ h => hFc q h) hFc (fun r2 u t H1 locs ht hvm hw hB hz1 hk1 hS => ?_)
  obtain rfl : r2 = 0 := hw
  have hP := zo_K hP hk1
  refine lv_if_ne (tgt := 21) hx hb dX6_repair_8 (by decide) (fun h => absurd h (by decide)) (fun _ => ?_)
  obtain ⟨sa, hsa⟩ := hN.2.2.2.1 ("LockRooms", 66, "there is no such lock") (List.mem_of_getElem? (i := 2) rfl)
  exact vx_throwS (A := A) (cls := "java/lang/IndexOutOfBoundsException") (names := ["java/lang/RuntimeException", "java/lang/Exception"]) hx hb htr hown (by decide +kernel) (by decide +kernel) (hts (.classLink RX6 64 "java/lang/IndexOutOfBoundsException") (by decide +kernel)) (hts (.initialized "java/lang/IndexOutOfBoundsException") (by decide +kernel)) hsa (vx_hat (B := zTB "java/lang/IndexOutOfBoundsException") (fun w hw => hts w (zf_X6_repair_68 w hw)) zg_68 (zt_B (by decide) hN)) zh_68 hH.1 hH.2.1 hS (hl.1.trans hml.symm) dX6_repair_11 dX6_repair_14 dX6_repair_15 dX6_repair_17 dX6_repair_20 (fun x h => (hnt x h).elim) (Nat.le_of_ble_eq_true rfl) (Nat.le_of_ble_eq_true rfl) (Nat.le_of_ble_eq_true rfl) (Nat.le_of_ble_eq_true rfl) hlocks (fun t hvm hz hk => ⟨(), trivial, rfl, Nat.le_trans hS.1 hz, fun q h1 h2 => (hk q (Nat.lt_of_lt_of_le h1 hS.1)).trans (hS.2.1 q h1 h2)⟩) hS.2.2 (Nat.le_of_ble_eq_true rfl) (Nat.le_of_ble_eq_true rfl)

set_option maxRecDepth 20000 in
theorem zi_X6_put_X6 : ∀ w ∈ u_ws RX6 TX6 3, w ∈ wsX6_put := by decide +kernel
theorem zf_X6_put_68 : ∀ w ∈ (vx_atS RX6 68 "java/lang/IndexOutOfBoundsException" ["java/lang/RuntimeException", "java/lang/Exception"]).filter goodWord, w ∈ wsX6_put := fun _ h => List.mem_cons_of_mem _ (List.mem_append_left _ (List.mem_append_right _ h))
set_option maxHeartbeats 4000000 in
set_option maxRecDepth 100000 in
theorem cz_X6_put (l : Launch) (dC : Nat → ClassId) (dI : Nat → Nat → Nat) (ed sz : Nat) (x : Nat) (rm : Nat) (tr : Nat) (st : Nat) (lk : Nat) (th : Nat) (pl : Nat) (gm : Nat) (x0 : Int32) (htr : l.stackTraces = false) : vx_Met l yX6_put wsX6_put ({ frames := 6, cells := 1, slots := 6, locals := 82 } : Jvm.Room) (va_Pc [.ref x, .int x0] (zB dC dI ed sz [(x, .inr (8, [.ref rm, .ref tr, .ref st])), (rm, .inr (5, [.ref lk, .ref th, .ref pl, .ref gm, .int 0, .int 0, .int 0, .int (-1), .int 1, .int 0, .int 0, .int 0]))] [] [])) (va_Qi (fun (r : Int32) (_ : Unit) => r = 0) (fun (_ : Unit) (_ : State) => True) (va_A [] sz)) (vx_X (fun (_ : Unit) => True) (fun (E : String) (_ : Unit) (_ : State) => E = "java/lang/IndexOutOfBoundsException") (va_A [] sz)) 1 6 (va_A [] sz) := by
  refine vx_ofW (cc := cX6_put) (maxL := 4) (ret := (some .int)) (by decide) rfl ?_
  intro p e s m args below meth c s₁ B hml hnt hv
  obtain ⟨rfl, hsz, hR0, hP, hK, hD0, hN, hH, hX0⟩ := hv
  have hx := B.exec
  have hb := B.bytes
  have hr := B.returns
  have hts := atoms_spec (ws := wsX6_put) B.pre
  have hown : s.vm.findClass RX6 = some m.cls := findClass_of_methodNamed B.named
  have hlocks := B.notSynchronized
  subst hsz
  have hD := hD0.self (sz := s.heap.size)
  have hAr := zx_A hX0 hR0
  generalize hAe : va_A [] s.heap.size = A at hD hAr hH ⊢
  have hA : ∀ q : Nat, s.heap.size ≤ q → A q := fun q h => by rw [← hAe]; exact Or.inr h
  have hS : va_S A s.heap s.heap [] := va_S.rf
  have hl := lv_entry ([.ref x, .int x0]) (n := 4) (Nat.le_of_ble_eq_true rfl)
  rw [lg_entry_eq]
  generalize (lg_sl ([.ref x, .int x0]) ++ List.replicate (4 - (lg_sl ([.ref x, .int x0])).length) Slot.unset).toArray = ls at hl ⊢
  have hl : lv_has ls 4 [(0, .ref x), (1, .int x0)] := hl
  refine lv_aload_n hx hb dX6_put_0 rfl (lv_at hl 0 rfl) ?_
  refine va_get (D := (dC, dI)) (ci := 8) (v := .ref rm) (C := RX6) (T := TX6) (N := 3) hx hb hts zi_X6_put_X6 hown hK hR0 0 rfl rfl 0 (by decide) (hts (.fieldLink RX6 12 "LockRooms" "room" "LLockRooms$Room;") (by decide +kernel)) (fun _ h9 => h9) rfl dX6_put_1 ?_
  refine lv_iload_n hx hb dX6_put_4 rfl (lv_at hl 1 rfl) ?_
  have hPr := (hR0).sub (ws' := [(rm, .inr (5, [.ref lk, .ref th, .ref pl, .ref gm, .int 0, .int 0, .int 0, .int (-1), .int 1, .int 0, .int 0, .int 0]))]) [1] rfl
  have hPc := hP.sub (ws' := []) [] rfl
  have hDc := hD.sub (ws' := []) [] (by decide) rfl
  have hKc := hK.sub (tys' := []) [] rfl
  have hFc := va_free (wc := []) hD hS hA [] rfl
  refine va_calli (va_runV (As := [.int x0]) (rest := []) ⟨hx, hb, hml, hown, hts⟩ (cz_hasThing l dC dI ed s.heap.size rm lk th pl gm x0) (cwV 1 hts gX6_put_X3_hasThing rfl rfl rfl (by decide +kernel) ⟨Nat.le_of_ble_eq_true rfl, Nat.le_of_ble_eq_true rfl⟩) ⟨zb_blind, va_recv hK hR0 (ci := 5) (q0 := 1) rfl rfl, fun U hU hW => ⟨rfl, zb_mk hU hW hPr hPc hKc hDc hN hH hS hFc zx_e⟩⟩ rfl rfl hl.1 rfl (lv_room (Nat.le_of_ble_eq_true rfl)) dX6_put_5 ⟨Nat.le_of_ble_eq_true rfl, Nat.le_of_ble_eq_true rfl⟩) hS (fun q _ h => hFc q h) hFc (fun r2 u t H1 locs ht hvm hw hB hz1 hk1 hS => ?_)
  obtain rfl : r2 = 0 := hw
  have hP := zo_K hP hk1
  refine lv_if_ne (tgt := 21) hx hb dX6_put_8 (by decide) (fun h => absurd h (by decide)) (fun _ => ?_)
  obtain ⟨sa, hsa⟩ := hN.2.2.2.1 ("LockRooms", 146, "there is no such thing") (List.mem_of_getElem? (i := 12) rfl)
  exact vx_throwS (A := A) (cls := "java/lang/IndexOutOfBoundsException") (names := ["java/lang/RuntimeException", "java/lang/Exception"]) hx hb htr hown (by decide +kernel) (by decide +kernel) (hts (.classLink RX6 64 "java/lang/IndexOutOfBoundsException") (by decide +kernel)) (hts (.initialized "java/lang/IndexOutOfBoundsException") (by decide +kernel)) hsa (vx_hat (B := zTB "java/lang/IndexOutOfBoundsException") (fun w hw => hts w (zf_X6_put_68 w hw)) zg_68 (zt_B (by decide) hN)) zh_68 hH.1 hH.2.1 hS (hl.1.trans hml.symm) dX6_put_11 dX6_put_14 dX6_put_15 dX6_put_17 dX6_put_20 (fun x h => (hnt x h).elim) (Nat.le_of_ble_eq_true rfl) (Nat.le_of_ble_eq_true rfl) (Nat.le_of_ble_eq_true rfl) (Nat.le_of_ble_eq_true rfl) hlocks (fun t hvm hz hk => ⟨(), trivial, rfl, Nat.le_trans hS.1 hz, fun q h1 h2 => (hk q (Nat.lt_of_lt_of_le h1 hS.1)).trans (hS.2.1 q h1 h2)⟩) hS.2.2 (Nat.le_of_ble_eq_true rfl) (Nat.le_of_ble_eq_true rfl)

set_option maxRecDepth 20000 in
theorem zi_X6_shut_X6 : ∀ w ∈ u_ws RX6 TX6 3, w ∈ wsX6_shut := by decide +kernel
theorem zf_X6_shut_68 : ∀ w ∈ (vx_atS RX6 68 "java/lang/IndexOutOfBoundsException" ["java/lang/RuntimeException", "java/lang/Exception"]).filter goodWord, w ∈ wsX6_shut := fun _ h => List.mem_cons_of_mem _ (List.mem_append_left _ (List.mem_append_right _ h))
set_option maxHeartbeats 4000000 in
set_option maxRecDepth 100000 in
theorem cz_X6_shut (l : Launch) (dC : Nat → ClassId) (dI : Nat → Nat → Nat) (ed sz : Nat) (x : Nat) (rm : Nat) (tr : Nat) (st : Nat) (lk : Nat) (th : Nat) (pl : Nat) (gm : Nat) (x0 : Int32) (htr : l.stackTraces = false) : vx_Met l yX6_shut wsX6_shut ({ frames := 6, cells := 1, slots := 6, locals := 82 } : Jvm.Room) (va_Pc [.ref x, .int x0] (zB dC dI ed sz [(x, .inr (8, [.ref rm, .ref tr, .ref st])), (rm, .inr (5, [.ref lk, .ref th, .ref pl, .ref gm, .int 0, .int 0, .int 0, .int (-1), .int 1, .int 0, .int 0, .int 0]))] [] [])) (va_Qi (fun (r : Int32) (_ : Unit) => r = 0) (fun (_ : Unit) (_ : State) => True) (va_A [] sz)) (vx_X (fun (_ : Unit) => True) (fun (E : String) (_ : Unit) (_ : State) => E = "java/lang/IndexOutOfBoundsException") (va_A [] sz)) 1 6 (va_A [] sz) := by
  refine vx_ofW (cc := cX6_shut) (maxL := 5) (ret := (some .int)) (by decide) rfl ?_
  intro p e s m args below meth c s₁ B hml hnt hv
  obtain ⟨rfl, hsz, hR0, hP, hK, hD0, hN, hH, hX0⟩ := hv
  have hx := B.exec
  have hb := B.bytes
  have hr := B.returns
  have hts := atoms_spec (ws := wsX6_shut) B.pre
  have hown : s.vm.findClass RX6 = some m.cls := findClass_of_methodNamed B.named
  have hlocks := B.notSynchronized
  subst hsz
  have hD := hD0.self (sz := s.heap.size)
  have hAr := zx_A hX0 hR0
  generalize hAe : va_A [] s.heap.size = A at hD hAr hH ⊢
  have hA : ∀ q : Nat, s.heap.size ≤ q → A q := fun q h => by rw [← hAe]; exact Or.inr h
  have hS : va_S A s.heap s.heap [] := va_S.rf
  have hl := lv_entry ([.ref x, .int x0]) (n := 5) (Nat.le_of_ble_eq_true rfl)
  rw [lg_entry_eq]
  generalize (lg_sl ([.ref x, .int x0]) ++ List.replicate (5 - (lg_sl ([.ref x, .int x0])).length) Slot.unset).toArray = ls at hl ⊢
  have hl : lv_has ls 5 [(0, .ref x), (1, .int x0)] := hl
  refine lv_aload_n hx hb dX6_shut_0 rfl (lv_at hl 0 rfl) ?_
  refine va_get (D := (dC, dI)) (ci := 8) (v := .ref rm) (C := RX6) (T := TX6) (N := 3) hx hb hts zi_X6_shut_X6 hown hK hR0 0 rfl rfl 0 (by decide) (hts (.fieldLink RX6 12 "LockRooms" "room" "LLockRooms$Room;") (by decide +kernel)) (fun _ h9 => h9) rfl dX6_shut_1 ?_
  refine lv_iload_n hx hb dX6_shut_4 rfl (lv_at hl 1 rfl) ?_
  have hPr := (hR0).sub (ws' := [(rm, .inr (5, [.ref lk, .ref th, .ref pl, .ref gm, .int 0, .int 0, .int 0, .int (-1), .int 1, .int 0, .int 0, .int 0]))]) [1] rfl
  have hPc := hP.sub (ws' := []) [] rfl
  have hDc := hD.sub (ws' := []) [] (by decide) rfl
  have hKc := hK.sub (tys' := []) [] rfl
  have hFc := va_free (wc := []) hD hS hA [] rfl
  refine va_calli (va_runV (As := [.int x0]) (rest := []) ⟨hx, hb, hml, hown, hts⟩ (cz_hasLock l dC dI ed s.heap.size rm lk th pl gm x0) (cwV 1 hts gX6_shut_X3_hasLock rfl rfl rfl (by decide +kernel) ⟨Nat.le_of_ble_eq_true rfl, Nat.le_of_ble_eq_true rfl⟩) ⟨zb_blind, va_recv hK hR0 (ci := 5) (q0 := 1) rfl rfl, fun U hU hW => ⟨rfl, zb_mk hU hW hPr hPc hKc hDc hN hH hS hFc zx_e⟩⟩ rfl rfl hl.1 rfl (lv_room (Nat.le_of_ble_eq_true rfl)) dX6_shut_5 ⟨Nat.le_of_ble_eq_true rfl, Nat.le_of_ble_eq_true rfl⟩) hS (fun q _ h => hFc q h) hFc (fun r2 u t H1 locs ht hvm hw hB hz1 hk1 hS => ?_)
  obtain rfl : r2 = 0 := hw
  have hP := zo_K hP hk1
  refine lv_if_ne (tgt := 21) hx hb dX6_shut_8 (by decide) (fun h => absurd h (by decide)) (fun _ => ?_)
  obtain ⟨sa, hsa⟩ := hN.2.2.2.1 ("LockRooms", 66, "there is no such lock") (List.mem_of_getElem? (i := 2) rfl)
  exact vx_throwS (A := A) (cls := "java/lang/IndexOutOfBoundsException") (names := ["java/lang/RuntimeException", "java/lang/Exception"]) hx hb htr hown (by decide +kernel) (by decide +kernel) (hts (.classLink RX6 64 "java/lang/IndexOutOfBoundsException") (by decide +kernel)) (hts (.initialized "java/lang/IndexOutOfBoundsException") (by decide +kernel)) hsa (vx_hat (B := zTB "java/lang/IndexOutOfBoundsException") (fun w hw => hts w (zf_X6_shut_68 w hw)) zg_68 (zt_B (by decide) hN)) zh_68 hH.1 hH.2.1 hS (hl.1.trans hml.symm) dX6_shut_11 dX6_shut_14 dX6_shut_15 dX6_shut_17 dX6_shut_20 (fun x h => (hnt x h).elim) (Nat.le_of_ble_eq_true rfl) (Nat.le_of_ble_eq_true rfl) (Nat.le_of_ble_eq_true rfl) (Nat.le_of_ble_eq_true rfl) hlocks (fun t hvm hz hk => ⟨(), trivial, rfl, Nat.le_trans hS.1 hz, fun q h1 h2 => (hk q (Nat.lt_of_lt_of_le h1 hS.1)).trans (hS.2.1 q h1 h2)⟩) hS.2.2 (Nat.le_of_ble_eq_true rfl) (Nat.le_of_ble_eq_true rfl)

set_option maxRecDepth 20000 in
theorem zi_X6_ofLock_X6 : ∀ w ∈ u_ws RX6 TX6 3, w ∈ wsX6_ofLock := by decide +kernel
theorem zf_X6_ofLock_68 : ∀ w ∈ (vx_atS RX6 68 "java/lang/IndexOutOfBoundsException" ["java/lang/RuntimeException", "java/lang/Exception"]).filter goodWord, w ∈ wsX6_ofLock := fun _ h => List.mem_cons_of_mem _ (List.mem_append_left _ (List.mem_append_right _ h))
set_option maxHeartbeats 4000000 in
set_option maxRecDepth 100000 in
theorem cz_X6_ofLock (l : Launch) (dC : Nat → ClassId) (dI : Nat → Nat → Nat) (ed sz : Nat) (x : Nat) (rm : Nat) (tr : Nat) (st : Nat) (lk : Nat) (th : Nat) (pl : Nat) (gm : Nat) (x0 : Int32) (x1 : Int32) (htr : l.stackTraces = false) : vx_Met l yX6_ofLock wsX6_ofLock ({ frames := 6, cells := 1, slots := 6, locals := 82 } : Jvm.Room) (va_Pc [.ref x, .int x0, .int x1] (zB dC dI ed sz [(x, .inr (8, [.ref rm, .ref tr, .ref st])), (rm, .inr (5, [.ref lk, .ref th, .ref pl, .ref gm, .int 0, .int 0, .int 0, .int (-1), .int 1, .int 0, .int 0, .int 0]))] [] [])) (va_Qi (fun (r : Int32) (_ : Unit) => r = 0) (fun (_ : Unit) (_ : State) => True) (va_A [] sz)) (vx_X (fun (_ : Unit) => True) (fun (E : String) (_ : Unit) (_ : State) => E = "java/lang/IndexOutOfBoundsException") (va_A [] sz)) 1 6 (va_A [] sz) := by
  refine vx_ofW (cc := cX6_ofLock) (maxL := 3) (ret := (some .int)) (by decide) rfl ?_
  intro p e s m args below meth c s₁ B hml hnt hv
  obtain ⟨rfl, hsz, hR0, hP, hK, hD0, hN, hH, hX0⟩ := hv
  have hx := B.exec
  have hb := B.bytes
  have hr := B.returns
  have hts := atoms_spec (ws := wsX6_ofLock) B.pre
  have hown : s.vm.findClass RX6 = some m.cls := findClass_of_methodNamed B.named
  have hlocks := B.notSynchronized
  subst hsz
  have hD := hD0.self (sz := s.heap.size)
  have hAr := zx_A hX0 hR0
  generalize hAe : va_A [] s.heap.size = A at hD hAr hH ⊢
  have hA : ∀ q : Nat, s.heap.size ≤ q → A q := fun q h => by rw [← hAe]; exact Or.inr h
  have hS : va_S A s.heap s.heap [] := va_S.rf
  have hl := lv_entry ([.ref x, .int x0, .int x1]) (n := 3) (Nat.le_of_ble_eq_true rfl)
  rw [lg_entry_eq]
  generalize (lg_sl ([.ref x, .int x0, .int x1]) ++ List.replicate (3 - (lg_sl ([.ref x, .int x0, .int x1])).length) Slot.unset).toArray = ls at hl ⊢
  have hl : lv_has ls 3 [(0, .ref x), (1, .int x0), (2, .int x1)] := hl
  refine lv_aload_n hx hb dX6_ofLock_0 rfl (lv_at hl 0 rfl) ?_
  refine va_get (D := (dC, dI)) (ci := 8) (v := .ref rm) (C := RX6) (T := TX6) (N := 3) hx hb hts zi_X6_ofLock_X6 hown hK hR0 0 rfl rfl 0 (by decide) (hts (.fieldLink RX6 12 "LockRooms" "room" "LLockRooms$Room;") (by decide +kernel)) (fun _ h9 => h9) rfl dX6_ofLock_1 ?_
  refine lv_iload_n hx hb dX6_ofLock_4 rfl (lv_at hl 1 rfl) ?_
  have hPr := (hR0).sub (ws' := [(rm, .inr (5, [.ref lk, .ref th, .ref pl, .ref gm, .int 0, .int 0, .int 0, .int (-1), .int 1, .int 0, .int 0, .int 0]))]) [1] rfl
  have hPc := hP.sub (ws' := []) [] rfl
  have hDc := hD.sub (ws' := []) [] (by decide) rfl
  have hKc := hK.sub (tys' := []) [] rfl
  have hFc := va_free (wc := []) hD hS hA [] rfl
  refine va_calli (va_runV (As := [.int x0]) (rest := []) ⟨hx, hb, hml, hown, hts⟩ (cz_hasLock l dC dI ed s.heap.size rm lk th pl gm x0) (cwV 1 hts gX6_ofLock_X3_hasLock rfl rfl rfl (by decide +kernel) ⟨Nat.le_of_ble_eq_true rfl, Nat.le_of_ble_eq_true rfl⟩) ⟨zb_blind, va_recv hK hR0 (ci := 5) (q0 := 1) rfl rfl, fun U hU hW => ⟨rfl, zb_mk hU hW hPr hPc hKc hDc hN hH hS hFc zx_e⟩⟩ rfl rfl hl.1 rfl (lv_room (Nat.le_of_ble_eq_true rfl)) dX6_ofLock_5 ⟨Nat.le_of_ble_eq_true rfl, Nat.le_of_ble_eq_true rfl⟩) hS (fun q _ h => hFc q h) hFc (fun r2 u t H1 locs ht hvm hw hB hz1 hk1 hS => ?_)
  obtain rfl : r2 = 0 := hw
  have hP := zo_K hP hk1
  refine lv_if_ne (tgt := 21) hx hb dX6_ofLock_8 (by decide) (fun h => absurd h (by decide)) (fun _ => ?_)
  obtain ⟨sa, hsa⟩ := hN.2.2.2.1 ("LockRooms", 66, "there is no such lock") (List.mem_of_getElem? (i := 2) rfl)
  exact vx_throwS (A := A) (cls := "java/lang/IndexOutOfBoundsException") (names := ["java/lang/RuntimeException", "java/lang/Exception"]) hx hb htr hown (by decide +kernel) (by decide +kernel) (hts (.classLink RX6 64 "java/lang/IndexOutOfBoundsException") (by decide +kernel)) (hts (.initialized "java/lang/IndexOutOfBoundsException") (by decide +kernel)) hsa (vx_hat (B := zTB "java/lang/IndexOutOfBoundsException") (fun w hw => hts w (zf_X6_ofLock_68 w hw)) zg_68 (zt_B (by decide) hN)) zh_68 hH.1 hH.2.1 hS (hl.1.trans hml.symm) dX6_ofLock_11 dX6_ofLock_14 dX6_ofLock_15 dX6_ofLock_17 dX6_ofLock_20 (fun x h => (hnt x h).elim) (Nat.le_of_ble_eq_true rfl) (Nat.le_of_ble_eq_true rfl) (Nat.le_of_ble_eq_true rfl) (Nat.le_of_ble_eq_true rfl) hlocks (fun t hvm hz hk => ⟨(), trivial, rfl, Nat.le_trans hS.1 hz, fun q h1 h2 => (hk q (Nat.lt_of_lt_of_le h1 hS.1)).trans (hS.2.1 q h1 h2)⟩) hS.2.2 (Nat.le_of_ble_eq_true rfl) (Nat.le_of_ble_eq_true rfl)

set_option maxRecDepth 20000 in
theorem zi_X6_ofThing_X6 : ∀ w ∈ u_ws RX6 TX6 3, w ∈ wsX6_ofThing := by decide +kernel
theorem zf_X6_ofThing_68 : ∀ w ∈ (vx_atS RX6 68 "java/lang/IndexOutOfBoundsException" ["java/lang/RuntimeException", "java/lang/Exception"]).filter goodWord, w ∈ wsX6_ofThing := fun _ h => List.mem_cons_of_mem _ (List.mem_append_left _ (List.mem_append_right _ h))
set_option maxHeartbeats 4000000 in
set_option maxRecDepth 100000 in
theorem cz_X6_ofThing (l : Launch) (dC : Nat → ClassId) (dI : Nat → Nat → Nat) (ed sz : Nat) (x : Nat) (rm : Nat) (tr : Nat) (st : Nat) (lk : Nat) (th : Nat) (pl : Nat) (gm : Nat) (x0 : Int32) (x1 : Int32) (htr : l.stackTraces = false) : vx_Met l yX6_ofThing wsX6_ofThing ({ frames := 6, cells := 1, slots := 6, locals := 82 } : Jvm.Room) (va_Pc [.ref x, .int x0, .int x1] (zB dC dI ed sz [(x, .inr (8, [.ref rm, .ref tr, .ref st])), (rm, .inr (5, [.ref lk, .ref th, .ref pl, .ref gm, .int 0, .int 0, .int 0, .int (-1), .int 1, .int 0, .int 0, .int 0]))] [] [])) (va_Qi (fun (r : Int32) (_ : Unit) => r = 0) (fun (_ : Unit) (_ : State) => True) (va_A [] sz)) (vx_X (fun (_ : Unit) => True) (fun (E : String) (_ : Unit) (_ : State) => E = "java/lang/IndexOutOfBoundsException") (va_A [] sz)) 1 6 (va_A [] sz) := by
  refine vx_ofW (cc := cX6_ofThing) (maxL := 3) (ret := (some .int)) (by decide) rfl ?_
  intro p e s m args below meth c s₁ B hml hnt hv
  obtain ⟨rfl, hsz, hR0, hP, hK, hD0, hN, hH, hX0⟩ := hv
  have hx := B.exec
  have hb := B.bytes
  have hr := B.returns
  have hts := atoms_spec (ws := wsX6_ofThing) B.pre
  have hown : s.vm.findClass RX6 = some m.cls := findClass_of_methodNamed B.named
  have hlocks := B.notSynchronized
  subst hsz
  have hD := hD0.self (sz := s.heap.size)
  have hAr := zx_A hX0 hR0
  generalize hAe : va_A [] s.heap.size = A at hD hAr hH ⊢
  have hA : ∀ q : Nat, s.heap.size ≤ q → A q := fun q h => by rw [← hAe]; exact Or.inr h
  have hS : va_S A s.heap s.heap [] := va_S.rf
  have hl := lv_entry ([.ref x, .int x0, .int x1]) (n := 3) (Nat.le_of_ble_eq_true rfl)
  rw [lg_entry_eq]
  generalize (lg_sl ([.ref x, .int x0, .int x1]) ++ List.replicate (3 - (lg_sl ([.ref x, .int x0, .int x1])).length) Slot.unset).toArray = ls at hl ⊢
  have hl : lv_has ls 3 [(0, .ref x), (1, .int x0), (2, .int x1)] := hl
  refine lv_aload_n hx hb dX6_ofThing_0 rfl (lv_at hl 0 rfl) ?_
  refine va_get (D := (dC, dI)) (ci := 8) (v := .ref rm) (C := RX6) (T := TX6) (N := 3) hx hb hts zi_X6_ofThing_X6 hown hK hR0 0 rfl rfl 0 (by decide) (hts (.fieldLink RX6 12 "LockRooms" "room" "LLockRooms$Room;") (by decide +kernel)) (fun _ h9 => h9) rfl dX6_ofThing_1 ?_
  refine lv_iload_n hx hb dX6_ofThing_4 rfl (lv_at hl 1 rfl) ?_
  have hPr := (hR0).sub (ws' := [(rm, .inr (5, [.ref lk, .ref th, .ref pl, .ref gm, .int 0, .int 0, .int 0, .int (-1), .int 1, .int 0, .int 0, .int 0]))]) [1] rfl
  have hPc := hP.sub (ws' := []) [] rfl
  have hDc := hD.sub (ws' := []) [] (by decide) rfl
  have hKc := hK.sub (tys' := []) [] rfl
  have hFc := va_free (wc := []) hD hS hA [] rfl
  refine va_calli (va_runV (As := [.int x0]) (rest := []) ⟨hx, hb, hml, hown, hts⟩ (cz_hasThing l dC dI ed s.heap.size rm lk th pl gm x0) (cwV 1 hts gX6_ofThing_X3_hasThing rfl rfl rfl (by decide +kernel) ⟨Nat.le_of_ble_eq_true rfl, Nat.le_of_ble_eq_true rfl⟩) ⟨zb_blind, va_recv hK hR0 (ci := 5) (q0 := 1) rfl rfl, fun U hU hW => ⟨rfl, zb_mk hU hW hPr hPc hKc hDc hN hH hS hFc zx_e⟩⟩ rfl rfl hl.1 rfl (lv_room (Nat.le_of_ble_eq_true rfl)) dX6_ofThing_5 ⟨Nat.le_of_ble_eq_true rfl, Nat.le_of_ble_eq_true rfl⟩) hS (fun q _ h => hFc q h) hFc (fun r2 u t H1 locs ht hvm hw hB hz1 hk1 hS => ?_)
  obtain rfl : r2 = 0 := hw
  have hP := zo_K hP hk1
  refine lv_if_ne (tgt := 21) hx hb dX6_ofThing_8 (by decide) (fun h => absurd h (by decide)) (fun _ => ?_)
  obtain ⟨sa, hsa⟩ := hN.2.2.2.1 ("LockRooms", 146, "there is no such thing") (List.mem_of_getElem? (i := 12) rfl)
  exact vx_throwS (A := A) (cls := "java/lang/IndexOutOfBoundsException") (names := ["java/lang/RuntimeException", "java/lang/Exception"]) hx hb htr hown (by decide +kernel) (by decide +kernel) (hts (.classLink RX6 64 "java/lang/IndexOutOfBoundsException") (by decide +kernel)) (hts (.initialized "java/lang/IndexOutOfBoundsException") (by decide +kernel)) hsa (vx_hat (B := zTB "java/lang/IndexOutOfBoundsException") (fun w hw => hts w (zf_X6_ofThing_68 w hw)) zg_68 (zt_B (by decide) hN)) zh_68 hH.1 hH.2.1 hS (hl.1.trans hml.symm) dX6_ofThing_11 dX6_ofThing_14 dX6_ofThing_15 dX6_ofThing_17 dX6_ofThing_20 (fun x h => (hnt x h).elim) (Nat.le_of_ble_eq_true rfl) (Nat.le_of_ble_eq_true rfl) (Nat.le_of_ble_eq_true rfl) (Nat.le_of_ble_eq_true rfl) hlocks (fun t hvm hz hk => ⟨(), trivial, rfl, Nat.le_trans hS.1 hz, fun q h1 h2 => (hk q (Nat.lt_of_lt_of_le h1 hS.1)).trans (hS.2.1 q h1 h2)⟩) hS.2.2 (Nat.le_of_ble_eq_true rfl) (Nat.le_of_ble_eq_true rfl)

set_option maxRecDepth 20000 in
theorem zi_X6_ofPlayer_X6 : ∀ w ∈ u_ws RX6 TX6 3, w ∈ wsX6_ofPlayer := by decide +kernel
theorem zf_X6_ofPlayer_68 : ∀ w ∈ (vx_atS RX6 68 "java/lang/IndexOutOfBoundsException" ["java/lang/RuntimeException", "java/lang/Exception"]).filter goodWord, w ∈ wsX6_ofPlayer := fun _ h => List.mem_cons_of_mem _ (List.mem_append_left _ (List.mem_append_right _ h))
set_option maxHeartbeats 4000000 in
set_option maxRecDepth 100000 in
theorem cz_X6_ofPlayer (l : Launch) (dC : Nat → ClassId) (dI : Nat → Nat → Nat) (ed sz : Nat) (x : Nat) (rm : Nat) (tr : Nat) (st : Nat) (lk : Nat) (th : Nat) (pl : Nat) (gm : Nat) (x0 : Int32) (x1 : Int32) (htr : l.stackTraces = false) : vx_Met l yX6_ofPlayer wsX6_ofPlayer ({ frames := 6, cells := 1, slots := 6, locals := 82 } : Jvm.Room) (va_Pc [.ref x, .int x0, .int x1] (zB dC dI ed sz [(x, .inr (8, [.ref rm, .ref tr, .ref st])), (rm, .inr (5, [.ref lk, .ref th, .ref pl, .ref gm, .int 0, .int 0, .int 0, .int (-1), .int 1, .int 0, .int 0, .int 0]))] [] [])) (va_Qi (fun (r : Int32) (_ : Unit) => r = 0) (fun (_ : Unit) (_ : State) => True) (va_A [] sz)) (vx_X (fun (_ : Unit) => True) (fun (E : String) (_ : Unit) (_ : State) => E = "java/lang/IndexOutOfBoundsException") (va_A [] sz)) 1 6 (va_A [] sz) := by
  refine vx_ofW (cc := cX6_ofPlayer) (maxL := 3) (ret := (some .int)) (by decide) rfl ?_
  intro p e s m args below meth c s₁ B hml hnt hv
  obtain ⟨rfl, hsz, hR0, hP, hK, hD0, hN, hH, hX0⟩ := hv
  have hx := B.exec
  have hb := B.bytes
  have hr := B.returns
  have hts := atoms_spec (ws := wsX6_ofPlayer) B.pre
  have hown : s.vm.findClass RX6 = some m.cls := findClass_of_methodNamed B.named
  have hlocks := B.notSynchronized
  subst hsz
  have hD := hD0.self (sz := s.heap.size)
  have hAr := zx_A hX0 hR0
  generalize hAe : va_A [] s.heap.size = A at hD hAr hH ⊢
  have hA : ∀ q : Nat, s.heap.size ≤ q → A q := fun q h => by rw [← hAe]; exact Or.inr h
  have hS : va_S A s.heap s.heap [] := va_S.rf
  have hl := lv_entry ([.ref x, .int x0, .int x1]) (n := 3) (Nat.le_of_ble_eq_true rfl)
  rw [lg_entry_eq]
  generalize (lg_sl ([.ref x, .int x0, .int x1]) ++ List.replicate (3 - (lg_sl ([.ref x, .int x0, .int x1])).length) Slot.unset).toArray = ls at hl ⊢
  have hl : lv_has ls 3 [(0, .ref x), (1, .int x0), (2, .int x1)] := hl
  refine lv_aload_n hx hb dX6_ofPlayer_0 rfl (lv_at hl 0 rfl) ?_
  refine va_get (D := (dC, dI)) (ci := 8) (v := .ref rm) (C := RX6) (T := TX6) (N := 3) hx hb hts zi_X6_ofPlayer_X6 hown hK hR0 0 rfl rfl 0 (by decide) (hts (.fieldLink RX6 12 "LockRooms" "room" "LLockRooms$Room;") (by decide +kernel)) (fun _ h9 => h9) rfl dX6_ofPlayer_1 ?_
  refine lv_iload_n hx hb dX6_ofPlayer_4 rfl (lv_at hl 1 rfl) ?_
  have hPr := (hR0).sub (ws' := [(rm, .inr (5, [.ref lk, .ref th, .ref pl, .ref gm, .int 0, .int 0, .int 0, .int (-1), .int 1, .int 0, .int 0, .int 0]))]) [1] rfl
  have hPc := hP.sub (ws' := []) [] rfl
  have hDc := hD.sub (ws' := []) [] (by decide) rfl
  have hKc := hK.sub (tys' := []) [] rfl
  have hFc := va_free (wc := []) hD hS hA [] rfl
  refine va_calli (va_runV (As := [.int x0]) (rest := []) ⟨hx, hb, hml, hown, hts⟩ (cz_hasPlayer l dC dI ed s.heap.size rm lk th pl gm x0) (cwV 1 hts gX6_ofPlayer_X3_hasPlayer rfl rfl rfl (by decide +kernel) ⟨Nat.le_of_ble_eq_true rfl, Nat.le_of_ble_eq_true rfl⟩) ⟨zb_blind, va_recv hK hR0 (ci := 5) (q0 := 1) rfl rfl, fun U hU hW => ⟨rfl, zb_mk hU hW hPr hPc hKc hDc hN hH hS hFc zx_e⟩⟩ rfl rfl hl.1 rfl (lv_room (Nat.le_of_ble_eq_true rfl)) dX6_ofPlayer_5 ⟨Nat.le_of_ble_eq_true rfl, Nat.le_of_ble_eq_true rfl⟩) hS (fun q _ h => hFc q h) hFc (fun r2 u t H1 locs ht hvm hw hB hz1 hk1 hS => ?_)
  obtain rfl : r2 = 0 := hw
  have hP := zo_K hP hk1
  refine lv_if_ne (tgt := 21) hx hb dX6_ofPlayer_8 (by decide) (fun h => absurd h (by decide)) (fun _ => ?_)
  obtain ⟨sa, hsa⟩ := hN.2.2.2.1 ("LockRooms", 220, "there is no such player") (List.mem_of_getElem? (i := 21) rfl)
  exact vx_throwS (A := A) (cls := "java/lang/IndexOutOfBoundsException") (names := ["java/lang/RuntimeException", "java/lang/Exception"]) hx hb htr hown (by decide +kernel) (by decide +kernel) (hts (.classLink RX6 64 "java/lang/IndexOutOfBoundsException") (by decide +kernel)) (hts (.initialized "java/lang/IndexOutOfBoundsException") (by decide +kernel)) hsa (vx_hat (B := zTB "java/lang/IndexOutOfBoundsException") (fun w hw => hts w (zf_X6_ofPlayer_68 w hw)) zg_68 (zt_B (by decide) hN)) zh_68 hH.1 hH.2.1 hS (hl.1.trans hml.symm) dX6_ofPlayer_11 dX6_ofPlayer_14 dX6_ofPlayer_15 dX6_ofPlayer_17 dX6_ofPlayer_20 (fun x h => (hnt x h).elim) (Nat.le_of_ble_eq_true rfl) (Nat.le_of_ble_eq_true rfl) (Nat.le_of_ble_eq_true rfl) (Nat.le_of_ble_eq_true rfl) hlocks (fun t hvm hz hk => ⟨(), trivial, rfl, Nat.le_trans hS.1 hz, fun q h1 h2 => (hk q (Nat.lt_of_lt_of_le h1 hS.1)).trans (hS.2.1 q h1 h2)⟩) hS.2.2 (Nat.le_of_ble_eq_true rfl) (Nat.le_of_ble_eq_true rfl)


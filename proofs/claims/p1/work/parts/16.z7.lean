def zm (x : Int32) : Int32 := if x = 8 then -1 else if x = 11 then -1 else if x = 17 then 1 else 0
theorem zm_19 {x : Int32} (h : ¬ x < 0 ∧ ¬ 18 < x) : x = 0 ∨ x = 1 ∨ x = 2 ∨ x = 3 ∨ x = 4 ∨ x = 5 ∨ x = 6 ∨ x = 7 ∨ x = 8 ∨ x = 9 ∨ x = 10 ∨ x = 11 ∨ x = 12 ∨ x = 13 ∨ x = 14 ∨ x = 15 ∨ x = 16 ∨ x = 17 ∨ x = 18 := by
  obtain ⟨j, hj, rfl⟩ := nI_of2 (M := 18) (n := 18) (by decide) h.1 (Int32.not_lt.mp h.2)
  rcases (show j = 0 ∨ j = 1 ∨ j = 2 ∨ j = 3 ∨ j = 4 ∨ j = 5 ∨ j = 6 ∨ j = 7 ∨ j = 8 ∨ j = 9 ∨ j = 10 ∨ j = 11 ∨ j = 12 ∨ j = 13 ∨ j = 14 ∨ j = 15 ∨ j = 16 ∨ j = 17 ∨ j = 18 by omega) with rfl | rfl | rfl | rfl | rfl | rfl | rfl | rfl | rfl | rfl | rfl | rfl | rfl | rfl | rfl | rfl | rfl | rfl | rfl <;> decide
abbrev zL (x0 x1 x2 : Int32) : Prop := (¬ x0 < 0 ∧ ¬ 4095 < x0) ∧ (x1 &&& (x0 ^^^ (-1))) = 0 ∧ (¬ x2 < 1 ∧ ¬ 60 < x2)

set_option maxRecDepth 20000 in
theorem zi_X6_many_X6 : ∀ w ∈ u_ws RX6 TX6 3, w ∈ wsX6_many := by decide +kernel
theorem zf_X6_many_34 : ∀ w ∈ (vx_atS RX6 34 "java/lang/IllegalArgumentException" ["java/lang/RuntimeException", "java/lang/Exception"]).filter goodWord, w ∈ wsX6_many := fun _ h => List.mem_cons_of_mem _ (List.mem_append_right _ h)
theorem zg_34 : ∀ w ∈ (vx_atS RX6 34 "java/lang/IllegalArgumentException" ["java/lang/RuntimeException", "java/lang/Exception"]).filter (fun w => !goodWord w), w ∈ zTB "java/lang/IllegalArgumentException" := by decide +kernel
theorem zh_34 : ∀ w ∈ Cond.classLink RX6 30 "java/lang/IllegalArgumentException" :: Cond.initialized "java/lang/IllegalArgumentException" :: vx_atS RX6 34 "java/lang/IllegalArgumentException" ["java/lang/RuntimeException", "java/lang/Exception"], vx_ot w = true := by decide +kernel
set_option maxHeartbeats 4000000 in
set_option maxRecDepth 100000 in
theorem cz_X6_many (l : Launch) (dC : Nat → ClassId) (dI : Nat → Nat → Nat) (ed sz : Nat) (x : Nat) (rm : Nat) (tr : Nat) (st : Nat) (lk : Nat) (th : Nat) (pl : Nat) (gm : Nat) (x0 : Int32) (htr : l.stackTraces = false) : vx_Met l yX6_many wsX6_many ({ frames := 6, cells := 1, slots := 6, locals := 82 } : Jvm.Room) (va_Pc [.ref x, .int x0] (zB dC dI ed sz [(x, .inr (8, [.ref rm, .ref tr, .ref st])), (rm, .inr (5, [.ref lk, .ref th, .ref pl, .ref gm, .int 0, .int 0, .int 0, .int (-1), .int 1, .int 0, .int 0, .int 0])), (gm, .inr (2, [.int 0, .int 0, .int 0, .int 0, .int 0, .int (-1), .long 0]))] [] [])) (va_Qi (fun (r : Int32) (_ : Unit) => (¬ x0 < 0 ∧ ¬ 18 < x0) ∧ r = zm x0) (fun (_ : Unit) (_ : State) => True) (va_A [] sz)) (vx_X (fun (_ : Unit) => True) (fun (E : String) (_ : Unit) (_ : State) => E = "java/lang/IllegalArgumentException" ∧ ¬ (¬ x0 < 0 ∧ ¬ 18 < x0)) (va_A [] sz)) 1 6 (va_A [] sz) := by
  refine vx_ofW (cc := cX6_many) (maxL := 2) (ret := (some .int)) (by decide) rfl ?_
  intro p e s m args below meth c s₁ B hml hnt hv
  obtain ⟨rfl, hsz, hR0, hP, hK, hD0, hN, hH, hX0⟩ := hv
  have hx := B.exec
  have hb := B.bytes
  have hr := B.returns
  have hts := atoms_spec (ws := wsX6_many) B.pre
  have hown : s.vm.findClass RX6 = some m.cls := findClass_of_methodNamed B.named
  have hlocks := B.notSynchronized
  subst hsz
  have hD := hD0.self (sz := s.heap.size)
  have hAr := zx_A hX0 hR0
  generalize hAe : va_A [] s.heap.size = A at hD hAr hH ⊢
  have hA : ∀ q : Nat, s.heap.size ≤ q → A q := fun q h => by rw [← hAe]; exact Or.inr h
  have hS : va_S A s.heap s.heap [] := va_S.rf
  have hl := lv_entry ([.ref x, .int x0]) (n := 2) (Nat.le_of_ble_eq_true rfl)
  rw [lg_entry_eq]
  generalize (lg_sl ([.ref x, .int x0]) ++ List.replicate (2 - (lg_sl ([.ref x, .int x0])).length) Slot.unset).toArray = ls at hl ⊢
  have hl : lv_has ls 2 [(0, .ref x), (1, .int x0)] := hl
  refine lv_iload_n hx hb dX6_many_0 rfl (lv_at hl 1 rfl) ?_
  refine lv_iconst (v := 0) hx hb dX6_many_1 (by decide) ?_
  refine lv_bipush (v := 18) hx hb dX6_many_2 (by decide) ?_
  have hPr := (zo_nil : va_P (dC, dI) vwCl [] s.heap)
  have hPc := hP.sub (ws' := []) [] rfl
  have hDc := hD.sub (ws' := []) [] (by decide) rfl
  have hKc := hK.sub (tys' := []) [] rfl
  have hFc := va_free (wc := []) hD hS hA [] rfl
  refine va_calli (va_runS (As := [.int x0, .int 0, .int 18]) (rest := []) ⟨hx, hb, hml, hown, hts⟩ (cz_X6_isWithin l dC dI ed s.heap.size x0 0 18) (va_cwS 3 hts gX6_many_X6_isWithin rfl rfl rfl (by decide +kernel) ⟨Nat.le_of_ble_eq_true rfl, Nat.le_of_ble_eq_true rfl⟩) ⟨zb_blind, fun U hU hW => ⟨rfl, zb_mk hU hW hPr hPc hKc hDc hN hH hS hFc zx_e⟩⟩ rfl rfl hl.1 rfl (lv_room (Nat.le_of_ble_eq_true rfl)) dX6_many_4 ⟨Nat.le_of_ble_eq_true rfl, Nat.le_of_ble_eq_true rfl⟩) hS (fun q _ h => hFc q h) hFc (fun r2 u t H1 locs ht hvm hw hB hz1 hk1 hS => ?_)
  have hP := zo_K hP hk1
  by_cases c3 : (¬ x0 < 0 ∧ ¬ 18 < x0)
  · obtain rfl : r2 = 1 := hw.trans (if_pos c3)
    refine lv_if_ne (tgt := 20) hx hb dX6_many_7 (by decide) (fun _ => ?_) (fun h => absurd h (by decide))
    refine lv_aload_n hx hb dX6_many_20 rfl (lv_at hl 0 rfl) ?_
    refine va_get (D := (dC, dI)) (ci := 8) (v := .ref rm) (C := RX6) (T := TX6) (N := 3) hx hb hts zi_X6_many_X6 hown hK (zo_R hR0 hS hAr) 0 rfl rfl 0 (by decide) (hts (.fieldLink RX6 12 "LockRooms" "room" "LLockRooms$Room;") (by decide +kernel)) (fun _ h9 => h9) rfl dX6_many_21 ?_
    refine lv_iload_n hx hb dX6_many_24 rfl (lv_at hl 1 rfl) ?_
    rcases zm_19 c3 with rfl | rfl | rfl | rfl | rfl | rfl | rfl | rfl | rfl | rfl | rfl | rfl | rfl | rfl | rfl | rfl | rfl | rfl | rfl
    · skip
      have hPr := ((zo_R hR0 hS hAr)).sub (ws' := [(rm, .inr (5, [.ref lk, .ref th, .ref pl, .ref gm, .int 0, .int 0, .int 0, .int (-1), .int 1, .int 0, .int 0, .int 0])), (gm, .inr (2, [.int 0, .int 0, .int 0, .int 0, .int 0, .int (-1), .long 0]))]) [1, 2] rfl
      have hPc := hP.sub (ws' := []) [] rfl
      have hDc := hD.sub (ws' := []) [] (by decide) rfl
      have hKc := hK.sub (tys' := []) [] rfl
      have hFc := va_free (wc := []) hD hS hA [] rfl
      refine va_calli (va_runV (As := [.int 0]) (rest := []) ⟨hx, hb, hml, hown, hts⟩ (cz_tell_0 l dC dI ed H1.size rm lk th pl gm) (cwV 1 hts gX6_many_X3_tell rfl rfl rfl (by decide +kernel) ⟨Nat.le_of_ble_eq_true rfl, Nat.le_of_ble_eq_true rfl⟩) ⟨zb_blind, va_recv hK (zo_R hR0 hS hAr) (ci := 5) (q0 := 1) rfl rfl, fun U hU hW => ⟨rfl, zb_mk hU hW hPr hPc hKc hDc hN hH hS hFc zx_e⟩⟩ rfl rfl hl.1 rfl (lv_room (Nat.le_of_ble_eq_true rfl)) dX6_many_25 ⟨Nat.le_of_ble_eq_true rfl, Nat.le_of_ble_eq_true rfl⟩) hS (fun q _ h => hFc q h) hFc (fun r5 u t H4 locs ht hvm hw hB hz1 hk1 hS => ?_)
      obtain rfl : r5 = 0 := hw
      have hP := zo_K hP hk1
      refine vx_ret ?_
      refine W.widen (k := 1) (n := 6) (Nat.le_of_ble_eq_true rfl) (Nat.le_of_ble_eq_true rfl) ?_
      exact W.iret hx hb hr (fun t ht hW => ⟨⟨0, (), rfl, ⟨by decide, by decide⟩, trivial⟩, hS.F ht⟩) hS.2.2 dX6_many_28
    · skip
      have hPr := ((zo_R hR0 hS hAr)).sub (ws' := [(rm, .inr (5, [.ref lk, .ref th, .ref pl, .ref gm, .int 0, .int 0, .int 0, .int (-1), .int 1, .int 0, .int 0, .int 0])), (gm, .inr (2, [.int 0, .int 0, .int 0, .int 0, .int 0, .int (-1), .long 0]))]) [1, 2] rfl
      have hPc := hP.sub (ws' := []) [] rfl
      have hDc := hD.sub (ws' := []) [] (by decide) rfl
      have hKc := hK.sub (tys' := []) [] rfl
      have hFc := va_free (wc := []) hD hS hA [] rfl
      refine va_calli (va_runV (As := [.int 1]) (rest := []) ⟨hx, hb, hml, hown, hts⟩ (cz_tell_1 l dC dI ed H1.size rm lk th pl gm) (cwV 1 hts gX6_many_X3_tell rfl rfl rfl (by decide +kernel) ⟨Nat.le_of_ble_eq_true rfl, Nat.le_of_ble_eq_true rfl⟩) ⟨zb_blind, va_recv hK (zo_R hR0 hS hAr) (ci := 5) (q0 := 1) rfl rfl, fun U hU hW => ⟨rfl, zb_mk hU hW hPr hPc hKc hDc hN hH hS hFc zx_e⟩⟩ rfl rfl hl.1 rfl (lv_room (Nat.le_of_ble_eq_true rfl)) dX6_many_25 ⟨Nat.le_of_ble_eq_true rfl, Nat.le_of_ble_eq_true rfl⟩) hS (fun q _ h => hFc q h) hFc (fun r7 u t H6 locs ht hvm hw hB hz1 hk1 hS => ?_)
      obtain rfl : r7 = 0 := hw
      have hP := zo_K hP hk1
      refine vx_ret ?_
      refine W.widen (k := 1) (n := 6) (Nat.le_of_ble_eq_true rfl) (Nat.le_of_ble_eq_true rfl) ?_
      exact W.iret hx hb hr (fun t ht hW => ⟨⟨0, (), rfl, ⟨by decide, by decide⟩, trivial⟩, hS.F ht⟩) hS.2.2 dX6_many_28
    · skip
      have hPr := ((zo_R hR0 hS hAr)).sub (ws' := [(rm, .inr (5, [.ref lk, .ref th, .ref pl, .ref gm, .int 0, .int 0, .int 0, .int (-1), .int 1, .int 0, .int 0, .int 0])), (gm, .inr (2, [.int 0, .int 0, .int 0, .int 0, .int 0, .int (-1), .long 0]))]) [1, 2] rfl
      have hPc := hP.sub (ws' := []) [] rfl
      have hDc := hD.sub (ws' := []) [] (by decide) rfl
      have hKc := hK.sub (tys' := []) [] rfl
      have hFc := va_free (wc := []) hD hS hA [] rfl
      refine va_calli (va_runV (As := [.int 2]) (rest := []) ⟨hx, hb, hml, hown, hts⟩ (cz_tell_2 l dC dI ed H1.size rm lk th pl gm) (cwV 1 hts gX6_many_X3_tell rfl rfl rfl (by decide +kernel) ⟨Nat.le_of_ble_eq_true rfl, Nat.le_of_ble_eq_true rfl⟩) ⟨zb_blind, va_recv hK (zo_R hR0 hS hAr) (ci := 5) (q0 := 1) rfl rfl, fun U hU hW => ⟨rfl, zb_mk hU hW hPr hPc hKc hDc hN hH hS hFc zx_e⟩⟩ rfl rfl hl.1 rfl (lv_room (Nat.le_of_ble_eq_true rfl)) dX6_many_25 ⟨Nat.le_of_ble_eq_true rfl, Nat.le_of_ble_eq_true rfl⟩) hS (fun q _ h => hFc q h) hFc (fun r9 u t H8 locs ht hvm hw hB hz1 hk1 hS => ?_)
      obtain rfl : r9 = 0 := hw
      have hP := zo_K hP hk1
      refine vx_ret ?_
      refine W.widen (k := 1) (n := 6) (Nat.le_of_ble_eq_true rfl) (Nat.le_of_ble_eq_true rfl) ?_
      exact W.iret hx hb hr (fun t ht hW => ⟨⟨0, (), rfl, ⟨by decide, by decide⟩, trivial⟩, hS.F ht⟩) hS.2.2 dX6_many_28
    · skip
      have hPr := ((zo_R hR0 hS hAr)).sub (ws' := [(rm, .inr (5, [.ref lk, .ref th, .ref pl, .ref gm, .int 0, .int 0, .int 0, .int (-1), .int 1, .int 0, .int 0, .int 0])), (gm, .inr (2, [.int 0, .int 0, .int 0, .int 0, .int 0, .int (-1), .long 0]))]) [1, 2] rfl
      have hPc := hP.sub (ws' := []) [] rfl
      have hDc := hD.sub (ws' := []) [] (by decide) rfl
      have hKc := hK.sub (tys' := []) [] rfl
      have hFc := va_free (wc := []) hD hS hA [] rfl
      refine va_calli (va_runV (As := [.int 3]) (rest := []) ⟨hx, hb, hml, hown, hts⟩ (cz_tell_3 l dC dI ed H1.size rm lk th pl gm) (cwV 1 hts gX6_many_X3_tell rfl rfl rfl (by decide +kernel) ⟨Nat.le_of_ble_eq_true rfl, Nat.le_of_ble_eq_true rfl⟩) ⟨zb_blind, va_recv hK (zo_R hR0 hS hAr) (ci := 5) (q0 := 1) rfl rfl, fun U hU hW => ⟨rfl, zb_mk hU hW hPr hPc hKc hDc hN hH hS hFc zx_e⟩⟩ rfl rfl hl.1 rfl (lv_room (Nat.le_of_ble_eq_true rfl)) dX6_many_25 ⟨Nat.le_of_ble_eq_true rfl, Nat.le_of_ble_eq_true rfl⟩) hS (fun q _ h => hFc q h) hFc (fun r11 u t H10 locs ht hvm hw hB hz1 hk1 hS => ?_)
      obtain rfl : r11 = 0 := hw
      have hP := zo_K hP hk1
      refine vx_ret ?_
      refine W.widen (k := 1) (n := 6) (Nat.le_of_ble_eq_true rfl) (Nat.le_of_ble_eq_true rfl) ?_
      exact W.iret hx hb hr (fun t ht hW => ⟨⟨0, (), rfl, ⟨by decide, by decide⟩, trivial⟩, hS.F ht⟩) hS.2.2 dX6_many_28
    · skip
      have hPr := ((zo_R hR0 hS hAr)).sub (ws' := [(rm, .inr (5, [.ref lk, .ref th, .ref pl, .ref gm, .int 0, .int 0, .int 0, .int (-1), .int 1, .int 0, .int 0, .int 0])), (gm, .inr (2, [.int 0, .int 0, .int 0, .int 0, .int 0, .int (-1), .long 0]))]) [1, 2] rfl
      have hPc := hP.sub (ws' := []) [] rfl
      have hDc := hD.sub (ws' := []) [] (by decide) rfl
      have hKc := hK.sub (tys' := []) [] rfl
      have hFc := va_free (wc := []) hD hS hA [] rfl
      refine va_calli (va_runV (As := [.int 4]) (rest := []) ⟨hx, hb, hml, hown, hts⟩ (cz_tell_4 l dC dI ed H1.size rm lk th pl gm) (cwV 1 hts gX6_many_X3_tell rfl rfl rfl (by decide +kernel) ⟨Nat.le_of_ble_eq_true rfl, Nat.le_of_ble_eq_true rfl⟩) ⟨zb_blind, va_recv hK (zo_R hR0 hS hAr) (ci := 5) (q0 := 1) rfl rfl, fun U hU hW => ⟨rfl, zb_mk hU hW hPr hPc hKc hDc hN hH hS hFc zx_e⟩⟩ rfl rfl hl.1 rfl (lv_room (Nat.le_of_ble_eq_true rfl)) dX6_many_25 ⟨Nat.le_of_ble_eq_true rfl, Nat.le_of_ble_eq_true rfl⟩) hS (fun q _ h => hFc q h) hFc (fun r13 u t H12 locs ht hvm hw hB hz1 hk1 hS => ?_)
      obtain rfl : r13 = 0 := hw
      have hP := zo_K hP hk1
      refine vx_ret ?_
      refine W.widen (k := 1) (n := 6) (Nat.le_of_ble_eq_true rfl) (Nat.le_of_ble_eq_true rfl) ?_
      exact W.iret hx hb hr (fun t ht hW => ⟨⟨0, (), rfl, ⟨by decide, by decide⟩, trivial⟩, hS.F ht⟩) hS.2.2 dX6_many_28
    · skip
      have hPr := ((zo_R hR0 hS hAr)).sub (ws' := [(rm, .inr (5, [.ref lk, .ref th, .ref pl, .ref gm, .int 0, .int 0, .int 0, .int (-1), .int 1, .int 0, .int 0, .int 0])), (gm, .inr (2, [.int 0, .int 0, .int 0, .int 0, .int 0, .int (-1), .long 0]))]) [1, 2] rfl
      have hPc := hP.sub (ws' := []) [] rfl
      have hDc := hD.sub (ws' := []) [] (by decide) rfl
      have hKc := hK.sub (tys' := []) [] rfl
      have hFc := va_free (wc := []) hD hS hA [] rfl
      refine va_calli (va_runV (As := [.int 5]) (rest := []) ⟨hx, hb, hml, hown, hts⟩ (cz_tell_5 l dC dI ed H1.size rm lk th pl gm) (cwV 1 hts gX6_many_X3_tell rfl rfl rfl (by decide +kernel) ⟨Nat.le_of_ble_eq_true rfl, Nat.le_of_ble_eq_true rfl⟩) ⟨zb_blind, va_recv hK (zo_R hR0 hS hAr) (ci := 5) (q0 := 1) rfl rfl, fun U hU hW => ⟨rfl, zb_mk hU hW hPr hPc hKc hDc hN hH hS hFc zx_e⟩⟩ rfl rfl hl.1 rfl (lv_room (Nat.le_of_ble_eq_true rfl)) dX6_many_25 ⟨Nat.le_of_ble_eq_true rfl, Nat.le_of_ble_eq_true rfl⟩) hS (fun q _ h => hFc q h) hFc (fun r15 u t H14 locs ht hvm hw hB hz1 hk1 hS => ?_)
      obtain rfl : r15 = 0 := hw
      have hP := zo_K hP hk1
      refine vx_ret ?_
      refine W.widen (k := 1) (n := 6) (Nat.le_of_ble_eq_true rfl) (Nat.le_of_ble_eq_true rfl) ?_
      exact W.iret hx hb hr (fun t ht hW => ⟨⟨0, (), rfl, ⟨by decide, by decide⟩, trivial⟩, hS.F ht⟩) hS.2.2 dX6_many_28
    · skip
      have hPr := ((zo_R hR0 hS hAr)).sub (ws' := [(rm, .inr (5, [.ref lk, .ref th, .ref pl, .ref gm, .int 0, .int 0, .int 0, .int (-1), .int 1, .int 0, .int 0, .int 0])), (gm, .inr (2, [.int 0, .int 0, .int 0, .int 0, .int 0, .int (-1), .long 0]))]) [1, 2] rfl
      have hPc := hP.sub (ws' := []) [] rfl
      have hDc := hD.sub (ws' := []) [] (by decide) rfl
      have hKc := hK.sub (tys' := []) [] rfl
      have hFc := va_free (wc := []) hD hS hA [] rfl
      refine va_calli (va_runV (As := [.int 6]) (rest := []) ⟨hx, hb, hml, hown, hts⟩ (cz_tell_6 l dC dI ed H1.size rm lk th pl gm) (cwV 1 hts gX6_many_X3_tell rfl rfl rfl (by decide +kernel) ⟨Nat.le_of_ble_eq_true rfl, Nat.le_of_ble_eq_true rfl⟩) ⟨zb_blind, va_recv hK (zo_R hR0 hS hAr) (ci := 5) (q0 := 1) rfl rfl, fun U hU hW => ⟨rfl, zb_mk hU hW hPr hPc hKc hDc hN hH hS hFc zx_e⟩⟩ rfl rfl hl.1 rfl (lv_room (Nat.le_of_ble_eq_true rfl)) dX6_many_25 ⟨Nat.le_of_ble_eq_true rfl, Nat.le_of_ble_eq_true rfl⟩) hS (fun q _ h => hFc q h) hFc (fun r17 u t H16 locs ht hvm hw hB hz1 hk1 hS => ?_)
      obtain rfl : r17 = 0 := hw
      have hP := zo_K hP hk1
      refine vx_ret ?_
      refine W.widen (k := 1) (n := 6) (Nat.le_of_ble_eq_true rfl) (Nat.le_of_ble_eq_true rfl) ?_
      exact W.iret hx hb hr (fun t ht hW => ⟨⟨0, (), rfl, ⟨by decide, by decide⟩, trivial⟩, hS.F ht⟩) hS.2.2 dX6_many_28
    · skip
      have hPr := ((zo_R hR0 hS hAr)).sub (ws' := [(rm, .inr (5, [.ref lk, .ref th, .ref pl, .ref gm, .int 0, .int 0, .int 0, .int (-1), .int 1, .int 0, .int 0, .int 0])), (gm, .inr (2, [.int 0, .int 0, .int 0, .int 0, .int 0, .int (-1), .long 0]))]) [1, 2] rfl
      have hPc := hP.sub (ws' := []) [] rfl
      have hDc := hD.sub (ws' := []) [] (by decide) rfl
      have hKc := hK.sub (tys' := []) [] rfl
      have hFc := va_free (wc := []) hD hS hA [] rfl
      refine va_calli (va_runV (As := [.int 7]) (rest := []) ⟨hx, hb, hml, hown, hts⟩ (cz_tell_7 l dC dI ed H1.size rm lk th pl gm) (cwV 1 hts gX6_many_X3_tell rfl rfl rfl (by decide +kernel) ⟨Nat.le_of_ble_eq_true rfl, Nat.le_of_ble_eq_true rfl⟩) ⟨zb_blind, va_recv hK (zo_R hR0 hS hAr) (ci := 5) (q0 := 1) rfl rfl, fun U hU hW => ⟨rfl, zb_mk hU hW hPr hPc hKc hDc hN hH hS hFc zx_e⟩⟩ rfl rfl hl.1 rfl (lv_room (Nat.le_of_ble_eq_true rfl)) dX6_many_25 ⟨Nat.le_of_ble_eq_true rfl, Nat.le_of_ble_eq_true rfl⟩) hS (fun q _ h => hFc q h) hFc (fun r19 u t H18 locs ht hvm hw hB hz1 hk1 hS => ?_)
      obtain rfl : r19 = 0 := hw
      have hP := zo_K hP hk1
      refine vx_ret ?_
      refine W.widen (k := 1) (n := 6) (Nat.le_of_ble_eq_true rfl) (Nat.le_of_ble_eq_true rfl) ?_
      exact W.iret hx hb hr (fun t ht hW => ⟨⟨0, (), rfl, ⟨by decide, by decide⟩, trivial⟩, hS.F ht⟩) hS.2.2 dX6_many_28
    · skip
      have hPr := ((zo_R hR0 hS hAr)).sub (ws' := [(rm, .inr (5, [.ref lk, .ref th, .ref pl, .ref gm, .int 0, .int 0, .int 0, .int (-1), .int 1, .int 0, .int 0, .int 0])), (gm, .inr (2, [.int 0, .int 0, .int 0, .int 0, .int 0, .int (-1), .long 0]))]) [1, 2] rfl
      have hPc := hP.sub (ws' := []) [] rfl
      have hDc := hD.sub (ws' := []) [] (by decide) rfl
      have hKc := hK.sub (tys' := []) [] rfl
      have hFc := va_free (wc := []) hD hS hA [] rfl
      refine va_calli (va_runV (As := [.int 8]) (rest := []) ⟨hx, hb, hml, hown, hts⟩ (cz_tell_8 l dC dI ed H1.size rm lk th pl gm) (cwV 1 hts gX6_many_X3_tell rfl rfl rfl (by decide +kernel) ⟨Nat.le_of_ble_eq_true rfl, Nat.le_of_ble_eq_true rfl⟩) ⟨zb_blind, va_recv hK (zo_R hR0 hS hAr) (ci := 5) (q0 := 1) rfl rfl, fun U hU hW => ⟨rfl, zb_mk hU hW hPr hPc hKc hDc hN hH hS hFc zx_e⟩⟩ rfl rfl hl.1 rfl (lv_room (Nat.le_of_ble_eq_true rfl)) dX6_many_25 ⟨Nat.le_of_ble_eq_true rfl, Nat.le_of_ble_eq_true rfl⟩) hS (fun q _ h => hFc q h) hFc (fun r21 u t H20 locs ht hvm hw hB hz1 hk1 hS => ?_)
      obtain rfl : r21 = (-1) := hw
      have hP := zo_K hP hk1
      refine vx_ret ?_
      refine W.widen (k := 1) (n := 6) (Nat.le_of_ble_eq_true rfl) (Nat.le_of_ble_eq_true rfl) ?_
      exact W.iret hx hb hr (fun t ht hW => ⟨⟨(-1), (), rfl, ⟨by decide, by decide⟩, trivial⟩, hS.F ht⟩) hS.2.2 dX6_many_28
    · skip
      have hPr := ((zo_R hR0 hS hAr)).sub (ws' := [(rm, .inr (5, [.ref lk, .ref th, .ref pl, .ref gm, .int 0, .int 0, .int 0, .int (-1), .int 1, .int 0, .int 0, .int 0])), (gm, .inr (2, [.int 0, .int 0, .int 0, .int 0, .int 0, .int (-1), .long 0]))]) [1, 2] rfl
      have hPc := hP.sub (ws' := []) [] rfl
      have hDc := hD.sub (ws' := []) [] (by decide) rfl
      have hKc := hK.sub (tys' := []) [] rfl
      have hFc := va_free (wc := []) hD hS hA [] rfl
      refine va_calli (va_runV (As := [.int 9]) (rest := []) ⟨hx, hb, hml, hown, hts⟩ (cz_tell_9 l dC dI ed H1.size rm lk th pl gm) (cwV 1 hts gX6_many_X3_tell rfl rfl rfl (by decide +kernel) ⟨Nat.le_of_ble_eq_true rfl, Nat.le_of_ble_eq_true rfl⟩) ⟨zb_blind, va_recv hK (zo_R hR0 hS hAr) (ci := 5) (q0 := 1) rfl rfl, fun U hU hW => ⟨rfl, zb_mk hU hW hPr hPc hKc hDc hN hH hS hFc zx_e⟩⟩ rfl rfl hl.1 rfl (lv_room (Nat.le_of_ble_eq_true rfl)) dX6_many_25 ⟨Nat.le_of_ble_eq_true rfl, Nat.le_of_ble_eq_true rfl⟩) hS (fun q _ h => hFc q h) hFc (fun r23 u t H22 locs ht hvm hw hB hz1 hk1 hS => ?_)
      obtain rfl : r23 = 0 := hw
      have hP := zo_K hP hk1
      refine vx_ret ?_
      refine W.widen (k := 1) (n := 6) (Nat.le_of_ble_eq_true rfl) (Nat.le_of_ble_eq_true rfl) ?_
      exact W.iret hx hb hr (fun t ht hW => ⟨⟨0, (), rfl, ⟨by decide, by decide⟩, trivial⟩, hS.F ht⟩) hS.2.2 dX6_many_28
    · skip
      have hPr := ((zo_R hR0 hS hAr)).sub (ws' := [(rm, .inr (5, [.ref lk, .ref th, .ref pl, .ref gm, .int 0, .int 0, .int 0, .int (-1), .int 1, .int 0, .int 0, .int 0])), (gm, .inr (2, [.int 0, .int 0, .int 0, .int 0, .int 0, .int (-1), .long 0]))]) [1, 2] rfl
      have hPc := hP.sub (ws' := []) [] rfl
      have hDc := hD.sub (ws' := []) [] (by decide) rfl
      have hKc := hK.sub (tys' := []) [] rfl
      have hFc := va_free (wc := []) hD hS hA [] rfl
      refine va_calli (va_runV (As := [.int 10]) (rest := []) ⟨hx, hb, hml, hown, hts⟩ (cz_tell_10 l dC dI ed H1.size rm lk th pl gm) (cwV 1 hts gX6_many_X3_tell rfl rfl rfl (by decide +kernel) ⟨Nat.le_of_ble_eq_true rfl, Nat.le_of_ble_eq_true rfl⟩) ⟨zb_blind, va_recv hK (zo_R hR0 hS hAr) (ci := 5) (q0 := 1) rfl rfl, fun U hU hW => ⟨rfl, zb_mk hU hW hPr hPc hKc hDc hN hH hS hFc zx_e⟩⟩ rfl rfl hl.1 rfl (lv_room (Nat.le_of_ble_eq_true rfl)) dX6_many_25 ⟨Nat.le_of_ble_eq_true rfl, Nat.le_of_ble_eq_true rfl⟩) hS (fun q _ h => hFc q h) hFc (fun r25 u t H24 locs ht hvm hw hB hz1 hk1 hS => ?_)
      obtain rfl : r25 = 0 := hw
      have hP := zo_K hP hk1
      refine vx_ret ?_
      refine W.widen (k := 1) (n := 6) (Nat.le_of_ble_eq_true rfl) (Nat.le_of_ble_eq_true rfl) ?_
      exact W.iret hx hb hr (fun t ht hW => ⟨⟨0, (), rfl, ⟨by decide, by decide⟩, trivial⟩, hS.F ht⟩) hS.2.2 dX6_many_28
    · skip
      have hPr := ((zo_R hR0 hS hAr)).sub (ws' := [(rm, .inr (5, [.ref lk, .ref th, .ref pl, .ref gm, .int 0, .int 0, .int 0, .int (-1), .int 1, .int 0, .int 0, .int 0])), (gm, .inr (2, [.int 0, .int 0, .int 0, .int 0, .int 0, .int (-1), .long 0]))]) [1, 2] rfl
      have hPc := hP.sub (ws' := []) [] rfl
      have hDc := hD.sub (ws' := []) [] (by decide) rfl
      have hKc := hK.sub (tys' := []) [] rfl
      have hFc := va_free (wc := []) hD hS hA [] rfl
      refine va_calli (va_runV (As := [.int 11]) (rest := []) ⟨hx, hb, hml, hown, hts⟩ (cz_tell_11 l dC dI ed H1.size rm lk th pl gm) (cwV 1 hts gX6_many_X3_tell rfl rfl rfl (by decide +kernel) ⟨Nat.le_of_ble_eq_true rfl, Nat.le_of_ble_eq_true rfl⟩) ⟨zb_blind, va_recv hK (zo_R hR0 hS hAr) (ci := 5) (q0 := 1) rfl rfl, fun U hU hW => ⟨rfl, zb_mk hU hW hPr hPc hKc hDc hN hH hS hFc zx_e⟩⟩ rfl rfl hl.1 rfl (lv_room (Nat.le_of_ble_eq_true rfl)) dX6_many_25 ⟨Nat.le_of_ble_eq_true rfl, Nat.le_of_ble_eq_true rfl⟩) hS (fun q _ h => hFc q h) hFc (fun r27 u t H26 locs ht hvm hw hB hz1 hk1 hS => ?_)
      obtain rfl : r27 = (-1) := hw
      have hP := zo_K hP hk1
      refine vx_ret ?_
      refine W.widen (k := 1) (n := 6) (Nat.le_of_ble_eq_true rfl) (Nat.le_of_ble_eq_true rfl) ?_
      exact W.iret hx hb hr (fun t ht hW => ⟨⟨(-1), (), rfl, ⟨by decide, by decide⟩, trivial⟩, hS.F ht⟩) hS.2.2 dX6_many_28
    · skip
      have hPr := ((zo_R hR0 hS hAr)).sub (ws' := [(rm, .inr (5, [.ref lk, .ref th, .ref pl, .ref gm, .int 0, .int 0, .int 0, .int (-1), .int 1, .int 0, .int 0, .int 0])), (gm, .inr (2, [.int 0, .int 0, .int 0, .int 0, .int 0, .int (-1), .long 0]))]) [1, 2] rfl
      have hPc := hP.sub (ws' := []) [] rfl
      have hDc := hD.sub (ws' := []) [] (by decide) rfl
      have hKc := hK.sub (tys' := []) [] rfl
      have hFc := va_free (wc := []) hD hS hA [] rfl
      refine va_calli (va_runV (As := [.int 12]) (rest := []) ⟨hx, hb, hml, hown, hts⟩ (cz_tell_12 l dC dI ed H1.size rm lk th pl gm) (cwV 1 hts gX6_many_X3_tell rfl rfl rfl (by decide +kernel) ⟨Nat.le_of_ble_eq_true rfl, Nat.le_of_ble_eq_true rfl⟩) ⟨zb_blind, va_recv hK (zo_R hR0 hS hAr) (ci := 5) (q0 := 1) rfl rfl, fun U hU hW => ⟨rfl, zb_mk hU hW hPr hPc hKc hDc hN hH hS hFc zx_e⟩⟩ rfl rfl hl.1 rfl (lv_room (Nat.le_of_ble_eq_true rfl)) dX6_many_25 ⟨Nat.le_of_ble_eq_true rfl, Nat.le_of_ble_eq_true rfl⟩) hS (fun q _ h => hFc q h) hFc (fun r29 u t H28 locs ht hvm hw hB hz1 hk1 hS => ?_)
      obtain rfl : r29 = 0 := hw
      have hP := zo_K hP hk1
      refine vx_ret ?_
      refine W.widen (k := 1) (n := 6) (Nat.le_of_ble_eq_true rfl) (Nat.le_of_ble_eq_true rfl) ?_
      exact W.iret hx hb hr (fun t ht hW => ⟨⟨0, (), rfl, ⟨by decide, by decide⟩, trivial⟩, hS.F ht⟩) hS.2.2 dX6_many_28
    · skip
      have hPr := ((zo_R hR0 hS hAr)).sub (ws' := [(rm, .inr (5, [.ref lk, .ref th, .ref pl, .ref gm, .int 0, .int 0, .int 0, .int (-1), .int 1, .int 0, .int 0, .int 0])), (gm, .inr (2, [.int 0, .int 0, .int 0, .int 0, .int 0, .int (-1), .long 0]))]) [1, 2] rfl
      have hPc := hP.sub (ws' := []) [] rfl
      have hDc := hD.sub (ws' := []) [] (by decide) rfl
      have hKc := hK.sub (tys' := []) [] rfl
      have hFc := va_free (wc := []) hD hS hA [] rfl
      refine va_calli (va_runV (As := [.int 13]) (rest := []) ⟨hx, hb, hml, hown, hts⟩ (cz_tell_13 l dC dI ed H1.size rm lk th pl gm) (cwV 1 hts gX6_many_X3_tell rfl rfl rfl (by decide +kernel) ⟨Nat.le_of_ble_eq_true rfl, Nat.le_of_ble_eq_true rfl⟩) ⟨zb_blind, va_recv hK (zo_R hR0 hS hAr) (ci := 5) (q0 := 1) rfl rfl, fun U hU hW => ⟨rfl, zb_mk hU hW hPr hPc hKc hDc hN hH hS hFc zx_e⟩⟩ rfl rfl hl.1 rfl (lv_room (Nat.le_of_ble_eq_true rfl)) dX6_many_25 ⟨Nat.le_of_ble_eq_true rfl, Nat.le_of_ble_eq_true rfl⟩) hS (fun q _ h => hFc q h) hFc (fun r31 u t H30 locs ht hvm hw hB hz1 hk1 hS => ?_)
      obtain rfl : r31 = 0 := hw
      have hP := zo_K hP hk1
      refine vx_ret ?_
      refine W.widen (k := 1) (n := 6) (Nat.le_of_ble_eq_true rfl) (Nat.le_of_ble_eq_true rfl) ?_
      exact W.iret hx hb hr (fun t ht hW => ⟨⟨0, (), rfl, ⟨by decide, by decide⟩, trivial⟩, hS.F ht⟩) hS.2.2 dX6_many_28
    · skip
      have hPr := ((zo_R hR0 hS hAr)).sub (ws' := [(rm, .inr (5, [.ref lk, .ref th, .ref pl, .ref gm, .int 0, .int 0, .int 0, .int (-1), .int 1, .int 0, .int 0, .int 0])), (gm, .inr (2, [.int 0, .int 0, .int 0, .int 0, .int 0, .int (-1), .long 0]))]) [1, 2] rfl
      have hPc := hP.sub (ws' := []) [] rfl
      have hDc := hD.sub (ws' := []) [] (by decide) rfl
      have hKc := hK.sub (tys' := []) [] rfl
      have hFc := va_free (wc := []) hD hS hA [] rfl
      refine va_calli (va_runV (As := [.int 14]) (rest := []) ⟨hx, hb, hml, hown, hts⟩ (cz_tell_14 l dC dI ed H1.size rm lk th pl gm) (cwV 1 hts gX6_many_X3_tell rfl rfl rfl (by decide +kernel) ⟨Nat.le_of_ble_eq_true rfl, Nat.le_of_ble_eq_true rfl⟩) ⟨zb_blind, va_recv hK (zo_R hR0 hS hAr) (ci := 5) (q0 := 1) rfl rfl, fun U hU hW => ⟨rfl, zb_mk hU hW hPr hPc hKc hDc hN hH hS hFc zx_e⟩⟩ rfl rfl hl.1 rfl (lv_room (Nat.le_of_ble_eq_true rfl)) dX6_many_25 ⟨Nat.le_of_ble_eq_true rfl, Nat.le_of_ble_eq_true rfl⟩) hS (fun q _ h => hFc q h) hFc (fun r33 u t H32 locs ht hvm hw hB hz1 hk1 hS => ?_)
      obtain rfl : r33 = 0 := hw
      have hP := zo_K hP hk1
      refine vx_ret ?_
      refine W.widen (k := 1) (n := 6) (Nat.le_of_ble_eq_true rfl) (Nat.le_of_ble_eq_true rfl) ?_
      exact W.iret hx hb hr (fun t ht hW => ⟨⟨0, (), rfl, ⟨by decide, by decide⟩, trivial⟩, hS.F ht⟩) hS.2.2 dX6_many_28
    · skip
      have hPr := ((zo_R hR0 hS hAr)).sub (ws' := [(rm, .inr (5, [.ref lk, .ref th, .ref pl, .ref gm, .int 0, .int 0, .int 0, .int (-1), .int 1, .int 0, .int 0, .int 0])), (gm, .inr (2, [.int 0, .int 0, .int 0, .int 0, .int 0, .int (-1), .long 0]))]) [1, 2] rfl
      have hPc := hP.sub (ws' := []) [] rfl
      have hDc := hD.sub (ws' := []) [] (by decide) rfl
      have hKc := hK.sub (tys' := []) [] rfl
      have hFc := va_free (wc := []) hD hS hA [] rfl
      refine va_calli (va_runV (As := [.int 15]) (rest := []) ⟨hx, hb, hml, hown, hts⟩ (cz_tell_15 l dC dI ed H1.size rm lk th pl gm) (cwV 1 hts gX6_many_X3_tell rfl rfl rfl (by decide +kernel) ⟨Nat.le_of_ble_eq_true rfl, Nat.le_of_ble_eq_true rfl⟩) ⟨zb_blind, va_recv hK (zo_R hR0 hS hAr) (ci := 5) (q0 := 1) rfl rfl, fun U hU hW => ⟨rfl, zb_mk hU hW hPr hPc hKc hDc hN hH hS hFc zx_e⟩⟩ rfl rfl hl.1 rfl (lv_room (Nat.le_of_ble_eq_true rfl)) dX6_many_25 ⟨Nat.le_of_ble_eq_true rfl, Nat.le_of_ble_eq_true rfl⟩) hS (fun q _ h => hFc q h) hFc (fun r35 u t H34 locs ht hvm hw hB hz1 hk1 hS => ?_)
      obtain rfl : r35 = 0 := hw
      have hP := zo_K hP hk1
      refine vx_ret ?_
      refine W.widen (k := 1) (n := 6) (Nat.le_of_ble_eq_true rfl) (Nat.le_of_ble_eq_true rfl) ?_
      exact W.iret hx hb hr (fun t ht hW => ⟨⟨0, (), rfl, ⟨by decide, by decide⟩, trivial⟩, hS.F ht⟩) hS.2.2 dX6_many_28
    · skip
      have hPr := ((zo_R hR0 hS hAr)).sub (ws' := [(rm, .inr (5, [.ref lk, .ref th, .ref pl, .ref gm, .int 0, .int 0, .int 0, .int (-1), .int 1, .int 0, .int 0, .int 0])), (gm, .inr (2, [.int 0, .int 0, .int 0, .int 0, .int 0, .int (-1), .long 0]))]) [1, 2] rfl
      have hPc := hP.sub (ws' := []) [] rfl
      have hDc := hD.sub (ws' := []) [] (by decide) rfl
      have hKc := hK.sub (tys' := []) [] rfl
      have hFc := va_free (wc := []) hD hS hA [] rfl
      refine va_calli (va_runV (As := [.int 16]) (rest := []) ⟨hx, hb, hml, hown, hts⟩ (cz_tell_16 l dC dI ed H1.size rm lk th pl gm) (cwV 1 hts gX6_many_X3_tell rfl rfl rfl (by decide +kernel) ⟨Nat.le_of_ble_eq_true rfl, Nat.le_of_ble_eq_true rfl⟩) ⟨zb_blind, va_recv hK (zo_R hR0 hS hAr) (ci := 5) (q0 := 1) rfl rfl, fun U hU hW => ⟨rfl, zb_mk hU hW hPr hPc hKc hDc hN hH hS hFc zx_e⟩⟩ rfl rfl hl.1 rfl (lv_room (Nat.le_of_ble_eq_true rfl)) dX6_many_25 ⟨Nat.le_of_ble_eq_true rfl, Nat.le_of_ble_eq_true rfl⟩) hS (fun q _ h => hFc q h) hFc (fun r37 u t H36 locs ht hvm hw hB hz1 hk1 hS => ?_)
      obtain rfl : r37 = 0 := hw
      have hP := zo_K hP hk1
      refine vx_ret ?_
      refine W.widen (k := 1) (n := 6) (Nat.le_of_ble_eq_true rfl) (Nat.le_of_ble_eq_true rfl) ?_
      exact W.iret hx hb hr (fun t ht hW => ⟨⟨0, (), rfl, ⟨by decide, by decide⟩, trivial⟩, hS.F ht⟩) hS.2.2 dX6_many_28
    · skip
      have hPr := ((zo_R hR0 hS hAr)).sub (ws' := [(rm, .inr (5, [.ref lk, .ref th, .ref pl, .ref gm, .int 0, .int 0, .int 0, .int (-1), .int 1, .int 0, .int 0, .int 0])), (gm, .inr (2, [.int 0, .int 0, .int 0, .int 0, .int 0, .int (-1), .long 0]))]) [1, 2] rfl
      have hPc := hP.sub (ws' := []) [] rfl
      have hDc := hD.sub (ws' := []) [] (by decide) rfl
      have hKc := hK.sub (tys' := []) [] rfl
      have hFc := va_free (wc := []) hD hS hA [] rfl
      refine va_calli (va_runV (As := [.int 17]) (rest := []) ⟨hx, hb, hml, hown, hts⟩ (cz_tell_17 l dC dI ed H1.size rm lk th pl gm) (cwV 1 hts gX6_many_X3_tell rfl rfl rfl (by decide +kernel) ⟨Nat.le_of_ble_eq_true rfl, Nat.le_of_ble_eq_true rfl⟩) ⟨zb_blind, va_recv hK (zo_R hR0 hS hAr) (ci := 5) (q0 := 1) rfl rfl, fun U hU hW => ⟨rfl, zb_mk hU hW hPr hPc hKc hDc hN hH hS hFc zx_e⟩⟩ rfl rfl hl.1 rfl (lv_room (Nat.le_of_ble_eq_true rfl)) dX6_many_25 ⟨Nat.le_of_ble_eq_true rfl, Nat.le_of_ble_eq_true rfl⟩) hS (fun q _ h => hFc q h) hFc (fun r39 u t H38 locs ht hvm hw hB hz1 hk1 hS => ?_)
      obtain rfl : r39 = 1 := hw
      have hP := zo_K hP hk1
      refine vx_ret ?_
      refine W.widen (k := 1) (n := 6) (Nat.le_of_ble_eq_true rfl) (Nat.le_of_ble_eq_true rfl) ?_
      exact W.iret hx hb hr (fun t ht hW => ⟨⟨1, (), rfl, ⟨by decide, by decide⟩, trivial⟩, hS.F ht⟩) hS.2.2 dX6_many_28
    · skip
      have hPr := ((zo_R hR0 hS hAr)).sub (ws' := [(rm, .inr (5, [.ref lk, .ref th, .ref pl, .ref gm, .int 0, .int 0, .int 0, .int (-1), .int 1, .int 0, .int 0, .int 0])), (gm, .inr (2, [.int 0, .int 0, .int 0, .int 0, .int 0, .int (-1), .long 0]))]) [1, 2] rfl
      have hPc := hP.sub (ws' := []) [] rfl
      have hDc := hD.sub (ws' := []) [] (by decide) rfl
      have hKc := hK.sub (tys' := []) [] rfl
      have hFc := va_free (wc := []) hD hS hA [] rfl
      refine va_calli (va_runV (As := [.int 18]) (rest := []) ⟨hx, hb, hml, hown, hts⟩ (cz_tell_18 l dC dI ed H1.size rm lk th pl gm) (cwV 1 hts gX6_many_X3_tell rfl rfl rfl (by decide +kernel) ⟨Nat.le_of_ble_eq_true rfl, Nat.le_of_ble_eq_true rfl⟩) ⟨zb_blind, va_recv hK (zo_R hR0 hS hAr) (ci := 5) (q0 := 1) rfl rfl, fun U hU hW => ⟨rfl, zb_mk hU hW hPr hPc hKc hDc hN hH hS hFc zx_e⟩⟩ rfl rfl hl.1 rfl (lv_room (Nat.le_of_ble_eq_true rfl)) dX6_many_25 ⟨Nat.le_of_ble_eq_true rfl, Nat.le_of_ble_eq_true rfl⟩) hS (fun q _ h => hFc q h) hFc (fun r41 u t H40 locs ht hvm hw hB hz1 hk1 hS => ?_)
      obtain rfl : r41 = 0 := hw
      have hP := zo_K hP hk1
      refine vx_ret ?_
      refine W.widen (k := 1) (n := 6) (Nat.le_of_ble_eq_true rfl) (Nat.le_of_ble_eq_true rfl) ?_
      exact W.iret hx hb hr (fun t ht hW => ⟨⟨0, (), rfl, ⟨by decide, by decide⟩, trivial⟩, hS.F ht⟩) hS.2.2 dX6_many_28
  · obtain rfl : r2 = 0 := hw.trans (if_neg c3)
    refine lv_if_ne (tgt := 20) hx hb dX6_many_7 (by decide) (fun h => absurd h (by decide)) (fun _ => ?_)
    obtain ⟨sa, hsa⟩ := hN.2.2.2.1 ("LockRooms", 227, "what is not 0 to 18") (List.mem_of_getElem? (i := 23) rfl)
    exact vx_throwS (A := A) (cls := "java/lang/IllegalArgumentException") (names := ["java/lang/RuntimeException", "java/lang/Exception"]) hx hb htr hown (by decide +kernel) (by decide +kernel) (hts (.classLink RX6 30 "java/lang/IllegalArgumentException") (by decide +kernel)) (hts (.initialized "java/lang/IllegalArgumentException") (by decide +kernel)) hsa (vx_hat (B := zTB "java/lang/IllegalArgumentException") (fun w hw => hts w (zf_X6_many_34 w hw)) zg_34 (zt_B (by decide) hN)) zh_34 hH.1 hH.2.1 hS (hl.1.trans hml.symm) dX6_many_10 dX6_many_13 dX6_many_14 dX6_many_16 dX6_many_19 (fun x h => (hnt x h).elim) (Nat.le_of_ble_eq_true rfl) (Nat.le_of_ble_eq_true rfl) (Nat.le_of_ble_eq_true rfl) (Nat.le_of_ble_eq_true rfl) hlocks (fun t hvm hz hk => ⟨(), trivial, ⟨rfl, c3⟩, Nat.le_trans hS.1 hz, fun q h1 h2 => (hk q (Nat.lt_of_lt_of_le h1 hS.1)).trans (hS.2.1 q h1 h2)⟩) hS.2.2 (Nat.le_of_ble_eq_true rfl) (Nat.le_of_ble_eq_true rfl)

set_option maxRecDepth 20000 in
theorem zi_X3_addLock_X3 : ∀ w ∈ u_ws RX3 TX3 12, w ∈ wsX3_addLock := by decide +kernel
set_option maxRecDepth 20000 in
theorem zi_X3_addLock_X1 : ∀ w ∈ u_ws RX1 TX1 10, w ∈ wsX3_addLock := by decide +kernel
set_option maxHeartbeats 4000000 in
set_option maxRecDepth 100000 in
theorem cz_X3_addLock (l : Launch) (dC : Nat → ClassId) (dI : Nat → Nat → Nat) (ed sz : Nat) (rm : Nat) (lk : Nat) (th : Nat) (pl : Nat) (gm : Nat) (cL : ClassId) (fl : Nat → Option Nat) (l0 : Nat) (x0 : Int32) (x1 : Int32) (x2 : Int32) (x3 : Int32) (x4 : Int32) (hkl : fl 0 = some l0) (h3 : x3 = 0 ∨ x3 = 1) : Met l yX3_addLock wsX3_addLock ({ frames := 0, cells := 0, slots := 0, locals := 0 } : Jvm.Room) (va_Pc [.ref rm, .int x0, .int x1, .int x2, .int x3, .int x4] (zB dC dI ed sz [(lk, .inl (cL, 10, .inr (.inr (.inr (.inr fl)))))] [(rm, .inr (5, [.ref lk, .ref th, .ref pl, .ref gm, .int 0, .int 0, .int 0, .int (-1), .int 1, .int 0, .int 0, .int 0])), (l0, .inr (3, [.int 0, .int 0, .int 0, .int 0, .int 0, .int 0, .int 0, .int 0, .int 0, .int 0]))] [(cL, .object "LockRooms$Lock")])) (va_Qi (fun (r : Int32) (_ : Unit) => r = 0) (fun (_ : Unit) (t : State) => va_P (dC, dI) vwCl [] t.heap ∧ va_D (va_A [(rm, .inr (5, [.ref lk, .ref th, .ref pl, .ref gm, .int 0, .int 0, .int 0, .int (-1), .int 1, .int 0, .int 0, .int 0])), (l0, .inr (3, [.int 0, .int 0, .int 0, .int 0, .int 0, .int 0, .int 0, .int 0, .int 0, .int 0]))] sz) [] ∧ va_K (dC, dI) vwCl [] t) (va_A [(rm, .inr (5, [.ref lk, .ref th, .ref pl, .ref gm, .int 0, .int 0, .int 0, .int (-1), .int 1, .int 0, .int 0, .int 0])), (l0, .inr (3, [.int 0, .int 0, .int 0, .int 0, .int 0, .int 0, .int 0, .int 0, .int 0, .int 0]))] sz)) 0 0 (va_A [(rm, .inr (5, [.ref lk, .ref th, .ref pl, .ref gm, .int 0, .int 0, .int 0, .int (-1), .int 1, .int 0, .int 0, .int 0])), (l0, .inr (3, [.int 0, .int 0, .int 0, .int 0, .int 0, .int 0, .int 0, .int 0, .int 0, .int 0]))] sz) := by
  refine Met.ofW (cc := cX3_addLock) (maxL := 8) (ret := (some .int)) (by decide) rfl ?_
  intro p e s m args below meth c s₁ B hml hv
  obtain ⟨rfl, hsz, hR0, hP, hK, hD0, hN, hH, hX0⟩ := hv
  have hx := B.exec
  have hb := B.bytes
  have hr := B.returns
  have hts := atoms_spec (ws := wsX3_addLock) B.pre
  have hown : s.vm.findClass RX3 = some m.cls := findClass_of_methodNamed B.named
  have hlocks := B.notSynchronized
  subst hsz
  have hD := hD0.self (sz := s.heap.size)
  have hAr := zx_A hX0 hR0
  generalize hAe : va_A [(rm, .inr (5, [.ref lk, .ref th, .ref pl, .ref gm, .int 0, .int 0, .int 0, .int (-1), .int 1, .int 0, .int 0, .int 0])), (l0, .inr (3, [.int 0, .int 0, .int 0, .int 0, .int 0, .int 0, .int 0, .int 0, .int 0, .int 0]))] s.heap.size = A at hD hAr hH ⊢
  have hA : ∀ q : Nat, s.heap.size ≤ q → A q := fun q h => by rw [← hAe]; exact Or.inr h
  have hS : va_S A s.heap s.heap [] := va_S.rf
  have hl := lv_entry ([.ref rm, .int x0, .int x1, .int x2, .int x3, .int x4]) (n := 8) (Nat.le_of_ble_eq_true rfl)
  rw [lg_entry_eq]
  generalize (lg_sl ([.ref rm, .int x0, .int x1, .int x2, .int x3, .int x4]) ++ List.replicate (8 - (lg_sl ([.ref rm, .int x0, .int x1, .int x2, .int x3, .int x4])).length) Slot.unset).toArray = ls at hl ⊢
  have hl : lv_has ls 8 [(0, .ref rm), (1, .int x0), (2, .int x1), (3, .int x2), (4, .int x3), (5, .int x4)] := hl
  refine lv_aload_n hx hb dX3_addLock_0 rfl (lv_at hl 0 rfl) ?_
  refine va_get (D := (dC, dI)) (ci := 5) (v := .int 0) (C := RX3) (T := TX3) (N := 12) hx hb hts zi_X3_addLock_X3 hown hK hP 0 rfl rfl 4 (by decide) (hts (.fieldLink RX3 47 "LockRooms$Room" "lockCount" "I") (by decide +kernel)) (fun _ h9 => h9) rfl dX3_addLock_1 ?_
  refine lv_istore (lv' := [(6, .int 0), (0, .ref rm), (1, .int x0), (2, .int x1), (3, .int x2), (4, .int x3), (5, .int x4)]) hx hb dX3_addLock_4 hl (by decide) rfl (fun ls hl => ?_)
  refine lv_iload hx hb dX3_addLock_6 (lv_at hl 0 rfl) ?_
  refine lv_bipush (v := 10) hx hb dX3_addLock_8 (by decide) ?_
  refine lv_icmp_lt (tgt := 15) hx hb dX3_addLock_10 (by decide) (fun _ => ?_) (fun h => absurd h (by decide))
  refine lv_aload_n hx hb dX3_addLock_15 rfl (lv_at hl 1 rfl) ?_
  refine va_get (D := (dC, dI)) (ci := 5) (v := .ref lk) (C := RX3) (T := TX3) (N := 12) hx hb hts zi_X3_addLock_X3 hown hK hP 0 rfl rfl 0 (by decide) (hts (.fieldLink RX3 11 "LockRooms$Room" "locks" "[LLockRooms$Lock;") (by decide +kernel)) (fun _ h9 => h9) rfl dX3_addLock_16 ?_
  refine lv_iload hx hb dX3_addLock_19 (lv_at hl 0 rfl) ?_
  refine va_aldq hx hb hK hR0 0 0 rfl rfl (by unfold vp_in; decide) dX3_addLock_21 ?_
  refine zo_q (v := .ref l0) (by rw [show Int32.toNatClampNeg 0 = 0 from by decide, hkl]; rfl) ?_
  refine lv_astore (lv' := [(7, .ref l0), (6, .int 0), (0, .ref rm), (1, .int x0), (2, .int x1), (3, .int x2), (4, .int x3), (5, .int x4)]) hx hb dX3_addLock_22 hl (by decide) rfl (fun ls hl => ?_)
  refine lv_aload hx hb dX3_addLock_24 (lv_at hl 0 rfl) ?_
  refine lv_iload_n hx hb dX3_addLock_26 rfl (lv_at hl 3 rfl) ?_
  refine va_put (D := (dC, dI)) (ci := 3) (v := .int x0) (ty := .int) (C := RX1) (T := TX1) (N := 10) hx hb hts zi_X3_addLock_X1 tyX1 tyX1_ok nmX1 hown hK hP hD hS 1 rfl rfl 0 (by decide) (hts (.fieldLink RX3 78 "LockRooms$Lock" "needs" "I") (by decide +kernel)) (fun _ h9 => h9) rfl (by decide +kernel) rfl rfl (Nat.le_of_ble_eq_true rfl) dX3_addLock_27 (fun H1 locs hP hD hS => ?_)
  have hP : va_P (dC, dI) vwCl [(rm, .inr (5, [.ref lk, .ref th, .ref pl, .ref gm, .int 0, .int 0, .int 0, .int (-1), .int 1, .int 0, .int 0, .int 0])), (l0, .inr (3, [.int x0, .int 0, .int 0, .int 0, .int 0, .int 0, .int 0, .int 0, .int 0, .int 0]))] H1 := hP
  have hD : va_D A [(rm, .inr (5, [.ref lk, .ref th, .ref pl, .ref gm, .int 0, .int 0, .int 0, .int (-1), .int 1, .int 0, .int 0, .int 0])), (l0, .inr (3, [.int x0, .int 0, .int 0, .int 0, .int 0, .int 0, .int 0, .int 0, .int 0, .int 0]))] := hD
  refine lv_aload hx hb dX3_addLock_30 (lv_at hl 0 rfl) ?_
  refine lv_iload_n hx hb dX3_addLock_32 rfl (lv_at hl 4 rfl) ?_
  refine va_put (D := (dC, dI)) (ci := 3) (v := .int x1) (ty := .int) (C := RX1) (T := TX1) (N := 10) hx hb hts zi_X3_addLock_X1 tyX1 tyX1_ok nmX1 hown hK hP hD hS 1 rfl rfl 1 (by decide) (hts (.fieldLink RX3 81 "LockRooms$Lock" "keeps" "I") (by decide +kernel)) (fun _ h9 => h9) rfl (by decide +kernel) rfl rfl (Nat.le_of_ble_eq_true rfl) dX3_addLock_33 (fun H2 locs hP hD hS => ?_)
  have hP : va_P (dC, dI) vwCl [(rm, .inr (5, [.ref lk, .ref th, .ref pl, .ref gm, .int 0, .int 0, .int 0, .int (-1), .int 1, .int 0, .int 0, .int 0])), (l0, .inr (3, [.int x0, .int x1, .int 0, .int 0, .int 0, .int 0, .int 0, .int 0, .int 0, .int 0]))] H2 := hP
  have hD : va_D A [(rm, .inr (5, [.ref lk, .ref th, .ref pl, .ref gm, .int 0, .int 0, .int 0, .int (-1), .int 1, .int 0, .int 0, .int 0])), (l0, .inr (3, [.int x0, .int x1, .int 0, .int 0, .int 0, .int 0, .int 0, .int 0, .int 0, .int 0]))] := hD
  refine lv_aload hx hb dX3_addLock_36 (lv_at hl 0 rfl) ?_
  refine lv_iload_n hx hb dX3_addLock_38 rfl (lv_at hl 5 rfl) ?_
  refine va_put (D := (dC, dI)) (ci := 3) (v := .int x2) (ty := .int) (C := RX1) (T := TX1) (N := 10) hx hb hts zi_X3_addLock_X1 tyX1 tyX1_ok nmX1 hown hK hP hD hS 1 rfl rfl 2 (by decide) (hts (.fieldLink RX3 84 "LockRooms$Lock" "hard" "I") (by decide +kernel)) (fun _ h9 => h9) rfl (by decide +kernel) rfl rfl (Nat.le_of_ble_eq_true rfl) dX3_addLock_39 (fun H3 locs hP hD hS => ?_)
  have hP : va_P (dC, dI) vwCl [(rm, .inr (5, [.ref lk, .ref th, .ref pl, .ref gm, .int 0, .int 0, .int 0, .int (-1), .int 1, .int 0, .int 0, .int 0])), (l0, .inr (3, [.int x0, .int x1, .int x2, .int 0, .int 0, .int 0, .int 0, .int 0, .int 0, .int 0]))] H3 := hP
  have hD : va_D A [(rm, .inr (5, [.ref lk, .ref th, .ref pl, .ref gm, .int 0, .int 0, .int 0, .int (-1), .int 1, .int 0, .int 0, .int 0])), (l0, .inr (3, [.int x0, .int x1, .int x2, .int 0, .int 0, .int 0, .int 0, .int 0, .int 0, .int 0]))] := hD
  refine lv_aload hx hb dX3_addLock_42 (lv_at hl 0 rfl) ?_
  refine lv_iload hx hb dX3_addLock_44 (lv_at hl 6 rfl) ?_
  refine va_put (D := (dC, dI)) (ci := 3) (v := .int x3) (ty := .boolean) (C := RX1) (T := TX1) (N := 10) hx hb hts zi_X3_addLock_X1 tyX1 tyX1_ok nmX1 hown hK hP hD hS 1 rfl rfl 3 (by decide) (hts (.fieldLink RX3 87 "LockRooms$Lock" "isMagnet" "Z") (by decide +kernel)) (fun _ h9 => h9) rfl (by decide +kernel) (zb_nar h3) (zb_fit h3) (Nat.le_of_ble_eq_true rfl) dX3_addLock_46 (fun H4 locs hP hD hS => ?_)
  have hP : va_P (dC, dI) vwCl [(rm, .inr (5, [.ref lk, .ref th, .ref pl, .ref gm, .int 0, .int 0, .int 0, .int (-1), .int 1, .int 0, .int 0, .int 0])), (l0, .inr (3, [.int x0, .int x1, .int x2, .int x3, .int 0, .int 0, .int 0, .int 0, .int 0, .int 0]))] H4 := hP
  have hD : va_D A [(rm, .inr (5, [.ref lk, .ref th, .ref pl, .ref gm, .int 0, .int 0, .int 0, .int (-1), .int 1, .int 0, .int 0, .int 0])), (l0, .inr (3, [.int x0, .int x1, .int x2, .int x3, .int 0, .int 0, .int 0, .int 0, .int 0, .int 0]))] := hD
  refine lv_iload hx hb dX3_addLock_49 (lv_at hl 7 rfl) ?_
  refine lv_if_eq (tgt := 60) hx hb dX3_addLock_51 (by decide) (fun c5 => ?_) (fun c5 => ?_)
  · skip
    refine lv_aload_n hx hb dX3_addLock_60 rfl (lv_at hl 2 rfl) ?_
    refine lv_dup hx hb dX3_addLock_61 rfl ?_
    refine va_get (D := (dC, dI)) (ci := 5) (v := .int 0) (C := RX3) (T := TX3) (N := 12) hx hb hts zi_X3_addLock_X3 hown hK hP 0 rfl rfl 4 (by decide) (hts (.fieldLink RX3 47 "LockRooms$Room" "lockCount" "I") (by decide +kernel)) (fun _ h9 => h9) rfl dX3_addLock_62 ?_
    refine lv_iconst (v := 1) hx hb dX3_addLock_65 (by decide) ?_
    refine lv_iadd hx hb dX3_addLock_66 ?_
    refine zo_i (v := 1) (by decide) ?_
    refine va_put (D := (dC, dI)) (ci := 5) (v := .int 1) (ty := .int) (C := RX3) (T := TX3) (N := 12) hx hb hts zi_X3_addLock_X3 tyX3 tyX3_ok nmX3 hown hK hP hD hS 0 rfl rfl 4 (by decide) (hts (.fieldLink RX3 47 "LockRooms$Room" "lockCount" "I") (by decide +kernel)) (fun _ h9 => h9) rfl (by decide +kernel) rfl rfl (Nat.le_of_ble_eq_true rfl) dX3_addLock_67 (fun H6 locs hP hD hS => ?_)
    have hP : va_P (dC, dI) vwCl [(rm, .inr (5, [.ref lk, .ref th, .ref pl, .ref gm, .int 1, .int 0, .int 0, .int (-1), .int 1, .int 0, .int 0, .int 0])), (l0, .inr (3, [.int x0, .int x1, .int x2, .int x3, .int 0, .int 0, .int 0, .int 0, .int 0, .int 0]))] H6 := hP
    have hD : va_D A [(rm, .inr (5, [.ref lk, .ref th, .ref pl, .ref gm, .int 1, .int 0, .int 0, .int (-1), .int 1, .int 0, .int 0, .int 0])), (l0, .inr (3, [.int x0, .int x1, .int x2, .int x3, .int 0, .int 0, .int 0, .int 0, .int 0, .int 0]))] := hD
    refine lv_iload hx hb dX3_addLock_70 (lv_at hl 1 rfl) ?_
    refine W.widen (k := 0) (n := 0) (Nat.le_of_ble_eq_true rfl) (Nat.le_of_ble_eq_true rfl) ?_
    have hP9 := hP.sub (ws' := []) [] rfl
    have hD9 := hD.sub (ws' := []) [] (by decide) rfl
    have hK9 := hK.sub (tys' := []) [] rfl
    exact W.iret hx hb hr (fun t ht hW => ⟨⟨0, (), rfl, rfl, ⟨by rw [ht]; exact hP9, hD9, va_K.moved hW.alike hK9⟩⟩, hS.F ht⟩) hS.2.2 dX3_addLock_72
  · skip
    refine lv_aload_n hx hb dX3_addLock_54 rfl (lv_at hl 2 rfl) ?_
    refine lv_iload hx hb dX3_addLock_55 (lv_at hl 1 rfl) ?_
    refine va_put (D := (dC, dI)) (ci := 5) (v := .int 0) (ty := .int) (C := RX3) (T := TX3) (N := 12) hx hb hts zi_X3_addLock_X3 tyX3 tyX3_ok nmX3 hown hK hP hD hS 0 rfl rfl 7 (by decide) (hts (.fieldLink RX3 36 "LockRooms$Room" "exit" "I") (by decide +kernel)) (fun _ h9 => h9) rfl (by decide +kernel) rfl rfl (Nat.le_of_ble_eq_true rfl) dX3_addLock_57 (fun H7 locs hP hD hS => ?_)
    have hP : va_P (dC, dI) vwCl [(rm, .inr (5, [.ref lk, .ref th, .ref pl, .ref gm, .int 0, .int 0, .int 0, .int 0, .int 1, .int 0, .int 0, .int 0])), (l0, .inr (3, [.int x0, .int x1, .int x2, .int x3, .int 0, .int 0, .int 0, .int 0, .int 0, .int 0]))] H7 := hP
    have hD : va_D A [(rm, .inr (5, [.ref lk, .ref th, .ref pl, .ref gm, .int 0, .int 0, .int 0, .int 0, .int 1, .int 0, .int 0, .int 0])), (l0, .inr (3, [.int x0, .int x1, .int x2, .int x3, .int 0, .int 0, .int 0, .int 0, .int 0, .int 0]))] := hD
    refine lv_aload_n hx hb dX3_addLock_60 rfl (lv_at hl 2 rfl) ?_
    refine lv_dup hx hb dX3_addLock_61 rfl ?_
    refine va_get (D := (dC, dI)) (ci := 5) (v := .int 0) (C := RX3) (T := TX3) (N := 12) hx hb hts zi_X3_addLock_X3 hown hK hP 0 rfl rfl 4 (by decide) (hts (.fieldLink RX3 47 "LockRooms$Room" "lockCount" "I") (by decide +kernel)) (fun _ h9 => h9) rfl dX3_addLock_62 ?_
    refine lv_iconst (v := 1) hx hb dX3_addLock_65 (by decide) ?_
    refine lv_iadd hx hb dX3_addLock_66 ?_
    refine zo_i (v := 1) (by decide) ?_
    refine va_put (D := (dC, dI)) (ci := 5) (v := .int 1) (ty := .int) (C := RX3) (T := TX3) (N := 12) hx hb hts zi_X3_addLock_X3 tyX3 tyX3_ok nmX3 hown hK hP hD hS 0 rfl rfl 4 (by decide) (hts (.fieldLink RX3 47 "LockRooms$Room" "lockCount" "I") (by decide +kernel)) (fun _ h9 => h9) rfl (by decide +kernel) rfl rfl (Nat.le_of_ble_eq_true rfl) dX3_addLock_67 (fun H8 locs hP hD hS => ?_)
    have hP : va_P (dC, dI) vwCl [(rm, .inr (5, [.ref lk, .ref th, .ref pl, .ref gm, .int 1, .int 0, .int 0, .int 0, .int 1, .int 0, .int 0, .int 0])), (l0, .inr (3, [.int x0, .int x1, .int x2, .int x3, .int 0, .int 0, .int 0, .int 0, .int 0, .int 0]))] H8 := hP
    have hD : va_D A [(rm, .inr (5, [.ref lk, .ref th, .ref pl, .ref gm, .int 1, .int 0, .int 0, .int 0, .int 1, .int 0, .int 0, .int 0])), (l0, .inr (3, [.int x0, .int x1, .int x2, .int x3, .int 0, .int 0, .int 0, .int 0, .int 0, .int 0]))] := hD
    refine lv_iload hx hb dX3_addLock_70 (lv_at hl 1 rfl) ?_
    refine W.widen (k := 0) (n := 0) (Nat.le_of_ble_eq_true rfl) (Nat.le_of_ble_eq_true rfl) ?_
    have hP9 := hP.sub (ws' := []) [] rfl
    have hD9 := hD.sub (ws' := []) [] (by decide) rfl
    have hK9 := hK.sub (tys' := []) [] rfl
    exact W.iret hx hb hr (fun t ht hW => ⟨⟨0, (), rfl, rfl, ⟨by rw [ht]; exact hP9, hD9, va_K.moved hW.alike hK9⟩⟩, hS.F ht⟩) hS.2.2 dX3_addLock_72

set_option maxRecDepth 20000 in
theorem zi_X6_lock_X6 : ∀ w ∈ u_ws RX6 TX6 3, w ∈ wsX6_lock := by decide +kernel
set_option maxRecDepth 20000 in
theorem zi_X6_lock_X3 : ∀ w ∈ u_ws RX3 TX3 12, w ∈ wsX6_lock := by decide +kernel
set_option maxRecDepth 20000 in
theorem zi_X6_lock_X0 : ∀ w ∈ u_ws RX0 TX0 7, w ∈ wsX6_lock := by decide +kernel
theorem zf_X6_lock_34 : ∀ w ∈ (vx_atS RX6 34 "java/lang/IllegalArgumentException" ["java/lang/RuntimeException", "java/lang/Exception"]).filter goodWord, w ∈ wsX6_lock := fun _ h => List.mem_cons_of_mem _ (List.mem_append_left _ (List.mem_append_right _ h))
set_option maxHeartbeats 4000000 in
set_option maxRecDepth 100000 in
theorem cz_X6_lock (l : Launch) (dC : Nat → ClassId) (dI : Nat → Nat → Nat) (ed sz : Nat) (x : Nat) (rm : Nat) (tr : Nat) (st : Nat) (lk : Nat) (th : Nat) (pl : Nat) (gm : Nat) (cL : ClassId) (fl : Nat → Option Nat) (l0 : Nat) (x0 : Int32) (x1 : Int32) (x2 : Int32) (x3 : Int32) (x4 : Int32) (htr : l.stackTraces = false) (hkl : fl 0 = some l0) (h3 : x3 = 0 ∨ x3 = 1) : vx_Met l yX6_lock wsX6_lock ({ frames := 6, cells := 1, slots := 6, locals := 82 } : Jvm.Room) (va_Pc [.ref x, .int x0, .int x1, .int x2, .int x3, .int x4] (zB dC dI ed sz [(x, .inr (8, [.ref rm, .ref tr, .ref st])), (gm, .inr (2, [.int 0, .int 0, .int 0, .int 0, .int 0, .int (-1), .long 0])), (lk, .inl (cL, 10, .inr (.inr (.inr (.inr fl)))))] [(rm, .inr (5, [.ref lk, .ref th, .ref pl, .ref gm, .int 0, .int 0, .int 0, .int (-1), .int 1, .int 0, .int 0, .int 0])), (l0, .inr (3, [.int 0, .int 0, .int 0, .int 0, .int 0, .int 0, .int 0, .int 0, .int 0, .int 0]))] [(cL, .object "LockRooms$Lock")])) (va_Qi (fun (r : Int32) (_ : Unit) => zL x0 x1 x2 ∧ r = 0) (fun (_ : Unit) (t : State) => va_P (dC, dI) vwCl [] t.heap ∧ va_D (va_A [(rm, .inr (5, [.ref lk, .ref th, .ref pl, .ref gm, .int 0, .int 0, .int 0, .int (-1), .int 1, .int 0, .int 0, .int 0])), (l0, .inr (3, [.int 0, .int 0, .int 0, .int 0, .int 0, .int 0, .int 0, .int 0, .int 0, .int 0]))] sz) [] ∧ va_K (dC, dI) vwCl [] t) (va_A [(rm, .inr (5, [.ref lk, .ref th, .ref pl, .ref gm, .int 0, .int 0, .int 0, .int (-1), .int 1, .int 0, .int 0, .int 0])), (l0, .inr (3, [.int 0, .int 0, .int 0, .int 0, .int 0, .int 0, .int 0, .int 0, .int 0, .int 0]))] sz)) (vx_X (fun (_ : Unit) => True) (fun (E : String) (_ : Unit) (_ : State) => E = "java/lang/IllegalArgumentException" ∧ ¬ zL x0 x1 x2) (va_A [(rm, .inr (5, [.ref lk, .ref th, .ref pl, .ref gm, .int 0, .int 0, .int 0, .int (-1), .int 1, .int 0, .int 0, .int 0])), (l0, .inr (3, [.int 0, .int 0, .int 0, .int 0, .int 0, .int 0, .int 0, .int 0, .int 0, .int 0]))] sz)) 1 6 (va_A [(rm, .inr (5, [.ref lk, .ref th, .ref pl, .ref gm, .int 0, .int 0, .int 0, .int (-1), .int 1, .int 0, .int 0, .int 0])), (l0, .inr (3, [.int 0, .int 0, .int 0, .int 0, .int 0, .int 0, .int 0, .int 0, .int 0, .int 0]))] sz) := by
  refine vx_ofW (cc := cX6_lock) (maxL := 6) (ret := (some .int)) (by decide) rfl ?_
  intro p e s m args below meth c s₁ B hml hnt hv
  obtain ⟨rfl, hsz, hR0, hP, hK, hD0, hN, hH, hX0⟩ := hv
  have hx := B.exec
  have hb := B.bytes
  have hr := B.returns
  have hts := atoms_spec (ws := wsX6_lock) B.pre
  have hown : s.vm.findClass RX6 = some m.cls := findClass_of_methodNamed B.named
  have hlocks := B.notSynchronized
  subst hsz
  have hD := hD0.self (sz := s.heap.size)
  have hAr := zx_A hX0 hR0
  generalize hAe : va_A [(rm, .inr (5, [.ref lk, .ref th, .ref pl, .ref gm, .int 0, .int 0, .int 0, .int (-1), .int 1, .int 0, .int 0, .int 0])), (l0, .inr (3, [.int 0, .int 0, .int 0, .int 0, .int 0, .int 0, .int 0, .int 0, .int 0, .int 0]))] s.heap.size = A at hD hAr hH ⊢
  have hA : ∀ q : Nat, s.heap.size ≤ q → A q := fun q h => by rw [← hAe]; exact Or.inr h
  have hS : va_S A s.heap s.heap [] := va_S.rf
  have hl := lv_entry ([.ref x, .int x0, .int x1, .int x2, .int x3, .int x4]) (n := 6) (Nat.le_of_ble_eq_true rfl)
  rw [lg_entry_eq]
  generalize (lg_sl ([.ref x, .int x0, .int x1, .int x2, .int x3, .int x4]) ++ List.replicate (6 - (lg_sl ([.ref x, .int x0, .int x1, .int x2, .int x3, .int x4])).length) Slot.unset).toArray = ls at hl ⊢
  have hl : lv_has ls 6 [(0, .ref x), (1, .int x0), (2, .int x1), (3, .int x2), (4, .int x3), (5, .int x4)] := hl
  refine lv_iload_n hx hb dX6_lock_0 rfl (lv_at hl 1 rfl) ?_
  refine lv_if_lt (tgt := 29) hx hb dX6_lock_1 (by decide) (fun c1 => ?_) (fun c1 => ?_)
  · skip
    obtain ⟨sa, hsa⟩ := hN.2.2.2.1 ("LockRooms", 32, "no lock needs, keeps or is as hard as that") (List.mem_of_getElem? (i := 0) rfl)
    exact vx_throwS (A := A) (cls := "java/lang/IllegalArgumentException") (names := ["java/lang/RuntimeException", "java/lang/Exception"]) hx hb htr hown (by decide +kernel) (by decide +kernel) (hts (.classLink RX6 30 "java/lang/IllegalArgumentException") (by decide +kernel)) (hts (.initialized "java/lang/IllegalArgumentException") (by decide +kernel)) hsa (vx_hat (B := zTB "java/lang/IllegalArgumentException") (fun w hw => hts w (zf_X6_lock_34 w hw)) zg_34 (zt_B (by decide) hN)) zh_34 hH.1 hH.2.1 hS (hl.1.trans hml.symm) dX6_lock_29 dX6_lock_32 dX6_lock_33 dX6_lock_35 dX6_lock_38 (fun x h => (hnt x h).elim) (Nat.le_of_ble_eq_true rfl) (Nat.le_of_ble_eq_true rfl) (Nat.le_of_ble_eq_true rfl) (Nat.le_of_ble_eq_true rfl) hlocks (fun t hvm hz hk => ⟨(), trivial, ⟨rfl, fun z => z.1.1 c1⟩, Nat.le_trans hS.1 hz, fun q h1 h2 => (hk q (Nat.lt_of_lt_of_le h1 hS.1)).trans (hS.2.1 q h1 h2)⟩) hS.2.2 (Nat.le_of_ble_eq_true rfl) (Nat.le_of_ble_eq_true rfl)
  · skip
    refine lv_iload_n hx hb dX6_lock_4 rfl (lv_at hl 1 rfl) ?_
    refine lv_sipush (v := 4095) hx hb dX6_lock_5 (by decide) ?_
    refine lv_icmp_gt (tgt := 29) hx hb dX6_lock_8 (by decide) (fun c2 => ?_) (fun c2 => ?_)
    · skip
      obtain ⟨sa, hsa⟩ := hN.2.2.2.1 ("LockRooms", 32, "no lock needs, keeps or is as hard as that") (List.mem_of_getElem? (i := 0) rfl)
      exact vx_throwS (A := A) (cls := "java/lang/IllegalArgumentException") (names := ["java/lang/RuntimeException", "java/lang/Exception"]) hx hb htr hown (by decide +kernel) (by decide +kernel) (hts (.classLink RX6 30 "java/lang/IllegalArgumentException") (by decide +kernel)) (hts (.initialized "java/lang/IllegalArgumentException") (by decide +kernel)) hsa (vx_hat (B := zTB "java/lang/IllegalArgumentException") (fun w hw => hts w (zf_X6_lock_34 w hw)) zg_34 (zt_B (by decide) hN)) zh_34 hH.1 hH.2.1 hS (hl.1.trans hml.symm) dX6_lock_29 dX6_lock_32 dX6_lock_33 dX6_lock_35 dX6_lock_38 (fun x h => (hnt x h).elim) (Nat.le_of_ble_eq_true rfl) (Nat.le_of_ble_eq_true rfl) (Nat.le_of_ble_eq_true rfl) (Nat.le_of_ble_eq_true rfl) hlocks (fun t hvm hz hk => ⟨(), trivial, ⟨rfl, fun z => z.1.2 c2⟩, Nat.le_trans hS.1 hz, fun q h1 h2 => (hk q (Nat.lt_of_lt_of_le h1 hS.1)).trans (hS.2.1 q h1 h2)⟩) hS.2.2 (Nat.le_of_ble_eq_true rfl) (Nat.le_of_ble_eq_true rfl)
    · skip
      refine lv_iload_n hx hb dX6_lock_11 rfl (lv_at hl 2 rfl) ?_
      refine lv_iload_n hx hb dX6_lock_12 rfl (lv_at hl 1 rfl) ?_
      refine lv_iconst (v := (-1)) hx hb dX6_lock_13 (by decide) ?_
      refine lv_ixor hx hb dX6_lock_14 ?_
      refine lv_iand hx hb dX6_lock_15 ?_
      refine lv_if_ne (tgt := 29) hx hb dX6_lock_16 (by decide) (fun c3 => ?_) (fun c3 => ?_)
      · skip
        obtain ⟨sa, hsa⟩ := hN.2.2.2.1 ("LockRooms", 32, "no lock needs, keeps or is as hard as that") (List.mem_of_getElem? (i := 0) rfl)
        exact vx_throwS (A := A) (cls := "java/lang/IllegalArgumentException") (names := ["java/lang/RuntimeException", "java/lang/Exception"]) hx hb htr hown (by decide +kernel) (by decide +kernel) (hts (.classLink RX6 30 "java/lang/IllegalArgumentException") (by decide +kernel)) (hts (.initialized "java/lang/IllegalArgumentException") (by decide +kernel)) hsa (vx_hat (B := zTB "java/lang/IllegalArgumentException") (fun w hw => hts w (zf_X6_lock_34 w hw)) zg_34 (zt_B (by decide) hN)) zh_34 hH.1 hH.2.1 hS (hl.1.trans hml.symm) dX6_lock_29 dX6_lock_32 dX6_lock_33 dX6_lock_35 dX6_lock_38 (fun x h => (hnt x h).elim) (Nat.le_of_ble_eq_true rfl) (Nat.le_of_ble_eq_true rfl) (Nat.le_of_ble_eq_true rfl) (Nat.le_of_ble_eq_true rfl) hlocks (fun t hvm hz hk => ⟨(), trivial, ⟨rfl, fun z => c3 z.2.1⟩, Nat.le_trans hS.1 hz, fun q h1 h2 => (hk q (Nat.lt_of_lt_of_le h1 hS.1)).trans (hS.2.1 q h1 h2)⟩) hS.2.2 (Nat.le_of_ble_eq_true rfl) (Nat.le_of_ble_eq_true rfl)
      · skip
        refine lv_iload_n hx hb dX6_lock_19 rfl (lv_at hl 3 rfl) ?_
        refine lv_iconst (v := 1) hx hb dX6_lock_20 (by decide) ?_
        refine lv_bipush (v := 60) hx hb dX6_lock_21 (by decide) ?_
        have hPr := (zo_nil : va_P (dC, dI) vwCl [] s.heap)
        have hPc := hP.sub (ws' := []) [] rfl
        have hDc := hD.sub (ws' := []) [] (by decide) rfl
        have hKc := hK.sub (tys' := []) [] rfl
        have hFc := va_free (wc := []) hD hS hA [] rfl
        refine va_calli (va_runS (As := [.int x2, .int 1, .int 60]) (rest := []) ⟨hx, hb, hml, hown, hts⟩ (cz_X6_isWithin l dC dI ed s.heap.size x2 1 60) (va_cwS 3 hts gX6_lock_X6_isWithin rfl rfl rfl (by decide +kernel) ⟨Nat.le_of_ble_eq_true rfl, Nat.le_of_ble_eq_true rfl⟩) ⟨zb_blind, fun U hU hW => ⟨rfl, zb_mk hU hW hPr hPc hKc hDc hN hH hS hFc zx_e⟩⟩ rfl rfl hl.1 rfl (lv_room (Nat.le_of_ble_eq_true rfl)) dX6_lock_23 ⟨Nat.le_of_ble_eq_true rfl, Nat.le_of_ble_eq_true rfl⟩) hS (fun q _ h => hFc q h) hFc (fun r5 u t H4 locs ht hvm hw hB hz1 hk1 hS => ?_)
        have hP := zo_K hP hk1
        by_cases c6 : (¬ x2 < 1 ∧ ¬ 60 < x2)
        · obtain rfl : r5 = 1 := hw.trans (if_pos c6)
          refine lv_if_ne (tgt := 39) hx hb dX6_lock_26 (by decide) (fun _ => ?_) (fun h => absurd h (by decide))
          refine lv_aload_n hx hb dX6_lock_39 rfl (lv_at hl 0 rfl) ?_
          refine va_get (D := (dC, dI)) (ci := 8) (v := .ref rm) (C := RX6) (T := TX6) (N := 3) hx hb hts zi_X6_lock_X6 hown hK (zo_R hR0 hS hAr) 0 rfl rfl 0 (by decide) (hts (.fieldLink RX6 12 "LockRooms" "room" "LLockRooms$Room;") (by decide +kernel)) (fun _ h9 => h9) rfl dX6_lock_40 ?_
          refine va_get (D := (dC, dI)) (ci := 5) (v := .int 0) (C := RX3) (T := TX3) (N := 12) hx hb hts zi_X6_lock_X3 hown hK hP 0 rfl rfl 4 (by decide) (hts (.fieldLink RX6 37 "LockRooms$Room" "lockCount" "I") (by decide +kernel)) (fun _ h9 => h9) rfl dX6_lock_43 ?_
          refine lv_bipush (v := 10) hx hb dX6_lock_46 (by decide) ?_
          refine lv_icmp_ge (tgt := 64) hx hb dX6_lock_48 (by decide) (fun h => absurd h (by decide)) (fun _ => ?_)
          refine lv_aload_n hx hb dX6_lock_51 rfl (lv_at hl 0 rfl) ?_
          refine va_get (D := (dC, dI)) (ci := 8) (v := .ref rm) (C := RX6) (T := TX6) (N := 3) hx hb hts zi_X6_lock_X6 hown hK (zo_R hR0 hS hAr) 0 rfl rfl 0 (by decide) (hts (.fieldLink RX6 12 "LockRooms" "room" "LLockRooms$Room;") (by decide +kernel)) (fun _ h9 => h9) rfl dX6_lock_52 ?_
          refine va_get (D := (dC, dI)) (ci := 5) (v := .ref gm) (C := RX3) (T := TX3) (N := 12) hx hb hts zi_X6_lock_X3 hown hK hP 0 rfl rfl 3 (by decide) (hts (.fieldLink RX6 41 "LockRooms$Room" "games" "LLockRooms$Games;") (by decide +kernel)) (fun _ h9 => h9) rfl dX6_lock_55 ?_
          refine va_get (D := (dC, dI)) (ci := 2) (v := .int 0) (C := RX0) (T := TX0) (N := 7) hx hb hts zi_X6_lock_X0 hown hK (zo_R hR0 hS hAr) 1 rfl rfl 0 (by decide) (hts (.fieldLink RX6 45 "LockRooms$Games" "isRunning" "Z") (by decide +kernel)) (fun _ h9 => h9) rfl dX6_lock_58 ?_
          refine lv_if_eq (tgt := 74) hx hb dX6_lock_61 (by decide) (fun _ => ?_) (fun h => absurd h (by decide))
          refine lv_aload_n hx hb dX6_lock_74 rfl (lv_at hl 0 rfl) ?_
          refine va_get (D := (dC, dI)) (ci := 8) (v := .ref rm) (C := RX6) (T := TX6) (N := 3) hx hb hts zi_X6_lock_X6 hown hK (zo_R hR0 hS hAr) 0 rfl rfl 0 (by decide) (hts (.fieldLink RX6 12 "LockRooms" "room" "LLockRooms$Room;") (by decide +kernel)) (fun _ h9 => h9) rfl dX6_lock_75 ?_
          refine lv_iload_n hx hb dX6_lock_78 rfl (lv_at hl 1 rfl) ?_
          refine lv_iload_n hx hb dX6_lock_79 rfl (lv_at hl 2 rfl) ?_
          refine lv_iload_n hx hb dX6_lock_80 rfl (lv_at hl 3 rfl) ?_
          refine lv_iload hx hb dX6_lock_81 (lv_at hl 4 rfl) ?_
          refine lv_iload hx hb dX6_lock_83 (lv_at hl 5 rfl) ?_
          have hPr := ((zo_R hR0 hS hAr)).sub (ws' := [(lk, .inl (cL, 10, .inr (.inr (.inr (.inr fl)))))]) [2] rfl
          have hPc := hP.sub (ws' := [(rm, .inr (5, [.ref lk, .ref th, .ref pl, .ref gm, .int 0, .int 0, .int 0, .int (-1), .int 1, .int 0, .int 0, .int 0])), (l0, .inr (3, [.int 0, .int 0, .int 0, .int 0, .int 0, .int 0, .int 0, .int 0, .int 0, .int 0]))]) [0, 1] rfl
          have hDc := hD.sub (ws' := [(rm, .inr (5, [.ref lk, .ref th, .ref pl, .ref gm, .int 0, .int 0, .int 0, .int (-1), .int 1, .int 0, .int 0, .int 0])), (l0, .inr (3, [.int 0, .int 0, .int 0, .int 0, .int 0, .int 0, .int 0, .int 0, .int 0, .int 0]))]) [0, 1] (by decide) rfl
          have hKc := hK.sub (tys' := [(cL, .object "LockRooms$Lock")]) [0] rfl
          have hFc := va_free (wc := [(rm, .inr (5, [.ref lk, .ref th, .ref pl, .ref gm, .int 0, .int 0, .int 0, .int (-1), .int 1, .int 0, .int 0, .int 0])), (l0, .inr (3, [.int 0, .int 0, .int 0, .int 0, .int 0, .int 0, .int 0, .int 0, .int 0, .int 0]))]) hD hS hA [0, 1] rfl
          refine va_calli (va_runV (As := [.int x0, .int x1, .int x2, .int x3, .int x4]) (rest := []) ⟨hx, hb, hml, hown, hts⟩ (cz_X3_addLock l dC dI ed H4.size rm lk th pl gm cL fl l0 x0 x1 x2 x3 x4 hkl h3) (cwV 5 hts gX6_lock_X3_addLock rfl rfl rfl (by decide +kernel) ⟨Nat.le_of_ble_eq_true rfl, Nat.le_of_ble_eq_true rfl⟩) ⟨zb_blind, va_recv hK hP (ci := 5) (q0 := 0) rfl rfl, fun U hU hW => ⟨rfl, zb_mk hU hW hPr hPc hKc hDc hN hH hS hFc (zx_cons (zx_r (hAr _ (List.mem_of_getElem? (i := 2) rfl)) hDc) zx_nil)⟩⟩ rfl rfl hl.1 rfl (lv_room (Nat.le_of_ble_eq_true rfl)) dX6_lock_85 ⟨Nat.le_of_ble_eq_true rfl, Nat.le_of_ble_eq_true rfl⟩) hS (fun q _ h => hFc q h) hFc (fun r8 u t H7 locs ht hvm hw hB hz1 hk1 hS => ?_)
          obtain rfl : r8 = 0 := hw
          obtain ⟨hP1, hD1, hK1⟩ := hB
          rw [ht] at hP1
          obtain ⟨hP, hD⟩ := va_join (wr := []) (w1 := []) hP hD [0, 1] [] rfl rfl (by decide) (by decide) hk1 hFc hP1 hD1
          have hP : va_P (dC, dI) vwCl [] H7 := hP
          have hD : va_D A [] := hD
          refine vx_ret ?_
          refine W.widen (k := 1) (n := 6) (Nat.le_of_ble_eq_true rfl) (Nat.le_of_ble_eq_true rfl) ?_
          have hP9 := hP.sub (ws' := []) [] rfl
          have hD9 := hD.sub (ws' := []) [] (by decide) rfl
          have hK9 := hK.sub (tys' := []) [] rfl
          exact W.iret hx hb hr (fun t ht hW => ⟨⟨0, (), rfl, ⟨⟨⟨c1, c2⟩, c3, c6⟩, rfl⟩, ⟨by rw [ht]; exact hP9, hD9, va_K.moved hW.alike hK9⟩⟩, hS.F ht⟩) hS.2.2 dX6_lock_88
        · obtain rfl : r5 = 0 := hw.trans (if_neg c6)
          refine lv_if_ne (tgt := 39) hx hb dX6_lock_26 (by decide) (fun h => absurd h (by decide)) (fun _ => ?_)
          obtain ⟨sa, hsa⟩ := hN.2.2.2.1 ("LockRooms", 32, "no lock needs, keeps or is as hard as that") (List.mem_of_getElem? (i := 0) rfl)
          exact vx_throwS (A := A) (cls := "java/lang/IllegalArgumentException") (names := ["java/lang/RuntimeException", "java/lang/Exception"]) hx hb htr hown (by decide +kernel) (by decide +kernel) (hts (.classLink RX6 30 "java/lang/IllegalArgumentException") (by decide +kernel)) (hts (.initialized "java/lang/IllegalArgumentException") (by decide +kernel)) hsa (vx_hat (B := zTB "java/lang/IllegalArgumentException") (fun w hw => hts w (zf_X6_lock_34 w hw)) zg_34 (zt_B (by decide) hN)) zh_34 hH.1 hH.2.1 hS (hl.1.trans hml.symm) dX6_lock_29 dX6_lock_32 dX6_lock_33 dX6_lock_35 dX6_lock_38 (fun x h => (hnt x h).elim) (Nat.le_of_ble_eq_true rfl) (Nat.le_of_ble_eq_true rfl) (Nat.le_of_ble_eq_true rfl) (Nat.le_of_ble_eq_true rfl) hlocks (fun t hvm hz hk => ⟨(), trivial, ⟨rfl, fun z => c6 z.2.2⟩, Nat.le_trans hS.1 hz, fun q h1 h2 => (hk q (Nat.lt_of_lt_of_le h1 hS.1)).trans (hS.2.1 q h1 h2)⟩) hS.2.2 (Nat.le_of_ble_eq_true rfl) (Nat.le_of_ble_eq_true rfl)

set_option maxRecDepth 20000 in
theorem zi_X3_addThing_X3 : ∀ w ∈ u_ws RX3 TX3 12, w ∈ wsX3_addThing := by decide +kernel
set_option maxRecDepth 20000 in
theorem zi_X3_addThing_X5 : ∀ w ∈ u_ws RX5 TX5 5, w ∈ wsX3_addThing := by decide +kernel
set_option maxHeartbeats 4000000 in
set_option maxRecDepth 100000 in
theorem cz_X3_addThing (l : Launch) (dC : Nat → ClassId) (dI : Nat → Nat → Nat) (ed sz : Nat) (rm : Nat) (lk : Nat) (th : Nat) (pl : Nat) (gm : Nat) (cT : ClassId) (ft : Nat → Option Nat) (t0 : Nat) (x0 : Int32) (x1 : Int32) (hkt : ft 0 = some t0) : Met l yX3_addThing wsX3_addThing ({ frames := 0, cells := 0, slots := 0, locals := 0 } : Jvm.Room) (va_Pc [.ref rm, .int x0, .int x1] (zB dC dI ed sz [(th, .inl (cT, 12, .inr (.inr (.inr (.inr ft)))))] [(rm, .inr (5, [.ref lk, .ref th, .ref pl, .ref gm, .int 0, .int 0, .int 0, .int (-1), .int 1, .int 0, .int 0, .int 0])), (t0, .inr (7, [.int 0, .int 0, .int 0, .int 0, .int 0]))] [(cT, .object "LockRooms$Thing")])) (va_Qi (fun (r : Int32) (_ : Unit) => r = 0) (fun (_ : Unit) (t : State) => va_P (dC, dI) vwCl [] t.heap ∧ va_D (va_A [(rm, .inr (5, [.ref lk, .ref th, .ref pl, .ref gm, .int 0, .int 0, .int 0, .int (-1), .int 1, .int 0, .int 0, .int 0])), (t0, .inr (7, [.int 0, .int 0, .int 0, .int 0, .int 0]))] sz) [] ∧ va_K (dC, dI) vwCl [] t) (va_A [(rm, .inr (5, [.ref lk, .ref th, .ref pl, .ref gm, .int 0, .int 0, .int 0, .int (-1), .int 1, .int 0, .int 0, .int 0])), (t0, .inr (7, [.int 0, .int 0, .int 0, .int 0, .int 0]))] sz)) 0 0 (va_A [(rm, .inr (5, [.ref lk, .ref th, .ref pl, .ref gm, .int 0, .int 0, .int 0, .int (-1), .int 1, .int 0, .int 0, .int 0])), (t0, .inr (7, [.int 0, .int 0, .int 0, .int 0, .int 0]))] sz) := by
  refine Met.ofW (cc := cX3_addThing) (maxL := 5) (ret := (some .int)) (by decide) rfl ?_
  intro p e s m args below meth c s₁ B hml hv
  obtain ⟨rfl, hsz, hR0, hP, hK, hD0, hN, hH, hX0⟩ := hv
  have hx := B.exec
  have hb := B.bytes
  have hr := B.returns
  have hts := atoms_spec (ws := wsX3_addThing) B.pre
  have hown : s.vm.findClass RX3 = some m.cls := findClass_of_methodNamed B.named
  have hlocks := B.notSynchronized
  subst hsz
  have hD := hD0.self (sz := s.heap.size)
  have hAr := zx_A hX0 hR0
  generalize hAe : va_A [(rm, .inr (5, [.ref lk, .ref th, .ref pl, .ref gm, .int 0, .int 0, .int 0, .int (-1), .int 1, .int 0, .int 0, .int 0])), (t0, .inr (7, [.int 0, .int 0, .int 0, .int 0, .int 0]))] s.heap.size = A at hD hAr hH ⊢
  have hA : ∀ q : Nat, s.heap.size ≤ q → A q := fun q h => by rw [← hAe]; exact Or.inr h
  have hS : va_S A s.heap s.heap [] := va_S.rf
  have hl := lv_entry ([.ref rm, .int x0, .int x1]) (n := 5) (Nat.le_of_ble_eq_true rfl)
  rw [lg_entry_eq]
  generalize (lg_sl ([.ref rm, .int x0, .int x1]) ++ List.replicate (5 - (lg_sl ([.ref rm, .int x0, .int x1])).length) Slot.unset).toArray = ls at hl ⊢
  have hl : lv_has ls 5 [(0, .ref rm), (1, .int x0), (2, .int x1)] := hl
  refine lv_aload_n hx hb dX3_addThing_0 rfl (lv_at hl 0 rfl) ?_
  refine va_get (D := (dC, dI)) (ci := 5) (v := .int 0) (C := RX3) (T := TX3) (N := 12) hx hb hts zi_X3_addThing_X3 hown hK hP 0 rfl rfl 5 (by decide) (hts (.fieldLink RX3 54 "LockRooms$Room" "thingCount" "I") (by decide +kernel)) (fun _ h9 => h9) rfl dX3_addThing_1 ?_
  refine lv_istore_n (lv' := [(3, .int 0), (0, .ref rm), (1, .int x0), (2, .int x1)]) hx hb dX3_addThing_4 rfl hl (by decide) rfl (fun ls hl => ?_)
  refine lv_iload_n hx hb dX3_addThing_5 rfl (lv_at hl 0 rfl) ?_
  refine lv_bipush (v := 12) hx hb dX3_addThing_6 (by decide) ?_
  refine lv_icmp_lt (tgt := 13) hx hb dX3_addThing_8 (by decide) (fun _ => ?_) (fun h => absurd h (by decide))
  refine lv_aload_n hx hb dX3_addThing_13 rfl (lv_at hl 1 rfl) ?_
  refine va_get (D := (dC, dI)) (ci := 5) (v := .ref th) (C := RX3) (T := TX3) (N := 12) hx hb hts zi_X3_addThing_X3 hown hK hP 0 rfl rfl 1 (by decide) (hts (.fieldLink RX3 19 "LockRooms$Room" "things" "[LLockRooms$Thing;") (by decide +kernel)) (fun _ h9 => h9) rfl dX3_addThing_14 ?_
  refine lv_iload_n hx hb dX3_addThing_17 rfl (lv_at hl 0 rfl) ?_
  refine va_aldq hx hb hK hR0 0 0 rfl rfl (by unfold vp_in; decide) dX3_addThing_18 ?_
  refine zo_q (v := .ref t0) (by rw [show Int32.toNatClampNeg 0 = 0 from by decide, hkt]; rfl) ?_
  refine lv_astore (lv' := [(4, .ref t0), (3, .int 0), (0, .ref rm), (1, .int x0), (2, .int x1)]) hx hb dX3_addThing_19 hl (by decide) rfl (fun ls hl => ?_)
  refine lv_aload hx hb dX3_addThing_21 (lv_at hl 0 rfl) ?_
  refine lv_iload_n hx hb dX3_addThing_23 rfl (lv_at hl 3 rfl) ?_
  refine va_put (D := (dC, dI)) (ci := 7) (v := .int x0) (ty := .int) (C := RX5) (T := TX5) (N := 5) hx hb hts zi_X3_addThing_X5 tyX5 tyX5_ok nmX5 hown hK hP hD hS 1 rfl rfl 0 (by decide) (hts (.fieldLink RX3 90 "LockRooms$Thing" "place" "I") (by decide +kernel)) (fun _ h9 => h9) rfl (by decide +kernel) rfl rfl (Nat.le_of_ble_eq_true rfl) dX3_addThing_24 (fun H1 locs hP hD hS => ?_)
  have hP : va_P (dC, dI) vwCl [(rm, .inr (5, [.ref lk, .ref th, .ref pl, .ref gm, .int 0, .int 0, .int 0, .int (-1), .int 1, .int 0, .int 0, .int 0])), (t0, .inr (7, [.int x0, .int 0, .int 0, .int 0, .int 0]))] H1 := hP
  have hD : va_D A [(rm, .inr (5, [.ref lk, .ref th, .ref pl, .ref gm, .int 0, .int 0, .int 0, .int (-1), .int 1, .int 0, .int 0, .int 0])), (t0, .inr (7, [.int x0, .int 0, .int 0, .int 0, .int 0]))] := hD
  refine lv_aload hx hb dX3_addThing_27 (lv_at hl 0 rfl) ?_
  refine lv_iload_n hx hb dX3_addThing_29 rfl (lv_at hl 4 rfl) ?_
  refine va_put (D := (dC, dI)) (ci := 7) (v := .int x1) (ty := .int) (C := RX5) (T := TX5) (N := 5) hx hb hts zi_X3_addThing_X5 tyX5 tyX5_ok nmX5 hown hK hP hD hS 1 rfl rfl 1 (by decide) (hts (.fieldLink RX3 93 "LockRooms$Thing" "hid" "I") (by decide +kernel)) (fun _ h9 => h9) rfl (by decide +kernel) rfl rfl (Nat.le_of_ble_eq_true rfl) dX3_addThing_30 (fun H2 locs hP hD hS => ?_)
  have hP : va_P (dC, dI) vwCl [(rm, .inr (5, [.ref lk, .ref th, .ref pl, .ref gm, .int 0, .int 0, .int 0, .int (-1), .int 1, .int 0, .int 0, .int 0])), (t0, .inr (7, [.int x0, .int x1, .int 0, .int 0, .int 0]))] H2 := hP
  have hD : va_D A [(rm, .inr (5, [.ref lk, .ref th, .ref pl, .ref gm, .int 0, .int 0, .int 0, .int (-1), .int 1, .int 0, .int 0, .int 0])), (t0, .inr (7, [.int x0, .int x1, .int 0, .int 0, .int 0]))] := hD
  refine lv_aload_n hx hb dX3_addThing_33 rfl (lv_at hl 2 rfl) ?_
  refine lv_dup hx hb dX3_addThing_34 rfl ?_
  refine va_get (D := (dC, dI)) (ci := 5) (v := .int 0) (C := RX3) (T := TX3) (N := 12) hx hb hts zi_X3_addThing_X3 hown hK hP 0 rfl rfl 5 (by decide) (hts (.fieldLink RX3 54 "LockRooms$Room" "thingCount" "I") (by decide +kernel)) (fun _ h9 => h9) rfl dX3_addThing_35 ?_
  refine lv_iconst (v := 1) hx hb dX3_addThing_38 (by decide) ?_
  refine lv_iadd hx hb dX3_addThing_39 ?_
  refine zo_i (v := 1) (by decide) ?_
  refine va_put (D := (dC, dI)) (ci := 5) (v := .int 1) (ty := .int) (C := RX3) (T := TX3) (N := 12) hx hb hts zi_X3_addThing_X3 tyX3 tyX3_ok nmX3 hown hK hP hD hS 0 rfl rfl 5 (by decide) (hts (.fieldLink RX3 54 "LockRooms$Room" "thingCount" "I") (by decide +kernel)) (fun _ h9 => h9) rfl (by decide +kernel) rfl rfl (Nat.le_of_ble_eq_true rfl) dX3_addThing_40 (fun H3 locs hP hD hS => ?_)
  have hP : va_P (dC, dI) vwCl [(rm, .inr (5, [.ref lk, .ref th, .ref pl, .ref gm, .int 0, .int 1, .int 0, .int (-1), .int 1, .int 0, .int 0, .int 0])), (t0, .inr (7, [.int x0, .int x1, .int 0, .int 0, .int 0]))] H3 := hP
  have hD : va_D A [(rm, .inr (5, [.ref lk, .ref th, .ref pl, .ref gm, .int 0, .int 1, .int 0, .int (-1), .int 1, .int 0, .int 0, .int 0])), (t0, .inr (7, [.int x0, .int x1, .int 0, .int 0, .int 0]))] := hD
  refine lv_iload_n hx hb dX3_addThing_43 rfl (lv_at hl 1 rfl) ?_
  refine W.widen (k := 0) (n := 0) (Nat.le_of_ble_eq_true rfl) (Nat.le_of_ble_eq_true rfl) ?_
  have hP9 := hP.sub (ws' := []) [] rfl
  have hD9 := hD.sub (ws' := []) [] (by decide) rfl
  have hK9 := hK.sub (tys' := []) [] rfl
  exact W.iret hx hb hr (fun t ht hW => ⟨⟨0, (), rfl, rfl, ⟨by rw [ht]; exact hP9, hD9, va_K.moved hW.alike hK9⟩⟩, hS.F ht⟩) hS.2.2 dX3_addThing_44

set_option maxRecDepth 20000 in
theorem zi_X6_thing_X6 : ∀ w ∈ u_ws RX6 TX6 3, w ∈ wsX6_thing := by decide +kernel
set_option maxRecDepth 20000 in
theorem zi_X6_thing_X3 : ∀ w ∈ u_ws RX3 TX3 12, w ∈ wsX6_thing := by decide +kernel
set_option maxRecDepth 20000 in
theorem zi_X6_thing_X0 : ∀ w ∈ u_ws RX0 TX0 7, w ∈ wsX6_thing := by decide +kernel
theorem zf_X6_thing_34 : ∀ w ∈ (vx_atS RX6 34 "java/lang/IllegalArgumentException" ["java/lang/RuntimeException", "java/lang/Exception"]).filter goodWord, w ∈ wsX6_thing := fun _ h => List.mem_cons_of_mem _ (List.mem_append_left _ (List.mem_append_right _ h))
theorem zf_X6_thing_68 : ∀ w ∈ (vx_atS RX6 68 "java/lang/IndexOutOfBoundsException" ["java/lang/RuntimeException", "java/lang/Exception"]).filter goodWord, w ∈ wsX6_thing := fun _ h => List.mem_cons_of_mem _ (List.mem_append_left _ (List.mem_append_left _ (List.mem_append_right _ h)))
set_option maxHeartbeats 4000000 in
set_option maxRecDepth 100000 in
theorem cz_X6_thing (l : Launch) (dC : Nat → ClassId) (dI : Nat → Nat → Nat) (ed sz : Nat) (x : Nat) (rm : Nat) (tr : Nat) (st : Nat) (lk : Nat) (th : Nat) (pl : Nat) (gm : Nat) (cT : ClassId) (ft : Nat → Option Nat) (t0 : Nat) (x0 : Int32) (x1 : Int32) (htr : l.stackTraces = false) (hkt : ft 0 = some t0) : vx_Met l yX6_thing wsX6_thing ({ frames := 6, cells := 1, slots := 6, locals := 82 } : Jvm.Room) (va_Pc [.ref x, .int x0, .int x1] (zB dC dI ed sz [(x, .inr (8, [.ref rm, .ref tr, .ref st])), (gm, .inr (2, [.int 0, .int 0, .int 0, .int 0, .int 0, .int (-1), .long 0])), (th, .inl (cT, 12, .inr (.inr (.inr (.inr ft)))))] [(rm, .inr (5, [.ref lk, .ref th, .ref pl, .ref gm, .int 0, .int 0, .int 0, .int (-1), .int 1, .int 0, .int 0, .int 0])), (t0, .inr (7, [.int 0, .int 0, .int 0, .int 0, .int 0]))] [(cT, .object "LockRooms$Thing")])) (va_Qi (fun (r : Int32) (_ : Unit) => (x0 = -1 ∧ (¬ x1 < 0 ∧ ¬ 9 < x1)) ∧ r = 0) (fun (_ : Unit) (t : State) => va_P (dC, dI) vwCl [] t.heap ∧ va_D (va_A [(rm, .inr (5, [.ref lk, .ref th, .ref pl, .ref gm, .int 0, .int 0, .int 0, .int (-1), .int 1, .int 0, .int 0, .int 0])), (t0, .inr (7, [.int 0, .int 0, .int 0, .int 0, .int 0]))] sz) [] ∧ va_K (dC, dI) vwCl [] t) (va_A [(rm, .inr (5, [.ref lk, .ref th, .ref pl, .ref gm, .int 0, .int 0, .int 0, .int (-1), .int 1, .int 0, .int 0, .int 0])), (t0, .inr (7, [.int 0, .int 0, .int 0, .int 0, .int 0]))] sz)) (vx_X (fun (_ : Unit) => True) (fun (E : String) (_ : Unit) (_ : State) => (E = "java/lang/IndexOutOfBoundsException" ∧ ¬ x0 = -1) ∨ (E = "java/lang/IllegalArgumentException" ∧ x0 = -1 ∧ ¬ (¬ x1 < 0 ∧ ¬ 9 < x1))) (va_A [(rm, .inr (5, [.ref lk, .ref th, .ref pl, .ref gm, .int 0, .int 0, .int 0, .int (-1), .int 1, .int 0, .int 0, .int 0])), (t0, .inr (7, [.int 0, .int 0, .int 0, .int 0, .int 0]))] sz)) 1 6 (va_A [(rm, .inr (5, [.ref lk, .ref th, .ref pl, .ref gm, .int 0, .int 0, .int 0, .int (-1), .int 1, .int 0, .int 0, .int 0])), (t0, .inr (7, [.int 0, .int 0, .int 0, .int 0, .int 0]))] sz) := by
  refine vx_ofW (cc := cX6_thing) (maxL := 3) (ret := (some .int)) (by decide) rfl ?_
  intro p e s m args below meth c s₁ B hml hnt hv
  obtain ⟨rfl, hsz, hR0, hP, hK, hD0, hN, hH, hX0⟩ := hv
  have hx := B.exec
  have hb := B.bytes
  have hr := B.returns
  have hts := atoms_spec (ws := wsX6_thing) B.pre
  have hown : s.vm.findClass RX6 = some m.cls := findClass_of_methodNamed B.named
  have hlocks := B.notSynchronized
  subst hsz
  have hD := hD0.self (sz := s.heap.size)
  have hAr := zx_A hX0 hR0
  generalize hAe : va_A [(rm, .inr (5, [.ref lk, .ref th, .ref pl, .ref gm, .int 0, .int 0, .int 0, .int (-1), .int 1, .int 0, .int 0, .int 0])), (t0, .inr (7, [.int 0, .int 0, .int 0, .int 0, .int 0]))] s.heap.size = A at hD hAr hH ⊢
  have hA : ∀ q : Nat, s.heap.size ≤ q → A q := fun q h => by rw [← hAe]; exact Or.inr h
  have hS : va_S A s.heap s.heap [] := va_S.rf
  have hl := lv_entry ([.ref x, .int x0, .int x1]) (n := 3) (Nat.le_of_ble_eq_true rfl)
  rw [lg_entry_eq]
  generalize (lg_sl ([.ref x, .int x0, .int x1]) ++ List.replicate (3 - (lg_sl ([.ref x, .int x0, .int x1])).length) Slot.unset).toArray = ls at hl ⊢
  have hl : lv_has ls 3 [(0, .ref x), (1, .int x0), (2, .int x1)] := hl
  refine lv_iload_n hx hb dX6_thing_0 rfl (lv_at hl 1 rfl) ?_
  refine lv_iconst (v := (-1)) hx hb dX6_thing_1 (by decide) ?_
  refine lv_icmp_eq (tgt := 26) hx hb dX6_thing_2 (by decide) (fun c1 => ?_) (fun c1 => ?_)
  · skip
    refine lv_iload_n hx hb dX6_thing_26 rfl (lv_at hl 2 rfl) ?_
    refine lv_iconst (v := 0) hx hb dX6_thing_27 (by decide) ?_
    refine lv_bipush (v := 9) hx hb dX6_thing_28 (by decide) ?_
    have hPr := (zo_nil : va_P (dC, dI) vwCl [] s.heap)
    have hPc := hP.sub (ws' := []) [] rfl
    have hDc := hD.sub (ws' := []) [] (by decide) rfl
    have hKc := hK.sub (tys' := []) [] rfl
    have hFc := va_free (wc := []) hD hS hA [] rfl
    refine va_calli (va_runS (As := [.int x1, .int 0, .int 9]) (rest := []) ⟨hx, hb, hml, hown, hts⟩ (cz_X6_isWithin l dC dI ed s.heap.size x1 0 9) (va_cwS 3 hts gX6_thing_X6_isWithin rfl rfl rfl (by decide +kernel) ⟨Nat.le_of_ble_eq_true rfl, Nat.le_of_ble_eq_true rfl⟩) ⟨zb_blind, fun U hU hW => ⟨rfl, zb_mk hU hW hPr hPc hKc hDc hN hH hS hFc zx_e⟩⟩ rfl rfl hl.1 rfl (lv_room (Nat.le_of_ble_eq_true rfl)) dX6_thing_30 ⟨Nat.le_of_ble_eq_true rfl, Nat.le_of_ble_eq_true rfl⟩) hS (fun q _ h => hFc q h) hFc (fun r3 u t H2 locs ht hvm hw hB hz1 hk1 hS => ?_)
    have hP := zo_K hP hk1
    by_cases c4 : (¬ x1 < 0 ∧ ¬ 9 < x1)
    · obtain rfl : r3 = 1 := hw.trans (if_pos c4)
      refine lv_if_ne (tgt := 46) hx hb dX6_thing_33 (by decide) (fun _ => ?_) (fun h => absurd h (by decide))
      refine lv_aload_n hx hb dX6_thing_46 rfl (lv_at hl 0 rfl) ?_
      refine va_get (D := (dC, dI)) (ci := 8) (v := .ref rm) (C := RX6) (T := TX6) (N := 3) hx hb hts zi_X6_thing_X6 hown hK (zo_R hR0 hS hAr) 0 rfl rfl 0 (by decide) (hts (.fieldLink RX6 12 "LockRooms" "room" "LLockRooms$Room;") (by decide +kernel)) (fun _ h9 => h9) rfl dX6_thing_47 ?_
      refine va_get (D := (dC, dI)) (ci := 5) (v := .int 0) (C := RX3) (T := TX3) (N := 12) hx hb hts zi_X6_thing_X3 hown hK hP 0 rfl rfl 5 (by decide) (hts (.fieldLink RX6 71 "LockRooms$Room" "thingCount" "I") (by decide +kernel)) (fun _ h9 => h9) rfl dX6_thing_50 ?_
      refine lv_bipush (v := 12) hx hb dX6_thing_53 (by decide) ?_
      refine lv_icmp_ge (tgt := 71) hx hb dX6_thing_55 (by decide) (fun h => absurd h (by decide)) (fun _ => ?_)
      refine lv_aload_n hx hb dX6_thing_58 rfl (lv_at hl 0 rfl) ?_
      refine va_get (D := (dC, dI)) (ci := 8) (v := .ref rm) (C := RX6) (T := TX6) (N := 3) hx hb hts zi_X6_thing_X6 hown hK (zo_R hR0 hS hAr) 0 rfl rfl 0 (by decide) (hts (.fieldLink RX6 12 "LockRooms" "room" "LLockRooms$Room;") (by decide +kernel)) (fun _ h9 => h9) rfl dX6_thing_59 ?_
      refine va_get (D := (dC, dI)) (ci := 5) (v := .ref gm) (C := RX3) (T := TX3) (N := 12) hx hb hts zi_X6_thing_X3 hown hK hP 0 rfl rfl 3 (by decide) (hts (.fieldLink RX6 41 "LockRooms$Room" "games" "LLockRooms$Games;") (by decide +kernel)) (fun _ h9 => h9) rfl dX6_thing_62 ?_
      refine va_get (D := (dC, dI)) (ci := 2) (v := .int 0) (C := RX0) (T := TX0) (N := 7) hx hb hts zi_X6_thing_X0 hown hK (zo_R hR0 hS hAr) 1 rfl rfl 0 (by decide) (hts (.fieldLink RX6 45 "LockRooms$Games" "isRunning" "Z") (by decide +kernel)) (fun _ h9 => h9) rfl dX6_thing_65 ?_
      refine lv_if_eq (tgt := 81) hx hb dX6_thing_68 (by decide) (fun _ => ?_) (fun h => absurd h (by decide))
      refine lv_aload_n hx hb dX6_thing_81 rfl (lv_at hl 0 rfl) ?_
      refine va_get (D := (dC, dI)) (ci := 8) (v := .ref rm) (C := RX6) (T := TX6) (N := 3) hx hb hts zi_X6_thing_X6 hown hK (zo_R hR0 hS hAr) 0 rfl rfl 0 (by decide) (hts (.fieldLink RX6 12 "LockRooms" "room" "LLockRooms$Room;") (by decide +kernel)) (fun _ h9 => h9) rfl dX6_thing_82 ?_
      refine lv_iload_n hx hb dX6_thing_85 rfl (lv_at hl 1 rfl) ?_
      refine lv_iload_n hx hb dX6_thing_86 rfl (lv_at hl 2 rfl) ?_
      have hPr := ((zo_R hR0 hS hAr)).sub (ws' := [(th, .inl (cT, 12, .inr (.inr (.inr (.inr ft)))))]) [2] rfl
      have hPc := hP.sub (ws' := [(rm, .inr (5, [.ref lk, .ref th, .ref pl, .ref gm, .int 0, .int 0, .int 0, .int (-1), .int 1, .int 0, .int 0, .int 0])), (t0, .inr (7, [.int 0, .int 0, .int 0, .int 0, .int 0]))]) [0, 1] rfl
      have hDc := hD.sub (ws' := [(rm, .inr (5, [.ref lk, .ref th, .ref pl, .ref gm, .int 0, .int 0, .int 0, .int (-1), .int 1, .int 0, .int 0, .int 0])), (t0, .inr (7, [.int 0, .int 0, .int 0, .int 0, .int 0]))]) [0, 1] (by decide) rfl
      have hKc := hK.sub (tys' := [(cT, .object "LockRooms$Thing")]) [0] rfl
      have hFc := va_free (wc := [(rm, .inr (5, [.ref lk, .ref th, .ref pl, .ref gm, .int 0, .int 0, .int 0, .int (-1), .int 1, .int 0, .int 0, .int 0])), (t0, .inr (7, [.int 0, .int 0, .int 0, .int 0, .int 0]))]) hD hS hA [0, 1] rfl
      refine va_calli (va_runV (As := [.int x0, .int x1]) (rest := []) ⟨hx, hb, hml, hown, hts⟩ (cz_X3_addThing l dC dI ed H2.size rm lk th pl gm cT ft t0 x0 x1 hkt) (cwV 2 hts gX6_thing_X3_addThing rfl rfl rfl (by decide +kernel) ⟨Nat.le_of_ble_eq_true rfl, Nat.le_of_ble_eq_true rfl⟩) ⟨zb_blind, va_recv hK hP (ci := 5) (q0 := 0) rfl rfl, fun U hU hW => ⟨rfl, zb_mk hU hW hPr hPc hKc hDc hN hH hS hFc (zx_cons (zx_r (hAr _ (List.mem_of_getElem? (i := 2) rfl)) hDc) zx_nil)⟩⟩ rfl rfl hl.1 rfl (lv_room (Nat.le_of_ble_eq_true rfl)) dX6_thing_87 ⟨Nat.le_of_ble_eq_true rfl, Nat.le_of_ble_eq_true rfl⟩) hS (fun q _ h => hFc q h) hFc (fun r6 u t H5 locs ht hvm hw hB hz1 hk1 hS => ?_)
      obtain rfl : r6 = 0 := hw
      obtain ⟨hP1, hD1, hK1⟩ := hB
      rw [ht] at hP1
      obtain ⟨hP, hD⟩ := va_join (wr := []) (w1 := []) hP hD [0, 1] [] rfl rfl (by decide) (by decide) hk1 hFc hP1 hD1
      have hP : va_P (dC, dI) vwCl [] H5 := hP
      have hD : va_D A [] := hD
      refine vx_ret ?_
      refine W.widen (k := 1) (n := 6) (Nat.le_of_ble_eq_true rfl) (Nat.le_of_ble_eq_true rfl) ?_
      have hP9 := hP.sub (ws' := []) [] rfl
      have hD9 := hD.sub (ws' := []) [] (by decide) rfl
      have hK9 := hK.sub (tys' := []) [] rfl
      exact W.iret hx hb hr (fun t ht hW => ⟨⟨0, (), rfl, ⟨⟨c1, c4⟩, rfl⟩, ⟨by rw [ht]; exact hP9, hD9, va_K.moved hW.alike hK9⟩⟩, hS.F ht⟩) hS.2.2 dX6_thing_90
    · obtain rfl : r3 = 0 := hw.trans (if_neg c4)
      refine lv_if_ne (tgt := 46) hx hb dX6_thing_33 (by decide) (fun h => absurd h (by decide)) (fun _ => ?_)
      obtain ⟨sa, hsa⟩ := hN.2.2.2.1 ("LockRooms", 69, "hid is not 0 to 9") (List.mem_of_getElem? (i := 3) rfl)
      exact vx_throwS (A := A) (cls := "java/lang/IllegalArgumentException") (names := ["java/lang/RuntimeException", "java/lang/Exception"]) hx hb htr hown (by decide +kernel) (by decide +kernel) (hts (.classLink RX6 30 "java/lang/IllegalArgumentException") (by decide +kernel)) (hts (.initialized "java/lang/IllegalArgumentException") (by decide +kernel)) hsa (vx_hat (B := zTB "java/lang/IllegalArgumentException") (fun w hw => hts w (zf_X6_thing_34 w hw)) zg_34 (zt_B (by decide) hN)) zh_34 hH.1 hH.2.1 hS (hl.1.trans hml.symm) dX6_thing_36 dX6_thing_39 dX6_thing_40 dX6_thing_42 dX6_thing_45 (fun x h => (hnt x h).elim) (Nat.le_of_ble_eq_true rfl) (Nat.le_of_ble_eq_true rfl) (Nat.le_of_ble_eq_true rfl) (Nat.le_of_ble_eq_true rfl) hlocks (fun t hvm hz hk => ⟨(), trivial, Or.inr ⟨rfl, c1, c4⟩, Nat.le_trans hS.1 hz, fun q h1 h2 => (hk q (Nat.lt_of_lt_of_le h1 hS.1)).trans (hS.2.1 q h1 h2)⟩) hS.2.2 (Nat.le_of_ble_eq_true rfl) (Nat.le_of_ble_eq_true rfl)
  · skip
    refine lv_aload_n hx hb dX6_thing_5 rfl (lv_at hl 0 rfl) ?_
    refine va_get (D := (dC, dI)) (ci := 8) (v := .ref rm) (C := RX6) (T := TX6) (N := 3) hx hb hts zi_X6_thing_X6 hown hK hR0 0 rfl rfl 0 (by decide) (hts (.fieldLink RX6 12 "LockRooms" "room" "LLockRooms$Room;") (by decide +kernel)) (fun _ h9 => h9) rfl dX6_thing_6 ?_
    refine lv_iload_n hx hb dX6_thing_9 rfl (lv_at hl 1 rfl) ?_
    have hPr := (hP).sub (ws' := [(rm, .inr (5, [.ref lk, .ref th, .ref pl, .ref gm, .int 0, .int 0, .int 0, .int (-1), .int 1, .int 0, .int 0, .int 0]))]) [0] rfl
    have hPc := hP.sub (ws' := []) [] rfl
    have hDc := hD.sub (ws' := []) [] (by decide) rfl
    have hKc := hK.sub (tys' := []) [] rfl
    have hFc := va_free (wc := []) hD hS hA [] rfl
    refine va_calli (va_runV (As := [.int x0]) (rest := []) ⟨hx, hb, hml, hown, hts⟩ (cz_hasLock l dC dI ed s.heap.size rm lk th pl gm x0) (cwV 1 hts gX6_thing_X3_hasLock rfl rfl rfl (by decide +kernel) ⟨Nat.le_of_ble_eq_true rfl, Nat.le_of_ble_eq_true rfl⟩) ⟨zb_blind, va_recv hK hP (ci := 5) (q0 := 0) rfl rfl, fun U hU hW => ⟨rfl, zb_mk hU hW hPr hPc hKc hDc hN hH hS hFc zx_e⟩⟩ rfl rfl hl.1 rfl (lv_room (Nat.le_of_ble_eq_true rfl)) dX6_thing_10 ⟨Nat.le_of_ble_eq_true rfl, Nat.le_of_ble_eq_true rfl⟩) hS (fun q _ h => hFc q h) hFc (fun r9 u t H8 locs ht hvm hw hB hz1 hk1 hS => ?_)
    obtain rfl : r9 = 0 := hw
    have hP := zo_K hP hk1
    refine lv_if_ne (tgt := 26) hx hb dX6_thing_13 (by decide) (fun h => absurd h (by decide)) (fun _ => ?_)
    obtain ⟨sa, hsa⟩ := hN.2.2.2.1 ("LockRooms", 66, "there is no such lock") (List.mem_of_getElem? (i := 2) rfl)
    exact vx_throwS (A := A) (cls := "java/lang/IndexOutOfBoundsException") (names := ["java/lang/RuntimeException", "java/lang/Exception"]) hx hb htr hown (by decide +kernel) (by decide +kernel) (hts (.classLink RX6 64 "java/lang/IndexOutOfBoundsException") (by decide +kernel)) (hts (.initialized "java/lang/IndexOutOfBoundsException") (by decide +kernel)) hsa (vx_hat (B := zTB "java/lang/IndexOutOfBoundsException") (fun w hw => hts w (zf_X6_thing_68 w hw)) zg_68 (zt_B (by decide) hN)) zh_68 hH.1 hH.2.1 hS (hl.1.trans hml.symm) dX6_thing_16 dX6_thing_19 dX6_thing_20 dX6_thing_22 dX6_thing_25 (fun x h => (hnt x h).elim) (Nat.le_of_ble_eq_true rfl) (Nat.le_of_ble_eq_true rfl) (Nat.le_of_ble_eq_true rfl) (Nat.le_of_ble_eq_true rfl) hlocks (fun t hvm hz hk => ⟨(), trivial, Or.inl ⟨rfl, c1⟩, Nat.le_trans hS.1 hz, fun q h1 h2 => (hk q (Nat.lt_of_lt_of_le h1 hS.1)).trans (hS.2.1 q h1 h2)⟩) hS.2.2 (Nat.le_of_ble_eq_true rfl) (Nat.le_of_ble_eq_true rfl)

set_option maxRecDepth 20000 in
theorem zi_X2_rest_X2 : ∀ w ∈ u_ws RX2 TX2 4, w ∈ wsX2_rest := by decide +kernel
set_option maxHeartbeats 4000000 in
set_option maxRecDepth 100000 in
theorem cz_X2_rest (l : Launch) (dC : Nat → ClassId) (dI : Nat → Nat → Nat) (ed sz : Nat) (p0 : Nat) (x0 : Int32) : Met l yX2_rest wsX2_rest ({ frames := 0, cells := 0, slots := 0, locals := 0 } : Jvm.Room) (va_Pc [.ref p0] (zB dC dI ed sz [] [(p0, .inr (4, [.int x0, .int 0, .int 0, .int 0]))] [])) (va_Qv (fun (_ : Unit) => True) (fun (_ : Unit) (t : State) => va_P (dC, dI) vwCl [(p0, .inr (4, [.int x0, .int (-1), .int (-1), .int 0]))] t.heap ∧ va_D (va_A [(p0, .inr (4, [.int x0, .int 0, .int 0, .int 0]))] sz) [(p0, .inr (4, [.int x0, .int (-1), .int (-1), .int 0]))] ∧ va_K (dC, dI) vwCl [] t) (va_A [(p0, .inr (4, [.int x0, .int 0, .int 0, .int 0]))] sz)) 0 0 (va_A [(p0, .inr (4, [.int x0, .int 0, .int 0, .int 0]))] sz) := by
  refine Met.ofW (cc := cX2_rest) (maxL := 1) (ret := none) (by decide) rfl ?_
  intro p e s m args below meth c s₁ B hml hv
  obtain ⟨rfl, hsz, hR0, hP, hK, hD0, hN, hH, hX0⟩ := hv
  have hx := B.exec
  have hb := B.bytes
  have hr := B.returns
  have hts := atoms_spec (ws := wsX2_rest) B.pre
  have hown : s.vm.findClass RX2 = some m.cls := findClass_of_methodNamed B.named
  have hlocks := B.notSynchronized
  subst hsz
  have hD := hD0.self (sz := s.heap.size)
  have hAr := zx_A hX0 hR0
  generalize hAe : va_A [(p0, .inr (4, [.int x0, .int 0, .int 0, .int 0]))] s.heap.size = A at hD hAr hH ⊢
  have hA : ∀ q : Nat, s.heap.size ≤ q → A q := fun q h => by rw [← hAe]; exact Or.inr h
  have hS : va_S A s.heap s.heap [] := va_S.rf
  have hl := lv_entry ([.ref p0]) (n := 1) (Nat.le_of_ble_eq_true rfl)
  rw [lg_entry_eq]
  generalize (lg_sl ([.ref p0]) ++ List.replicate (1 - (lg_sl ([.ref p0])).length) Slot.unset).toArray = ls at hl ⊢
  have hl : lv_has ls 1 [(0, .ref p0)] := hl
  refine lv_aload_n hx hb dX2_rest_0 rfl (lv_at hl 0 rfl) ?_
  refine lv_iconst (v := (-1)) hx hb dX2_rest_1 (by decide) ?_
  refine va_put (D := (dC, dI)) (ci := 4) (v := .int (-1)) (ty := .int) (C := RX2) (T := TX2) (N := 4) hx hb hts zi_X2_rest_X2 tyX2 tyX2_ok nmX2 hown hK hP hD hS 0 rfl rfl 1 (by decide) (hts (.fieldLink RX2 21 "LockRooms$Player" "atLock" "I") (by decide +kernel)) (fun _ h9 => h9) rfl (by decide +kernel) rfl rfl (Nat.le_of_ble_eq_true rfl) dX2_rest_2 (fun H1 locs hP hD hS => ?_)
  have hP : va_P (dC, dI) vwCl [(p0, .inr (4, [.int x0, .int (-1), .int 0, .int 0]))] H1 := hP
  have hD : va_D A [(p0, .inr (4, [.int x0, .int (-1), .int 0, .int 0]))] := hD
  refine lv_aload_n hx hb dX2_rest_5 rfl (lv_at hl 0 rfl) ?_
  refine lv_iconst (v := (-1)) hx hb dX2_rest_6 (by decide) ?_
  refine va_put (D := (dC, dI)) (ci := 4) (v := .int (-1)) (ty := .int) (C := RX2) (T := TX2) (N := 4) hx hb hts zi_X2_rest_X2 tyX2 tyX2_ok nmX2 hown hK hP hD hS 0 rfl rfl 2 (by decide) (hts (.fieldLink RX2 24 "LockRooms$Player" "atThing" "I") (by decide +kernel)) (fun _ h9 => h9) rfl (by decide +kernel) rfl rfl (Nat.le_of_ble_eq_true rfl) dX2_rest_7 (fun H2 locs hP hD hS => ?_)
  have hP : va_P (dC, dI) vwCl [(p0, .inr (4, [.int x0, .int (-1), .int (-1), .int 0]))] H2 := hP
  have hD : va_D A [(p0, .inr (4, [.int x0, .int (-1), .int (-1), .int 0]))] := hD
  refine W.widen (k := 0) (n := 0) (Nat.le_of_ble_eq_true rfl) (Nat.le_of_ble_eq_true rfl) ?_
  have hP9 := hP.sub (ws' := [(p0, .inr (4, [.int x0, .int (-1), .int (-1), .int 0]))]) [0] rfl
  have hD9 := hD.sub (ws' := [(p0, .inr (4, [.int x0, .int (-1), .int (-1), .int 0]))]) [0] (by decide) rfl
  have hK9 := hK.sub (tys' := []) [] rfl
  exact W.vret hx hb hr (fun t ht hW => ⟨⟨(), rfl, trivial, ⟨by rw [ht]; exact hP9, hD9, va_K.moved hW.alike hK9⟩⟩, hS.F ht⟩) hS.2.2 dX2_rest_10

set_option maxRecDepth 20000 in
theorem zi_X2_come_X2 : ∀ w ∈ u_ws RX2 TX2 4, w ∈ wsX2_come := by decide +kernel
set_option maxHeartbeats 4000000 in
set_option maxRecDepth 100000 in
theorem cz_X2_come (l : Launch) (dC : Nat → ClassId) (dI : Nat → Nat → Nat) (ed sz : Nat) (p0 : Nat) (x0 : Int32) : Met l yX2_come wsX2_come ({ frames := 1, cells := 0, slots := 0, locals := 20 } : Jvm.Room) (va_Pc [.ref p0, .int x0] (zB dC dI ed sz [] [(p0, .inr (4, [.int 0, .int 0, .int 0, .int 0]))] [])) (va_Qv (fun (_ : Unit) => True) (fun (_ : Unit) (t : State) => va_P (dC, dI) vwCl [] t.heap ∧ va_D (va_A [(p0, .inr (4, [.int 0, .int 0, .int 0, .int 0]))] sz) [] ∧ va_K (dC, dI) vwCl [] t) (va_A [(p0, .inr (4, [.int 0, .int 0, .int 0, .int 0]))] sz)) 0 0 (va_A [(p0, .inr (4, [.int 0, .int 0, .int 0, .int 0]))] sz) := by
  refine Met.ofW (cc := cX2_come) (maxL := 2) (ret := none) (by decide) rfl ?_
  intro p e s m args below meth c s₁ B hml hv
  obtain ⟨rfl, hsz, hR0, hP, hK, hD0, hN, hH, hX0⟩ := hv
  have hx := B.exec
  have hb := B.bytes
  have hr := B.returns
  have hts := atoms_spec (ws := wsX2_come) B.pre
  have hown : s.vm.findClass RX2 = some m.cls := findClass_of_methodNamed B.named
  have hlocks := B.notSynchronized
  subst hsz
  have hD := hD0.self (sz := s.heap.size)
  have hAr := zx_A hX0 hR0
  generalize hAe : va_A [(p0, .inr (4, [.int 0, .int 0, .int 0, .int 0]))] s.heap.size = A at hD hAr hH ⊢
  have hA : ∀ q : Nat, s.heap.size ≤ q → A q := fun q h => by rw [← hAe]; exact Or.inr h
  have hS : va_S A s.heap s.heap [] := va_S.rf
  have hl := lv_entry ([.ref p0, .int x0]) (n := 2) (Nat.le_of_ble_eq_true rfl)
  rw [lg_entry_eq]
  generalize (lg_sl ([.ref p0, .int x0]) ++ List.replicate (2 - (lg_sl ([.ref p0, .int x0])).length) Slot.unset).toArray = ls at hl ⊢
  have hl : lv_has ls 2 [(0, .ref p0), (1, .int x0)] := hl
  refine lv_aload_n hx hb dX2_come_0 rfl (lv_at hl 0 rfl) ?_
  refine lv_iload_n hx hb dX2_come_1 rfl (lv_at hl 1 rfl) ?_
  refine va_put (D := (dC, dI)) (ci := 4) (v := .int x0) (ty := .int) (C := RX2) (T := TX2) (N := 4) hx hb hts zi_X2_come_X2 tyX2 tyX2_ok nmX2 hown hK hP hD hS 0 rfl rfl 0 (by decide) (hts (.fieldLink RX2 9 "LockRooms$Player" "skill" "I") (by decide +kernel)) (fun _ h9 => h9) rfl (by decide +kernel) rfl rfl (Nat.le_of_ble_eq_true rfl) dX2_come_2 (fun H1 locs hP hD hS => ?_)
  have hP : va_P (dC, dI) vwCl [(p0, .inr (4, [.int x0, .int 0, .int 0, .int 0]))] H1 := hP
  have hD : va_D A [(p0, .inr (4, [.int x0, .int 0, .int 0, .int 0]))] := hD
  refine lv_aload_n hx hb dX2_come_5 rfl (lv_at hl 0 rfl) ?_
  refine lv_iconst (v := 0) hx hb dX2_come_6 (by decide) ?_
  refine va_put (D := (dC, dI)) (ci := 4) (v := .int 0) (ty := .int) (C := RX2) (T := TX2) (N := 4) hx hb hts zi_X2_come_X2 tyX2 tyX2_ok nmX2 hown hK hP hD hS 0 rfl rfl 3 (by decide) (hts (.fieldLink RX2 15 "LockRooms$Player" "idled" "I") (by decide +kernel)) (fun _ h9 => h9) rfl (by decide +kernel) rfl rfl (Nat.le_of_ble_eq_true rfl) dX2_come_7 (fun H2 locs hP hD hS => ?_)
  have hP : va_P (dC, dI) vwCl [(p0, .inr (4, [.int x0, .int 0, .int 0, .int 0]))] H2 := hP
  have hD : va_D A [(p0, .inr (4, [.int x0, .int 0, .int 0, .int 0]))] := hD
  refine lv_aload_n hx hb dX2_come_10 rfl (lv_at hl 0 rfl) ?_
  have hPr := (zo_nil : va_P (dC, dI) vwCl [] H2)
  have hPc := hP.sub (ws' := [(p0, .inr (4, [.int x0, .int 0, .int 0, .int 0]))]) [0] rfl
  have hDc := hD.sub (ws' := [(p0, .inr (4, [.int x0, .int 0, .int 0, .int 0]))]) [0] (by decide) rfl
  have hKc := hK.sub (tys' := []) [] rfl
  have hFc := va_free (wc := [(p0, .inr (4, [.int x0, .int 0, .int 0, .int 0]))]) hD hS hA [0] rfl
  refine va_callv (va_runV (As := []) (rest := []) ⟨hx, hb, hml, hown, hts⟩ (cz_X2_rest l dC dI ed H2.size p0 x0) (cwV 0 hts gX2_come_X2_rest rfl rfl rfl (by decide +kernel) ⟨Nat.le_of_ble_eq_true rfl, Nat.le_of_ble_eq_true rfl⟩) ⟨zb_blind, va_recv hK hP (ci := 4) (q0 := 0) rfl rfl, fun U hU hW => ⟨rfl, zb_mk hU hW hPr hPc hKc hDc hN hH hS hFc zx_nil⟩⟩ rfl rfl hl.1 rfl (lv_room (Nat.le_of_ble_eq_true rfl)) dX2_come_11 ⟨Nat.le_of_ble_eq_true rfl, Nat.le_of_ble_eq_true rfl⟩) hS (fun q _ h => hFc q h) hFc (fun u t H3 locs ht hvm hw hB hz1 hk1 hS => ?_)
  obtain ⟨hP1, hD1, hK1⟩ := hB
  rw [ht] at hP1
  obtain ⟨hP, hD⟩ := va_join (wr := []) (w1 := [(p0, .inr (4, [.int x0, .int (-1), .int (-1), .int 0]))]) hP hD [0] [] rfl rfl (by decide) (by decide) hk1 hFc hP1 hD1
  have hP : va_P (dC, dI) vwCl [(p0, .inr (4, [.int x0, .int (-1), .int (-1), .int 0]))] H3 := hP
  have hD : va_D A [(p0, .inr (4, [.int x0, .int (-1), .int (-1), .int 0]))] := hD
  refine W.widen (k := 0) (n := 0) (Nat.le_of_ble_eq_true rfl) (Nat.le_of_ble_eq_true rfl) ?_
  have hP9 := hP.sub (ws' := []) [] rfl
  have hD9 := hD.sub (ws' := []) [] (by decide) rfl
  have hK9 := hK.sub (tys' := []) [] rfl
  exact W.vret hx hb hr (fun t ht hW => ⟨⟨(), rfl, trivial, ⟨by rw [ht]; exact hP9, hD9, va_K.moved hW.alike hK9⟩⟩, hS.F ht⟩) hS.2.2 dX2_come_14

set_option maxRecDepth 20000 in
theorem zi_X3_addPlayer_X3 : ∀ w ∈ u_ws RX3 TX3 12, w ∈ wsX3_addPlayer := by decide +kernel
set_option maxHeartbeats 4000000 in
set_option maxRecDepth 100000 in
theorem cz_X3_addPlayer (l : Launch) (dC : Nat → ClassId) (dI : Nat → Nat → Nat) (ed sz : Nat) (rm : Nat) (lk : Nat) (th : Nat) (pl : Nat) (gm : Nat) (cP : ClassId) (fp : Nat → Option Nat) (p0 : Nat) (x0 : Int32) (hkp : fp 0 = some p0) : Met l yX3_addPlayer wsX3_addPlayer ({ frames := 2, cells := 0, slots := 0, locals := 41 } : Jvm.Room) (va_Pc [.ref rm, .int x0] (zB dC dI ed sz [(pl, .inl (cP, 6, .inr (.inr (.inr (.inr fp)))))] [(rm, .inr (5, [.ref lk, .ref th, .ref pl, .ref gm, .int 0, .int 0, .int 0, .int (-1), .int 1, .int 0, .int 0, .int 0])), (p0, .inr (4, [.int 0, .int 0, .int 0, .int 0]))] [(cP, .object "LockRooms$Player")])) (va_Qi (fun (r : Int32) (_ : Unit) => r = 0) (fun (_ : Unit) (t : State) => va_P (dC, dI) vwCl [] t.heap ∧ va_D (va_A [(rm, .inr (5, [.ref lk, .ref th, .ref pl, .ref gm, .int 0, .int 0, .int 0, .int (-1), .int 1, .int 0, .int 0, .int 0])), (p0, .inr (4, [.int 0, .int 0, .int 0, .int 0]))] sz) [] ∧ va_K (dC, dI) vwCl [] t) (va_A [(rm, .inr (5, [.ref lk, .ref th, .ref pl, .ref gm, .int 0, .int 0, .int 0, .int (-1), .int 1, .int 0, .int 0, .int 0])), (p0, .inr (4, [.int 0, .int 0, .int 0, .int 0]))] sz)) 0 0 (va_A [(rm, .inr (5, [.ref lk, .ref th, .ref pl, .ref gm, .int 0, .int 0, .int 0, .int (-1), .int 1, .int 0, .int 0, .int 0])), (p0, .inr (4, [.int 0, .int 0, .int 0, .int 0]))] sz) := by
  refine Met.ofW (cc := cX3_addPlayer) (maxL := 3) (ret := (some .int)) (by decide) rfl ?_
  intro p e s m args below meth c s₁ B hml hv
  obtain ⟨rfl, hsz, hR0, hP, hK, hD0, hN, hH, hX0⟩ := hv
  have hx := B.exec
  have hb := B.bytes
  have hr := B.returns
  have hts := atoms_spec (ws := wsX3_addPlayer) B.pre
  have hown : s.vm.findClass RX3 = some m.cls := findClass_of_methodNamed B.named
  have hlocks := B.notSynchronized
  subst hsz
  have hD := hD0.self (sz := s.heap.size)
  have hAr := zx_A hX0 hR0
  generalize hAe : va_A [(rm, .inr (5, [.ref lk, .ref th, .ref pl, .ref gm, .int 0, .int 0, .int 0, .int (-1), .int 1, .int 0, .int 0, .int 0])), (p0, .inr (4, [.int 0, .int 0, .int 0, .int 0]))] s.heap.size = A at hD hAr hH ⊢
  have hA : ∀ q : Nat, s.heap.size ≤ q → A q := fun q h => by rw [← hAe]; exact Or.inr h
  have hS : va_S A s.heap s.heap [] := va_S.rf
  have hl := lv_entry ([.ref rm, .int x0]) (n := 3) (Nat.le_of_ble_eq_true rfl)
  rw [lg_entry_eq]
  generalize (lg_sl ([.ref rm, .int x0]) ++ List.replicate (3 - (lg_sl ([.ref rm, .int x0])).length) Slot.unset).toArray = ls at hl ⊢
  have hl : lv_has ls 3 [(0, .ref rm), (1, .int x0)] := hl
  refine lv_aload_n hx hb dX3_addPlayer_0 rfl (lv_at hl 0 rfl) ?_
  refine va_get (D := (dC, dI)) (ci := 5) (v := .int 0) (C := RX3) (T := TX3) (N := 12) hx hb hts zi_X3_addPlayer_X3 hown hK hP 0 rfl rfl 6 (by decide) (hts (.fieldLink RX3 60 "LockRooms$Room" "playerCount" "I") (by decide +kernel)) (fun _ h9 => h9) rfl dX3_addPlayer_1 ?_
  refine lv_istore_n (lv' := [(2, .int 0), (0, .ref rm), (1, .int x0)]) hx hb dX3_addPlayer_4 rfl hl (by decide) rfl (fun ls hl => ?_)
  refine lv_iload_n hx hb dX3_addPlayer_5 rfl (lv_at hl 0 rfl) ?_
  refine lv_bipush (v := 6) hx hb dX3_addPlayer_6 (by decide) ?_
  refine lv_icmp_lt (tgt := 13) hx hb dX3_addPlayer_8 (by decide) (fun _ => ?_) (fun h => absurd h (by decide))
  refine lv_aload_n hx hb dX3_addPlayer_13 rfl (lv_at hl 1 rfl) ?_
  refine va_get (D := (dC, dI)) (ci := 5) (v := .ref pl) (C := RX3) (T := TX3) (N := 12) hx hb hts zi_X3_addPlayer_X3 hown hK hP 0 rfl rfl 2 (by decide) (hts (.fieldLink RX3 25 "LockRooms$Room" "players" "[LLockRooms$Player;") (by decide +kernel)) (fun _ h9 => h9) rfl dX3_addPlayer_14 ?_
  refine lv_iload_n hx hb dX3_addPlayer_17 rfl (lv_at hl 0 rfl) ?_
  refine va_aldq hx hb hK hR0 0 0 rfl rfl (by unfold vp_in; decide) dX3_addPlayer_18 ?_
  refine zo_q (v := .ref p0) (by rw [show Int32.toNatClampNeg 0 = 0 from by decide, hkp]; rfl) ?_
  refine lv_iload_n hx hb dX3_addPlayer_19 rfl (lv_at hl 2 rfl) ?_
  have hPr := (zo_nil : va_P (dC, dI) vwCl [] s.heap)
  have hPc := hP.sub (ws' := [(p0, .inr (4, [.int 0, .int 0, .int 0, .int 0]))]) [1] rfl
  have hDc := hD.sub (ws' := [(p0, .inr (4, [.int 0, .int 0, .int 0, .int 0]))]) [1] (by decide) rfl
  have hKc := hK.sub (tys' := []) [] rfl
  have hFc := va_free (wc := [(p0, .inr (4, [.int 0, .int 0, .int 0, .int 0]))]) hD hS hA [1] rfl
  refine va_callv (va_runV (As := [.int x0]) (rest := []) ⟨hx, hb, hml, hown, hts⟩ (cz_X2_come l dC dI ed s.heap.size p0 x0) (cwV 1 hts gX3_addPlayer_X2_come rfl rfl rfl (by decide +kernel) ⟨Nat.le_of_ble_eq_true rfl, Nat.le_of_ble_eq_true rfl⟩) ⟨zb_blind, va_recv hK hP (ci := 4) (q0 := 1) rfl rfl, fun U hU hW => ⟨rfl, zb_mk hU hW hPr hPc hKc hDc hN hH hS hFc zx_nil⟩⟩ rfl rfl hl.1 rfl (lv_room (Nat.le_of_ble_eq_true rfl)) dX3_addPlayer_20 ⟨Nat.le_of_ble_eq_true rfl, Nat.le_of_ble_eq_true rfl⟩) hS (fun q _ h => hFc q h) hFc (fun u t H1 locs ht hvm hw hB hz1 hk1 hS => ?_)
  obtain ⟨hP1, hD1, hK1⟩ := hB
  rw [ht] at hP1
  obtain ⟨hP, hD⟩ := va_join (wr := [(rm, .inr (5, [.ref lk, .ref th, .ref pl, .ref gm, .int 0, .int 0, .int 0, .int (-1), .int 1, .int 0, .int 0, .int 0]))]) (w1 := []) hP hD [1] [0] rfl rfl (by decide) (by decide) hk1 hFc hP1 hD1
  have hP : va_P (dC, dI) vwCl [(rm, .inr (5, [.ref lk, .ref th, .ref pl, .ref gm, .int 0, .int 0, .int 0, .int (-1), .int 1, .int 0, .int 0, .int 0]))] H1 := hP
  have hD : va_D A [(rm, .inr (5, [.ref lk, .ref th, .ref pl, .ref gm, .int 0, .int 0, .int 0, .int (-1), .int 1, .int 0, .int 0, .int 0]))] := hD
  refine lv_aload_n hx hb dX3_addPlayer_23 rfl (lv_at hl 1 rfl) ?_
  refine lv_dup hx hb dX3_addPlayer_24 rfl ?_
  refine va_get (D := (dC, dI)) (ci := 5) (v := .int 0) (C := RX3) (T := TX3) (N := 12) hx hb hts zi_X3_addPlayer_X3 hown hK hP 0 rfl rfl 6 (by decide) (hts (.fieldLink RX3 60 "LockRooms$Room" "playerCount" "I") (by decide +kernel)) (fun _ h9 => h9) rfl dX3_addPlayer_25 ?_
  refine lv_iconst (v := 1) hx hb dX3_addPlayer_28 (by decide) ?_
  refine lv_iadd hx hb dX3_addPlayer_29 ?_
  refine zo_i (v := 1) (by decide) ?_
  refine va_put (D := (dC, dI)) (ci := 5) (v := .int 1) (ty := .int) (C := RX3) (T := TX3) (N := 12) hx hb hts zi_X3_addPlayer_X3 tyX3 tyX3_ok nmX3 hown hK hP hD hS 0 rfl rfl 6 (by decide) (hts (.fieldLink RX3 60 "LockRooms$Room" "playerCount" "I") (by decide +kernel)) (fun _ h9 => h9) rfl (by decide +kernel) rfl rfl (Nat.le_of_ble_eq_true rfl) dX3_addPlayer_30 (fun H4 locs hP hD hS => ?_)
  have hP : va_P (dC, dI) vwCl [(rm, .inr (5, [.ref lk, .ref th, .ref pl, .ref gm, .int 0, .int 0, .int 1, .int (-1), .int 1, .int 0, .int 0, .int 0]))] H4 := hP
  have hD : va_D A [(rm, .inr (5, [.ref lk, .ref th, .ref pl, .ref gm, .int 0, .int 0, .int 1, .int (-1), .int 1, .int 0, .int 0, .int 0]))] := hD
  refine lv_iload_n hx hb dX3_addPlayer_33 rfl (lv_at hl 0 rfl) ?_
  refine W.widen (k := 0) (n := 0) (Nat.le_of_ble_eq_true rfl) (Nat.le_of_ble_eq_true rfl) ?_
  have hP9 := hP.sub (ws' := []) [] rfl
  have hD9 := hD.sub (ws' := []) [] (by decide) rfl
  have hK9 := hK.sub (tys' := []) [] rfl
  exact W.iret hx hb hr (fun t ht hW => ⟨⟨0, (), rfl, rfl, ⟨by rw [ht]; exact hP9, hD9, va_K.moved hW.alike hK9⟩⟩, hS.F ht⟩) hS.2.2 dX3_addPlayer_34

set_option maxRecDepth 20000 in
theorem zi_X6_player_X6 : ∀ w ∈ u_ws RX6 TX6 3, w ∈ wsX6_player := by decide +kernel
set_option maxRecDepth 20000 in
theorem zi_X6_player_X3 : ∀ w ∈ u_ws RX3 TX3 12, w ∈ wsX6_player := by decide +kernel
set_option maxRecDepth 20000 in
theorem zi_X6_player_X0 : ∀ w ∈ u_ws RX0 TX0 7, w ∈ wsX6_player := by decide +kernel
theorem zf_X6_player_34 : ∀ w ∈ (vx_atS RX6 34 "java/lang/IllegalArgumentException" ["java/lang/RuntimeException", "java/lang/Exception"]).filter goodWord, w ∈ wsX6_player := fun _ h => List.mem_cons_of_mem _ (List.mem_append_left _ (List.mem_append_right _ h))
set_option maxHeartbeats 4000000 in
set_option maxRecDepth 100000 in
theorem cz_X6_player (l : Launch) (dC : Nat → ClassId) (dI : Nat → Nat → Nat) (ed sz : Nat) (x : Nat) (rm : Nat) (tr : Nat) (st : Nat) (lk : Nat) (th : Nat) (pl : Nat) (gm : Nat) (cP : ClassId) (fp : Nat → Option Nat) (p0 : Nat) (x0 : Int32) (htr : l.stackTraces = false) (hkp : fp 0 = some p0) : vx_Met l yX6_player wsX6_player ({ frames := 6, cells := 1, slots := 6, locals := 82 } : Jvm.Room) (va_Pc [.ref x, .int x0] (zB dC dI ed sz [(x, .inr (8, [.ref rm, .ref tr, .ref st])), (gm, .inr (2, [.int 0, .int 0, .int 0, .int 0, .int 0, .int (-1), .long 0])), (pl, .inl (cP, 6, .inr (.inr (.inr (.inr fp)))))] [(rm, .inr (5, [.ref lk, .ref th, .ref pl, .ref gm, .int 0, .int 0, .int 0, .int (-1), .int 1, .int 0, .int 0, .int 0])), (p0, .inr (4, [.int 0, .int 0, .int 0, .int 0]))] [(cP, .object "LockRooms$Player")])) (va_Qi (fun (r : Int32) (_ : Unit) => (¬ x0 < 1 ∧ ¬ 9 < x0) ∧ r = 0) (fun (_ : Unit) (t : State) => va_P (dC, dI) vwCl [] t.heap ∧ va_D (va_A [(rm, .inr (5, [.ref lk, .ref th, .ref pl, .ref gm, .int 0, .int 0, .int 0, .int (-1), .int 1, .int 0, .int 0, .int 0])), (p0, .inr (4, [.int 0, .int 0, .int 0, .int 0]))] sz) [] ∧ va_K (dC, dI) vwCl [] t) (va_A [(rm, .inr (5, [.ref lk, .ref th, .ref pl, .ref gm, .int 0, .int 0, .int 0, .int (-1), .int 1, .int 0, .int 0, .int 0])), (p0, .inr (4, [.int 0, .int 0, .int 0, .int 0]))] sz)) (vx_X (fun (_ : Unit) => True) (fun (E : String) (_ : Unit) (_ : State) => E = "java/lang/IllegalArgumentException" ∧ ¬ (¬ x0 < 1 ∧ ¬ 9 < x0)) (va_A [(rm, .inr (5, [.ref lk, .ref th, .ref pl, .ref gm, .int 0, .int 0, .int 0, .int (-1), .int 1, .int 0, .int 0, .int 0])), (p0, .inr (4, [.int 0, .int 0, .int 0, .int 0]))] sz)) 1 6 (va_A [(rm, .inr (5, [.ref lk, .ref th, .ref pl, .ref gm, .int 0, .int 0, .int 0, .int (-1), .int 1, .int 0, .int 0, .int 0])), (p0, .inr (4, [.int 0, .int 0, .int 0, .int 0]))] sz) := by
  refine vx_ofW (cc := cX6_player) (maxL := 2) (ret := (some .int)) (by decide) rfl ?_
  intro p e s m args below meth c s₁ B hml hnt hv
  obtain ⟨rfl, hsz, hR0, hP, hK, hD0, hN, hH, hX0⟩ := hv
  have hx := B.exec
  have hb := B.bytes
  have hr := B.returns
  have hts := atoms_spec (ws := wsX6_player) B.pre
  have hown : s.vm.findClass RX6 = some m.cls := findClass_of_methodNamed B.named
  have hlocks := B.notSynchronized
  subst hsz
  have hD := hD0.self (sz := s.heap.size)
  have hAr := zx_A hX0 hR0
  generalize hAe : va_A [(rm, .inr (5, [.ref lk, .ref th, .ref pl, .ref gm, .int 0, .int 0, .int 0, .int (-1), .int 1, .int 0, .int 0, .int 0])), (p0, .inr (4, [.int 0, .int 0, .int 0, .int 0]))] s.heap.size = A at hD hAr hH ⊢
  have hA : ∀ q : Nat, s.heap.size ≤ q → A q := fun q h => by rw [← hAe]; exact Or.inr h
  have hS : va_S A s.heap s.heap [] := va_S.rf
  have hl := lv_entry ([.ref x, .int x0]) (n := 2) (Nat.le_of_ble_eq_true rfl)
  rw [lg_entry_eq]
  generalize (lg_sl ([.ref x, .int x0]) ++ List.replicate (2 - (lg_sl ([.ref x, .int x0])).length) Slot.unset).toArray = ls at hl ⊢
  have hl : lv_has ls 2 [(0, .ref x), (1, .int x0)] := hl
  refine lv_iload_n hx hb dX6_player_0 rfl (lv_at hl 1 rfl) ?_
  refine lv_iconst (v := 1) hx hb dX6_player_1 (by decide) ?_
  refine lv_bipush (v := 9) hx hb dX6_player_2 (by decide) ?_
  have hPr := (zo_nil : va_P (dC, dI) vwCl [] s.heap)
  have hPc := hP.sub (ws' := []) [] rfl
  have hDc := hD.sub (ws' := []) [] (by decide) rfl
  have hKc := hK.sub (tys' := []) [] rfl
  have hFc := va_free (wc := []) hD hS hA [] rfl
  refine va_calli (va_runS (As := [.int x0, .int 1, .int 9]) (rest := []) ⟨hx, hb, hml, hown, hts⟩ (cz_X6_isWithin l dC dI ed s.heap.size x0 1 9) (va_cwS 3 hts gX6_player_X6_isWithin rfl rfl rfl (by decide +kernel) ⟨Nat.le_of_ble_eq_true rfl, Nat.le_of_ble_eq_true rfl⟩) ⟨zb_blind, fun U hU hW => ⟨rfl, zb_mk hU hW hPr hPc hKc hDc hN hH hS hFc zx_e⟩⟩ rfl rfl hl.1 rfl (lv_room (Nat.le_of_ble_eq_true rfl)) dX6_player_4 ⟨Nat.le_of_ble_eq_true rfl, Nat.le_of_ble_eq_true rfl⟩) hS (fun q _ h => hFc q h) hFc (fun r2 u t H1 locs ht hvm hw hB hz1 hk1 hS => ?_)
  have hP := zo_K hP hk1
  by_cases c3 : (¬ x0 < 1 ∧ ¬ 9 < x0)
  · obtain rfl : r2 = 1 := hw.trans (if_pos c3)
    refine lv_if_ne (tgt := 20) hx hb dX6_player_7 (by decide) (fun _ => ?_) (fun h => absurd h (by decide))
    refine lv_aload_n hx hb dX6_player_20 rfl (lv_at hl 0 rfl) ?_
    refine va_get (D := (dC, dI)) (ci := 8) (v := .ref rm) (C := RX6) (T := TX6) (N := 3) hx hb hts zi_X6_player_X6 hown hK (zo_R hR0 hS hAr) 0 rfl rfl 0 (by decide) (hts (.fieldLink RX6 12 "LockRooms" "room" "LLockRooms$Room;") (by decide +kernel)) (fun _ h9 => h9) rfl dX6_player_21 ?_
    refine va_get (D := (dC, dI)) (ci := 5) (v := .int 0) (C := RX3) (T := TX3) (N := 12) hx hb hts zi_X6_player_X3 hown hK hP 0 rfl rfl 6 (by decide) (hts (.fieldLink RX6 82 "LockRooms$Room" "playerCount" "I") (by decide +kernel)) (fun _ h9 => h9) rfl dX6_player_24 ?_
    refine lv_bipush (v := 6) hx hb dX6_player_27 (by decide) ?_
    refine lv_icmp_ge (tgt := 45) hx hb dX6_player_29 (by decide) (fun h => absurd h (by decide)) (fun _ => ?_)
    refine lv_aload_n hx hb dX6_player_32 rfl (lv_at hl 0 rfl) ?_
    refine va_get (D := (dC, dI)) (ci := 8) (v := .ref rm) (C := RX6) (T := TX6) (N := 3) hx hb hts zi_X6_player_X6 hown hK (zo_R hR0 hS hAr) 0 rfl rfl 0 (by decide) (hts (.fieldLink RX6 12 "LockRooms" "room" "LLockRooms$Room;") (by decide +kernel)) (fun _ h9 => h9) rfl dX6_player_33 ?_
    refine va_get (D := (dC, dI)) (ci := 5) (v := .ref gm) (C := RX3) (T := TX3) (N := 12) hx hb hts zi_X6_player_X3 hown hK hP 0 rfl rfl 3 (by decide) (hts (.fieldLink RX6 41 "LockRooms$Room" "games" "LLockRooms$Games;") (by decide +kernel)) (fun _ h9 => h9) rfl dX6_player_36 ?_
    refine va_get (D := (dC, dI)) (ci := 2) (v := .int 0) (C := RX0) (T := TX0) (N := 7) hx hb hts zi_X6_player_X0 hown hK (zo_R hR0 hS hAr) 1 rfl rfl 0 (by decide) (hts (.fieldLink RX6 45 "LockRooms$Games" "isRunning" "Z") (by decide +kernel)) (fun _ h9 => h9) rfl dX6_player_39 ?_
    refine lv_if_eq (tgt := 55) hx hb dX6_player_42 (by decide) (fun _ => ?_) (fun h => absurd h (by decide))
    refine lv_aload_n hx hb dX6_player_55 rfl (lv_at hl 0 rfl) ?_
    refine va_get (D := (dC, dI)) (ci := 8) (v := .ref rm) (C := RX6) (T := TX6) (N := 3) hx hb hts zi_X6_player_X6 hown hK (zo_R hR0 hS hAr) 0 rfl rfl 0 (by decide) (hts (.fieldLink RX6 12 "LockRooms" "room" "LLockRooms$Room;") (by decide +kernel)) (fun _ h9 => h9) rfl dX6_player_56 ?_
    refine lv_iload_n hx hb dX6_player_59 rfl (lv_at hl 1 rfl) ?_
    have hPr := ((zo_R hR0 hS hAr)).sub (ws' := [(pl, .inl (cP, 6, .inr (.inr (.inr (.inr fp)))))]) [2] rfl
    have hPc := hP.sub (ws' := [(rm, .inr (5, [.ref lk, .ref th, .ref pl, .ref gm, .int 0, .int 0, .int 0, .int (-1), .int 1, .int 0, .int 0, .int 0])), (p0, .inr (4, [.int 0, .int 0, .int 0, .int 0]))]) [0, 1] rfl
    have hDc := hD.sub (ws' := [(rm, .inr (5, [.ref lk, .ref th, .ref pl, .ref gm, .int 0, .int 0, .int 0, .int (-1), .int 1, .int 0, .int 0, .int 0])), (p0, .inr (4, [.int 0, .int 0, .int 0, .int 0]))]) [0, 1] (by decide) rfl
    have hKc := hK.sub (tys' := [(cP, .object "LockRooms$Player")]) [0] rfl
    have hFc := va_free (wc := [(rm, .inr (5, [.ref lk, .ref th, .ref pl, .ref gm, .int 0, .int 0, .int 0, .int (-1), .int 1, .int 0, .int 0, .int 0])), (p0, .inr (4, [.int 0, .int 0, .int 0, .int 0]))]) hD hS hA [0, 1] rfl
    refine va_calli (va_runV (As := [.int x0]) (rest := []) ⟨hx, hb, hml, hown, hts⟩ (cz_X3_addPlayer l dC dI ed H1.size rm lk th pl gm cP fp p0 x0 hkp) (cwV 1 hts gX6_player_X3_addPlayer rfl rfl rfl (by decide +kernel) ⟨Nat.le_of_ble_eq_true rfl, Nat.le_of_ble_eq_true rfl⟩) ⟨zb_blind, va_recv hK hP (ci := 5) (q0 := 0) rfl rfl, fun U hU hW => ⟨rfl, zb_mk hU hW hPr hPc hKc hDc hN hH hS hFc (zx_cons (zx_r (hAr _ (List.mem_of_getElem? (i := 2) rfl)) hDc) zx_nil)⟩⟩ rfl rfl hl.1 rfl (lv_room (Nat.le_of_ble_eq_true rfl)) dX6_player_60 ⟨Nat.le_of_ble_eq_true rfl, Nat.le_of_ble_eq_true rfl⟩) hS (fun q _ h => hFc q h) hFc (fun r5 u t H4 locs ht hvm hw hB hz1 hk1 hS => ?_)
    obtain rfl : r5 = 0 := hw
    obtain ⟨hP1, hD1, hK1⟩ := hB
    rw [ht] at hP1
    obtain ⟨hP, hD⟩ := va_join (wr := []) (w1 := []) hP hD [0, 1] [] rfl rfl (by decide) (by decide) hk1 hFc hP1 hD1
    have hP : va_P (dC, dI) vwCl [] H4 := hP
    have hD : va_D A [] := hD
    refine vx_ret ?_
    refine W.widen (k := 1) (n := 6) (Nat.le_of_ble_eq_true rfl) (Nat.le_of_ble_eq_true rfl) ?_
    have hP9 := hP.sub (ws' := []) [] rfl
    have hD9 := hD.sub (ws' := []) [] (by decide) rfl
    have hK9 := hK.sub (tys' := []) [] rfl
    exact W.iret hx hb hr (fun t ht hW => ⟨⟨0, (), rfl, ⟨c3, rfl⟩, ⟨by rw [ht]; exact hP9, hD9, va_K.moved hW.alike hK9⟩⟩, hS.F ht⟩) hS.2.2 dX6_player_63
  · obtain rfl : r2 = 0 := hw.trans (if_neg c3)
    refine lv_if_ne (tgt := 20) hx hb dX6_player_7 (by decide) (fun h => absurd h (by decide)) (fun _ => ?_)
    obtain ⟨sa, hsa⟩ := hN.2.2.2.1 ("LockRooms", 80, "the skill is not 1 to 9") (List.mem_of_getElem? (i := 5) rfl)
    exact vx_throwS (A := A) (cls := "java/lang/IllegalArgumentException") (names := ["java/lang/RuntimeException", "java/lang/Exception"]) hx hb htr hown (by decide +kernel) (by decide +kernel) (hts (.classLink RX6 30 "java/lang/IllegalArgumentException") (by decide +kernel)) (hts (.initialized "java/lang/IllegalArgumentException") (by decide +kernel)) hsa (vx_hat (B := zTB "java/lang/IllegalArgumentException") (fun w hw => hts w (zf_X6_player_34 w hw)) zg_34 (zt_B (by decide) hN)) zh_34 hH.1 hH.2.1 hS (hl.1.trans hml.symm) dX6_player_10 dX6_player_13 dX6_player_14 dX6_player_16 dX6_player_19 (fun x h => (hnt x h).elim) (Nat.le_of_ble_eq_true rfl) (Nat.le_of_ble_eq_true rfl) (Nat.le_of_ble_eq_true rfl) (Nat.le_of_ble_eq_true rfl) hlocks (fun t hvm hz hk => ⟨(), trivial, ⟨rfl, c3⟩, Nat.le_trans hS.1 hz, fun q h1 h2 => (hk q (Nat.lt_of_lt_of_le h1 hS.1)).trans (hS.2.1 q h1 h2)⟩) hS.2.2 (Nat.le_of_ble_eq_true rfl) (Nat.le_of_ble_eq_true rfl)


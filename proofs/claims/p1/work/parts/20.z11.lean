set_option maxRecDepth 20000 in
theorem zi_X7_pass_X7 : ∀ w ∈ u_ws RX7 TX7 14, w ∈ wsX7_pass := by decide +kernel
set_option maxHeartbeats 4000000 in
set_option maxRecDepth 100000 in
theorem cz_pass7 (l : Launch) (dC : Nat → ClassId) (dI : Nat → Nat → Nat) (ed sz : Nat) (mr : Nat) (ll : Nat) (lt : Nat) (lp : Nat) (x0 : Int32) : Met l yX7_pass wsX7_pass ({ frames := 0, cells := 0, slots := 0, locals := 0 } : Jvm.Room) (va_Pc [.ref mr] (zB dC dI ed sz [] [(mr, .inr (9, [.ref ll, .ref lt, .ref lp, .int (-1), .int x0, .int 0, .int 0, .int 0, .int 0, .int 0, .int (-1), .int 0, .int 0, .int 0]))] [])) (va_Qi (fun (r : Int32) (_ : Unit) => r = 0) (fun (_ : Unit) (t : State) => va_P (dC, dI) vwCl [(mr, .inr (9, [.ref ll, .ref lt, .ref lp, .int (-1), .int (x0 + 1), .int 0, .int 0, .int 0, .int 0, .int 0, .int (-1), .int 0, .int 0, .int 0]))] t.heap ∧ va_D (va_A [(mr, .inr (9, [.ref ll, .ref lt, .ref lp, .int (-1), .int x0, .int 0, .int 0, .int 0, .int 0, .int 0, .int (-1), .int 0, .int 0, .int 0]))] sz) [(mr, .inr (9, [.ref ll, .ref lt, .ref lp, .int (-1), .int (x0 + 1), .int 0, .int 0, .int 0, .int 0, .int 0, .int (-1), .int 0, .int 0, .int 0]))] ∧ va_K (dC, dI) vwCl [] t) (va_A [(mr, .inr (9, [.ref ll, .ref lt, .ref lp, .int (-1), .int x0, .int 0, .int 0, .int 0, .int 0, .int 0, .int (-1), .int 0, .int 0, .int 0]))] sz)) 0 0 (va_A [(mr, .inr (9, [.ref ll, .ref lt, .ref lp, .int (-1), .int x0, .int 0, .int 0, .int 0, .int 0, .int 0, .int (-1), .int 0, .int 0, .int 0]))] sz) := by
  refine Met.ofW (cc := cX7_pass) (maxL := 3) (ret := (some .int)) (by decide) rfl ?_
  intro p e s m args below meth c s₁ B hml hv
  obtain ⟨rfl, hsz, hR0, hP, hK, hD0, hN, hH, hX0⟩ := hv
  have hx := B.exec
  have hb := B.bytes
  have hr := B.returns
  have hts := atoms_spec (ws := wsX7_pass) B.pre
  have hown : s.vm.findClass RX7 = some m.cls := findClass_of_methodNamed B.named
  have hlocks := B.notSynchronized
  subst hsz
  have hD := hD0.self (sz := s.heap.size)
  have hAr := zx_A hX0 hR0
  generalize hAe : va_A [(mr, .inr (9, [.ref ll, .ref lt, .ref lp, .int (-1), .int x0, .int 0, .int 0, .int 0, .int 0, .int 0, .int (-1), .int 0, .int 0, .int 0]))] s.heap.size = A at hD hAr hH ⊢
  have hA : ∀ q : Nat, s.heap.size ≤ q → A q := fun q h => by rw [← hAe]; exact Or.inr h
  have hS : va_S A s.heap s.heap [] := va_S.rf
  have hl := lv_entry ([.ref mr]) (n := 3) (Nat.le_of_ble_eq_true rfl)
  rw [lg_entry_eq]
  generalize (lg_sl ([.ref mr]) ++ List.replicate (3 - (lg_sl ([.ref mr])).length) Slot.unset).toArray = ls at hl ⊢
  have hl : lv_has ls 3 [(0, .ref mr)] := hl
  refine lv_aload_n hx hb dX7_pass_0 rfl (lv_at hl 0 rfl) ?_
  refine lv_dup hx hb dX7_pass_1 rfl ?_
  refine va_get (D := (dC, dI)) (ci := 9) (v := .int x0) (C := RX7) (T := TX7) (N := 14) hx hb hts zi_X7_pass_X7 hown hK hP 0 rfl rfl 4 (by decide) (hts (.fieldLink RX7 99 "LockRoomsModel$Room" "now" "I") (by decide +kernel)) (fun _ h9 => h9) rfl dX7_pass_2 ?_
  refine lv_iconst (v := 1) hx hb dX7_pass_5 (by decide) ?_
  refine lv_iadd hx hb dX7_pass_6 ?_
  refine va_put (D := (dC, dI)) (ci := 9) (v := .int (x0 + 1)) (ty := .int) (C := RX7) (T := TX7) (N := 14) hx hb hts zi_X7_pass_X7 tyX7 tyX7_ok nmX7 hown hK hP hD hS 0 rfl rfl 4 (by decide) (hts (.fieldLink RX7 99 "LockRoomsModel$Room" "now" "I") (by decide +kernel)) (fun _ h9 => h9) rfl (by decide +kernel) rfl rfl (Nat.le_of_ble_eq_true rfl) dX7_pass_7 (fun H1 locs hP hD hS => ?_)
  have hP : va_P (dC, dI) vwCl [(mr, .inr (9, [.ref ll, .ref lt, .ref lp, .int (-1), .int (x0 + 1), .int 0, .int 0, .int 0, .int 0, .int 0, .int (-1), .int 0, .int 0, .int 0]))] H1 := hP
  have hD : va_D A [(mr, .inr (9, [.ref ll, .ref lt, .ref lp, .int (-1), .int (x0 + 1), .int 0, .int 0, .int 0, .int 0, .int 0, .int (-1), .int 0, .int 0, .int 0]))] := hD
  refine lv_aload_n hx hb dX7_pass_10 rfl (lv_at hl 0 rfl) ?_
  refine va_get (D := (dC, dI)) (ci := 9) (v := .int 0) (C := RX7) (T := TX7) (N := 14) hx hb hts zi_X7_pass_X7 hown hK hP 0 rfl rfl 5 (by decide) (hts (.fieldLink RX7 55 "LockRoomsModel$Room" "isRunning" "Z") (by decide +kernel)) (fun _ h9 => h9) rfl dX7_pass_11 ?_
  refine lv_if_ne (tgt := 19) hx hb dX7_pass_14 (by decide) (fun h => absurd h (by decide)) (fun _ => ?_)
  refine lv_iconst (v := 0) hx hb dX7_pass_17 (by decide) ?_
  refine W.widen (k := 0) (n := 0) (Nat.le_of_ble_eq_true rfl) (Nat.le_of_ble_eq_true rfl) ?_
  have hP9 := hP.sub (ws' := [(mr, .inr (9, [.ref ll, .ref lt, .ref lp, .int (-1), .int (x0 + 1), .int 0, .int 0, .int 0, .int 0, .int 0, .int (-1), .int 0, .int 0, .int 0]))]) [0] rfl
  have hD9 := hD.sub (ws' := [(mr, .inr (9, [.ref ll, .ref lt, .ref lp, .int (-1), .int (x0 + 1), .int 0, .int 0, .int 0, .int 0, .int 0, .int (-1), .int 0, .int 0, .int 0]))]) [0] (by decide) rfl
  have hK9 := hK.sub (tys' := []) [] rfl
  exact W.iret hx hb hr (fun t ht hW => ⟨⟨0, (), rfl, rfl, ⟨by rw [ht]; exact hP9, hD9, va_K.moved hW.alike hK9⟩⟩, hS.F ht⟩) hS.2.2 dX7_pass_18

set_option maxRecDepth 20000 in
theorem zi_X7_copy_X7 : ∀ w ∈ u_ws RX7 TX7 14, w ∈ wsX7_copy := by decide +kernel
set_option maxHeartbeats 4000000 in
set_option maxRecDepth 100000 in
theorem cz_copy7 (l : Launch) (dC : Nat → ClassId) (dI : Nat → Nat → Nat) (ed sz : Nat) (mr : Nat) (ll : Nat) (lt : Nat) (lp : Nat) : Met l yX7_copy wsX7_copy ({ frames := 5, cells := 7, slots := 35, locals := 92 } : Jvm.Room) (va_Pc [.ref mr] (zB dC dI ed sz [(mr, .inr (9, [.ref ll, .ref lt, .ref lp, .int (-1), .int 0, .int 0, .int 0, .int 0, .int 0, .int 0, .int (-1), .int 0, .int 0, .int 0])), (ll, .inr (1, [.int 0, .ref ed, .int 0])), (lt, .inr (1, [.int 0, .ref ed, .int 0])), (lp, .inr (1, [.int 0, .ref ed, .int 0]))] [] [])) (va_Qr (fun (_ : Unit) => True) (fun (_ : Unit) (md : Nat) (t : State) => ∃ (m1 : Nat), ∃ (m2 : Nat), ∃ (m3 : Nat), va_P (dC, dI) vwCl [(md, .inr (9, [.ref m1, .ref m2, .ref m3, .int (-1), .int 0, .int 0, .int 0, .int 0, .int 0, .int 0, .int (-1), .int 0, .int 0, .int 0]))] t.heap ∧ va_D (va_A [] sz) [(md, .inr (9, [.ref m1, .ref m2, .ref m3, .int (-1), .int 0, .int 0, .int 0, .int 0, .int 0, .int 0, .int (-1), .int 0, .int 0, .int 0]))] ∧ va_K (dC, dI) vwCl [] t) (va_A [] sz)) 7 35 (va_A [] sz) := by
  refine Met.ofW (cc := cX7_copy) (maxL := 4) (ret := (some (.object "LockRoomsModel$Room"))) (by decide) rfl ?_
  intro p e s m args below meth c s₁ B hml hv
  obtain ⟨rfl, hsz, hR0, hP, hK, hD0, hN, hH, hX0⟩ := hv
  have hx := B.exec
  have hb := B.bytes
  have hr := B.returns
  have hts := atoms_spec (ws := wsX7_copy) B.pre
  have hown : s.vm.findClass RX7 = some m.cls := findClass_of_methodNamed B.named
  have hlocks := B.notSynchronized
  subst hsz
  have hD := hD0.self (sz := s.heap.size)
  have hAr := zx_A hX0 hR0
  generalize hAe : va_A [] s.heap.size = A at hD hAr hH ⊢
  have hA : ∀ q : Nat, s.heap.size ≤ q → A q := fun q h => by rw [← hAe]; exact Or.inr h
  have hS : va_S A s.heap s.heap [] := va_S.rf
  have hl := lv_entry ([.ref mr]) (n := 4) (Nat.le_of_ble_eq_true rfl)
  rw [lg_entry_eq]
  generalize (lg_sl ([.ref mr]) ++ List.replicate (4 - (lg_sl ([.ref mr])).length) Slot.unset).toArray = ls at hl ⊢
  have hl : lv_has ls 4 [(0, .ref mr)] := hl
  refine va_new (ci := 9) (fs := [.null, .null, .null, .int 0, .int 0, .int 0, .int 0, .int 0, .int 0, .int 0, .int 0, .int 0, .int 0, .int 0]) (C := RX7) (T := TX7) (N := 14) hx hb hts zi_X7_copy_X7 tyX7 tyX7_ok hown (hts (.classLink RX7 13 RX7) (by decide +kernel)) (hts (.instantiable RX7 14) (by decide +kernel)) (hts (.initialized RX7) (by decide +kernel)) hK hP hD hS hA rfl (fun j hj => by rcases (show j = 0 ∨ j = 1 ∨ j = 2 ∨ j = 3 ∨ j = 4 ∨ j = 5 ∨ j = 6 ∨ j = 7 ∨ j = 8 ∨ j = 9 ∨ j = 10 ∨ j = 11 ∨ j = 12 ∨ j = 13 by omega) with rfl | rfl | rfl | rfl | rfl | rfl | rfl | rfl | rfl | rfl | rfl | rfl | rfl | rfl <;> rfl) (Nat.le_of_ble_eq_true rfl) (Nat.le_of_ble_eq_true rfl) dX7_copy_0 (fun q1 H2 hP hD hS => ?_)
  have hP : va_P (dC, dI) vwCl [(q1, .inr (9, [.null, .null, .null, .int 0, .int 0, .int 0, .int 0, .int 0, .int 0, .int 0, .int 0, .int 0, .int 0, .int 0]))] H2 := hP
  have hD : va_D A [(q1, .inr (9, [.null, .null, .null, .int 0, .int 0, .int 0, .int 0, .int 0, .int 0, .int 0, .int 0, .int 0, .int 0, .int 0]))] := hD
  refine lv_dup hx hb dX7_copy_3 rfl ?_
  have hPr := (zo_nil : va_P (dC, dI) vwCl [] H2)
  have hPc := hP.sub (ws' := [(q1, .inr (9, [.null, .null, .null, .int 0, .int 0, .int 0, .int 0, .int 0, .int 0, .int 0, .int 0, .int 0, .int 0, .int 0]))]) [0] rfl
  have hDc := hD.sub (ws' := [(q1, .inr (9, [.null, .null, .null, .int 0, .int 0, .int 0, .int 0, .int 0, .int 0, .int 0, .int 0, .int 0, .int 0, .int 0]))]) [0] (by decide) rfl
  have hKc := hK.sub (tys' := []) [] rfl
  have hFc := va_free (wc := [(q1, .inr (9, [.null, .null, .null, .int 0, .int 0, .int 0, .int 0, .int 0, .int 0, .int 0, .int 0, .int 0, .int 0, .int 0]))]) hD hS hA [0] rfl
  refine va_callv (va_runI (As := []) (rest := [.ref q1]) ⟨hx, hb, hml, hown, hts⟩ (cz_X7_init l dC dI ed H2.size q1) (cwI 0 hts gX7_copy_X7_init rfl rfl rfl (hts (.initialized RX7) (by decide +kernel)) (hts (.methodLink RX7 31 yX7_init) (by decide +kernel)) (hts (.instanceMethod yX7_init) (by decide +kernel)) rfl (by decide +kernel) ⟨Nat.le_of_ble_eq_true rfl, Nat.le_of_ble_eq_true rfl⟩) ⟨zb_blind, fun U hU hW => ⟨rfl, zb_mk hU hW hPr hPc hKc hDc hN hH hS hFc zx_nil⟩⟩ rfl rfl hl.1 rfl (lv_room (Nat.le_of_ble_eq_true rfl)) dX7_copy_4 ⟨Nat.le_of_ble_eq_true rfl, Nat.le_of_ble_eq_true rfl⟩) hS (fun q _ h => hFc q h) hFc (fun u t H3 locs ht hvm hw hB hz1 hk1 hS => ?_)
  obtain ⟨ll_5, lt_5, lp_5, hP1, hD1, hK1⟩ := hB
  rw [ht] at hP1
  obtain ⟨hP, hD⟩ := va_join (wr := []) (w1 := [(q1, .inr (9, [.ref ll_5, .ref lt_5, .ref lp_5, .int (-1), .int 0, .int 0, .int 0, .int 0, .int 0, .int 0, .int (-1), .int 0, .int 0, .int 0])), (ll_5, .inr (1, [.int 0, .ref ed, .int 0])), (lt_5, .inr (1, [.int 0, .ref ed, .int 0])), (lp_5, .inr (1, [.int 0, .ref ed, .int 0]))]) hP hD [0] [] rfl rfl (by decide) (by decide) hk1 hFc hP1 hD1
  have hP : va_P (dC, dI) vwCl [(q1, .inr (9, [.ref ll_5, .ref lt_5, .ref lp_5, .int (-1), .int 0, .int 0, .int 0, .int 0, .int 0, .int 0, .int (-1), .int 0, .int 0, .int 0])), (ll_5, .inr (1, [.int 0, .ref ed, .int 0])), (lt_5, .inr (1, [.int 0, .ref ed, .int 0])), (lp_5, .inr (1, [.int 0, .ref ed, .int 0]))] H3 := hP
  have hD : va_D A [(q1, .inr (9, [.ref ll_5, .ref lt_5, .ref lp_5, .int (-1), .int 0, .int 0, .int 0, .int 0, .int 0, .int 0, .int (-1), .int 0, .int 0, .int 0])), (ll_5, .inr (1, [.int 0, .ref ed, .int 0])), (lt_5, .inr (1, [.int 0, .ref ed, .int 0])), (lp_5, .inr (1, [.int 0, .ref ed, .int 0]))] := hD
  refine lv_astore_n (lv' := [(1, .ref q1), (0, .ref mr)]) hx hb dX7_copy_7 rfl hl (by decide) rfl (fun ls hl => ?_)
  refine lv_aload_n hx hb dX7_copy_8 rfl (lv_at hl 1 rfl) ?_
  refine va_get (D := (dC, dI)) (ci := 9) (v := .ref ll) (C := RX7) (T := TX7) (N := 14) hx hb hts zi_X7_copy_X7 hown hK (zo_R hR0 hS hAr) 0 rfl rfl 0 (by decide) (hts (.fieldLink RX7 12 "LockRoomsModel$Room" "locks" "Ljava/util/ArrayList;") (by decide +kernel)) (fun _ h9 => h9) rfl dX7_copy_9 ?_
  have hPr := ((zo_R hR0 hS hAr)).sub (ws' := [(ll, .inr (1, [.int 0, .ref ed, .int 0]))]) [1] rfl
  have hPc := hP.sub (ws' := []) [] rfl
  have hDc := hD.sub (ws' := []) [] (by decide) rfl
  have hKc := hK.sub (tys' := []) [] rfl
  have hFc := va_free (wc := []) hD hS hA [] rfl
  refine va_callr (va_runV (As := []) (rest := []) ⟨hx, hb, hml, hown, hts⟩ (cz_iterator l dC dI ed H3.size ll) (cwV 0 hts gX7_copy_Jx4a65c_iterator_32c93 rfl rfl rfl (by decide +kernel) ⟨Nat.le_of_ble_eq_true rfl, Nat.le_of_ble_eq_true rfl⟩) ⟨zb_blind, va_recv hK (zo_R hR0 hS hAr) (ci := 1) (q0 := 1) rfl rfl, fun U hU hW => ⟨rfl, zb_mk hU hW hPr hPc hKc hDc hN hH hS hFc zx_e⟩⟩ rfl rfl hl.1 rfl (lv_room (Nat.le_of_ble_eq_true rfl)) dX7_copy_12 ⟨Nat.le_of_ble_eq_true rfl, Nat.le_of_ble_eq_true rfl⟩) hS (fun q _ h => hFc q h) hFc (fun u r7 t H6 locs ht hvm hw hB hz1 hk1 hS => ?_)
  obtain ⟨hP1, hD1, hK1⟩ := hB
  rw [ht] at hP1
  obtain ⟨hP, hD⟩ := va_join (wr := [(q1, .inr (9, [.ref ll_5, .ref lt_5, .ref lp_5, .int (-1), .int 0, .int 0, .int 0, .int 0, .int 0, .int 0, .int (-1), .int 0, .int 0, .int 0])), (ll_5, .inr (1, [.int 0, .ref ed, .int 0])), (lt_5, .inr (1, [.int 0, .ref ed, .int 0])), (lp_5, .inr (1, [.int 0, .ref ed, .int 0]))]) (w1 := [(r7, .inr (0, [.int 0, .int (-1), .int 0, .ref ll]))]) hP hD [] [0, 1, 2, 3] rfl rfl (by decide) (by decide) hk1 hFc hP1 hD1
  have hP : va_P (dC, dI) vwCl [(q1, .inr (9, [.ref ll_5, .ref lt_5, .ref lp_5, .int (-1), .int 0, .int 0, .int 0, .int 0, .int 0, .int 0, .int (-1), .int 0, .int 0, .int 0])), (ll_5, .inr (1, [.int 0, .ref ed, .int 0])), (lt_5, .inr (1, [.int 0, .ref ed, .int 0])), (lp_5, .inr (1, [.int 0, .ref ed, .int 0])), (r7, .inr (0, [.int 0, .int (-1), .int 0, .ref ll]))] H6 := hP
  have hD : va_D A [(q1, .inr (9, [.ref ll_5, .ref lt_5, .ref lp_5, .int (-1), .int 0, .int 0, .int 0, .int 0, .int 0, .int 0, .int (-1), .int 0, .int 0, .int 0])), (ll_5, .inr (1, [.int 0, .ref ed, .int 0])), (lt_5, .inr (1, [.int 0, .ref ed, .int 0])), (lp_5, .inr (1, [.int 0, .ref ed, .int 0])), (r7, .inr (0, [.int 0, .int (-1), .int 0, .ref ll]))] := hD
  refine lv_astore_n (lv' := [(2, .ref r7), (1, .ref q1), (0, .ref mr)]) hx hb dX7_copy_15 rfl hl (by decide) rfl (fun ls hl => ?_)
  refine lv_aload_n hx hb dX7_copy_16 rfl (lv_at hl 0 rfl) ?_
  have hPr := (show va_P (dC, dI) vwCl [(r7, .inr (0, [.int 0, .int (-1), .int 0, .ref ll])), (ll, .inr (1, [.int 0, .ref ed, .int 0]))] H6 from (zo_cons ((hP) 4 _ rfl) (zo_cons (((zo_R hR0 hS hAr)) 1 _ rfl) (zo_nil : va_P (dC, dI) vwCl [] H6))))
  have hPc := hP.sub (ws' := []) [] rfl
  have hDc := hD.sub (ws' := []) [] (by decide) rfl
  have hKc := hK.sub (tys' := []) [] rfl
  have hFc := va_free (wc := []) hD hS hA [] rfl
  refine va_callFi (va_runF (As := []) (rest := []) (hK.1 0 _ rfl).2 ⟨hx, hb, hml, hown, hts⟩ (cz_hasNext l dC dI ed H6.size r7 ll) (va_cwF 0 hts gX7_copy_Jx35411_hasNext_aae02_f36Jx35411 rfl rfl rfl hN.2.2.2.2.2.2.2 (by decide +kernel) ⟨Nat.le_of_ble_eq_true rfl, Nat.le_of_ble_eq_true rfl⟩) ⟨zb_blind, va_recv hK hP (ci := 0) (q0 := 4) rfl rfl, fun U hU hW => ⟨rfl, zb_mk hU hW hPr hPc hKc hDc hN hH hS hFc zx_e⟩⟩ rfl rfl hl.1 rfl (lv_room (Nat.le_of_ble_eq_true rfl)) dX7_copy_17 ⟨Nat.le_of_ble_eq_true rfl, Nat.le_of_ble_eq_true rfl⟩) hS (fun q _ h => hFc q h) hFc (fun r10 u t H9 locs ht hvm hw hB hz1 hk1 hS => ?_)
  obtain rfl : r10 = 0 := hw
  have hP := zo_K hP hk1
  refine lv_if_eq (tgt := 53) hx hb dX7_copy_22 (by decide) (fun _ => ?_) (fun h => absurd h (by decide))
  refine lv_aload_n hx hb dX7_copy_53 rfl (lv_at hl 2 rfl) ?_
  refine va_get (D := (dC, dI)) (ci := 9) (v := .ref lt) (C := RX7) (T := TX7) (N := 14) hx hb hts zi_X7_copy_X7 hown hK (zo_R hR0 hS hAr) 0 rfl rfl 1 (by decide) (hts (.fieldLink RX7 18 "LockRoomsModel$Room" "things" "Ljava/util/ArrayList;") (by decide +kernel)) (fun _ h9 => h9) rfl dX7_copy_54 ?_
  have hPr := ((zo_R hR0 hS hAr)).sub (ws' := [(lt, .inr (1, [.int 0, .ref ed, .int 0]))]) [2] rfl
  have hPc := hP.sub (ws' := []) [] rfl
  have hDc := hD.sub (ws' := []) [] (by decide) rfl
  have hKc := hK.sub (tys' := []) [] rfl
  have hFc := va_free (wc := []) hD hS hA [] rfl
  refine va_callr (va_runV (As := []) (rest := []) ⟨hx, hb, hml, hown, hts⟩ (cz_iterator l dC dI ed H9.size lt) (cwV 0 hts gX7_copy_Jx4a65c_iterator_32c93 rfl rfl rfl (by decide +kernel) ⟨Nat.le_of_ble_eq_true rfl, Nat.le_of_ble_eq_true rfl⟩) ⟨zb_blind, va_recv hK (zo_R hR0 hS hAr) (ci := 1) (q0 := 2) rfl rfl, fun U hU hW => ⟨rfl, zb_mk hU hW hPr hPc hKc hDc hN hH hS hFc zx_e⟩⟩ rfl rfl hl.1 rfl (lv_room (Nat.le_of_ble_eq_true rfl)) dX7_copy_57 ⟨Nat.le_of_ble_eq_true rfl, Nat.le_of_ble_eq_true rfl⟩) hS (fun q _ h => hFc q h) hFc (fun u r12 t H11 locs ht hvm hw hB hz1 hk1 hS => ?_)
  obtain ⟨hP1, hD1, hK1⟩ := hB
  rw [ht] at hP1
  obtain ⟨hP, hD⟩ := va_join (wr := [(q1, .inr (9, [.ref ll_5, .ref lt_5, .ref lp_5, .int (-1), .int 0, .int 0, .int 0, .int 0, .int 0, .int 0, .int (-1), .int 0, .int 0, .int 0])), (ll_5, .inr (1, [.int 0, .ref ed, .int 0])), (lt_5, .inr (1, [.int 0, .ref ed, .int 0])), (lp_5, .inr (1, [.int 0, .ref ed, .int 0])), (r7, .inr (0, [.int 0, .int (-1), .int 0, .ref ll]))]) (w1 := [(r12, .inr (0, [.int 0, .int (-1), .int 0, .ref lt]))]) hP hD [] [0, 1, 2, 3, 4] rfl rfl (by decide) (by decide) hk1 hFc hP1 hD1
  have hP : va_P (dC, dI) vwCl [(q1, .inr (9, [.ref ll_5, .ref lt_5, .ref lp_5, .int (-1), .int 0, .int 0, .int 0, .int 0, .int 0, .int 0, .int (-1), .int 0, .int 0, .int 0])), (ll_5, .inr (1, [.int 0, .ref ed, .int 0])), (lt_5, .inr (1, [.int 0, .ref ed, .int 0])), (lp_5, .inr (1, [.int 0, .ref ed, .int 0])), (r7, .inr (0, [.int 0, .int (-1), .int 0, .ref ll])), (r12, .inr (0, [.int 0, .int (-1), .int 0, .ref lt]))] H11 := hP
  have hD : va_D A [(q1, .inr (9, [.ref ll_5, .ref lt_5, .ref lp_5, .int (-1), .int 0, .int 0, .int 0, .int 0, .int 0, .int 0, .int (-1), .int 0, .int 0, .int 0])), (ll_5, .inr (1, [.int 0, .ref ed, .int 0])), (lt_5, .inr (1, [.int 0, .ref ed, .int 0])), (lp_5, .inr (1, [.int 0, .ref ed, .int 0])), (r7, .inr (0, [.int 0, .int (-1), .int 0, .ref ll])), (r12, .inr (0, [.int 0, .int (-1), .int 0, .ref lt]))] := hD
  refine lv_astore_n (lv' := [(2, .ref r12), (1, .ref q1), (0, .ref mr)]) hx hb dX7_copy_60 rfl hl (by decide) rfl (fun ls hl => ?_)
  refine lv_aload_n hx hb dX7_copy_61 rfl (lv_at hl 0 rfl) ?_
  have hPr := (show va_P (dC, dI) vwCl [(r12, .inr (0, [.int 0, .int (-1), .int 0, .ref lt])), (lt, .inr (1, [.int 0, .ref ed, .int 0]))] H11 from (zo_cons ((hP) 5 _ rfl) (zo_cons (((zo_R hR0 hS hAr)) 2 _ rfl) (zo_nil : va_P (dC, dI) vwCl [] H11))))
  have hPc := hP.sub (ws' := []) [] rfl
  have hDc := hD.sub (ws' := []) [] (by decide) rfl
  have hKc := hK.sub (tys' := []) [] rfl
  have hFc := va_free (wc := []) hD hS hA [] rfl
  refine va_callFi (va_runF (As := []) (rest := []) (hK.1 0 _ rfl).2 ⟨hx, hb, hml, hown, hts⟩ (cz_hasNext l dC dI ed H11.size r12 lt) (va_cwF 0 hts gX7_copy_Jx35411_hasNext_aae02_f36Jx35411 rfl rfl rfl hN.2.2.2.2.2.2.2 (by decide +kernel) ⟨Nat.le_of_ble_eq_true rfl, Nat.le_of_ble_eq_true rfl⟩) ⟨zb_blind, va_recv hK hP (ci := 0) (q0 := 5) rfl rfl, fun U hU hW => ⟨rfl, zb_mk hU hW hPr hPc hKc hDc hN hH hS hFc zx_e⟩⟩ rfl rfl hl.1 rfl (lv_room (Nat.le_of_ble_eq_true rfl)) dX7_copy_62 ⟨Nat.le_of_ble_eq_true rfl, Nat.le_of_ble_eq_true rfl⟩) hS (fun q _ h => hFc q h) hFc (fun r15 u t H14 locs ht hvm hw hB hz1 hk1 hS => ?_)
  obtain rfl : r15 = 0 := hw
  have hP := zo_K hP hk1
  refine lv_if_eq (tgt := 98) hx hb dX7_copy_67 (by decide) (fun _ => ?_) (fun h => absurd h (by decide))
  refine lv_aload_n hx hb dX7_copy_98 rfl (lv_at hl 2 rfl) ?_
  refine va_get (D := (dC, dI)) (ci := 9) (v := .ref lp) (C := RX7) (T := TX7) (N := 14) hx hb hts zi_X7_copy_X7 hown hK (zo_R hR0 hS hAr) 0 rfl rfl 2 (by decide) (hts (.fieldLink RX7 21 "LockRoomsModel$Room" "players" "Ljava/util/ArrayList;") (by decide +kernel)) (fun _ h9 => h9) rfl dX7_copy_99 ?_
  have hPr := ((zo_R hR0 hS hAr)).sub (ws' := [(lp, .inr (1, [.int 0, .ref ed, .int 0]))]) [3] rfl
  have hPc := hP.sub (ws' := []) [] rfl
  have hDc := hD.sub (ws' := []) [] (by decide) rfl
  have hKc := hK.sub (tys' := []) [] rfl
  have hFc := va_free (wc := []) hD hS hA [] rfl
  refine va_callr (va_runV (As := []) (rest := []) ⟨hx, hb, hml, hown, hts⟩ (cz_iterator l dC dI ed H14.size lp) (cwV 0 hts gX7_copy_Jx4a65c_iterator_32c93 rfl rfl rfl (by decide +kernel) ⟨Nat.le_of_ble_eq_true rfl, Nat.le_of_ble_eq_true rfl⟩) ⟨zb_blind, va_recv hK (zo_R hR0 hS hAr) (ci := 1) (q0 := 3) rfl rfl, fun U hU hW => ⟨rfl, zb_mk hU hW hPr hPc hKc hDc hN hH hS hFc zx_e⟩⟩ rfl rfl hl.1 rfl (lv_room (Nat.le_of_ble_eq_true rfl)) dX7_copy_102 ⟨Nat.le_of_ble_eq_true rfl, Nat.le_of_ble_eq_true rfl⟩) hS (fun q _ h => hFc q h) hFc (fun u r17 t H16 locs ht hvm hw hB hz1 hk1 hS => ?_)
  obtain ⟨hP1, hD1, hK1⟩ := hB
  rw [ht] at hP1
  obtain ⟨hP, hD⟩ := va_join (wr := [(q1, .inr (9, [.ref ll_5, .ref lt_5, .ref lp_5, .int (-1), .int 0, .int 0, .int 0, .int 0, .int 0, .int 0, .int (-1), .int 0, .int 0, .int 0])), (ll_5, .inr (1, [.int 0, .ref ed, .int 0])), (lt_5, .inr (1, [.int 0, .ref ed, .int 0])), (lp_5, .inr (1, [.int 0, .ref ed, .int 0])), (r7, .inr (0, [.int 0, .int (-1), .int 0, .ref ll])), (r12, .inr (0, [.int 0, .int (-1), .int 0, .ref lt]))]) (w1 := [(r17, .inr (0, [.int 0, .int (-1), .int 0, .ref lp]))]) hP hD [] [0, 1, 2, 3, 4, 5] rfl rfl (by decide) (by decide) hk1 hFc hP1 hD1
  have hP : va_P (dC, dI) vwCl [(q1, .inr (9, [.ref ll_5, .ref lt_5, .ref lp_5, .int (-1), .int 0, .int 0, .int 0, .int 0, .int 0, .int 0, .int (-1), .int 0, .int 0, .int 0])), (ll_5, .inr (1, [.int 0, .ref ed, .int 0])), (lt_5, .inr (1, [.int 0, .ref ed, .int 0])), (lp_5, .inr (1, [.int 0, .ref ed, .int 0])), (r7, .inr (0, [.int 0, .int (-1), .int 0, .ref ll])), (r12, .inr (0, [.int 0, .int (-1), .int 0, .ref lt])), (r17, .inr (0, [.int 0, .int (-1), .int 0, .ref lp]))] H16 := hP
  have hD : va_D A [(q1, .inr (9, [.ref ll_5, .ref lt_5, .ref lp_5, .int (-1), .int 0, .int 0, .int 0, .int 0, .int 0, .int 0, .int (-1), .int 0, .int 0, .int 0])), (ll_5, .inr (1, [.int 0, .ref ed, .int 0])), (lt_5, .inr (1, [.int 0, .ref ed, .int 0])), (lp_5, .inr (1, [.int 0, .ref ed, .int 0])), (r7, .inr (0, [.int 0, .int (-1), .int 0, .ref ll])), (r12, .inr (0, [.int 0, .int (-1), .int 0, .ref lt])), (r17, .inr (0, [.int 0, .int (-1), .int 0, .ref lp]))] := hD
  refine lv_astore_n (lv' := [(2, .ref r17), (1, .ref q1), (0, .ref mr)]) hx hb dX7_copy_105 rfl hl (by decide) rfl (fun ls hl => ?_)
  refine lv_aload_n hx hb dX7_copy_106 rfl (lv_at hl 0 rfl) ?_
  have hPr := (show va_P (dC, dI) vwCl [(r17, .inr (0, [.int 0, .int (-1), .int 0, .ref lp])), (lp, .inr (1, [.int 0, .ref ed, .int 0]))] H16 from (zo_cons ((hP) 6 _ rfl) (zo_cons (((zo_R hR0 hS hAr)) 3 _ rfl) (zo_nil : va_P (dC, dI) vwCl [] H16))))
  have hPc := hP.sub (ws' := []) [] rfl
  have hDc := hD.sub (ws' := []) [] (by decide) rfl
  have hKc := hK.sub (tys' := []) [] rfl
  have hFc := va_free (wc := []) hD hS hA [] rfl
  refine va_callFi (va_runF (As := []) (rest := []) (hK.1 0 _ rfl).2 ⟨hx, hb, hml, hown, hts⟩ (cz_hasNext l dC dI ed H16.size r17 lp) (va_cwF 0 hts gX7_copy_Jx35411_hasNext_aae02_f36Jx35411 rfl rfl rfl hN.2.2.2.2.2.2.2 (by decide +kernel) ⟨Nat.le_of_ble_eq_true rfl, Nat.le_of_ble_eq_true rfl⟩) ⟨zb_blind, va_recv hK hP (ci := 0) (q0 := 6) rfl rfl, fun U hU hW => ⟨rfl, zb_mk hU hW hPr hPc hKc hDc hN hH hS hFc zx_e⟩⟩ rfl rfl hl.1 rfl (lv_room (Nat.le_of_ble_eq_true rfl)) dX7_copy_107 ⟨Nat.le_of_ble_eq_true rfl, Nat.le_of_ble_eq_true rfl⟩) hS (fun q _ h => hFc q h) hFc (fun r20 u t H19 locs ht hvm hw hB hz1 hk1 hS => ?_)
  obtain rfl : r20 = 0 := hw
  have hP := zo_K hP hk1
  refine lv_if_eq (tgt := 143) hx hb dX7_copy_112 (by decide) (fun _ => ?_) (fun h => absurd h (by decide))
  refine lv_aload_n hx hb dX7_copy_143 rfl (lv_at hl 1 rfl) ?_
  refine lv_aload_n hx hb dX7_copy_144 rfl (lv_at hl 2 rfl) ?_
  refine va_get (D := (dC, dI)) (ci := 9) (v := .int (-1)) (C := RX7) (T := TX7) (N := 14) hx hb hts zi_X7_copy_X7 hown hK (zo_R hR0 hS hAr) 0 rfl rfl 3 (by decide) (hts (.fieldLink RX7 24 "LockRoomsModel$Room" "exit" "I") (by decide +kernel)) (fun _ h9 => h9) rfl dX7_copy_145 ?_
  refine va_put (D := (dC, dI)) (ci := 9) (v := .int (-1)) (ty := .int) (C := RX7) (T := TX7) (N := 14) hx hb hts zi_X7_copy_X7 tyX7 tyX7_ok nmX7 hown hK hP hD hS 0 rfl rfl 3 (by decide) (hts (.fieldLink RX7 24 "LockRoomsModel$Room" "exit" "I") (by decide +kernel)) (fun _ h9 => h9) rfl (by decide +kernel) rfl rfl (Nat.le_of_ble_eq_true rfl) dX7_copy_148 (fun H21 locs hP hD hS => ?_)
  have hP : va_P (dC, dI) vwCl [(q1, .inr (9, [.ref ll_5, .ref lt_5, .ref lp_5, .int (-1), .int 0, .int 0, .int 0, .int 0, .int 0, .int 0, .int (-1), .int 0, .int 0, .int 0])), (ll_5, .inr (1, [.int 0, .ref ed, .int 0])), (lt_5, .inr (1, [.int 0, .ref ed, .int 0])), (lp_5, .inr (1, [.int 0, .ref ed, .int 0])), (r7, .inr (0, [.int 0, .int (-1), .int 0, .ref ll])), (r12, .inr (0, [.int 0, .int (-1), .int 0, .ref lt])), (r17, .inr (0, [.int 0, .int (-1), .int 0, .ref lp]))] H21 := hP
  have hD : va_D A [(q1, .inr (9, [.ref ll_5, .ref lt_5, .ref lp_5, .int (-1), .int 0, .int 0, .int 0, .int 0, .int 0, .int 0, .int (-1), .int 0, .int 0, .int 0])), (ll_5, .inr (1, [.int 0, .ref ed, .int 0])), (lt_5, .inr (1, [.int 0, .ref ed, .int 0])), (lp_5, .inr (1, [.int 0, .ref ed, .int 0])), (r7, .inr (0, [.int 0, .int (-1), .int 0, .ref ll])), (r12, .inr (0, [.int 0, .int (-1), .int 0, .ref lt])), (r17, .inr (0, [.int 0, .int (-1), .int 0, .ref lp]))] := hD
  refine lv_aload_n hx hb dX7_copy_151 rfl (lv_at hl 1 rfl) ?_
  refine lv_aload_n hx hb dX7_copy_152 rfl (lv_at hl 2 rfl) ?_
  refine va_get (D := (dC, dI)) (ci := 9) (v := .int 0) (C := RX7) (T := TX7) (N := 14) hx hb hts zi_X7_copy_X7 hown hK (zo_R hR0 hS hAr) 0 rfl rfl 5 (by decide) (hts (.fieldLink RX7 55 "LockRoomsModel$Room" "isRunning" "Z") (by decide +kernel)) (fun _ h9 => h9) rfl dX7_copy_153 ?_
  refine va_put (D := (dC, dI)) (ci := 9) (v := .int 0) (ty := .boolean) (C := RX7) (T := TX7) (N := 14) hx hb hts zi_X7_copy_X7 tyX7 tyX7_ok nmX7 hown hK hP hD hS 0 rfl rfl 5 (by decide) (hts (.fieldLink RX7 55 "LockRoomsModel$Room" "isRunning" "Z") (by decide +kernel)) (fun _ h9 => h9) rfl (by decide +kernel) (by decide) (by decide) (Nat.le_of_ble_eq_true rfl) dX7_copy_156 (fun H22 locs hP hD hS => ?_)
  have hP : va_P (dC, dI) vwCl [(q1, .inr (9, [.ref ll_5, .ref lt_5, .ref lp_5, .int (-1), .int 0, .int 0, .int 0, .int 0, .int 0, .int 0, .int (-1), .int 0, .int 0, .int 0])), (ll_5, .inr (1, [.int 0, .ref ed, .int 0])), (lt_5, .inr (1, [.int 0, .ref ed, .int 0])), (lp_5, .inr (1, [.int 0, .ref ed, .int 0])), (r7, .inr (0, [.int 0, .int (-1), .int 0, .ref ll])), (r12, .inr (0, [.int 0, .int (-1), .int 0, .ref lt])), (r17, .inr (0, [.int 0, .int (-1), .int 0, .ref lp]))] H22 := hP
  have hD : va_D A [(q1, .inr (9, [.ref ll_5, .ref lt_5, .ref lp_5, .int (-1), .int 0, .int 0, .int 0, .int 0, .int 0, .int 0, .int (-1), .int 0, .int 0, .int 0])), (ll_5, .inr (1, [.int 0, .ref ed, .int 0])), (lt_5, .inr (1, [.int 0, .ref ed, .int 0])), (lp_5, .inr (1, [.int 0, .ref ed, .int 0])), (r7, .inr (0, [.int 0, .int (-1), .int 0, .ref ll])), (r12, .inr (0, [.int 0, .int (-1), .int 0, .ref lt])), (r17, .inr (0, [.int 0, .int (-1), .int 0, .ref lp]))] := hD
  refine lv_aload_n hx hb dX7_copy_159 rfl (lv_at hl 1 rfl) ?_
  refine lv_aload_n hx hb dX7_copy_160 rfl (lv_at hl 2 rfl) ?_
  refine va_get (D := (dC, dI)) (ci := 9) (v := .int 0) (C := RX7) (T := TX7) (N := 14) hx hb hts zi_X7_copy_X7 hown hK (zo_R hR0 hS hAr) 0 rfl rfl 6 (by decide) (hts (.fieldLink RX7 59 "LockRoomsModel$Room" "time" "I") (by decide +kernel)) (fun _ h9 => h9) rfl dX7_copy_161 ?_
  refine va_put (D := (dC, dI)) (ci := 9) (v := .int 0) (ty := .int) (C := RX7) (T := TX7) (N := 14) hx hb hts zi_X7_copy_X7 tyX7 tyX7_ok nmX7 hown hK hP hD hS 0 rfl rfl 6 (by decide) (hts (.fieldLink RX7 59 "LockRoomsModel$Room" "time" "I") (by decide +kernel)) (fun _ h9 => h9) rfl (by decide +kernel) rfl rfl (Nat.le_of_ble_eq_true rfl) dX7_copy_164 (fun H23 locs hP hD hS => ?_)
  have hP : va_P (dC, dI) vwCl [(q1, .inr (9, [.ref ll_5, .ref lt_5, .ref lp_5, .int (-1), .int 0, .int 0, .int 0, .int 0, .int 0, .int 0, .int (-1), .int 0, .int 0, .int 0])), (ll_5, .inr (1, [.int 0, .ref ed, .int 0])), (lt_5, .inr (1, [.int 0, .ref ed, .int 0])), (lp_5, .inr (1, [.int 0, .ref ed, .int 0])), (r7, .inr (0, [.int 0, .int (-1), .int 0, .ref ll])), (r12, .inr (0, [.int 0, .int (-1), .int 0, .ref lt])), (r17, .inr (0, [.int 0, .int (-1), .int 0, .ref lp]))] H23 := hP
  have hD : va_D A [(q1, .inr (9, [.ref ll_5, .ref lt_5, .ref lp_5, .int (-1), .int 0, .int 0, .int 0, .int 0, .int 0, .int 0, .int (-1), .int 0, .int 0, .int 0])), (ll_5, .inr (1, [.int 0, .ref ed, .int 0])), (lt_5, .inr (1, [.int 0, .ref ed, .int 0])), (lp_5, .inr (1, [.int 0, .ref ed, .int 0])), (r7, .inr (0, [.int 0, .int (-1), .int 0, .ref ll])), (r12, .inr (0, [.int 0, .int (-1), .int 0, .ref lt])), (r17, .inr (0, [.int 0, .int (-1), .int 0, .ref lp]))] := hD
  refine lv_aload_n hx hb dX7_copy_167 rfl (lv_at hl 1 rfl) ?_
  refine W.widen (k := 7) (n := 35) (Nat.le_of_ble_eq_true rfl) (Nat.le_of_ble_eq_true rfl) ?_
  have hP9 := hP.sub (ws' := [(q1, .inr (9, [.ref ll_5, .ref lt_5, .ref lp_5, .int (-1), .int 0, .int 0, .int 0, .int 0, .int 0, .int 0, .int (-1), .int 0, .int 0, .int 0]))]) [0] rfl
  have hD9 := hD.sub (ws' := [(q1, .inr (9, [.ref ll_5, .ref lt_5, .ref lp_5, .int (-1), .int 0, .int 0, .int 0, .int 0, .int 0, .int 0, .int (-1), .int 0, .int 0, .int 0]))]) [0] (by decide) rfl
  have hK9 := hK.sub (tys' := []) [] rfl
  exact W.aret hx hb hr (Or.inl ⟨_, rfl⟩) (Or.inr ⟨_, rfl⟩) (fun t ht hW => ⟨⟨(), q1, rfl, trivial, ⟨ll_5, lt_5, lp_5, by rw [ht]; exact hP9, hD9, va_K.moved hW.alike hK9⟩⟩, hS.F ht⟩) hS.2.2 dX7_copy_168

set_option maxRecDepth 20000 in
theorem zi_X8_thrown_X8 : ∀ w ∈ u_ws RX8 TX8 4, w ∈ wsX8_thrown := by decide +kernel
set_option maxHeartbeats 4000000 in
set_option maxRecDepth 100000 in
theorem cz_thrown (l : Launch) (dC : Nat → ClassId) (dI : Nat → Nat → Nat) (ed sz : Nat) (mo : Nat) (mr : Nat) (x9 : Int32) (s9 : Int64) : Met l yX8_thrown wsX8_thrown ({ frames := 0, cells := 0, slots := 0, locals := 0 } : Jvm.Room) (va_Pc [.ref mo] (zB dC dI ed sz [(mo, .inr (10, [.int x9, .ref mr, .int 1, .long s9]))] [] [])) (va_Qi (fun (r : Int32) (_ : Unit) => r = x9) (fun (_ : Unit) (_ : State) => True) (va_A [] sz)) 0 0 (va_A [] sz) := by
  refine Met.ofW (cc := cX8_thrown) (maxL := 1) (ret := (some .int)) (by decide) rfl ?_
  intro p e s m args below meth c s₁ B hml hv
  obtain ⟨rfl, hsz, hR0, hP, hK, hD0, hN, hH, hX0⟩ := hv
  have hx := B.exec
  have hb := B.bytes
  have hr := B.returns
  have hts := atoms_spec (ws := wsX8_thrown) B.pre
  have hown : s.vm.findClass RX8 = some m.cls := findClass_of_methodNamed B.named
  have hlocks := B.notSynchronized
  subst hsz
  have hD := hD0.self (sz := s.heap.size)
  have hAr := zx_A hX0 hR0
  generalize hAe : va_A [] s.heap.size = A at hD hAr hH ⊢
  have hA : ∀ q : Nat, s.heap.size ≤ q → A q := fun q h => by rw [← hAe]; exact Or.inr h
  have hS : va_S A s.heap s.heap [] := va_S.rf
  have hl := lv_entry ([.ref mo]) (n := 1) (Nat.le_of_ble_eq_true rfl)
  rw [lg_entry_eq]
  generalize (lg_sl ([.ref mo]) ++ List.replicate (1 - (lg_sl ([.ref mo])).length) Slot.unset).toArray = ls at hl ⊢
  have hl : lv_has ls 1 [(0, .ref mo)] := hl
  refine lv_aload_n hx hb dX8_thrown_0 rfl (lv_at hl 0 rfl) ?_
  refine va_get (D := (dC, dI)) (ci := 10) (v := .int x9) (C := RX8) (T := TX8) (N := 4) hx hb hts zi_X8_thrown_X8 hown hK hR0 0 rfl rfl 0 (by decide) (hts (.fieldLink RX8 20 "LockRoomsModel" "thrown" "I") (by decide +kernel)) (fun _ h9 => h9) rfl dX8_thrown_1 ?_
  refine W.widen (k := 0) (n := 0) (Nat.le_of_ble_eq_true rfl) (Nat.le_of_ble_eq_true rfl) ?_
  exact W.iret hx hb hr (fun t ht hW => ⟨⟨x9, (), rfl, rfl, trivial⟩, hS.F ht⟩) hS.2.2 dX8_thrown_4

set_option maxRecDepth 20000 in
theorem zi_X8_refuse_X8 : ∀ w ∈ u_ws RX8 TX8 4, w ∈ wsX8_refuse := by decide +kernel
set_option maxHeartbeats 4000000 in
set_option maxRecDepth 100000 in
theorem cz_refuse (l : Launch) (dC : Nat → ClassId) (dI : Nat → Nat → Nat) (ed sz : Nat) (mo : Nat) (mr : Nat) (ll : Nat) (lt : Nat) (lp : Nat) (x9 : Int32) (s9 : Int64) (x0 : Int32) : Met l yX8_refuse wsX8_refuse ({ frames := 0, cells := 0, slots := 0, locals := 0 } : Jvm.Room) (va_Pc [.ref mo, .int x0] (zB dC dI ed sz [(mr, .inr (9, [.ref ll, .ref lt, .ref lp, .int (-1), .int 0, .int 0, .int 0, .int 0, .int 0, .int 0, .int (-1), .int 0, .int 0, .int 0])), (ll, .inr (1, [.int 0, .ref ed, .int 0])), (lt, .inr (1, [.int 0, .ref ed, .int 0])), (lp, .inr (1, [.int 0, .ref ed, .int 0]))] [(mo, .inr (10, [.int x9, .ref mr, .int 1, .long s9]))] [])) (va_Qi (fun (r : Int32) (_ : Unit) => r = 0) (fun (_ : Unit) (t : State) => va_P (dC, dI) vwCl [(mo, .inr (10, [.int x0, .ref mr, .int 1, .long s9]))] t.heap ∧ va_D (va_A [(mo, .inr (10, [.int x9, .ref mr, .int 1, .long s9]))] sz) [(mo, .inr (10, [.int x0, .ref mr, .int 1, .long s9]))] ∧ va_K (dC, dI) vwCl [] t) (va_A [(mo, .inr (10, [.int x9, .ref mr, .int 1, .long s9]))] sz)) 0 0 (va_A [(mo, .inr (10, [.int x9, .ref mr, .int 1, .long s9]))] sz) := by
  refine Met.ofW (cc := cX8_refuse) (maxL := 2) (ret := (some .int)) (by decide) rfl ?_
  intro p e s m args below meth c s₁ B hml hv
  obtain ⟨rfl, hsz, hR0, hP, hK, hD0, hN, hH, hX0⟩ := hv
  have hx := B.exec
  have hb := B.bytes
  have hr := B.returns
  have hts := atoms_spec (ws := wsX8_refuse) B.pre
  have hown : s.vm.findClass RX8 = some m.cls := findClass_of_methodNamed B.named
  have hlocks := B.notSynchronized
  subst hsz
  have hD := hD0.self (sz := s.heap.size)
  have hAr := zx_A hX0 hR0
  generalize hAe : va_A [(mo, .inr (10, [.int x9, .ref mr, .int 1, .long s9]))] s.heap.size = A at hD hAr hH ⊢
  have hA : ∀ q : Nat, s.heap.size ≤ q → A q := fun q h => by rw [← hAe]; exact Or.inr h
  have hS : va_S A s.heap s.heap [] := va_S.rf
  have hl := lv_entry ([.ref mo, .int x0]) (n := 2) (Nat.le_of_ble_eq_true rfl)
  rw [lg_entry_eq]
  generalize (lg_sl ([.ref mo, .int x0]) ++ List.replicate (2 - (lg_sl ([.ref mo, .int x0])).length) Slot.unset).toArray = ls at hl ⊢
  have hl : lv_has ls 2 [(0, .ref mo), (1, .int x0)] := hl
  refine lv_aload_n hx hb dX8_refuse_0 rfl (lv_at hl 0 rfl) ?_
  refine lv_iload_n hx hb dX8_refuse_1 rfl (lv_at hl 1 rfl) ?_
  refine va_put (D := (dC, dI)) (ci := 10) (v := .int x0) (ty := .int) (C := RX8) (T := TX8) (N := 4) hx hb hts zi_X8_refuse_X8 tyX8 tyX8_ok nmX8 hown hK hP hD hS 0 rfl rfl 0 (by decide) (hts (.fieldLink RX8 20 "LockRoomsModel" "thrown" "I") (by decide +kernel)) (fun _ h9 => h9) rfl (by decide +kernel) rfl rfl (Nat.le_of_ble_eq_true rfl) dX8_refuse_2 (fun H1 locs hP hD hS => ?_)
  have hP : va_P (dC, dI) vwCl [(mo, .inr (10, [.int x0, .ref mr, .int 1, .long s9]))] H1 := hP
  have hD : va_D A [(mo, .inr (10, [.int x0, .ref mr, .int 1, .long s9]))] := hD
  refine lv_iconst (v := 0) hx hb dX8_refuse_5 (by decide) ?_
  refine W.widen (k := 0) (n := 0) (Nat.le_of_ble_eq_true rfl) (Nat.le_of_ble_eq_true rfl) ?_
  have hP9 := hP.sub (ws' := [(mo, .inr (10, [.int x0, .ref mr, .int 1, .long s9]))]) [0] rfl
  have hD9 := hD.sub (ws' := [(mo, .inr (10, [.int x0, .ref mr, .int 1, .long s9]))]) [0] (by decide) rfl
  have hK9 := hK.sub (tys' := []) [] rfl
  exact W.iret hx hb hr (fun t ht hW => ⟨⟨0, (), rfl, rfl, ⟨by rw [ht]; exact hP9, hD9, va_K.moved hW.alike hK9⟩⟩, hS.F ht⟩) hS.2.2 dX8_refuse_6

set_option maxRecDepth 20000 in
theorem zi_X8_isLock_X8 : ∀ w ∈ u_ws RX8 TX8 4, w ∈ wsX8_isLock := by decide +kernel
set_option maxRecDepth 20000 in
theorem zi_X8_isLock_X7 : ∀ w ∈ u_ws RX7 TX7 14, w ∈ wsX8_isLock := by decide +kernel
set_option maxHeartbeats 4000000 in
set_option maxRecDepth 100000 in
theorem cz_isLock (l : Launch) (dC : Nat → ClassId) (dI : Nat → Nat → Nat) (ed sz : Nat) (mo : Nat) (mr : Nat) (ll : Nat) (lt : Nat) (lp : Nat) (x9 : Int32) (s9 : Int64) (x0 : Int32) : Met l yX8_isLock wsX8_isLock ({ frames := 1, cells := 0, slots := 0, locals := 22 } : Jvm.Room) (va_Pc [.ref mo, .int x0] (zB dC dI ed sz [(mo, .inr (10, [.int x9, .ref mr, .int 1, .long s9])), (mr, .inr (9, [.ref ll, .ref lt, .ref lp, .int (-1), .int 0, .int 0, .int 0, .int 0, .int 0, .int 0, .int (-1), .int 0, .int 0, .int 0])), (ll, .inr (1, [.int 0, .ref ed, .int 0])), (lt, .inr (1, [.int 0, .ref ed, .int 0])), (lp, .inr (1, [.int 0, .ref ed, .int 0]))] [] [])) (va_Qi (fun (r : Int32) (_ : Unit) => r = 0) (fun (_ : Unit) (_ : State) => True) (va_A [] sz)) 0 0 (va_A [] sz) := by
  refine Met.ofW (cc := cX8_isLock) (maxL := 2) (ret := (some .boolean)) (by decide) rfl ?_
  intro p e s m args below meth c s₁ B hml hv
  obtain ⟨rfl, hsz, hR0, hP, hK, hD0, hN, hH, hX0⟩ := hv
  have hx := B.exec
  have hb := B.bytes
  have hr := B.returns
  have hts := atoms_spec (ws := wsX8_isLock) B.pre
  have hown : s.vm.findClass RX8 = some m.cls := findClass_of_methodNamed B.named
  have hlocks := B.notSynchronized
  subst hsz
  have hD := hD0.self (sz := s.heap.size)
  have hAr := zx_A hX0 hR0
  generalize hAe : va_A [] s.heap.size = A at hD hAr hH ⊢
  have hA : ∀ q : Nat, s.heap.size ≤ q → A q := fun q h => by rw [← hAe]; exact Or.inr h
  have hS : va_S A s.heap s.heap [] := va_S.rf
  have hl := lv_entry ([.ref mo, .int x0]) (n := 2) (Nat.le_of_ble_eq_true rfl)
  rw [lg_entry_eq]
  generalize (lg_sl ([.ref mo, .int x0]) ++ List.replicate (2 - (lg_sl ([.ref mo, .int x0])).length) Slot.unset).toArray = ls at hl ⊢
  have hl : lv_has ls 2 [(0, .ref mo), (1, .int x0)] := hl
  refine lv_iload_n hx hb dX8_isLock_0 rfl (lv_at hl 1 rfl) ?_
  refine lv_iconst (v := 0) hx hb dX8_isLock_1 (by decide) ?_
  refine lv_aload_n hx hb dX8_isLock_2 rfl (lv_at hl 0 rfl) ?_
  refine va_get (D := (dC, dI)) (ci := 10) (v := .ref mr) (C := RX8) (T := TX8) (N := 4) hx hb hts zi_X8_isLock_X8 hown hK hR0 0 rfl rfl 1 (by decide) (hts (.fieldLink RX8 10 "LockRoomsModel" "room" "LLockRoomsModel$Room;") (by decide +kernel)) (fun _ h9 => h9) rfl dX8_isLock_3 ?_
  refine va_getN (D := (dC, dI)) (ci := 9) (v := .ref ll) (C := RX7) (T := TX7) (N := 14) hx hb hts zi_X8_isLock_X7 hown hK hR0 1 rfl rfl 0 (by decide) (va_Nw.use rfl (hN.1 ("LockRoomsModel", 24, "LockRoomsModel$Room", "locks", "Ljava/util/ArrayList;", "LockRoomsModel") (List.mem_of_getElem? (i := 1) rfl))) (fun _ h9 => h9) rfl dX8_isLock_6 ?_
  have hPr := (hR0).sub (ws' := [(ll, .inr (1, [.int 0, .ref ed, .int 0]))]) [2] rfl
  have hPc := hP.sub (ws' := []) [] rfl
  have hDc := hD.sub (ws' := []) [] (by decide) rfl
  have hKc := hK.sub (tys' := []) [] rfl
  have hFc := va_free (wc := []) hD hS hA [] rfl
  refine va_calli (va_runV (As := []) (rest := [.int 0, .int x0]) ⟨hx, hb, hml, hown, hts⟩ (cz_size0 l dC dI ed s.heap.size ll) (cwV 0 hts gX8_isLock_Jx4a65c_size_8abf5 rfl rfl rfl (by decide +kernel) ⟨Nat.le_of_ble_eq_true rfl, Nat.le_of_ble_eq_true rfl⟩) ⟨zb_blind, va_recv hK hR0 (ci := 1) (q0 := 2) rfl rfl, fun U hU hW => ⟨rfl, zb_mk hU hW hPr hPc hKc hDc hN hH hS hFc zx_e⟩⟩ rfl rfl hl.1 rfl (lv_room (Nat.le_of_ble_eq_true rfl)) dX8_isLock_9 ⟨Nat.le_of_ble_eq_true rfl, Nat.le_of_ble_eq_true rfl⟩) hS (fun q _ h => hFc q h) hFc (fun r2 u t H1 locs ht hvm hw hB hz1 hk1 hS => ?_)
  obtain rfl : r2 = 0 := hw
  have hP := zo_K hP hk1
  refine lv_iconst (v := 1) hx hb dX8_isLock_12 (by decide) ?_
  refine lv_isub hx hb dX8_isLock_13 ?_
  refine zo_i (v := (-1)) (by decide) ?_
  have hPr := (zo_nil : va_P (dC, dI) vwCl [] H1)
  have hPc := hP.sub (ws' := []) [] rfl
  have hDc := hD.sub (ws' := []) [] (by decide) rfl
  have hKc := hK.sub (tys' := []) [] rfl
  have hFc := va_free (wc := []) hD hS hA [] rfl
  refine va_calli (va_runS (As := [.int x0, .int 0, .int (-1)]) (rest := []) ⟨hx, hb, hml, hown, hts⟩ (cz_X8_is l dC dI ed H1.size x0 0 (-1)) (va_cwS 3 hts gX8_isLock_X8_is rfl rfl rfl (by decide +kernel) ⟨Nat.le_of_ble_eq_true rfl, Nat.le_of_ble_eq_true rfl⟩) ⟨zb_blind, fun U hU hW => ⟨rfl, zb_mk hU hW hPr hPc hKc hDc hN hH hS hFc zx_e⟩⟩ rfl rfl hl.1 rfl (lv_room (Nat.le_of_ble_eq_true rfl)) dX8_isLock_14 ⟨Nat.le_of_ble_eq_true rfl, Nat.le_of_ble_eq_true rfl⟩) hS (fun q _ h => hFc q h) hFc (fun r4 u t H3 locs ht hvm hw hB hz1 hk1 hS => ?_)
  have hP := zo_K hP hk1
  by_cases c5 : (¬ x0 < 0 ∧ ¬ (-1) < x0)
  · exact absurd c5 (zi_m1 _)
  · obtain rfl : r4 = 0 := hw.trans (if_neg c5)
    refine W.widen (k := 0) (n := 0) (Nat.le_of_ble_eq_true rfl) (Nat.le_of_ble_eq_true rfl) ?_
    exact W.zret hx hb hr (by decide) (fun t ht hW => ⟨⟨0, (), rfl, rfl, trivial⟩, hS.F ht⟩) hS.2.2 dX8_isLock_17

set_option maxRecDepth 20000 in
theorem zi_X8_isThing_X8 : ∀ w ∈ u_ws RX8 TX8 4, w ∈ wsX8_isThing := by decide +kernel
set_option maxRecDepth 20000 in
theorem zi_X8_isThing_X7 : ∀ w ∈ u_ws RX7 TX7 14, w ∈ wsX8_isThing := by decide +kernel
set_option maxHeartbeats 4000000 in
set_option maxRecDepth 100000 in
theorem cz_isThing (l : Launch) (dC : Nat → ClassId) (dI : Nat → Nat → Nat) (ed sz : Nat) (mo : Nat) (mr : Nat) (ll : Nat) (lt : Nat) (lp : Nat) (x9 : Int32) (s9 : Int64) (x0 : Int32) : Met l yX8_isThing wsX8_isThing ({ frames := 1, cells := 0, slots := 0, locals := 22 } : Jvm.Room) (va_Pc [.ref mo, .int x0] (zB dC dI ed sz [(mo, .inr (10, [.int x9, .ref mr, .int 1, .long s9])), (mr, .inr (9, [.ref ll, .ref lt, .ref lp, .int (-1), .int 0, .int 0, .int 0, .int 0, .int 0, .int 0, .int (-1), .int 0, .int 0, .int 0])), (ll, .inr (1, [.int 0, .ref ed, .int 0])), (lt, .inr (1, [.int 0, .ref ed, .int 0])), (lp, .inr (1, [.int 0, .ref ed, .int 0]))] [] [])) (va_Qi (fun (r : Int32) (_ : Unit) => r = 0) (fun (_ : Unit) (_ : State) => True) (va_A [] sz)) 0 0 (va_A [] sz) := by
  refine Met.ofW (cc := cX8_isThing) (maxL := 2) (ret := (some .boolean)) (by decide) rfl ?_
  intro p e s m args below meth c s₁ B hml hv
  obtain ⟨rfl, hsz, hR0, hP, hK, hD0, hN, hH, hX0⟩ := hv
  have hx := B.exec
  have hb := B.bytes
  have hr := B.returns
  have hts := atoms_spec (ws := wsX8_isThing) B.pre
  have hown : s.vm.findClass RX8 = some m.cls := findClass_of_methodNamed B.named
  have hlocks := B.notSynchronized
  subst hsz
  have hD := hD0.self (sz := s.heap.size)
  have hAr := zx_A hX0 hR0
  generalize hAe : va_A [] s.heap.size = A at hD hAr hH ⊢
  have hA : ∀ q : Nat, s.heap.size ≤ q → A q := fun q h => by rw [← hAe]; exact Or.inr h
  have hS : va_S A s.heap s.heap [] := va_S.rf
  have hl := lv_entry ([.ref mo, .int x0]) (n := 2) (Nat.le_of_ble_eq_true rfl)
  rw [lg_entry_eq]
  generalize (lg_sl ([.ref mo, .int x0]) ++ List.replicate (2 - (lg_sl ([.ref mo, .int x0])).length) Slot.unset).toArray = ls at hl ⊢
  have hl : lv_has ls 2 [(0, .ref mo), (1, .int x0)] := hl
  refine lv_iload_n hx hb dX8_isThing_0 rfl (lv_at hl 1 rfl) ?_
  refine lv_iconst (v := 0) hx hb dX8_isThing_1 (by decide) ?_
  refine lv_aload_n hx hb dX8_isThing_2 rfl (lv_at hl 0 rfl) ?_
  refine va_get (D := (dC, dI)) (ci := 10) (v := .ref mr) (C := RX8) (T := TX8) (N := 4) hx hb hts zi_X8_isThing_X8 hown hK hR0 0 rfl rfl 1 (by decide) (hts (.fieldLink RX8 10 "LockRoomsModel" "room" "LLockRoomsModel$Room;") (by decide +kernel)) (fun _ h9 => h9) rfl dX8_isThing_3 ?_
  refine va_getN (D := (dC, dI)) (ci := 9) (v := .ref lt) (C := RX7) (T := TX7) (N := 14) hx hb hts zi_X8_isThing_X7 hown hK hR0 1 rfl rfl 1 (by decide) (va_Nw.use rfl (hN.1 ("LockRoomsModel", 38, "LockRoomsModel$Room", "things", "Ljava/util/ArrayList;", "LockRoomsModel") (List.mem_of_getElem? (i := 2) rfl))) (fun _ h9 => h9) rfl dX8_isThing_6 ?_
  have hPr := (hR0).sub (ws' := [(lt, .inr (1, [.int 0, .ref ed, .int 0]))]) [3] rfl
  have hPc := hP.sub (ws' := []) [] rfl
  have hDc := hD.sub (ws' := []) [] (by decide) rfl
  have hKc := hK.sub (tys' := []) [] rfl
  have hFc := va_free (wc := []) hD hS hA [] rfl
  refine va_calli (va_runV (As := []) (rest := [.int 0, .int x0]) ⟨hx, hb, hml, hown, hts⟩ (cz_size0 l dC dI ed s.heap.size lt) (cwV 0 hts gX8_isThing_Jx4a65c_size_8abf5 rfl rfl rfl (by decide +kernel) ⟨Nat.le_of_ble_eq_true rfl, Nat.le_of_ble_eq_true rfl⟩) ⟨zb_blind, va_recv hK hR0 (ci := 1) (q0 := 3) rfl rfl, fun U hU hW => ⟨rfl, zb_mk hU hW hPr hPc hKc hDc hN hH hS hFc zx_e⟩⟩ rfl rfl hl.1 rfl (lv_room (Nat.le_of_ble_eq_true rfl)) dX8_isThing_9 ⟨Nat.le_of_ble_eq_true rfl, Nat.le_of_ble_eq_true rfl⟩) hS (fun q _ h => hFc q h) hFc (fun r2 u t H1 locs ht hvm hw hB hz1 hk1 hS => ?_)
  obtain rfl : r2 = 0 := hw
  have hP := zo_K hP hk1
  refine lv_iconst (v := 1) hx hb dX8_isThing_12 (by decide) ?_
  refine lv_isub hx hb dX8_isThing_13 ?_
  refine zo_i (v := (-1)) (by decide) ?_
  have hPr := (zo_nil : va_P (dC, dI) vwCl [] H1)
  have hPc := hP.sub (ws' := []) [] rfl
  have hDc := hD.sub (ws' := []) [] (by decide) rfl
  have hKc := hK.sub (tys' := []) [] rfl
  have hFc := va_free (wc := []) hD hS hA [] rfl
  refine va_calli (va_runS (As := [.int x0, .int 0, .int (-1)]) (rest := []) ⟨hx, hb, hml, hown, hts⟩ (cz_X8_is l dC dI ed H1.size x0 0 (-1)) (va_cwS 3 hts gX8_isThing_X8_is rfl rfl rfl (by decide +kernel) ⟨Nat.le_of_ble_eq_true rfl, Nat.le_of_ble_eq_true rfl⟩) ⟨zb_blind, fun U hU hW => ⟨rfl, zb_mk hU hW hPr hPc hKc hDc hN hH hS hFc zx_e⟩⟩ rfl rfl hl.1 rfl (lv_room (Nat.le_of_ble_eq_true rfl)) dX8_isThing_14 ⟨Nat.le_of_ble_eq_true rfl, Nat.le_of_ble_eq_true rfl⟩) hS (fun q _ h => hFc q h) hFc (fun r4 u t H3 locs ht hvm hw hB hz1 hk1 hS => ?_)
  have hP := zo_K hP hk1
  by_cases c5 : (¬ x0 < 0 ∧ ¬ (-1) < x0)
  · exact absurd c5 (zi_m1 _)
  · obtain rfl : r4 = 0 := hw.trans (if_neg c5)
    refine W.widen (k := 0) (n := 0) (Nat.le_of_ble_eq_true rfl) (Nat.le_of_ble_eq_true rfl) ?_
    exact W.zret hx hb hr (by decide) (fun t ht hW => ⟨⟨0, (), rfl, rfl, trivial⟩, hS.F ht⟩) hS.2.2 dX8_isThing_17

set_option maxRecDepth 20000 in
theorem zi_X8_begin_X8 : ∀ w ∈ u_ws RX8 TX8 4, w ∈ wsX8_begin := by decide +kernel
set_option maxRecDepth 20000 in
theorem zi_X8_begin_X7 : ∀ w ∈ u_ws RX7 TX7 14, w ∈ wsX8_begin := by decide +kernel
set_option maxHeartbeats 4000000 in
set_option maxRecDepth 100000 in
theorem cz_X8_begin (l : Launch) (dC : Nat → ClassId) (dI : Nat → Nat → Nat) (ed sz : Nat) (mo : Nat) (mr : Nat) (ll : Nat) (lt : Nat) (lp : Nat) (x9 : Int32) (s9 : Int64) : Met l yX8_begin wsX8_begin ({ frames := 1, cells := 0, slots := 0, locals := 21 } : Jvm.Room) (va_Pc [.ref mo] (zB dC dI ed sz [(mr, .inr (9, [.ref ll, .ref lt, .ref lp, .int (-1), .int 0, .int 0, .int 0, .int 0, .int 0, .int 0, .int (-1), .int 0, .int 0, .int 0])), (ll, .inr (1, [.int 0, .ref ed, .int 0])), (lt, .inr (1, [.int 0, .ref ed, .int 0])), (lp, .inr (1, [.int 0, .ref ed, .int 0]))] [(mo, .inr (10, [.int x9, .ref mr, .int 1, .long s9]))] [])) (va_Qi (fun (r : Int32) (_ : Unit) => r = 0) (fun (_ : Unit) (t : State) => va_P (dC, dI) vwCl [(mo, .inr (10, [.int 1, .ref mr, .int 1, .long s9]))] t.heap ∧ va_D (va_A [(mo, .inr (10, [.int x9, .ref mr, .int 1, .long s9]))] sz) [(mo, .inr (10, [.int 1, .ref mr, .int 1, .long s9]))] ∧ va_K (dC, dI) vwCl [] t) (va_A [(mo, .inr (10, [.int x9, .ref mr, .int 1, .long s9]))] sz)) 0 0 (va_A [(mo, .inr (10, [.int x9, .ref mr, .int 1, .long s9]))] sz) := by
  refine Met.ofW (cc := cX8_begin) (maxL := 1) (ret := (some .int)) (by decide) rfl ?_
  intro p e s m args below meth c s₁ B hml hv
  obtain ⟨rfl, hsz, hR0, hP, hK, hD0, hN, hH, hX0⟩ := hv
  have hx := B.exec
  have hb := B.bytes
  have hr := B.returns
  have hts := atoms_spec (ws := wsX8_begin) B.pre
  have hown : s.vm.findClass RX8 = some m.cls := findClass_of_methodNamed B.named
  have hlocks := B.notSynchronized
  subst hsz
  have hD := hD0.self (sz := s.heap.size)
  have hAr := zx_A hX0 hR0
  generalize hAe : va_A [(mo, .inr (10, [.int x9, .ref mr, .int 1, .long s9]))] s.heap.size = A at hD hAr hH ⊢
  have hA : ∀ q : Nat, s.heap.size ≤ q → A q := fun q h => by rw [← hAe]; exact Or.inr h
  have hS : va_S A s.heap s.heap [] := va_S.rf
  have hl := lv_entry ([.ref mo]) (n := 1) (Nat.le_of_ble_eq_true rfl)
  rw [lg_entry_eq]
  generalize (lg_sl ([.ref mo]) ++ List.replicate (1 - (lg_sl ([.ref mo])).length) Slot.unset).toArray = ls at hl ⊢
  have hl : lv_has ls 1 [(0, .ref mo)] := hl
  refine lv_aload_n hx hb dX8_begin_0 rfl (lv_at hl 0 rfl) ?_
  refine lv_iconst (v := 0) hx hb dX8_begin_1 (by decide) ?_
  refine va_put (D := (dC, dI)) (ci := 10) (v := .int 0) (ty := .int) (C := RX8) (T := TX8) (N := 4) hx hb hts zi_X8_begin_X8 tyX8 tyX8_ok nmX8 hown hK hP hD hS 0 rfl rfl 0 (by decide) (hts (.fieldLink RX8 20 "LockRoomsModel" "thrown" "I") (by decide +kernel)) (fun _ h9 => h9) rfl (by decide +kernel) rfl rfl (Nat.le_of_ble_eq_true rfl) dX8_begin_2 (fun H1 locs hP hD hS => ?_)
  have hP : va_P (dC, dI) vwCl [(mo, .inr (10, [.int 0, .ref mr, .int 1, .long s9]))] H1 := hP
  have hD : va_D A [(mo, .inr (10, [.int 0, .ref mr, .int 1, .long s9]))] := hD
  refine lv_aload_n hx hb dX8_begin_5 rfl (lv_at hl 0 rfl) ?_
  refine va_get (D := (dC, dI)) (ci := 10) (v := .ref mr) (C := RX8) (T := TX8) (N := 4) hx hb hts zi_X8_begin_X8 hown hK hP 0 rfl rfl 1 (by decide) (hts (.fieldLink RX8 10 "LockRoomsModel" "room" "LLockRoomsModel$Room;") (by decide +kernel)) (fun _ h9 => h9) rfl dX8_begin_6 ?_
  refine va_getN (D := (dC, dI)) (ci := 9) (v := .int 0) (C := RX7) (T := TX7) (N := 14) hx hb hts zi_X8_begin_X7 hown hK (zo_R hR0 hS hAr) 0 rfl rfl 5 (by decide) (va_Nw.use rfl (hN.1 ("LockRoomsModel", 45, "LockRoomsModel$Room", "isRunning", "Z", "LockRoomsModel") (List.mem_of_getElem? (i := 6) rfl))) (fun _ h9 => h9) rfl dX8_begin_9 ?_
  refine lv_if_ne (tgt := 38) hx hb dX8_begin_12 (by decide) (fun h => absurd h (by decide)) (fun _ => ?_)
  refine lv_aload_n hx hb dX8_begin_15 rfl (lv_at hl 0 rfl) ?_
  refine va_get (D := (dC, dI)) (ci := 10) (v := .ref mr) (C := RX8) (T := TX8) (N := 4) hx hb hts zi_X8_begin_X8 hown hK hP 0 rfl rfl 1 (by decide) (hts (.fieldLink RX8 10 "LockRoomsModel" "room" "LLockRoomsModel$Room;") (by decide +kernel)) (fun _ h9 => h9) rfl dX8_begin_16 ?_
  refine va_getN (D := (dC, dI)) (ci := 9) (v := .ref lp) (C := RX7) (T := TX7) (N := 14) hx hb hts zi_X8_begin_X7 hown hK (zo_R hR0 hS hAr) 0 rfl rfl 2 (by decide) (va_Nw.use rfl (hN.1 ("LockRoomsModel", 59, "LockRoomsModel$Room", "players", "Ljava/util/ArrayList;", "LockRoomsModel") (List.mem_of_getElem? (i := 3) rfl))) (fun _ h9 => h9) rfl dX8_begin_19 ?_
  have hPr := ((zo_R hR0 hS hAr)).sub (ws' := [(lp, .inr (1, [.int 0, .ref ed, .int 0]))]) [3] rfl
  have hPc := hP.sub (ws' := []) [] rfl
  have hDc := hD.sub (ws' := []) [] (by decide) rfl
  have hKc := hK.sub (tys' := []) [] rfl
  have hFc := va_free (wc := []) hD hS hA [] rfl
  refine va_calli (va_runV (As := []) (rest := []) ⟨hx, hb, hml, hown, hts⟩ (cz_isEmpty1 l dC dI ed H1.size lp) (cwV 0 hts gX8_begin_Jx4a65c_isEmpty_aae02 rfl rfl rfl (by decide +kernel) ⟨Nat.le_of_ble_eq_true rfl, Nat.le_of_ble_eq_true rfl⟩) ⟨zb_blind, va_recv hK (zo_R hR0 hS hAr) (ci := 1) (q0 := 3) rfl rfl, fun U hU hW => ⟨rfl, zb_mk hU hW hPr hPc hKc hDc hN hH hS hFc zx_e⟩⟩ rfl rfl hl.1 rfl (lv_room (Nat.le_of_ble_eq_true rfl)) dX8_begin_22 ⟨Nat.le_of_ble_eq_true rfl, Nat.le_of_ble_eq_true rfl⟩) hS (fun q _ h => hFc q h) hFc (fun r3 u t H2 locs ht hvm hw hB hz1 hk1 hS => ?_)
  obtain rfl : r3 = 1 := hw
  have hP := zo_K hP hk1
  refine lv_if_ne (tgt := 38) hx hb dX8_begin_25 (by decide) (fun _ => ?_) (fun h => absurd h (by decide))
  refine lv_aload_n hx hb dX8_begin_38 rfl (lv_at hl 0 rfl) ?_
  refine lv_iconst (v := 1) hx hb dX8_begin_39 (by decide) ?_
  have hPr := ((zo_R hR0 hS hAr)).sub (ws' := [(mr, .inr (9, [.ref ll, .ref lt, .ref lp, .int (-1), .int 0, .int 0, .int 0, .int 0, .int 0, .int 0, .int (-1), .int 0, .int 0, .int 0])), (ll, .inr (1, [.int 0, .ref ed, .int 0])), (lt, .inr (1, [.int 0, .ref ed, .int 0])), (lp, .inr (1, [.int 0, .ref ed, .int 0]))]) [0, 1, 2, 3] rfl
  have hPc := hP.sub (ws' := [(mo, .inr (10, [.int 0, .ref mr, .int 1, .long s9]))]) [0] rfl
  have hDc := hD.sub (ws' := [(mo, .inr (10, [.int 0, .ref mr, .int 1, .long s9]))]) [0] (by decide) rfl
  have hKc := hK.sub (tys' := []) [] rfl
  have hFc := va_free (wc := [(mo, .inr (10, [.int 0, .ref mr, .int 1, .long s9]))]) hD hS hA [0] rfl
  refine va_calli (va_runV (As := [.int 1]) (rest := []) ⟨hx, hb, hml, hown, hts⟩ (cz_refuse l dC dI ed H2.size mo mr ll lt lp 0 s9 1) (cwV 1 hts gX8_begin_X8_refuse rfl rfl rfl (by decide +kernel) ⟨Nat.le_of_ble_eq_true rfl, Nat.le_of_ble_eq_true rfl⟩) ⟨zb_blind, va_recv hK hP (ci := 10) (q0 := 0) rfl rfl, fun U hU hW => ⟨rfl, zb_mk hU hW hPr hPc hKc hDc hN hH hS hFc (zx_cons (zx_r (hAr _ (List.mem_of_getElem? (i := 0) rfl)) hDc) (zx_cons (zx_r (hAr _ (List.mem_of_getElem? (i := 1) rfl)) hDc) (zx_cons (zx_r (hAr _ (List.mem_of_getElem? (i := 2) rfl)) hDc) (zx_cons (zx_r (hAr _ (List.mem_of_getElem? (i := 3) rfl)) hDc) zx_nil))))⟩⟩ rfl rfl hl.1 rfl (lv_room (Nat.le_of_ble_eq_true rfl)) dX8_begin_40 ⟨Nat.le_of_ble_eq_true rfl, Nat.le_of_ble_eq_true rfl⟩) hS (fun q _ h => hFc q h) hFc (fun r5 u t H4 locs ht hvm hw hB hz1 hk1 hS => ?_)
  obtain rfl : r5 = 0 := hw
  obtain ⟨hP1, hD1, hK1⟩ := hB
  rw [ht] at hP1
  obtain ⟨hP, hD⟩ := va_join (wr := []) (w1 := [(mo, .inr (10, [.int 1, .ref mr, .int 1, .long s9]))]) hP hD [0] [] rfl rfl (by decide) (by decide) hk1 hFc hP1 hD1
  have hP : va_P (dC, dI) vwCl [(mo, .inr (10, [.int 1, .ref mr, .int 1, .long s9]))] H4 := hP
  have hD : va_D A [(mo, .inr (10, [.int 1, .ref mr, .int 1, .long s9]))] := hD
  refine W.widen (k := 0) (n := 0) (Nat.le_of_ble_eq_true rfl) (Nat.le_of_ble_eq_true rfl) ?_
  have hP9 := hP.sub (ws' := [(mo, .inr (10, [.int 1, .ref mr, .int 1, .long s9]))]) [0] rfl
  have hD9 := hD.sub (ws' := [(mo, .inr (10, [.int 1, .ref mr, .int 1, .long s9]))]) [0] (by decide) rfl
  have hK9 := hK.sub (tys' := []) [] rfl
  exact W.iret hx hb hr (fun t ht hW => ⟨⟨0, (), rfl, rfl, ⟨by rw [ht]; exact hP9, hD9, va_K.moved hW.alike hK9⟩⟩, hS.F ht⟩) hS.2.2 dX8_begin_43

set_option maxRecDepth 20000 in
theorem zi_X8_stop_X8 : ∀ w ∈ u_ws RX8 TX8 4, w ∈ wsX8_stop := by decide +kernel
set_option maxRecDepth 20000 in
theorem zi_X8_stop_X7 : ∀ w ∈ u_ws RX7 TX7 14, w ∈ wsX8_stop := by decide +kernel
set_option maxHeartbeats 4000000 in
set_option maxRecDepth 100000 in
theorem cz_X8_stop (l : Launch) (dC : Nat → ClassId) (dI : Nat → Nat → Nat) (ed sz : Nat) (mo : Nat) (mr : Nat) (ll : Nat) (lt : Nat) (lp : Nat) (x9 : Int32) (s9 : Int64) : Met l yX8_stop wsX8_stop ({ frames := 1, cells := 0, slots := 0, locals := 21 } : Jvm.Room) (va_Pc [.ref mo] (zB dC dI ed sz [(mr, .inr (9, [.ref ll, .ref lt, .ref lp, .int (-1), .int 0, .int 0, .int 0, .int 0, .int 0, .int 0, .int (-1), .int 0, .int 0, .int 0])), (ll, .inr (1, [.int 0, .ref ed, .int 0])), (lt, .inr (1, [.int 0, .ref ed, .int 0])), (lp, .inr (1, [.int 0, .ref ed, .int 0]))] [(mo, .inr (10, [.int x9, .ref mr, .int 1, .long s9]))] [])) (va_Qi (fun (r : Int32) (_ : Unit) => r = 0) (fun (_ : Unit) (t : State) => va_P (dC, dI) vwCl [(mo, .inr (10, [.int 1, .ref mr, .int 1, .long s9]))] t.heap ∧ va_D (va_A [(mo, .inr (10, [.int x9, .ref mr, .int 1, .long s9]))] sz) [(mo, .inr (10, [.int 1, .ref mr, .int 1, .long s9]))] ∧ va_K (dC, dI) vwCl [] t) (va_A [(mo, .inr (10, [.int x9, .ref mr, .int 1, .long s9]))] sz)) 0 0 (va_A [(mo, .inr (10, [.int x9, .ref mr, .int 1, .long s9]))] sz) := by
  refine Met.ofW (cc := cX8_stop) (maxL := 1) (ret := (some .int)) (by decide) rfl ?_
  intro p e s m args below meth c s₁ B hml hv
  obtain ⟨rfl, hsz, hR0, hP, hK, hD0, hN, hH, hX0⟩ := hv
  have hx := B.exec
  have hb := B.bytes
  have hr := B.returns
  have hts := atoms_spec (ws := wsX8_stop) B.pre
  have hown : s.vm.findClass RX8 = some m.cls := findClass_of_methodNamed B.named
  have hlocks := B.notSynchronized
  subst hsz
  have hD := hD0.self (sz := s.heap.size)
  have hAr := zx_A hX0 hR0
  generalize hAe : va_A [(mo, .inr (10, [.int x9, .ref mr, .int 1, .long s9]))] s.heap.size = A at hD hAr hH ⊢
  have hA : ∀ q : Nat, s.heap.size ≤ q → A q := fun q h => by rw [← hAe]; exact Or.inr h
  have hS : va_S A s.heap s.heap [] := va_S.rf
  have hl := lv_entry ([.ref mo]) (n := 1) (Nat.le_of_ble_eq_true rfl)
  rw [lg_entry_eq]
  generalize (lg_sl ([.ref mo]) ++ List.replicate (1 - (lg_sl ([.ref mo])).length) Slot.unset).toArray = ls at hl ⊢
  have hl : lv_has ls 1 [(0, .ref mo)] := hl
  refine lv_aload_n hx hb dX8_stop_0 rfl (lv_at hl 0 rfl) ?_
  refine lv_iconst (v := 0) hx hb dX8_stop_1 (by decide) ?_
  refine va_put (D := (dC, dI)) (ci := 10) (v := .int 0) (ty := .int) (C := RX8) (T := TX8) (N := 4) hx hb hts zi_X8_stop_X8 tyX8 tyX8_ok nmX8 hown hK hP hD hS 0 rfl rfl 0 (by decide) (hts (.fieldLink RX8 20 "LockRoomsModel" "thrown" "I") (by decide +kernel)) (fun _ h9 => h9) rfl (by decide +kernel) rfl rfl (Nat.le_of_ble_eq_true rfl) dX8_stop_2 (fun H1 locs hP hD hS => ?_)
  have hP : va_P (dC, dI) vwCl [(mo, .inr (10, [.int 0, .ref mr, .int 1, .long s9]))] H1 := hP
  have hD : va_D A [(mo, .inr (10, [.int 0, .ref mr, .int 1, .long s9]))] := hD
  refine lv_aload_n hx hb dX8_stop_5 rfl (lv_at hl 0 rfl) ?_
  refine va_get (D := (dC, dI)) (ci := 10) (v := .ref mr) (C := RX8) (T := TX8) (N := 4) hx hb hts zi_X8_stop_X8 hown hK hP 0 rfl rfl 1 (by decide) (hts (.fieldLink RX8 10 "LockRoomsModel" "room" "LLockRoomsModel$Room;") (by decide +kernel)) (fun _ h9 => h9) rfl dX8_stop_6 ?_
  refine va_getN (D := (dC, dI)) (ci := 9) (v := .int 0) (C := RX7) (T := TX7) (N := 14) hx hb hts zi_X8_stop_X7 hown hK (zo_R hR0 hS hAr) 0 rfl rfl 5 (by decide) (va_Nw.use rfl (hN.1 ("LockRoomsModel", 45, "LockRoomsModel$Room", "isRunning", "Z", "LockRoomsModel") (List.mem_of_getElem? (i := 6) rfl))) (fun _ h9 => h9) rfl dX8_stop_9 ?_
  refine lv_if_ne (tgt := 21) hx hb dX8_stop_12 (by decide) (fun h => absurd h (by decide)) (fun _ => ?_)
  refine lv_aload_n hx hb dX8_stop_15 rfl (lv_at hl 0 rfl) ?_
  refine lv_iconst (v := 1) hx hb dX8_stop_16 (by decide) ?_
  have hPr := ((zo_R hR0 hS hAr)).sub (ws' := [(mr, .inr (9, [.ref ll, .ref lt, .ref lp, .int (-1), .int 0, .int 0, .int 0, .int 0, .int 0, .int 0, .int (-1), .int 0, .int 0, .int 0])), (ll, .inr (1, [.int 0, .ref ed, .int 0])), (lt, .inr (1, [.int 0, .ref ed, .int 0])), (lp, .inr (1, [.int 0, .ref ed, .int 0]))]) [0, 1, 2, 3] rfl
  have hPc := hP.sub (ws' := [(mo, .inr (10, [.int 0, .ref mr, .int 1, .long s9]))]) [0] rfl
  have hDc := hD.sub (ws' := [(mo, .inr (10, [.int 0, .ref mr, .int 1, .long s9]))]) [0] (by decide) rfl
  have hKc := hK.sub (tys' := []) [] rfl
  have hFc := va_free (wc := [(mo, .inr (10, [.int 0, .ref mr, .int 1, .long s9]))]) hD hS hA [0] rfl
  refine va_calli (va_runV (As := [.int 1]) (rest := []) ⟨hx, hb, hml, hown, hts⟩ (cz_refuse l dC dI ed H1.size mo mr ll lt lp 0 s9 1) (cwV 1 hts gX8_stop_X8_refuse rfl rfl rfl (by decide +kernel) ⟨Nat.le_of_ble_eq_true rfl, Nat.le_of_ble_eq_true rfl⟩) ⟨zb_blind, va_recv hK hP (ci := 10) (q0 := 0) rfl rfl, fun U hU hW => ⟨rfl, zb_mk hU hW hPr hPc hKc hDc hN hH hS hFc (zx_cons (zx_r (hAr _ (List.mem_of_getElem? (i := 0) rfl)) hDc) (zx_cons (zx_r (hAr _ (List.mem_of_getElem? (i := 1) rfl)) hDc) (zx_cons (zx_r (hAr _ (List.mem_of_getElem? (i := 2) rfl)) hDc) (zx_cons (zx_r (hAr _ (List.mem_of_getElem? (i := 3) rfl)) hDc) zx_nil))))⟩⟩ rfl rfl hl.1 rfl (lv_room (Nat.le_of_ble_eq_true rfl)) dX8_stop_17 ⟨Nat.le_of_ble_eq_true rfl, Nat.le_of_ble_eq_true rfl⟩) hS (fun q _ h => hFc q h) hFc (fun r3 u t H2 locs ht hvm hw hB hz1 hk1 hS => ?_)
  obtain rfl : r3 = 0 := hw
  obtain ⟨hP1, hD1, hK1⟩ := hB
  rw [ht] at hP1
  obtain ⟨hP, hD⟩ := va_join (wr := []) (w1 := [(mo, .inr (10, [.int 1, .ref mr, .int 1, .long s9]))]) hP hD [0] [] rfl rfl (by decide) (by decide) hk1 hFc hP1 hD1
  have hP : va_P (dC, dI) vwCl [(mo, .inr (10, [.int 1, .ref mr, .int 1, .long s9]))] H2 := hP
  have hD : va_D A [(mo, .inr (10, [.int 1, .ref mr, .int 1, .long s9]))] := hD
  refine W.widen (k := 0) (n := 0) (Nat.le_of_ble_eq_true rfl) (Nat.le_of_ble_eq_true rfl) ?_
  have hP9 := hP.sub (ws' := [(mo, .inr (10, [.int 1, .ref mr, .int 1, .long s9]))]) [0] rfl
  have hD9 := hD.sub (ws' := [(mo, .inr (10, [.int 1, .ref mr, .int 1, .long s9]))]) [0] (by decide) rfl
  have hK9 := hK.sub (tys' := []) [] rfl
  exact W.iret hx hb hr (fun t ht hW => ⟨⟨0, (), rfl, rfl, ⟨by rw [ht]; exact hP9, hD9, va_K.moved hW.alike hK9⟩⟩, hS.F ht⟩) hS.2.2 dX8_stop_20

set_option maxRecDepth 20000 in
theorem zi_X8_hint_X8 : ∀ w ∈ u_ws RX8 TX8 4, w ∈ wsX8_hint := by decide +kernel
set_option maxHeartbeats 4000000 in
set_option maxRecDepth 100000 in
theorem cz_X8_hint (l : Launch) (dC : Nat → ClassId) (dI : Nat → Nat → Nat) (ed sz : Nat) (mo : Nat) (mr : Nat) (ll : Nat) (lt : Nat) (lp : Nat) (x9 : Int32) (s9 : Int64) (x0 : Int32) : Met l yX8_hint wsX8_hint ({ frames := 2, cells := 0, slots := 0, locals := 43 } : Jvm.Room) (va_Pc [.ref mo, .int x0] (zB dC dI ed sz [(mr, .inr (9, [.ref ll, .ref lt, .ref lp, .int (-1), .int 0, .int 0, .int 0, .int 0, .int 0, .int 0, .int (-1), .int 0, .int 0, .int 0])), (ll, .inr (1, [.int 0, .ref ed, .int 0])), (lt, .inr (1, [.int 0, .ref ed, .int 0])), (lp, .inr (1, [.int 0, .ref ed, .int 0]))] [(mo, .inr (10, [.int x9, .ref mr, .int 1, .long s9]))] [])) (va_Qi (fun (r : Int32) (_ : Unit) => r = 0) (fun (_ : Unit) (t : State) => va_P (dC, dI) vwCl [(mo, .inr (10, [.int 1, .ref mr, .int 1, .long s9]))] t.heap ∧ va_D (va_A [(mo, .inr (10, [.int x9, .ref mr, .int 1, .long s9]))] sz) [(mo, .inr (10, [.int 1, .ref mr, .int 1, .long s9]))] ∧ va_K (dC, dI) vwCl [] t) (va_A [(mo, .inr (10, [.int x9, .ref mr, .int 1, .long s9]))] sz)) 0 0 (va_A [(mo, .inr (10, [.int x9, .ref mr, .int 1, .long s9]))] sz) := by
  refine Met.ofW (cc := cX8_hint) (maxL := 3) (ret := (some .int)) (by decide) rfl ?_
  intro p e s m args below meth c s₁ B hml hv
  obtain ⟨rfl, hsz, hR0, hP, hK, hD0, hN, hH, hX0⟩ := hv
  have hx := B.exec
  have hb := B.bytes
  have hr := B.returns
  have hts := atoms_spec (ws := wsX8_hint) B.pre
  have hown : s.vm.findClass RX8 = some m.cls := findClass_of_methodNamed B.named
  have hlocks := B.notSynchronized
  subst hsz
  have hD := hD0.self (sz := s.heap.size)
  have hAr := zx_A hX0 hR0
  generalize hAe : va_A [(mo, .inr (10, [.int x9, .ref mr, .int 1, .long s9]))] s.heap.size = A at hD hAr hH ⊢
  have hA : ∀ q : Nat, s.heap.size ≤ q → A q := fun q h => by rw [← hAe]; exact Or.inr h
  have hS : va_S A s.heap s.heap [] := va_S.rf
  have hl := lv_entry ([.ref mo, .int x0]) (n := 3) (Nat.le_of_ble_eq_true rfl)
  rw [lg_entry_eq]
  generalize (lg_sl ([.ref mo, .int x0]) ++ List.replicate (3 - (lg_sl ([.ref mo, .int x0])).length) Slot.unset).toArray = ls at hl ⊢
  have hl : lv_has ls 3 [(0, .ref mo), (1, .int x0)] := hl
  refine lv_aload_n hx hb dX8_hint_0 rfl (lv_at hl 0 rfl) ?_
  refine lv_iconst (v := 0) hx hb dX8_hint_1 (by decide) ?_
  refine va_put (D := (dC, dI)) (ci := 10) (v := .int 0) (ty := .int) (C := RX8) (T := TX8) (N := 4) hx hb hts zi_X8_hint_X8 tyX8 tyX8_ok nmX8 hown hK hP hD hS 0 rfl rfl 0 (by decide) (hts (.fieldLink RX8 20 "LockRoomsModel" "thrown" "I") (by decide +kernel)) (fun _ h9 => h9) rfl (by decide +kernel) rfl rfl (Nat.le_of_ble_eq_true rfl) dX8_hint_2 (fun H1 locs hP hD hS => ?_)
  have hP : va_P (dC, dI) vwCl [(mo, .inr (10, [.int 0, .ref mr, .int 1, .long s9]))] H1 := hP
  have hD : va_D A [(mo, .inr (10, [.int 0, .ref mr, .int 1, .long s9]))] := hD
  refine lv_aload_n hx hb dX8_hint_5 rfl (lv_at hl 0 rfl) ?_
  refine lv_iload_n hx hb dX8_hint_6 rfl (lv_at hl 1 rfl) ?_
  have hPr := (show va_P (dC, dI) vwCl [(mo, .inr (10, [.int 0, .ref mr, .int 1, .long s9])), (mr, .inr (9, [.ref ll, .ref lt, .ref lp, .int (-1), .int 0, .int 0, .int 0, .int 0, .int 0, .int 0, .int (-1), .int 0, .int 0, .int 0])), (ll, .inr (1, [.int 0, .ref ed, .int 0])), (lt, .inr (1, [.int 0, .ref ed, .int 0])), (lp, .inr (1, [.int 0, .ref ed, .int 0]))] H1 from (zo_cons ((hP) 0 _ rfl) (zo_cons (((zo_R hR0 hS hAr)) 0 _ rfl) (zo_cons (((zo_R hR0 hS hAr)) 1 _ rfl) (zo_cons (((zo_R hR0 hS hAr)) 2 _ rfl) (zo_cons (((zo_R hR0 hS hAr)) 3 _ rfl) (zo_nil : va_P (dC, dI) vwCl [] H1)))))))
  have hPc := hP.sub (ws' := []) [] rfl
  have hDc := hD.sub (ws' := []) [] (by decide) rfl
  have hKc := hK.sub (tys' := []) [] rfl
  have hFc := va_free (wc := []) hD hS hA [] rfl
  refine va_calli (va_runV (As := [.int x0]) (rest := []) ⟨hx, hb, hml, hown, hts⟩ (cz_isLock l dC dI ed H1.size mo mr ll lt lp 0 s9 x0) (cwV 1 hts gX8_hint_X8_isLock rfl rfl rfl (by decide +kernel) ⟨Nat.le_of_ble_eq_true rfl, Nat.le_of_ble_eq_true rfl⟩) ⟨zb_blind, va_recv hK hP (ci := 10) (q0 := 0) rfl rfl, fun U hU hW => ⟨rfl, zb_mk hU hW hPr hPc hKc hDc hN hH hS hFc zx_e⟩⟩ rfl rfl hl.1 rfl (lv_room (Nat.le_of_ble_eq_true rfl)) dX8_hint_7 ⟨Nat.le_of_ble_eq_true rfl, Nat.le_of_ble_eq_true rfl⟩) hS (fun q _ h => hFc q h) hFc (fun r3 u t H2 locs ht hvm hw hB hz1 hk1 hS => ?_)
  obtain rfl : r3 = 0 := hw
  have hP := zo_K hP hk1
  refine lv_if_ne (tgt := 19) hx hb dX8_hint_10 (by decide) (fun h => absurd h (by decide)) (fun _ => ?_)
  refine lv_aload_n hx hb dX8_hint_13 rfl (lv_at hl 0 rfl) ?_
  refine lv_iconst (v := 1) hx hb dX8_hint_14 (by decide) ?_
  have hPr := ((zo_R hR0 hS hAr)).sub (ws' := [(mr, .inr (9, [.ref ll, .ref lt, .ref lp, .int (-1), .int 0, .int 0, .int 0, .int 0, .int 0, .int 0, .int (-1), .int 0, .int 0, .int 0])), (ll, .inr (1, [.int 0, .ref ed, .int 0])), (lt, .inr (1, [.int 0, .ref ed, .int 0])), (lp, .inr (1, [.int 0, .ref ed, .int 0]))]) [0, 1, 2, 3] rfl
  have hPc := hP.sub (ws' := [(mo, .inr (10, [.int 0, .ref mr, .int 1, .long s9]))]) [0] rfl
  have hDc := hD.sub (ws' := [(mo, .inr (10, [.int 0, .ref mr, .int 1, .long s9]))]) [0] (by decide) rfl
  have hKc := hK.sub (tys' := []) [] rfl
  have hFc := va_free (wc := [(mo, .inr (10, [.int 0, .ref mr, .int 1, .long s9]))]) hD hS hA [0] rfl
  refine va_calli (va_runV (As := [.int 1]) (rest := []) ⟨hx, hb, hml, hown, hts⟩ (cz_refuse l dC dI ed H2.size mo mr ll lt lp 0 s9 1) (cwV 1 hts gX8_hint_X8_refuse rfl rfl rfl (by decide +kernel) ⟨Nat.le_of_ble_eq_true rfl, Nat.le_of_ble_eq_true rfl⟩) ⟨zb_blind, va_recv hK hP (ci := 10) (q0 := 0) rfl rfl, fun U hU hW => ⟨rfl, zb_mk hU hW hPr hPc hKc hDc hN hH hS hFc (zx_cons (zx_r (hAr _ (List.mem_of_getElem? (i := 0) rfl)) hDc) (zx_cons (zx_r (hAr _ (List.mem_of_getElem? (i := 1) rfl)) hDc) (zx_cons (zx_r (hAr _ (List.mem_of_getElem? (i := 2) rfl)) hDc) (zx_cons (zx_r (hAr _ (List.mem_of_getElem? (i := 3) rfl)) hDc) zx_nil))))⟩⟩ rfl rfl hl.1 rfl (lv_room (Nat.le_of_ble_eq_true rfl)) dX8_hint_15 ⟨Nat.le_of_ble_eq_true rfl, Nat.le_of_ble_eq_true rfl⟩) hS (fun q _ h => hFc q h) hFc (fun r5 u t H4 locs ht hvm hw hB hz1 hk1 hS => ?_)
  obtain rfl : r5 = 0 := hw
  obtain ⟨hP1, hD1, hK1⟩ := hB
  rw [ht] at hP1
  obtain ⟨hP, hD⟩ := va_join (wr := []) (w1 := [(mo, .inr (10, [.int 1, .ref mr, .int 1, .long s9]))]) hP hD [0] [] rfl rfl (by decide) (by decide) hk1 hFc hP1 hD1
  have hP : va_P (dC, dI) vwCl [(mo, .inr (10, [.int 1, .ref mr, .int 1, .long s9]))] H4 := hP
  have hD : va_D A [(mo, .inr (10, [.int 1, .ref mr, .int 1, .long s9]))] := hD
  refine W.widen (k := 0) (n := 0) (Nat.le_of_ble_eq_true rfl) (Nat.le_of_ble_eq_true rfl) ?_
  have hP9 := hP.sub (ws' := [(mo, .inr (10, [.int 1, .ref mr, .int 1, .long s9]))]) [0] rfl
  have hD9 := hD.sub (ws' := [(mo, .inr (10, [.int 1, .ref mr, .int 1, .long s9]))]) [0] (by decide) rfl
  have hK9 := hK.sub (tys' := []) [] rfl
  exact W.iret hx hb hr (fun t ht hW => ⟨⟨0, (), rfl, rfl, ⟨by rw [ht]; exact hP9, hD9, va_K.moved hW.alike hK9⟩⟩, hS.F ht⟩) hS.2.2 dX8_hint_18

set_option maxRecDepth 20000 in
theorem zi_X8_steal_X8 : ∀ w ∈ u_ws RX8 TX8 4, w ∈ wsX8_steal := by decide +kernel
set_option maxHeartbeats 4000000 in
set_option maxRecDepth 100000 in
theorem cz_X8_steal (l : Launch) (dC : Nat → ClassId) (dI : Nat → Nat → Nat) (ed sz : Nat) (mo : Nat) (mr : Nat) (ll : Nat) (lt : Nat) (lp : Nat) (x9 : Int32) (s9 : Int64) (x0 : Int32) : Met l yX8_steal wsX8_steal ({ frames := 2, cells := 0, slots := 0, locals := 43 } : Jvm.Room) (va_Pc [.ref mo, .int x0] (zB dC dI ed sz [(mr, .inr (9, [.ref ll, .ref lt, .ref lp, .int (-1), .int 0, .int 0, .int 0, .int 0, .int 0, .int 0, .int (-1), .int 0, .int 0, .int 0])), (ll, .inr (1, [.int 0, .ref ed, .int 0])), (lt, .inr (1, [.int 0, .ref ed, .int 0])), (lp, .inr (1, [.int 0, .ref ed, .int 0]))] [(mo, .inr (10, [.int x9, .ref mr, .int 1, .long s9]))] [])) (va_Qi (fun (r : Int32) (_ : Unit) => r = 0) (fun (_ : Unit) (t : State) => va_P (dC, dI) vwCl [(mo, .inr (10, [.int 1, .ref mr, .int 1, .long s9]))] t.heap ∧ va_D (va_A [(mo, .inr (10, [.int x9, .ref mr, .int 1, .long s9]))] sz) [(mo, .inr (10, [.int 1, .ref mr, .int 1, .long s9]))] ∧ va_K (dC, dI) vwCl [] t) (va_A [(mo, .inr (10, [.int x9, .ref mr, .int 1, .long s9]))] sz)) 0 0 (va_A [(mo, .inr (10, [.int x9, .ref mr, .int 1, .long s9]))] sz) := by
  refine Met.ofW (cc := cX8_steal) (maxL := 2) (ret := (some .int)) (by decide) rfl ?_
  intro p e s m args below meth c s₁ B hml hv
  obtain ⟨rfl, hsz, hR0, hP, hK, hD0, hN, hH, hX0⟩ := hv
  have hx := B.exec
  have hb := B.bytes
  have hr := B.returns
  have hts := atoms_spec (ws := wsX8_steal) B.pre
  have hown : s.vm.findClass RX8 = some m.cls := findClass_of_methodNamed B.named
  have hlocks := B.notSynchronized
  subst hsz
  have hD := hD0.self (sz := s.heap.size)
  have hAr := zx_A hX0 hR0
  generalize hAe : va_A [(mo, .inr (10, [.int x9, .ref mr, .int 1, .long s9]))] s.heap.size = A at hD hAr hH ⊢
  have hA : ∀ q : Nat, s.heap.size ≤ q → A q := fun q h => by rw [← hAe]; exact Or.inr h
  have hS : va_S A s.heap s.heap [] := va_S.rf
  have hl := lv_entry ([.ref mo, .int x0]) (n := 2) (Nat.le_of_ble_eq_true rfl)
  rw [lg_entry_eq]
  generalize (lg_sl ([.ref mo, .int x0]) ++ List.replicate (2 - (lg_sl ([.ref mo, .int x0])).length) Slot.unset).toArray = ls at hl ⊢
  have hl : lv_has ls 2 [(0, .ref mo), (1, .int x0)] := hl
  refine lv_aload_n hx hb dX8_steal_0 rfl (lv_at hl 0 rfl) ?_
  refine lv_iconst (v := 0) hx hb dX8_steal_1 (by decide) ?_
  refine va_put (D := (dC, dI)) (ci := 10) (v := .int 0) (ty := .int) (C := RX8) (T := TX8) (N := 4) hx hb hts zi_X8_steal_X8 tyX8 tyX8_ok nmX8 hown hK hP hD hS 0 rfl rfl 0 (by decide) (hts (.fieldLink RX8 20 "LockRoomsModel" "thrown" "I") (by decide +kernel)) (fun _ h9 => h9) rfl (by decide +kernel) rfl rfl (Nat.le_of_ble_eq_true rfl) dX8_steal_2 (fun H1 locs hP hD hS => ?_)
  have hP : va_P (dC, dI) vwCl [(mo, .inr (10, [.int 0, .ref mr, .int 1, .long s9]))] H1 := hP
  have hD : va_D A [(mo, .inr (10, [.int 0, .ref mr, .int 1, .long s9]))] := hD
  refine lv_aload_n hx hb dX8_steal_5 rfl (lv_at hl 0 rfl) ?_
  refine lv_iload_n hx hb dX8_steal_6 rfl (lv_at hl 1 rfl) ?_
  have hPr := (show va_P (dC, dI) vwCl [(mo, .inr (10, [.int 0, .ref mr, .int 1, .long s9])), (mr, .inr (9, [.ref ll, .ref lt, .ref lp, .int (-1), .int 0, .int 0, .int 0, .int 0, .int 0, .int 0, .int (-1), .int 0, .int 0, .int 0])), (ll, .inr (1, [.int 0, .ref ed, .int 0])), (lt, .inr (1, [.int 0, .ref ed, .int 0])), (lp, .inr (1, [.int 0, .ref ed, .int 0]))] H1 from (zo_cons ((hP) 0 _ rfl) (zo_cons (((zo_R hR0 hS hAr)) 0 _ rfl) (zo_cons (((zo_R hR0 hS hAr)) 1 _ rfl) (zo_cons (((zo_R hR0 hS hAr)) 2 _ rfl) (zo_cons (((zo_R hR0 hS hAr)) 3 _ rfl) (zo_nil : va_P (dC, dI) vwCl [] H1)))))))
  have hPc := hP.sub (ws' := []) [] rfl
  have hDc := hD.sub (ws' := []) [] (by decide) rfl
  have hKc := hK.sub (tys' := []) [] rfl
  have hFc := va_free (wc := []) hD hS hA [] rfl
  refine va_calli (va_runV (As := [.int x0]) (rest := []) ⟨hx, hb, hml, hown, hts⟩ (cz_isThing l dC dI ed H1.size mo mr ll lt lp 0 s9 x0) (cwV 1 hts gX8_steal_X8_isThing rfl rfl rfl (by decide +kernel) ⟨Nat.le_of_ble_eq_true rfl, Nat.le_of_ble_eq_true rfl⟩) ⟨zb_blind, va_recv hK hP (ci := 10) (q0 := 0) rfl rfl, fun U hU hW => ⟨rfl, zb_mk hU hW hPr hPc hKc hDc hN hH hS hFc zx_e⟩⟩ rfl rfl hl.1 rfl (lv_room (Nat.le_of_ble_eq_true rfl)) dX8_steal_7 ⟨Nat.le_of_ble_eq_true rfl, Nat.le_of_ble_eq_true rfl⟩) hS (fun q _ h => hFc q h) hFc (fun r3 u t H2 locs ht hvm hw hB hz1 hk1 hS => ?_)
  obtain rfl : r3 = 0 := hw
  have hP := zo_K hP hk1
  refine lv_if_ne (tgt := 19) hx hb dX8_steal_10 (by decide) (fun h => absurd h (by decide)) (fun _ => ?_)
  refine lv_aload_n hx hb dX8_steal_13 rfl (lv_at hl 0 rfl) ?_
  refine lv_iconst (v := 1) hx hb dX8_steal_14 (by decide) ?_
  have hPr := ((zo_R hR0 hS hAr)).sub (ws' := [(mr, .inr (9, [.ref ll, .ref lt, .ref lp, .int (-1), .int 0, .int 0, .int 0, .int 0, .int 0, .int 0, .int (-1), .int 0, .int 0, .int 0])), (ll, .inr (1, [.int 0, .ref ed, .int 0])), (lt, .inr (1, [.int 0, .ref ed, .int 0])), (lp, .inr (1, [.int 0, .ref ed, .int 0]))]) [0, 1, 2, 3] rfl
  have hPc := hP.sub (ws' := [(mo, .inr (10, [.int 0, .ref mr, .int 1, .long s9]))]) [0] rfl
  have hDc := hD.sub (ws' := [(mo, .inr (10, [.int 0, .ref mr, .int 1, .long s9]))]) [0] (by decide) rfl
  have hKc := hK.sub (tys' := []) [] rfl
  have hFc := va_free (wc := [(mo, .inr (10, [.int 0, .ref mr, .int 1, .long s9]))]) hD hS hA [0] rfl
  refine va_calli (va_runV (As := [.int 1]) (rest := []) ⟨hx, hb, hml, hown, hts⟩ (cz_refuse l dC dI ed H2.size mo mr ll lt lp 0 s9 1) (cwV 1 hts gX8_steal_X8_refuse rfl rfl rfl (by decide +kernel) ⟨Nat.le_of_ble_eq_true rfl, Nat.le_of_ble_eq_true rfl⟩) ⟨zb_blind, va_recv hK hP (ci := 10) (q0 := 0) rfl rfl, fun U hU hW => ⟨rfl, zb_mk hU hW hPr hPc hKc hDc hN hH hS hFc (zx_cons (zx_r (hAr _ (List.mem_of_getElem? (i := 0) rfl)) hDc) (zx_cons (zx_r (hAr _ (List.mem_of_getElem? (i := 1) rfl)) hDc) (zx_cons (zx_r (hAr _ (List.mem_of_getElem? (i := 2) rfl)) hDc) (zx_cons (zx_r (hAr _ (List.mem_of_getElem? (i := 3) rfl)) hDc) zx_nil))))⟩⟩ rfl rfl hl.1 rfl (lv_room (Nat.le_of_ble_eq_true rfl)) dX8_steal_15 ⟨Nat.le_of_ble_eq_true rfl, Nat.le_of_ble_eq_true rfl⟩) hS (fun q _ h => hFc q h) hFc (fun r5 u t H4 locs ht hvm hw hB hz1 hk1 hS => ?_)
  obtain rfl : r5 = 0 := hw
  obtain ⟨hP1, hD1, hK1⟩ := hB
  rw [ht] at hP1
  obtain ⟨hP, hD⟩ := va_join (wr := []) (w1 := [(mo, .inr (10, [.int 1, .ref mr, .int 1, .long s9]))]) hP hD [0] [] rfl rfl (by decide) (by decide) hk1 hFc hP1 hD1
  have hP : va_P (dC, dI) vwCl [(mo, .inr (10, [.int 1, .ref mr, .int 1, .long s9]))] H4 := hP
  have hD : va_D A [(mo, .inr (10, [.int 1, .ref mr, .int 1, .long s9]))] := hD
  refine W.widen (k := 0) (n := 0) (Nat.le_of_ble_eq_true rfl) (Nat.le_of_ble_eq_true rfl) ?_
  have hP9 := hP.sub (ws' := [(mo, .inr (10, [.int 1, .ref mr, .int 1, .long s9]))]) [0] rfl
  have hD9 := hD.sub (ws' := [(mo, .inr (10, [.int 1, .ref mr, .int 1, .long s9]))]) [0] (by decide) rfl
  have hK9 := hK.sub (tys' := []) [] rfl
  exact W.iret hx hb hr (fun t ht hW => ⟨⟨0, (), rfl, rfl, ⟨by rw [ht]; exact hP9, hD9, va_K.moved hW.alike hK9⟩⟩, hS.F ht⟩) hS.2.2 dX8_steal_18

set_option maxRecDepth 20000 in
theorem zi_X8_spare_X8 : ∀ w ∈ u_ws RX8 TX8 4, w ∈ wsX8_spare := by decide +kernel
set_option maxHeartbeats 4000000 in
set_option maxRecDepth 100000 in
theorem cz_X8_spare (l : Launch) (dC : Nat → ClassId) (dI : Nat → Nat → Nat) (ed sz : Nat) (mo : Nat) (mr : Nat) (ll : Nat) (lt : Nat) (lp : Nat) (x9 : Int32) (s9 : Int64) (x0 : Int32) : Met l yX8_spare wsX8_spare ({ frames := 2, cells := 0, slots := 0, locals := 43 } : Jvm.Room) (va_Pc [.ref mo, .int x0] (zB dC dI ed sz [(mr, .inr (9, [.ref ll, .ref lt, .ref lp, .int (-1), .int 0, .int 0, .int 0, .int 0, .int 0, .int 0, .int (-1), .int 0, .int 0, .int 0])), (ll, .inr (1, [.int 0, .ref ed, .int 0])), (lt, .inr (1, [.int 0, .ref ed, .int 0])), (lp, .inr (1, [.int 0, .ref ed, .int 0]))] [(mo, .inr (10, [.int x9, .ref mr, .int 1, .long s9]))] [])) (va_Qi (fun (r : Int32) (_ : Unit) => r = 0) (fun (_ : Unit) (t : State) => va_P (dC, dI) vwCl [(mo, .inr (10, [.int 1, .ref mr, .int 1, .long s9]))] t.heap ∧ va_D (va_A [(mo, .inr (10, [.int x9, .ref mr, .int 1, .long s9]))] sz) [(mo, .inr (10, [.int 1, .ref mr, .int 1, .long s9]))] ∧ va_K (dC, dI) vwCl [] t) (va_A [(mo, .inr (10, [.int x9, .ref mr, .int 1, .long s9]))] sz)) 0 0 (va_A [(mo, .inr (10, [.int x9, .ref mr, .int 1, .long s9]))] sz) := by
  refine Met.ofW (cc := cX8_spare) (maxL := 2) (ret := (some .int)) (by decide) rfl ?_
  intro p e s m args below meth c s₁ B hml hv
  obtain ⟨rfl, hsz, hR0, hP, hK, hD0, hN, hH, hX0⟩ := hv
  have hx := B.exec
  have hb := B.bytes
  have hr := B.returns
  have hts := atoms_spec (ws := wsX8_spare) B.pre
  have hown : s.vm.findClass RX8 = some m.cls := findClass_of_methodNamed B.named
  have hlocks := B.notSynchronized
  subst hsz
  have hD := hD0.self (sz := s.heap.size)
  have hAr := zx_A hX0 hR0
  generalize hAe : va_A [(mo, .inr (10, [.int x9, .ref mr, .int 1, .long s9]))] s.heap.size = A at hD hAr hH ⊢
  have hA : ∀ q : Nat, s.heap.size ≤ q → A q := fun q h => by rw [← hAe]; exact Or.inr h
  have hS : va_S A s.heap s.heap [] := va_S.rf
  have hl := lv_entry ([.ref mo, .int x0]) (n := 2) (Nat.le_of_ble_eq_true rfl)
  rw [lg_entry_eq]
  generalize (lg_sl ([.ref mo, .int x0]) ++ List.replicate (2 - (lg_sl ([.ref mo, .int x0])).length) Slot.unset).toArray = ls at hl ⊢
  have hl : lv_has ls 2 [(0, .ref mo), (1, .int x0)] := hl
  refine lv_aload_n hx hb dX8_spare_0 rfl (lv_at hl 0 rfl) ?_
  refine lv_iconst (v := 0) hx hb dX8_spare_1 (by decide) ?_
  refine va_put (D := (dC, dI)) (ci := 10) (v := .int 0) (ty := .int) (C := RX8) (T := TX8) (N := 4) hx hb hts zi_X8_spare_X8 tyX8 tyX8_ok nmX8 hown hK hP hD hS 0 rfl rfl 0 (by decide) (hts (.fieldLink RX8 20 "LockRoomsModel" "thrown" "I") (by decide +kernel)) (fun _ h9 => h9) rfl (by decide +kernel) rfl rfl (Nat.le_of_ble_eq_true rfl) dX8_spare_2 (fun H1 locs hP hD hS => ?_)
  have hP : va_P (dC, dI) vwCl [(mo, .inr (10, [.int 0, .ref mr, .int 1, .long s9]))] H1 := hP
  have hD : va_D A [(mo, .inr (10, [.int 0, .ref mr, .int 1, .long s9]))] := hD
  refine lv_aload_n hx hb dX8_spare_5 rfl (lv_at hl 0 rfl) ?_
  refine lv_iload_n hx hb dX8_spare_6 rfl (lv_at hl 1 rfl) ?_
  have hPr := (show va_P (dC, dI) vwCl [(mo, .inr (10, [.int 0, .ref mr, .int 1, .long s9])), (mr, .inr (9, [.ref ll, .ref lt, .ref lp, .int (-1), .int 0, .int 0, .int 0, .int 0, .int 0, .int 0, .int (-1), .int 0, .int 0, .int 0])), (ll, .inr (1, [.int 0, .ref ed, .int 0])), (lt, .inr (1, [.int 0, .ref ed, .int 0])), (lp, .inr (1, [.int 0, .ref ed, .int 0]))] H1 from (zo_cons ((hP) 0 _ rfl) (zo_cons (((zo_R hR0 hS hAr)) 0 _ rfl) (zo_cons (((zo_R hR0 hS hAr)) 1 _ rfl) (zo_cons (((zo_R hR0 hS hAr)) 2 _ rfl) (zo_cons (((zo_R hR0 hS hAr)) 3 _ rfl) (zo_nil : va_P (dC, dI) vwCl [] H1)))))))
  have hPc := hP.sub (ws' := []) [] rfl
  have hDc := hD.sub (ws' := []) [] (by decide) rfl
  have hKc := hK.sub (tys' := []) [] rfl
  have hFc := va_free (wc := []) hD hS hA [] rfl
  refine va_calli (va_runV (As := [.int x0]) (rest := []) ⟨hx, hb, hml, hown, hts⟩ (cz_isThing l dC dI ed H1.size mo mr ll lt lp 0 s9 x0) (cwV 1 hts gX8_spare_X8_isThing rfl rfl rfl (by decide +kernel) ⟨Nat.le_of_ble_eq_true rfl, Nat.le_of_ble_eq_true rfl⟩) ⟨zb_blind, va_recv hK hP (ci := 10) (q0 := 0) rfl rfl, fun U hU hW => ⟨rfl, zb_mk hU hW hPr hPc hKc hDc hN hH hS hFc zx_e⟩⟩ rfl rfl hl.1 rfl (lv_room (Nat.le_of_ble_eq_true rfl)) dX8_spare_7 ⟨Nat.le_of_ble_eq_true rfl, Nat.le_of_ble_eq_true rfl⟩) hS (fun q _ h => hFc q h) hFc (fun r3 u t H2 locs ht hvm hw hB hz1 hk1 hS => ?_)
  obtain rfl : r3 = 0 := hw
  have hP := zo_K hP hk1
  refine lv_if_ne (tgt := 19) hx hb dX8_spare_10 (by decide) (fun h => absurd h (by decide)) (fun _ => ?_)
  refine lv_aload_n hx hb dX8_spare_13 rfl (lv_at hl 0 rfl) ?_
  refine lv_iconst (v := 1) hx hb dX8_spare_14 (by decide) ?_
  have hPr := ((zo_R hR0 hS hAr)).sub (ws' := [(mr, .inr (9, [.ref ll, .ref lt, .ref lp, .int (-1), .int 0, .int 0, .int 0, .int 0, .int 0, .int 0, .int (-1), .int 0, .int 0, .int 0])), (ll, .inr (1, [.int 0, .ref ed, .int 0])), (lt, .inr (1, [.int 0, .ref ed, .int 0])), (lp, .inr (1, [.int 0, .ref ed, .int 0]))]) [0, 1, 2, 3] rfl
  have hPc := hP.sub (ws' := [(mo, .inr (10, [.int 0, .ref mr, .int 1, .long s9]))]) [0] rfl
  have hDc := hD.sub (ws' := [(mo, .inr (10, [.int 0, .ref mr, .int 1, .long s9]))]) [0] (by decide) rfl
  have hKc := hK.sub (tys' := []) [] rfl
  have hFc := va_free (wc := [(mo, .inr (10, [.int 0, .ref mr, .int 1, .long s9]))]) hD hS hA [0] rfl
  refine va_calli (va_runV (As := [.int 1]) (rest := []) ⟨hx, hb, hml, hown, hts⟩ (cz_refuse l dC dI ed H2.size mo mr ll lt lp 0 s9 1) (cwV 1 hts gX8_spare_X8_refuse rfl rfl rfl (by decide +kernel) ⟨Nat.le_of_ble_eq_true rfl, Nat.le_of_ble_eq_true rfl⟩) ⟨zb_blind, va_recv hK hP (ci := 10) (q0 := 0) rfl rfl, fun U hU hW => ⟨rfl, zb_mk hU hW hPr hPc hKc hDc hN hH hS hFc (zx_cons (zx_r (hAr _ (List.mem_of_getElem? (i := 0) rfl)) hDc) (zx_cons (zx_r (hAr _ (List.mem_of_getElem? (i := 1) rfl)) hDc) (zx_cons (zx_r (hAr _ (List.mem_of_getElem? (i := 2) rfl)) hDc) (zx_cons (zx_r (hAr _ (List.mem_of_getElem? (i := 3) rfl)) hDc) zx_nil))))⟩⟩ rfl rfl hl.1 rfl (lv_room (Nat.le_of_ble_eq_true rfl)) dX8_spare_15 ⟨Nat.le_of_ble_eq_true rfl, Nat.le_of_ble_eq_true rfl⟩) hS (fun q _ h => hFc q h) hFc (fun r5 u t H4 locs ht hvm hw hB hz1 hk1 hS => ?_)
  obtain rfl : r5 = 0 := hw
  obtain ⟨hP1, hD1, hK1⟩ := hB
  rw [ht] at hP1
  obtain ⟨hP, hD⟩ := va_join (wr := []) (w1 := [(mo, .inr (10, [.int 1, .ref mr, .int 1, .long s9]))]) hP hD [0] [] rfl rfl (by decide) (by decide) hk1 hFc hP1 hD1
  have hP : va_P (dC, dI) vwCl [(mo, .inr (10, [.int 1, .ref mr, .int 1, .long s9]))] H4 := hP
  have hD : va_D A [(mo, .inr (10, [.int 1, .ref mr, .int 1, .long s9]))] := hD
  refine W.widen (k := 0) (n := 0) (Nat.le_of_ble_eq_true rfl) (Nat.le_of_ble_eq_true rfl) ?_
  have hP9 := hP.sub (ws' := [(mo, .inr (10, [.int 1, .ref mr, .int 1, .long s9]))]) [0] rfl
  have hD9 := hD.sub (ws' := [(mo, .inr (10, [.int 1, .ref mr, .int 1, .long s9]))]) [0] (by decide) rfl
  have hK9 := hK.sub (tys' := []) [] rfl
  exact W.iret hx hb hr (fun t ht hW => ⟨⟨0, (), rfl, rfl, ⟨by rw [ht]; exact hP9, hD9, va_K.moved hW.alike hK9⟩⟩, hS.F ht⟩) hS.2.2 dX8_spare_18

set_option maxRecDepth 20000 in
theorem zi_X8_breaks_X8 : ∀ w ∈ u_ws RX8 TX8 4, w ∈ wsX8_breaks := by decide +kernel
set_option maxHeartbeats 4000000 in
set_option maxRecDepth 100000 in
theorem cz_X8_breaks (l : Launch) (dC : Nat → ClassId) (dI : Nat → Nat → Nat) (ed sz : Nat) (mo : Nat) (mr : Nat) (ll : Nat) (lt : Nat) (lp : Nat) (x9 : Int32) (s9 : Int64) (x0 : Int32) : Met l yX8_breaks wsX8_breaks ({ frames := 2, cells := 0, slots := 0, locals := 43 } : Jvm.Room) (va_Pc [.ref mo, .int x0] (zB dC dI ed sz [(mr, .inr (9, [.ref ll, .ref lt, .ref lp, .int (-1), .int 0, .int 0, .int 0, .int 0, .int 0, .int 0, .int (-1), .int 0, .int 0, .int 0])), (ll, .inr (1, [.int 0, .ref ed, .int 0])), (lt, .inr (1, [.int 0, .ref ed, .int 0])), (lp, .inr (1, [.int 0, .ref ed, .int 0]))] [(mo, .inr (10, [.int x9, .ref mr, .int 1, .long s9]))] [])) (va_Qi (fun (r : Int32) (_ : Unit) => r = 0) (fun (_ : Unit) (t : State) => va_P (dC, dI) vwCl [(mo, .inr (10, [.int 1, .ref mr, .int 1, .long s9]))] t.heap ∧ va_D (va_A [(mo, .inr (10, [.int x9, .ref mr, .int 1, .long s9]))] sz) [(mo, .inr (10, [.int 1, .ref mr, .int 1, .long s9]))] ∧ va_K (dC, dI) vwCl [] t) (va_A [(mo, .inr (10, [.int x9, .ref mr, .int 1, .long s9]))] sz)) 0 0 (va_A [(mo, .inr (10, [.int x9, .ref mr, .int 1, .long s9]))] sz) := by
  refine Met.ofW (cc := cX8_breaks) (maxL := 3) (ret := (some .int)) (by decide) rfl ?_
  intro p e s m args below meth c s₁ B hml hv
  obtain ⟨rfl, hsz, hR0, hP, hK, hD0, hN, hH, hX0⟩ := hv
  have hx := B.exec
  have hb := B.bytes
  have hr := B.returns
  have hts := atoms_spec (ws := wsX8_breaks) B.pre
  have hown : s.vm.findClass RX8 = some m.cls := findClass_of_methodNamed B.named
  have hlocks := B.notSynchronized
  subst hsz
  have hD := hD0.self (sz := s.heap.size)
  have hAr := zx_A hX0 hR0
  generalize hAe : va_A [(mo, .inr (10, [.int x9, .ref mr, .int 1, .long s9]))] s.heap.size = A at hD hAr hH ⊢
  have hA : ∀ q : Nat, s.heap.size ≤ q → A q := fun q h => by rw [← hAe]; exact Or.inr h
  have hS : va_S A s.heap s.heap [] := va_S.rf
  have hl := lv_entry ([.ref mo, .int x0]) (n := 3) (Nat.le_of_ble_eq_true rfl)
  rw [lg_entry_eq]
  generalize (lg_sl ([.ref mo, .int x0]) ++ List.replicate (3 - (lg_sl ([.ref mo, .int x0])).length) Slot.unset).toArray = ls at hl ⊢
  have hl : lv_has ls 3 [(0, .ref mo), (1, .int x0)] := hl
  refine lv_aload_n hx hb dX8_breaks_0 rfl (lv_at hl 0 rfl) ?_
  refine lv_iconst (v := 0) hx hb dX8_breaks_1 (by decide) ?_
  refine va_put (D := (dC, dI)) (ci := 10) (v := .int 0) (ty := .int) (C := RX8) (T := TX8) (N := 4) hx hb hts zi_X8_breaks_X8 tyX8 tyX8_ok nmX8 hown hK hP hD hS 0 rfl rfl 0 (by decide) (hts (.fieldLink RX8 20 "LockRoomsModel" "thrown" "I") (by decide +kernel)) (fun _ h9 => h9) rfl (by decide +kernel) rfl rfl (Nat.le_of_ble_eq_true rfl) dX8_breaks_2 (fun H1 locs hP hD hS => ?_)
  have hP : va_P (dC, dI) vwCl [(mo, .inr (10, [.int 0, .ref mr, .int 1, .long s9]))] H1 := hP
  have hD : va_D A [(mo, .inr (10, [.int 0, .ref mr, .int 1, .long s9]))] := hD
  refine lv_aload_n hx hb dX8_breaks_5 rfl (lv_at hl 0 rfl) ?_
  refine lv_iload_n hx hb dX8_breaks_6 rfl (lv_at hl 1 rfl) ?_
  have hPr := (show va_P (dC, dI) vwCl [(mo, .inr (10, [.int 0, .ref mr, .int 1, .long s9])), (mr, .inr (9, [.ref ll, .ref lt, .ref lp, .int (-1), .int 0, .int 0, .int 0, .int 0, .int 0, .int 0, .int (-1), .int 0, .int 0, .int 0])), (ll, .inr (1, [.int 0, .ref ed, .int 0])), (lt, .inr (1, [.int 0, .ref ed, .int 0])), (lp, .inr (1, [.int 0, .ref ed, .int 0]))] H1 from (zo_cons ((hP) 0 _ rfl) (zo_cons (((zo_R hR0 hS hAr)) 0 _ rfl) (zo_cons (((zo_R hR0 hS hAr)) 1 _ rfl) (zo_cons (((zo_R hR0 hS hAr)) 2 _ rfl) (zo_cons (((zo_R hR0 hS hAr)) 3 _ rfl) (zo_nil : va_P (dC, dI) vwCl [] H1)))))))
  have hPc := hP.sub (ws' := []) [] rfl
  have hDc := hD.sub (ws' := []) [] (by decide) rfl
  have hKc := hK.sub (tys' := []) [] rfl
  have hFc := va_free (wc := []) hD hS hA [] rfl
  refine va_calli (va_runV (As := [.int x0]) (rest := []) ⟨hx, hb, hml, hown, hts⟩ (cz_isLock l dC dI ed H1.size mo mr ll lt lp 0 s9 x0) (cwV 1 hts gX8_breaks_X8_isLock rfl rfl rfl (by decide +kernel) ⟨Nat.le_of_ble_eq_true rfl, Nat.le_of_ble_eq_true rfl⟩) ⟨zb_blind, va_recv hK hP (ci := 10) (q0 := 0) rfl rfl, fun U hU hW => ⟨rfl, zb_mk hU hW hPr hPc hKc hDc hN hH hS hFc zx_e⟩⟩ rfl rfl hl.1 rfl (lv_room (Nat.le_of_ble_eq_true rfl)) dX8_breaks_7 ⟨Nat.le_of_ble_eq_true rfl, Nat.le_of_ble_eq_true rfl⟩) hS (fun q _ h => hFc q h) hFc (fun r3 u t H2 locs ht hvm hw hB hz1 hk1 hS => ?_)
  obtain rfl : r3 = 0 := hw
  have hP := zo_K hP hk1
  refine lv_if_ne (tgt := 19) hx hb dX8_breaks_10 (by decide) (fun h => absurd h (by decide)) (fun _ => ?_)
  refine lv_aload_n hx hb dX8_breaks_13 rfl (lv_at hl 0 rfl) ?_
  refine lv_iconst (v := 1) hx hb dX8_breaks_14 (by decide) ?_
  have hPr := ((zo_R hR0 hS hAr)).sub (ws' := [(mr, .inr (9, [.ref ll, .ref lt, .ref lp, .int (-1), .int 0, .int 0, .int 0, .int 0, .int 0, .int 0, .int (-1), .int 0, .int 0, .int 0])), (ll, .inr (1, [.int 0, .ref ed, .int 0])), (lt, .inr (1, [.int 0, .ref ed, .int 0])), (lp, .inr (1, [.int 0, .ref ed, .int 0]))]) [0, 1, 2, 3] rfl
  have hPc := hP.sub (ws' := [(mo, .inr (10, [.int 0, .ref mr, .int 1, .long s9]))]) [0] rfl
  have hDc := hD.sub (ws' := [(mo, .inr (10, [.int 0, .ref mr, .int 1, .long s9]))]) [0] (by decide) rfl
  have hKc := hK.sub (tys' := []) [] rfl
  have hFc := va_free (wc := [(mo, .inr (10, [.int 0, .ref mr, .int 1, .long s9]))]) hD hS hA [0] rfl
  refine va_calli (va_runV (As := [.int 1]) (rest := []) ⟨hx, hb, hml, hown, hts⟩ (cz_refuse l dC dI ed H2.size mo mr ll lt lp 0 s9 1) (cwV 1 hts gX8_breaks_X8_refuse rfl rfl rfl (by decide +kernel) ⟨Nat.le_of_ble_eq_true rfl, Nat.le_of_ble_eq_true rfl⟩) ⟨zb_blind, va_recv hK hP (ci := 10) (q0 := 0) rfl rfl, fun U hU hW => ⟨rfl, zb_mk hU hW hPr hPc hKc hDc hN hH hS hFc (zx_cons (zx_r (hAr _ (List.mem_of_getElem? (i := 0) rfl)) hDc) (zx_cons (zx_r (hAr _ (List.mem_of_getElem? (i := 1) rfl)) hDc) (zx_cons (zx_r (hAr _ (List.mem_of_getElem? (i := 2) rfl)) hDc) (zx_cons (zx_r (hAr _ (List.mem_of_getElem? (i := 3) rfl)) hDc) zx_nil))))⟩⟩ rfl rfl hl.1 rfl (lv_room (Nat.le_of_ble_eq_true rfl)) dX8_breaks_15 ⟨Nat.le_of_ble_eq_true rfl, Nat.le_of_ble_eq_true rfl⟩) hS (fun q _ h => hFc q h) hFc (fun r5 u t H4 locs ht hvm hw hB hz1 hk1 hS => ?_)
  obtain rfl : r5 = 0 := hw
  obtain ⟨hP1, hD1, hK1⟩ := hB
  rw [ht] at hP1
  obtain ⟨hP, hD⟩ := va_join (wr := []) (w1 := [(mo, .inr (10, [.int 1, .ref mr, .int 1, .long s9]))]) hP hD [0] [] rfl rfl (by decide) (by decide) hk1 hFc hP1 hD1
  have hP : va_P (dC, dI) vwCl [(mo, .inr (10, [.int 1, .ref mr, .int 1, .long s9]))] H4 := hP
  have hD : va_D A [(mo, .inr (10, [.int 1, .ref mr, .int 1, .long s9]))] := hD
  refine W.widen (k := 0) (n := 0) (Nat.le_of_ble_eq_true rfl) (Nat.le_of_ble_eq_true rfl) ?_
  have hP9 := hP.sub (ws' := [(mo, .inr (10, [.int 1, .ref mr, .int 1, .long s9]))]) [0] rfl
  have hD9 := hD.sub (ws' := [(mo, .inr (10, [.int 1, .ref mr, .int 1, .long s9]))]) [0] (by decide) rfl
  have hK9 := hK.sub (tys' := []) [] rfl
  exact W.iret hx hb hr (fun t ht hW => ⟨⟨0, (), rfl, rfl, ⟨by rw [ht]; exact hP9, hD9, va_K.moved hW.alike hK9⟩⟩, hS.F ht⟩) hS.2.2 dX8_breaks_18

set_option maxRecDepth 20000 in
theorem zi_X8_repair_X8 : ∀ w ∈ u_ws RX8 TX8 4, w ∈ wsX8_repair := by decide +kernel
set_option maxHeartbeats 4000000 in
set_option maxRecDepth 100000 in
theorem cz_X8_repair (l : Launch) (dC : Nat → ClassId) (dI : Nat → Nat → Nat) (ed sz : Nat) (mo : Nat) (mr : Nat) (ll : Nat) (lt : Nat) (lp : Nat) (x9 : Int32) (s9 : Int64) (x0 : Int32) : Met l yX8_repair wsX8_repair ({ frames := 2, cells := 0, slots := 0, locals := 43 } : Jvm.Room) (va_Pc [.ref mo, .int x0] (zB dC dI ed sz [(mr, .inr (9, [.ref ll, .ref lt, .ref lp, .int (-1), .int 0, .int 0, .int 0, .int 0, .int 0, .int 0, .int (-1), .int 0, .int 0, .int 0])), (ll, .inr (1, [.int 0, .ref ed, .int 0])), (lt, .inr (1, [.int 0, .ref ed, .int 0])), (lp, .inr (1, [.int 0, .ref ed, .int 0]))] [(mo, .inr (10, [.int x9, .ref mr, .int 1, .long s9]))] [])) (va_Qi (fun (r : Int32) (_ : Unit) => r = 0) (fun (_ : Unit) (t : State) => va_P (dC, dI) vwCl [(mo, .inr (10, [.int 1, .ref mr, .int 1, .long s9]))] t.heap ∧ va_D (va_A [(mo, .inr (10, [.int x9, .ref mr, .int 1, .long s9]))] sz) [(mo, .inr (10, [.int 1, .ref mr, .int 1, .long s9]))] ∧ va_K (dC, dI) vwCl [] t) (va_A [(mo, .inr (10, [.int x9, .ref mr, .int 1, .long s9]))] sz)) 0 0 (va_A [(mo, .inr (10, [.int x9, .ref mr, .int 1, .long s9]))] sz) := by
  refine Met.ofW (cc := cX8_repair) (maxL := 3) (ret := (some .int)) (by decide) rfl ?_
  intro p e s m args below meth c s₁ B hml hv
  obtain ⟨rfl, hsz, hR0, hP, hK, hD0, hN, hH, hX0⟩ := hv
  have hx := B.exec
  have hb := B.bytes
  have hr := B.returns
  have hts := atoms_spec (ws := wsX8_repair) B.pre
  have hown : s.vm.findClass RX8 = some m.cls := findClass_of_methodNamed B.named
  have hlocks := B.notSynchronized
  subst hsz
  have hD := hD0.self (sz := s.heap.size)
  have hAr := zx_A hX0 hR0
  generalize hAe : va_A [(mo, .inr (10, [.int x9, .ref mr, .int 1, .long s9]))] s.heap.size = A at hD hAr hH ⊢
  have hA : ∀ q : Nat, s.heap.size ≤ q → A q := fun q h => by rw [← hAe]; exact Or.inr h
  have hS : va_S A s.heap s.heap [] := va_S.rf
  have hl := lv_entry ([.ref mo, .int x0]) (n := 3) (Nat.le_of_ble_eq_true rfl)
  rw [lg_entry_eq]
  generalize (lg_sl ([.ref mo, .int x0]) ++ List.replicate (3 - (lg_sl ([.ref mo, .int x0])).length) Slot.unset).toArray = ls at hl ⊢
  have hl : lv_has ls 3 [(0, .ref mo), (1, .int x0)] := hl
  refine lv_aload_n hx hb dX8_repair_0 rfl (lv_at hl 0 rfl) ?_
  refine lv_iconst (v := 0) hx hb dX8_repair_1 (by decide) ?_
  refine va_put (D := (dC, dI)) (ci := 10) (v := .int 0) (ty := .int) (C := RX8) (T := TX8) (N := 4) hx hb hts zi_X8_repair_X8 tyX8 tyX8_ok nmX8 hown hK hP hD hS 0 rfl rfl 0 (by decide) (hts (.fieldLink RX8 20 "LockRoomsModel" "thrown" "I") (by decide +kernel)) (fun _ h9 => h9) rfl (by decide +kernel) rfl rfl (Nat.le_of_ble_eq_true rfl) dX8_repair_2 (fun H1 locs hP hD hS => ?_)
  have hP : va_P (dC, dI) vwCl [(mo, .inr (10, [.int 0, .ref mr, .int 1, .long s9]))] H1 := hP
  have hD : va_D A [(mo, .inr (10, [.int 0, .ref mr, .int 1, .long s9]))] := hD
  refine lv_aload_n hx hb dX8_repair_5 rfl (lv_at hl 0 rfl) ?_
  refine lv_iload_n hx hb dX8_repair_6 rfl (lv_at hl 1 rfl) ?_
  have hPr := (show va_P (dC, dI) vwCl [(mo, .inr (10, [.int 0, .ref mr, .int 1, .long s9])), (mr, .inr (9, [.ref ll, .ref lt, .ref lp, .int (-1), .int 0, .int 0, .int 0, .int 0, .int 0, .int 0, .int (-1), .int 0, .int 0, .int 0])), (ll, .inr (1, [.int 0, .ref ed, .int 0])), (lt, .inr (1, [.int 0, .ref ed, .int 0])), (lp, .inr (1, [.int 0, .ref ed, .int 0]))] H1 from (zo_cons ((hP) 0 _ rfl) (zo_cons (((zo_R hR0 hS hAr)) 0 _ rfl) (zo_cons (((zo_R hR0 hS hAr)) 1 _ rfl) (zo_cons (((zo_R hR0 hS hAr)) 2 _ rfl) (zo_cons (((zo_R hR0 hS hAr)) 3 _ rfl) (zo_nil : va_P (dC, dI) vwCl [] H1)))))))
  have hPc := hP.sub (ws' := []) [] rfl
  have hDc := hD.sub (ws' := []) [] (by decide) rfl
  have hKc := hK.sub (tys' := []) [] rfl
  have hFc := va_free (wc := []) hD hS hA [] rfl
  refine va_calli (va_runV (As := [.int x0]) (rest := []) ⟨hx, hb, hml, hown, hts⟩ (cz_isLock l dC dI ed H1.size mo mr ll lt lp 0 s9 x0) (cwV 1 hts gX8_repair_X8_isLock rfl rfl rfl (by decide +kernel) ⟨Nat.le_of_ble_eq_true rfl, Nat.le_of_ble_eq_true rfl⟩) ⟨zb_blind, va_recv hK hP (ci := 10) (q0 := 0) rfl rfl, fun U hU hW => ⟨rfl, zb_mk hU hW hPr hPc hKc hDc hN hH hS hFc zx_e⟩⟩ rfl rfl hl.1 rfl (lv_room (Nat.le_of_ble_eq_true rfl)) dX8_repair_7 ⟨Nat.le_of_ble_eq_true rfl, Nat.le_of_ble_eq_true rfl⟩) hS (fun q _ h => hFc q h) hFc (fun r3 u t H2 locs ht hvm hw hB hz1 hk1 hS => ?_)
  obtain rfl : r3 = 0 := hw
  have hP := zo_K hP hk1
  refine lv_if_ne (tgt := 19) hx hb dX8_repair_10 (by decide) (fun h => absurd h (by decide)) (fun _ => ?_)
  refine lv_aload_n hx hb dX8_repair_13 rfl (lv_at hl 0 rfl) ?_
  refine lv_iconst (v := 1) hx hb dX8_repair_14 (by decide) ?_
  have hPr := ((zo_R hR0 hS hAr)).sub (ws' := [(mr, .inr (9, [.ref ll, .ref lt, .ref lp, .int (-1), .int 0, .int 0, .int 0, .int 0, .int 0, .int 0, .int (-1), .int 0, .int 0, .int 0])), (ll, .inr (1, [.int 0, .ref ed, .int 0])), (lt, .inr (1, [.int 0, .ref ed, .int 0])), (lp, .inr (1, [.int 0, .ref ed, .int 0]))]) [0, 1, 2, 3] rfl
  have hPc := hP.sub (ws' := [(mo, .inr (10, [.int 0, .ref mr, .int 1, .long s9]))]) [0] rfl
  have hDc := hD.sub (ws' := [(mo, .inr (10, [.int 0, .ref mr, .int 1, .long s9]))]) [0] (by decide) rfl
  have hKc := hK.sub (tys' := []) [] rfl
  have hFc := va_free (wc := [(mo, .inr (10, [.int 0, .ref mr, .int 1, .long s9]))]) hD hS hA [0] rfl
  refine va_calli (va_runV (As := [.int 1]) (rest := []) ⟨hx, hb, hml, hown, hts⟩ (cz_refuse l dC dI ed H2.size mo mr ll lt lp 0 s9 1) (cwV 1 hts gX8_repair_X8_refuse rfl rfl rfl (by decide +kernel) ⟨Nat.le_of_ble_eq_true rfl, Nat.le_of_ble_eq_true rfl⟩) ⟨zb_blind, va_recv hK hP (ci := 10) (q0 := 0) rfl rfl, fun U hU hW => ⟨rfl, zb_mk hU hW hPr hPc hKc hDc hN hH hS hFc (zx_cons (zx_r (hAr _ (List.mem_of_getElem? (i := 0) rfl)) hDc) (zx_cons (zx_r (hAr _ (List.mem_of_getElem? (i := 1) rfl)) hDc) (zx_cons (zx_r (hAr _ (List.mem_of_getElem? (i := 2) rfl)) hDc) (zx_cons (zx_r (hAr _ (List.mem_of_getElem? (i := 3) rfl)) hDc) zx_nil))))⟩⟩ rfl rfl hl.1 rfl (lv_room (Nat.le_of_ble_eq_true rfl)) dX8_repair_15 ⟨Nat.le_of_ble_eq_true rfl, Nat.le_of_ble_eq_true rfl⟩) hS (fun q _ h => hFc q h) hFc (fun r5 u t H4 locs ht hvm hw hB hz1 hk1 hS => ?_)
  obtain rfl : r5 = 0 := hw
  obtain ⟨hP1, hD1, hK1⟩ := hB
  rw [ht] at hP1
  obtain ⟨hP, hD⟩ := va_join (wr := []) (w1 := [(mo, .inr (10, [.int 1, .ref mr, .int 1, .long s9]))]) hP hD [0] [] rfl rfl (by decide) (by decide) hk1 hFc hP1 hD1
  have hP : va_P (dC, dI) vwCl [(mo, .inr (10, [.int 1, .ref mr, .int 1, .long s9]))] H4 := hP
  have hD : va_D A [(mo, .inr (10, [.int 1, .ref mr, .int 1, .long s9]))] := hD
  refine W.widen (k := 0) (n := 0) (Nat.le_of_ble_eq_true rfl) (Nat.le_of_ble_eq_true rfl) ?_
  have hP9 := hP.sub (ws' := [(mo, .inr (10, [.int 1, .ref mr, .int 1, .long s9]))]) [0] rfl
  have hD9 := hD.sub (ws' := [(mo, .inr (10, [.int 1, .ref mr, .int 1, .long s9]))]) [0] (by decide) rfl
  have hK9 := hK.sub (tys' := []) [] rfl
  exact W.iret hx hb hr (fun t ht hW => ⟨⟨0, (), rfl, rfl, ⟨by rw [ht]; exact hP9, hD9, va_K.moved hW.alike hK9⟩⟩, hS.F ht⟩) hS.2.2 dX8_repair_18

set_option maxRecDepth 20000 in
theorem zi_X8_put_X8 : ∀ w ∈ u_ws RX8 TX8 4, w ∈ wsX8_put := by decide +kernel
set_option maxHeartbeats 4000000 in
set_option maxRecDepth 100000 in
theorem cz_X8_put (l : Launch) (dC : Nat → ClassId) (dI : Nat → Nat → Nat) (ed sz : Nat) (mo : Nat) (mr : Nat) (ll : Nat) (lt : Nat) (lp : Nat) (x9 : Int32) (s9 : Int64) (x0 : Int32) : Met l yX8_put wsX8_put ({ frames := 2, cells := 0, slots := 0, locals := 43 } : Jvm.Room) (va_Pc [.ref mo, .int x0] (zB dC dI ed sz [(mr, .inr (9, [.ref ll, .ref lt, .ref lp, .int (-1), .int 0, .int 0, .int 0, .int 0, .int 0, .int 0, .int (-1), .int 0, .int 0, .int 0])), (ll, .inr (1, [.int 0, .ref ed, .int 0])), (lt, .inr (1, [.int 0, .ref ed, .int 0])), (lp, .inr (1, [.int 0, .ref ed, .int 0]))] [(mo, .inr (10, [.int x9, .ref mr, .int 1, .long s9]))] [])) (va_Qi (fun (r : Int32) (_ : Unit) => r = 0) (fun (_ : Unit) (t : State) => va_P (dC, dI) vwCl [(mo, .inr (10, [.int 1, .ref mr, .int 1, .long s9]))] t.heap ∧ va_D (va_A [(mo, .inr (10, [.int x9, .ref mr, .int 1, .long s9]))] sz) [(mo, .inr (10, [.int 1, .ref mr, .int 1, .long s9]))] ∧ va_K (dC, dI) vwCl [] t) (va_A [(mo, .inr (10, [.int x9, .ref mr, .int 1, .long s9]))] sz)) 0 0 (va_A [(mo, .inr (10, [.int x9, .ref mr, .int 1, .long s9]))] sz) := by
  refine Met.ofW (cc := cX8_put) (maxL := 3) (ret := (some .int)) (by decide) rfl ?_
  intro p e s m args below meth c s₁ B hml hv
  obtain ⟨rfl, hsz, hR0, hP, hK, hD0, hN, hH, hX0⟩ := hv
  have hx := B.exec
  have hb := B.bytes
  have hr := B.returns
  have hts := atoms_spec (ws := wsX8_put) B.pre
  have hown : s.vm.findClass RX8 = some m.cls := findClass_of_methodNamed B.named
  have hlocks := B.notSynchronized
  subst hsz
  have hD := hD0.self (sz := s.heap.size)
  have hAr := zx_A hX0 hR0
  generalize hAe : va_A [(mo, .inr (10, [.int x9, .ref mr, .int 1, .long s9]))] s.heap.size = A at hD hAr hH ⊢
  have hA : ∀ q : Nat, s.heap.size ≤ q → A q := fun q h => by rw [← hAe]; exact Or.inr h
  have hS : va_S A s.heap s.heap [] := va_S.rf
  have hl := lv_entry ([.ref mo, .int x0]) (n := 3) (Nat.le_of_ble_eq_true rfl)
  rw [lg_entry_eq]
  generalize (lg_sl ([.ref mo, .int x0]) ++ List.replicate (3 - (lg_sl ([.ref mo, .int x0])).length) Slot.unset).toArray = ls at hl ⊢
  have hl : lv_has ls 3 [(0, .ref mo), (1, .int x0)] := hl
  refine lv_aload_n hx hb dX8_put_0 rfl (lv_at hl 0 rfl) ?_
  refine lv_iconst (v := 0) hx hb dX8_put_1 (by decide) ?_
  refine va_put (D := (dC, dI)) (ci := 10) (v := .int 0) (ty := .int) (C := RX8) (T := TX8) (N := 4) hx hb hts zi_X8_put_X8 tyX8 tyX8_ok nmX8 hown hK hP hD hS 0 rfl rfl 0 (by decide) (hts (.fieldLink RX8 20 "LockRoomsModel" "thrown" "I") (by decide +kernel)) (fun _ h9 => h9) rfl (by decide +kernel) rfl rfl (Nat.le_of_ble_eq_true rfl) dX8_put_2 (fun H1 locs hP hD hS => ?_)
  have hP : va_P (dC, dI) vwCl [(mo, .inr (10, [.int 0, .ref mr, .int 1, .long s9]))] H1 := hP
  have hD : va_D A [(mo, .inr (10, [.int 0, .ref mr, .int 1, .long s9]))] := hD
  refine lv_aload_n hx hb dX8_put_5 rfl (lv_at hl 0 rfl) ?_
  refine lv_iload_n hx hb dX8_put_6 rfl (lv_at hl 1 rfl) ?_
  have hPr := (show va_P (dC, dI) vwCl [(mo, .inr (10, [.int 0, .ref mr, .int 1, .long s9])), (mr, .inr (9, [.ref ll, .ref lt, .ref lp, .int (-1), .int 0, .int 0, .int 0, .int 0, .int 0, .int 0, .int (-1), .int 0, .int 0, .int 0])), (ll, .inr (1, [.int 0, .ref ed, .int 0])), (lt, .inr (1, [.int 0, .ref ed, .int 0])), (lp, .inr (1, [.int 0, .ref ed, .int 0]))] H1 from (zo_cons ((hP) 0 _ rfl) (zo_cons (((zo_R hR0 hS hAr)) 0 _ rfl) (zo_cons (((zo_R hR0 hS hAr)) 1 _ rfl) (zo_cons (((zo_R hR0 hS hAr)) 2 _ rfl) (zo_cons (((zo_R hR0 hS hAr)) 3 _ rfl) (zo_nil : va_P (dC, dI) vwCl [] H1)))))))
  have hPc := hP.sub (ws' := []) [] rfl
  have hDc := hD.sub (ws' := []) [] (by decide) rfl
  have hKc := hK.sub (tys' := []) [] rfl
  have hFc := va_free (wc := []) hD hS hA [] rfl
  refine va_calli (va_runV (As := [.int x0]) (rest := []) ⟨hx, hb, hml, hown, hts⟩ (cz_isThing l dC dI ed H1.size mo mr ll lt lp 0 s9 x0) (cwV 1 hts gX8_put_X8_isThing rfl rfl rfl (by decide +kernel) ⟨Nat.le_of_ble_eq_true rfl, Nat.le_of_ble_eq_true rfl⟩) ⟨zb_blind, va_recv hK hP (ci := 10) (q0 := 0) rfl rfl, fun U hU hW => ⟨rfl, zb_mk hU hW hPr hPc hKc hDc hN hH hS hFc zx_e⟩⟩ rfl rfl hl.1 rfl (lv_room (Nat.le_of_ble_eq_true rfl)) dX8_put_7 ⟨Nat.le_of_ble_eq_true rfl, Nat.le_of_ble_eq_true rfl⟩) hS (fun q _ h => hFc q h) hFc (fun r3 u t H2 locs ht hvm hw hB hz1 hk1 hS => ?_)
  obtain rfl : r3 = 0 := hw
  have hP := zo_K hP hk1
  refine lv_if_ne (tgt := 19) hx hb dX8_put_10 (by decide) (fun h => absurd h (by decide)) (fun _ => ?_)
  refine lv_aload_n hx hb dX8_put_13 rfl (lv_at hl 0 rfl) ?_
  refine lv_iconst (v := 1) hx hb dX8_put_14 (by decide) ?_
  have hPr := ((zo_R hR0 hS hAr)).sub (ws' := [(mr, .inr (9, [.ref ll, .ref lt, .ref lp, .int (-1), .int 0, .int 0, .int 0, .int 0, .int 0, .int 0, .int (-1), .int 0, .int 0, .int 0])), (ll, .inr (1, [.int 0, .ref ed, .int 0])), (lt, .inr (1, [.int 0, .ref ed, .int 0])), (lp, .inr (1, [.int 0, .ref ed, .int 0]))]) [0, 1, 2, 3] rfl
  have hPc := hP.sub (ws' := [(mo, .inr (10, [.int 0, .ref mr, .int 1, .long s9]))]) [0] rfl
  have hDc := hD.sub (ws' := [(mo, .inr (10, [.int 0, .ref mr, .int 1, .long s9]))]) [0] (by decide) rfl
  have hKc := hK.sub (tys' := []) [] rfl
  have hFc := va_free (wc := [(mo, .inr (10, [.int 0, .ref mr, .int 1, .long s9]))]) hD hS hA [0] rfl
  refine va_calli (va_runV (As := [.int 1]) (rest := []) ⟨hx, hb, hml, hown, hts⟩ (cz_refuse l dC dI ed H2.size mo mr ll lt lp 0 s9 1) (cwV 1 hts gX8_put_X8_refuse rfl rfl rfl (by decide +kernel) ⟨Nat.le_of_ble_eq_true rfl, Nat.le_of_ble_eq_true rfl⟩) ⟨zb_blind, va_recv hK hP (ci := 10) (q0 := 0) rfl rfl, fun U hU hW => ⟨rfl, zb_mk hU hW hPr hPc hKc hDc hN hH hS hFc (zx_cons (zx_r (hAr _ (List.mem_of_getElem? (i := 0) rfl)) hDc) (zx_cons (zx_r (hAr _ (List.mem_of_getElem? (i := 1) rfl)) hDc) (zx_cons (zx_r (hAr _ (List.mem_of_getElem? (i := 2) rfl)) hDc) (zx_cons (zx_r (hAr _ (List.mem_of_getElem? (i := 3) rfl)) hDc) zx_nil))))⟩⟩ rfl rfl hl.1 rfl (lv_room (Nat.le_of_ble_eq_true rfl)) dX8_put_15 ⟨Nat.le_of_ble_eq_true rfl, Nat.le_of_ble_eq_true rfl⟩) hS (fun q _ h => hFc q h) hFc (fun r5 u t H4 locs ht hvm hw hB hz1 hk1 hS => ?_)
  obtain rfl : r5 = 0 := hw
  obtain ⟨hP1, hD1, hK1⟩ := hB
  rw [ht] at hP1
  obtain ⟨hP, hD⟩ := va_join (wr := []) (w1 := [(mo, .inr (10, [.int 1, .ref mr, .int 1, .long s9]))]) hP hD [0] [] rfl rfl (by decide) (by decide) hk1 hFc hP1 hD1
  have hP : va_P (dC, dI) vwCl [(mo, .inr (10, [.int 1, .ref mr, .int 1, .long s9]))] H4 := hP
  have hD : va_D A [(mo, .inr (10, [.int 1, .ref mr, .int 1, .long s9]))] := hD
  refine W.widen (k := 0) (n := 0) (Nat.le_of_ble_eq_true rfl) (Nat.le_of_ble_eq_true rfl) ?_
  have hP9 := hP.sub (ws' := [(mo, .inr (10, [.int 1, .ref mr, .int 1, .long s9]))]) [0] rfl
  have hD9 := hD.sub (ws' := [(mo, .inr (10, [.int 1, .ref mr, .int 1, .long s9]))]) [0] (by decide) rfl
  have hK9 := hK.sub (tys' := []) [] rfl
  exact W.iret hx hb hr (fun t ht hW => ⟨⟨0, (), rfl, rfl, ⟨by rw [ht]; exact hP9, hD9, va_K.moved hW.alike hK9⟩⟩, hS.F ht⟩) hS.2.2 dX8_put_18

set_option maxRecDepth 20000 in
theorem zi_X8_shut_X8 : ∀ w ∈ u_ws RX8 TX8 4, w ∈ wsX8_shut := by decide +kernel
set_option maxHeartbeats 4000000 in
set_option maxRecDepth 100000 in
theorem cz_X8_shut (l : Launch) (dC : Nat → ClassId) (dI : Nat → Nat → Nat) (ed sz : Nat) (mo : Nat) (mr : Nat) (ll : Nat) (lt : Nat) (lp : Nat) (x9 : Int32) (s9 : Int64) (x0 : Int32) : Met l yX8_shut wsX8_shut ({ frames := 2, cells := 0, slots := 0, locals := 43 } : Jvm.Room) (va_Pc [.ref mo, .int x0] (zB dC dI ed sz [(mr, .inr (9, [.ref ll, .ref lt, .ref lp, .int (-1), .int 0, .int 0, .int 0, .int 0, .int 0, .int 0, .int (-1), .int 0, .int 0, .int 0])), (ll, .inr (1, [.int 0, .ref ed, .int 0])), (lt, .inr (1, [.int 0, .ref ed, .int 0])), (lp, .inr (1, [.int 0, .ref ed, .int 0]))] [(mo, .inr (10, [.int x9, .ref mr, .int 1, .long s9]))] [])) (va_Qi (fun (r : Int32) (_ : Unit) => r = 0) (fun (_ : Unit) (t : State) => va_P (dC, dI) vwCl [(mo, .inr (10, [.int 1, .ref mr, .int 1, .long s9]))] t.heap ∧ va_D (va_A [(mo, .inr (10, [.int x9, .ref mr, .int 1, .long s9]))] sz) [(mo, .inr (10, [.int 1, .ref mr, .int 1, .long s9]))] ∧ va_K (dC, dI) vwCl [] t) (va_A [(mo, .inr (10, [.int x9, .ref mr, .int 1, .long s9]))] sz)) 0 0 (va_A [(mo, .inr (10, [.int x9, .ref mr, .int 1, .long s9]))] sz) := by
  refine Met.ofW (cc := cX8_shut) (maxL := 4) (ret := (some .int)) (by decide) rfl ?_
  intro p e s m args below meth c s₁ B hml hv
  obtain ⟨rfl, hsz, hR0, hP, hK, hD0, hN, hH, hX0⟩ := hv
  have hx := B.exec
  have hb := B.bytes
  have hr := B.returns
  have hts := atoms_spec (ws := wsX8_shut) B.pre
  have hown : s.vm.findClass RX8 = some m.cls := findClass_of_methodNamed B.named
  have hlocks := B.notSynchronized
  subst hsz
  have hD := hD0.self (sz := s.heap.size)
  have hAr := zx_A hX0 hR0
  generalize hAe : va_A [(mo, .inr (10, [.int x9, .ref mr, .int 1, .long s9]))] s.heap.size = A at hD hAr hH ⊢
  have hA : ∀ q : Nat, s.heap.size ≤ q → A q := fun q h => by rw [← hAe]; exact Or.inr h
  have hS : va_S A s.heap s.heap [] := va_S.rf
  have hl := lv_entry ([.ref mo, .int x0]) (n := 4) (Nat.le_of_ble_eq_true rfl)
  rw [lg_entry_eq]
  generalize (lg_sl ([.ref mo, .int x0]) ++ List.replicate (4 - (lg_sl ([.ref mo, .int x0])).length) Slot.unset).toArray = ls at hl ⊢
  have hl : lv_has ls 4 [(0, .ref mo), (1, .int x0)] := hl
  refine lv_aload_n hx hb dX8_shut_0 rfl (lv_at hl 0 rfl) ?_
  refine lv_iconst (v := 0) hx hb dX8_shut_1 (by decide) ?_
  refine va_put (D := (dC, dI)) (ci := 10) (v := .int 0) (ty := .int) (C := RX8) (T := TX8) (N := 4) hx hb hts zi_X8_shut_X8 tyX8 tyX8_ok nmX8 hown hK hP hD hS 0 rfl rfl 0 (by decide) (hts (.fieldLink RX8 20 "LockRoomsModel" "thrown" "I") (by decide +kernel)) (fun _ h9 => h9) rfl (by decide +kernel) rfl rfl (Nat.le_of_ble_eq_true rfl) dX8_shut_2 (fun H1 locs hP hD hS => ?_)
  have hP : va_P (dC, dI) vwCl [(mo, .inr (10, [.int 0, .ref mr, .int 1, .long s9]))] H1 := hP
  have hD : va_D A [(mo, .inr (10, [.int 0, .ref mr, .int 1, .long s9]))] := hD
  refine lv_aload_n hx hb dX8_shut_5 rfl (lv_at hl 0 rfl) ?_
  refine lv_iload_n hx hb dX8_shut_6 rfl (lv_at hl 1 rfl) ?_
  have hPr := (show va_P (dC, dI) vwCl [(mo, .inr (10, [.int 0, .ref mr, .int 1, .long s9])), (mr, .inr (9, [.ref ll, .ref lt, .ref lp, .int (-1), .int 0, .int 0, .int 0, .int 0, .int 0, .int 0, .int (-1), .int 0, .int 0, .int 0])), (ll, .inr (1, [.int 0, .ref ed, .int 0])), (lt, .inr (1, [.int 0, .ref ed, .int 0])), (lp, .inr (1, [.int 0, .ref ed, .int 0]))] H1 from (zo_cons ((hP) 0 _ rfl) (zo_cons (((zo_R hR0 hS hAr)) 0 _ rfl) (zo_cons (((zo_R hR0 hS hAr)) 1 _ rfl) (zo_cons (((zo_R hR0 hS hAr)) 2 _ rfl) (zo_cons (((zo_R hR0 hS hAr)) 3 _ rfl) (zo_nil : va_P (dC, dI) vwCl [] H1)))))))
  have hPc := hP.sub (ws' := []) [] rfl
  have hDc := hD.sub (ws' := []) [] (by decide) rfl
  have hKc := hK.sub (tys' := []) [] rfl
  have hFc := va_free (wc := []) hD hS hA [] rfl
  refine va_calli (va_runV (As := [.int x0]) (rest := []) ⟨hx, hb, hml, hown, hts⟩ (cz_isLock l dC dI ed H1.size mo mr ll lt lp 0 s9 x0) (cwV 1 hts gX8_shut_X8_isLock rfl rfl rfl (by decide +kernel) ⟨Nat.le_of_ble_eq_true rfl, Nat.le_of_ble_eq_true rfl⟩) ⟨zb_blind, va_recv hK hP (ci := 10) (q0 := 0) rfl rfl, fun U hU hW => ⟨rfl, zb_mk hU hW hPr hPc hKc hDc hN hH hS hFc zx_e⟩⟩ rfl rfl hl.1 rfl (lv_room (Nat.le_of_ble_eq_true rfl)) dX8_shut_7 ⟨Nat.le_of_ble_eq_true rfl, Nat.le_of_ble_eq_true rfl⟩) hS (fun q _ h => hFc q h) hFc (fun r3 u t H2 locs ht hvm hw hB hz1 hk1 hS => ?_)
  obtain rfl : r3 = 0 := hw
  have hP := zo_K hP hk1
  refine lv_if_ne (tgt := 19) hx hb dX8_shut_10 (by decide) (fun h => absurd h (by decide)) (fun _ => ?_)
  refine lv_aload_n hx hb dX8_shut_13 rfl (lv_at hl 0 rfl) ?_
  refine lv_iconst (v := 1) hx hb dX8_shut_14 (by decide) ?_
  have hPr := ((zo_R hR0 hS hAr)).sub (ws' := [(mr, .inr (9, [.ref ll, .ref lt, .ref lp, .int (-1), .int 0, .int 0, .int 0, .int 0, .int 0, .int 0, .int (-1), .int 0, .int 0, .int 0])), (ll, .inr (1, [.int 0, .ref ed, .int 0])), (lt, .inr (1, [.int 0, .ref ed, .int 0])), (lp, .inr (1, [.int 0, .ref ed, .int 0]))]) [0, 1, 2, 3] rfl
  have hPc := hP.sub (ws' := [(mo, .inr (10, [.int 0, .ref mr, .int 1, .long s9]))]) [0] rfl
  have hDc := hD.sub (ws' := [(mo, .inr (10, [.int 0, .ref mr, .int 1, .long s9]))]) [0] (by decide) rfl
  have hKc := hK.sub (tys' := []) [] rfl
  have hFc := va_free (wc := [(mo, .inr (10, [.int 0, .ref mr, .int 1, .long s9]))]) hD hS hA [0] rfl
  refine va_calli (va_runV (As := [.int 1]) (rest := []) ⟨hx, hb, hml, hown, hts⟩ (cz_refuse l dC dI ed H2.size mo mr ll lt lp 0 s9 1) (cwV 1 hts gX8_shut_X8_refuse rfl rfl rfl (by decide +kernel) ⟨Nat.le_of_ble_eq_true rfl, Nat.le_of_ble_eq_true rfl⟩) ⟨zb_blind, va_recv hK hP (ci := 10) (q0 := 0) rfl rfl, fun U hU hW => ⟨rfl, zb_mk hU hW hPr hPc hKc hDc hN hH hS hFc (zx_cons (zx_r (hAr _ (List.mem_of_getElem? (i := 0) rfl)) hDc) (zx_cons (zx_r (hAr _ (List.mem_of_getElem? (i := 1) rfl)) hDc) (zx_cons (zx_r (hAr _ (List.mem_of_getElem? (i := 2) rfl)) hDc) (zx_cons (zx_r (hAr _ (List.mem_of_getElem? (i := 3) rfl)) hDc) zx_nil))))⟩⟩ rfl rfl hl.1 rfl (lv_room (Nat.le_of_ble_eq_true rfl)) dX8_shut_15 ⟨Nat.le_of_ble_eq_true rfl, Nat.le_of_ble_eq_true rfl⟩) hS (fun q _ h => hFc q h) hFc (fun r5 u t H4 locs ht hvm hw hB hz1 hk1 hS => ?_)
  obtain rfl : r5 = 0 := hw
  obtain ⟨hP1, hD1, hK1⟩ := hB
  rw [ht] at hP1
  obtain ⟨hP, hD⟩ := va_join (wr := []) (w1 := [(mo, .inr (10, [.int 1, .ref mr, .int 1, .long s9]))]) hP hD [0] [] rfl rfl (by decide) (by decide) hk1 hFc hP1 hD1
  have hP : va_P (dC, dI) vwCl [(mo, .inr (10, [.int 1, .ref mr, .int 1, .long s9]))] H4 := hP
  have hD : va_D A [(mo, .inr (10, [.int 1, .ref mr, .int 1, .long s9]))] := hD
  refine W.widen (k := 0) (n := 0) (Nat.le_of_ble_eq_true rfl) (Nat.le_of_ble_eq_true rfl) ?_
  have hP9 := hP.sub (ws' := [(mo, .inr (10, [.int 1, .ref mr, .int 1, .long s9]))]) [0] rfl
  have hD9 := hD.sub (ws' := [(mo, .inr (10, [.int 1, .ref mr, .int 1, .long s9]))]) [0] (by decide) rfl
  have hK9 := hK.sub (tys' := []) [] rfl
  exact W.iret hx hb hr (fun t ht hW => ⟨⟨0, (), rfl, rfl, ⟨by rw [ht]; exact hP9, hD9, va_K.moved hW.alike hK9⟩⟩, hS.F ht⟩) hS.2.2 dX8_shut_18

set_option maxRecDepth 20000 in
theorem zi_X8_ofLock_X8 : ∀ w ∈ u_ws RX8 TX8 4, w ∈ wsX8_ofLock := by decide +kernel
set_option maxHeartbeats 4000000 in
set_option maxRecDepth 100000 in
theorem cz_X8_ofLock (l : Launch) (dC : Nat → ClassId) (dI : Nat → Nat → Nat) (ed sz : Nat) (mo : Nat) (mr : Nat) (ll : Nat) (lt : Nat) (lp : Nat) (x9 : Int32) (s9 : Int64) (x0 : Int32) (x1 : Int32) : Met l yX8_ofLock wsX8_ofLock ({ frames := 2, cells := 0, slots := 0, locals := 43 } : Jvm.Room) (va_Pc [.ref mo, .int x0, .int x1] (zB dC dI ed sz [(mr, .inr (9, [.ref ll, .ref lt, .ref lp, .int (-1), .int 0, .int 0, .int 0, .int 0, .int 0, .int 0, .int (-1), .int 0, .int 0, .int 0])), (ll, .inr (1, [.int 0, .ref ed, .int 0])), (lt, .inr (1, [.int 0, .ref ed, .int 0])), (lp, .inr (1, [.int 0, .ref ed, .int 0]))] [(mo, .inr (10, [.int x9, .ref mr, .int 1, .long s9]))] [])) (va_Qi (fun (r : Int32) (_ : Unit) => r = 0) (fun (_ : Unit) (t : State) => va_P (dC, dI) vwCl [(mo, .inr (10, [.int 1, .ref mr, .int 1, .long s9]))] t.heap ∧ va_D (va_A [(mo, .inr (10, [.int x9, .ref mr, .int 1, .long s9]))] sz) [(mo, .inr (10, [.int 1, .ref mr, .int 1, .long s9]))] ∧ va_K (dC, dI) vwCl [] t) (va_A [(mo, .inr (10, [.int x9, .ref mr, .int 1, .long s9]))] sz)) 0 0 (va_A [(mo, .inr (10, [.int x9, .ref mr, .int 1, .long s9]))] sz) := by
  refine Met.ofW (cc := cX8_ofLock) (maxL := 3) (ret := (some .int)) (by decide) rfl ?_
  intro p e s m args below meth c s₁ B hml hv
  obtain ⟨rfl, hsz, hR0, hP, hK, hD0, hN, hH, hX0⟩ := hv
  have hx := B.exec
  have hb := B.bytes
  have hr := B.returns
  have hts := atoms_spec (ws := wsX8_ofLock) B.pre
  have hown : s.vm.findClass RX8 = some m.cls := findClass_of_methodNamed B.named
  have hlocks := B.notSynchronized
  subst hsz
  have hD := hD0.self (sz := s.heap.size)
  have hAr := zx_A hX0 hR0
  generalize hAe : va_A [(mo, .inr (10, [.int x9, .ref mr, .int 1, .long s9]))] s.heap.size = A at hD hAr hH ⊢
  have hA : ∀ q : Nat, s.heap.size ≤ q → A q := fun q h => by rw [← hAe]; exact Or.inr h
  have hS : va_S A s.heap s.heap [] := va_S.rf
  have hl := lv_entry ([.ref mo, .int x0, .int x1]) (n := 3) (Nat.le_of_ble_eq_true rfl)
  rw [lg_entry_eq]
  generalize (lg_sl ([.ref mo, .int x0, .int x1]) ++ List.replicate (3 - (lg_sl ([.ref mo, .int x0, .int x1])).length) Slot.unset).toArray = ls at hl ⊢
  have hl : lv_has ls 3 [(0, .ref mo), (1, .int x0), (2, .int x1)] := hl
  refine lv_aload_n hx hb dX8_ofLock_0 rfl (lv_at hl 0 rfl) ?_
  refine lv_iconst (v := 0) hx hb dX8_ofLock_1 (by decide) ?_
  refine va_put (D := (dC, dI)) (ci := 10) (v := .int 0) (ty := .int) (C := RX8) (T := TX8) (N := 4) hx hb hts zi_X8_ofLock_X8 tyX8 tyX8_ok nmX8 hown hK hP hD hS 0 rfl rfl 0 (by decide) (hts (.fieldLink RX8 20 "LockRoomsModel" "thrown" "I") (by decide +kernel)) (fun _ h9 => h9) rfl (by decide +kernel) rfl rfl (Nat.le_of_ble_eq_true rfl) dX8_ofLock_2 (fun H1 locs hP hD hS => ?_)
  have hP : va_P (dC, dI) vwCl [(mo, .inr (10, [.int 0, .ref mr, .int 1, .long s9]))] H1 := hP
  have hD : va_D A [(mo, .inr (10, [.int 0, .ref mr, .int 1, .long s9]))] := hD
  refine lv_aload_n hx hb dX8_ofLock_5 rfl (lv_at hl 0 rfl) ?_
  refine lv_iload_n hx hb dX8_ofLock_6 rfl (lv_at hl 1 rfl) ?_
  have hPr := (show va_P (dC, dI) vwCl [(mo, .inr (10, [.int 0, .ref mr, .int 1, .long s9])), (mr, .inr (9, [.ref ll, .ref lt, .ref lp, .int (-1), .int 0, .int 0, .int 0, .int 0, .int 0, .int 0, .int (-1), .int 0, .int 0, .int 0])), (ll, .inr (1, [.int 0, .ref ed, .int 0])), (lt, .inr (1, [.int 0, .ref ed, .int 0])), (lp, .inr (1, [.int 0, .ref ed, .int 0]))] H1 from (zo_cons ((hP) 0 _ rfl) (zo_cons (((zo_R hR0 hS hAr)) 0 _ rfl) (zo_cons (((zo_R hR0 hS hAr)) 1 _ rfl) (zo_cons (((zo_R hR0 hS hAr)) 2 _ rfl) (zo_cons (((zo_R hR0 hS hAr)) 3 _ rfl) (zo_nil : va_P (dC, dI) vwCl [] H1)))))))
  have hPc := hP.sub (ws' := []) [] rfl
  have hDc := hD.sub (ws' := []) [] (by decide) rfl
  have hKc := hK.sub (tys' := []) [] rfl
  have hFc := va_free (wc := []) hD hS hA [] rfl
  refine va_calli (va_runV (As := [.int x0]) (rest := []) ⟨hx, hb, hml, hown, hts⟩ (cz_isLock l dC dI ed H1.size mo mr ll lt lp 0 s9 x0) (cwV 1 hts gX8_ofLock_X8_isLock rfl rfl rfl (by decide +kernel) ⟨Nat.le_of_ble_eq_true rfl, Nat.le_of_ble_eq_true rfl⟩) ⟨zb_blind, va_recv hK hP (ci := 10) (q0 := 0) rfl rfl, fun U hU hW => ⟨rfl, zb_mk hU hW hPr hPc hKc hDc hN hH hS hFc zx_e⟩⟩ rfl rfl hl.1 rfl (lv_room (Nat.le_of_ble_eq_true rfl)) dX8_ofLock_7 ⟨Nat.le_of_ble_eq_true rfl, Nat.le_of_ble_eq_true rfl⟩) hS (fun q _ h => hFc q h) hFc (fun r3 u t H2 locs ht hvm hw hB hz1 hk1 hS => ?_)
  obtain rfl : r3 = 0 := hw
  have hP := zo_K hP hk1
  refine lv_if_ne (tgt := 19) hx hb dX8_ofLock_10 (by decide) (fun h => absurd h (by decide)) (fun _ => ?_)
  refine lv_aload_n hx hb dX8_ofLock_13 rfl (lv_at hl 0 rfl) ?_
  refine lv_iconst (v := 1) hx hb dX8_ofLock_14 (by decide) ?_
  have hPr := ((zo_R hR0 hS hAr)).sub (ws' := [(mr, .inr (9, [.ref ll, .ref lt, .ref lp, .int (-1), .int 0, .int 0, .int 0, .int 0, .int 0, .int 0, .int (-1), .int 0, .int 0, .int 0])), (ll, .inr (1, [.int 0, .ref ed, .int 0])), (lt, .inr (1, [.int 0, .ref ed, .int 0])), (lp, .inr (1, [.int 0, .ref ed, .int 0]))]) [0, 1, 2, 3] rfl
  have hPc := hP.sub (ws' := [(mo, .inr (10, [.int 0, .ref mr, .int 1, .long s9]))]) [0] rfl
  have hDc := hD.sub (ws' := [(mo, .inr (10, [.int 0, .ref mr, .int 1, .long s9]))]) [0] (by decide) rfl
  have hKc := hK.sub (tys' := []) [] rfl
  have hFc := va_free (wc := [(mo, .inr (10, [.int 0, .ref mr, .int 1, .long s9]))]) hD hS hA [0] rfl
  refine va_calli (va_runV (As := [.int 1]) (rest := []) ⟨hx, hb, hml, hown, hts⟩ (cz_refuse l dC dI ed H2.size mo mr ll lt lp 0 s9 1) (cwV 1 hts gX8_ofLock_X8_refuse rfl rfl rfl (by decide +kernel) ⟨Nat.le_of_ble_eq_true rfl, Nat.le_of_ble_eq_true rfl⟩) ⟨zb_blind, va_recv hK hP (ci := 10) (q0 := 0) rfl rfl, fun U hU hW => ⟨rfl, zb_mk hU hW hPr hPc hKc hDc hN hH hS hFc (zx_cons (zx_r (hAr _ (List.mem_of_getElem? (i := 0) rfl)) hDc) (zx_cons (zx_r (hAr _ (List.mem_of_getElem? (i := 1) rfl)) hDc) (zx_cons (zx_r (hAr _ (List.mem_of_getElem? (i := 2) rfl)) hDc) (zx_cons (zx_r (hAr _ (List.mem_of_getElem? (i := 3) rfl)) hDc) zx_nil))))⟩⟩ rfl rfl hl.1 rfl (lv_room (Nat.le_of_ble_eq_true rfl)) dX8_ofLock_15 ⟨Nat.le_of_ble_eq_true rfl, Nat.le_of_ble_eq_true rfl⟩) hS (fun q _ h => hFc q h) hFc (fun r5 u t H4 locs ht hvm hw hB hz1 hk1 hS => ?_)
  obtain rfl : r5 = 0 := hw
  obtain ⟨hP1, hD1, hK1⟩ := hB
  rw [ht] at hP1
  obtain ⟨hP, hD⟩ := va_join (wr := []) (w1 := [(mo, .inr (10, [.int 1, .ref mr, .int 1, .long s9]))]) hP hD [0] [] rfl rfl (by decide) (by decide) hk1 hFc hP1 hD1
  have hP : va_P (dC, dI) vwCl [(mo, .inr (10, [.int 1, .ref mr, .int 1, .long s9]))] H4 := hP
  have hD : va_D A [(mo, .inr (10, [.int 1, .ref mr, .int 1, .long s9]))] := hD
  refine W.widen (k := 0) (n := 0) (Nat.le_of_ble_eq_true rfl) (Nat.le_of_ble_eq_true rfl) ?_
  have hP9 := hP.sub (ws' := [(mo, .inr (10, [.int 1, .ref mr, .int 1, .long s9]))]) [0] rfl
  have hD9 := hD.sub (ws' := [(mo, .inr (10, [.int 1, .ref mr, .int 1, .long s9]))]) [0] (by decide) rfl
  have hK9 := hK.sub (tys' := []) [] rfl
  exact W.iret hx hb hr (fun t ht hW => ⟨⟨0, (), rfl, rfl, ⟨by rw [ht]; exact hP9, hD9, va_K.moved hW.alike hK9⟩⟩, hS.F ht⟩) hS.2.2 dX8_ofLock_18

set_option maxRecDepth 20000 in
theorem zi_X8_ofThing_X8 : ∀ w ∈ u_ws RX8 TX8 4, w ∈ wsX8_ofThing := by decide +kernel
set_option maxHeartbeats 4000000 in
set_option maxRecDepth 100000 in
theorem cz_X8_ofThing (l : Launch) (dC : Nat → ClassId) (dI : Nat → Nat → Nat) (ed sz : Nat) (mo : Nat) (mr : Nat) (ll : Nat) (lt : Nat) (lp : Nat) (x9 : Int32) (s9 : Int64) (x0 : Int32) (x1 : Int32) : Met l yX8_ofThing wsX8_ofThing ({ frames := 2, cells := 0, slots := 0, locals := 43 } : Jvm.Room) (va_Pc [.ref mo, .int x0, .int x1] (zB dC dI ed sz [(mr, .inr (9, [.ref ll, .ref lt, .ref lp, .int (-1), .int 0, .int 0, .int 0, .int 0, .int 0, .int 0, .int (-1), .int 0, .int 0, .int 0])), (ll, .inr (1, [.int 0, .ref ed, .int 0])), (lt, .inr (1, [.int 0, .ref ed, .int 0])), (lp, .inr (1, [.int 0, .ref ed, .int 0]))] [(mo, .inr (10, [.int x9, .ref mr, .int 1, .long s9]))] [])) (va_Qi (fun (r : Int32) (_ : Unit) => r = 0) (fun (_ : Unit) (t : State) => va_P (dC, dI) vwCl [(mo, .inr (10, [.int 1, .ref mr, .int 1, .long s9]))] t.heap ∧ va_D (va_A [(mo, .inr (10, [.int x9, .ref mr, .int 1, .long s9]))] sz) [(mo, .inr (10, [.int 1, .ref mr, .int 1, .long s9]))] ∧ va_K (dC, dI) vwCl [] t) (va_A [(mo, .inr (10, [.int x9, .ref mr, .int 1, .long s9]))] sz)) 0 0 (va_A [(mo, .inr (10, [.int x9, .ref mr, .int 1, .long s9]))] sz) := by
  refine Met.ofW (cc := cX8_ofThing) (maxL := 3) (ret := (some .int)) (by decide) rfl ?_
  intro p e s m args below meth c s₁ B hml hv
  obtain ⟨rfl, hsz, hR0, hP, hK, hD0, hN, hH, hX0⟩ := hv
  have hx := B.exec
  have hb := B.bytes
  have hr := B.returns
  have hts := atoms_spec (ws := wsX8_ofThing) B.pre
  have hown : s.vm.findClass RX8 = some m.cls := findClass_of_methodNamed B.named
  have hlocks := B.notSynchronized
  subst hsz
  have hD := hD0.self (sz := s.heap.size)
  have hAr := zx_A hX0 hR0
  generalize hAe : va_A [(mo, .inr (10, [.int x9, .ref mr, .int 1, .long s9]))] s.heap.size = A at hD hAr hH ⊢
  have hA : ∀ q : Nat, s.heap.size ≤ q → A q := fun q h => by rw [← hAe]; exact Or.inr h
  have hS : va_S A s.heap s.heap [] := va_S.rf
  have hl := lv_entry ([.ref mo, .int x0, .int x1]) (n := 3) (Nat.le_of_ble_eq_true rfl)
  rw [lg_entry_eq]
  generalize (lg_sl ([.ref mo, .int x0, .int x1]) ++ List.replicate (3 - (lg_sl ([.ref mo, .int x0, .int x1])).length) Slot.unset).toArray = ls at hl ⊢
  have hl : lv_has ls 3 [(0, .ref mo), (1, .int x0), (2, .int x1)] := hl
  refine lv_aload_n hx hb dX8_ofThing_0 rfl (lv_at hl 0 rfl) ?_
  refine lv_iconst (v := 0) hx hb dX8_ofThing_1 (by decide) ?_
  refine va_put (D := (dC, dI)) (ci := 10) (v := .int 0) (ty := .int) (C := RX8) (T := TX8) (N := 4) hx hb hts zi_X8_ofThing_X8 tyX8 tyX8_ok nmX8 hown hK hP hD hS 0 rfl rfl 0 (by decide) (hts (.fieldLink RX8 20 "LockRoomsModel" "thrown" "I") (by decide +kernel)) (fun _ h9 => h9) rfl (by decide +kernel) rfl rfl (Nat.le_of_ble_eq_true rfl) dX8_ofThing_2 (fun H1 locs hP hD hS => ?_)
  have hP : va_P (dC, dI) vwCl [(mo, .inr (10, [.int 0, .ref mr, .int 1, .long s9]))] H1 := hP
  have hD : va_D A [(mo, .inr (10, [.int 0, .ref mr, .int 1, .long s9]))] := hD
  refine lv_aload_n hx hb dX8_ofThing_5 rfl (lv_at hl 0 rfl) ?_
  refine lv_iload_n hx hb dX8_ofThing_6 rfl (lv_at hl 1 rfl) ?_
  have hPr := (show va_P (dC, dI) vwCl [(mo, .inr (10, [.int 0, .ref mr, .int 1, .long s9])), (mr, .inr (9, [.ref ll, .ref lt, .ref lp, .int (-1), .int 0, .int 0, .int 0, .int 0, .int 0, .int 0, .int (-1), .int 0, .int 0, .int 0])), (ll, .inr (1, [.int 0, .ref ed, .int 0])), (lt, .inr (1, [.int 0, .ref ed, .int 0])), (lp, .inr (1, [.int 0, .ref ed, .int 0]))] H1 from (zo_cons ((hP) 0 _ rfl) (zo_cons (((zo_R hR0 hS hAr)) 0 _ rfl) (zo_cons (((zo_R hR0 hS hAr)) 1 _ rfl) (zo_cons (((zo_R hR0 hS hAr)) 2 _ rfl) (zo_cons (((zo_R hR0 hS hAr)) 3 _ rfl) (zo_nil : va_P (dC, dI) vwCl [] H1)))))))
  have hPc := hP.sub (ws' := []) [] rfl
  have hDc := hD.sub (ws' := []) [] (by decide) rfl
  have hKc := hK.sub (tys' := []) [] rfl
  have hFc := va_free (wc := []) hD hS hA [] rfl
  refine va_calli (va_runV (As := [.int x0]) (rest := []) ⟨hx, hb, hml, hown, hts⟩ (cz_isThing l dC dI ed H1.size mo mr ll lt lp 0 s9 x0) (cwV 1 hts gX8_ofThing_X8_isThing rfl rfl rfl (by decide +kernel) ⟨Nat.le_of_ble_eq_true rfl, Nat.le_of_ble_eq_true rfl⟩) ⟨zb_blind, va_recv hK hP (ci := 10) (q0 := 0) rfl rfl, fun U hU hW => ⟨rfl, zb_mk hU hW hPr hPc hKc hDc hN hH hS hFc zx_e⟩⟩ rfl rfl hl.1 rfl (lv_room (Nat.le_of_ble_eq_true rfl)) dX8_ofThing_7 ⟨Nat.le_of_ble_eq_true rfl, Nat.le_of_ble_eq_true rfl⟩) hS (fun q _ h => hFc q h) hFc (fun r3 u t H2 locs ht hvm hw hB hz1 hk1 hS => ?_)
  obtain rfl : r3 = 0 := hw
  have hP := zo_K hP hk1
  refine lv_if_ne (tgt := 19) hx hb dX8_ofThing_10 (by decide) (fun h => absurd h (by decide)) (fun _ => ?_)
  refine lv_aload_n hx hb dX8_ofThing_13 rfl (lv_at hl 0 rfl) ?_
  refine lv_iconst (v := 1) hx hb dX8_ofThing_14 (by decide) ?_
  have hPr := ((zo_R hR0 hS hAr)).sub (ws' := [(mr, .inr (9, [.ref ll, .ref lt, .ref lp, .int (-1), .int 0, .int 0, .int 0, .int 0, .int 0, .int 0, .int (-1), .int 0, .int 0, .int 0])), (ll, .inr (1, [.int 0, .ref ed, .int 0])), (lt, .inr (1, [.int 0, .ref ed, .int 0])), (lp, .inr (1, [.int 0, .ref ed, .int 0]))]) [0, 1, 2, 3] rfl
  have hPc := hP.sub (ws' := [(mo, .inr (10, [.int 0, .ref mr, .int 1, .long s9]))]) [0] rfl
  have hDc := hD.sub (ws' := [(mo, .inr (10, [.int 0, .ref mr, .int 1, .long s9]))]) [0] (by decide) rfl
  have hKc := hK.sub (tys' := []) [] rfl
  have hFc := va_free (wc := [(mo, .inr (10, [.int 0, .ref mr, .int 1, .long s9]))]) hD hS hA [0] rfl
  refine va_calli (va_runV (As := [.int 1]) (rest := []) ⟨hx, hb, hml, hown, hts⟩ (cz_refuse l dC dI ed H2.size mo mr ll lt lp 0 s9 1) (cwV 1 hts gX8_ofThing_X8_refuse rfl rfl rfl (by decide +kernel) ⟨Nat.le_of_ble_eq_true rfl, Nat.le_of_ble_eq_true rfl⟩) ⟨zb_blind, va_recv hK hP (ci := 10) (q0 := 0) rfl rfl, fun U hU hW => ⟨rfl, zb_mk hU hW hPr hPc hKc hDc hN hH hS hFc (zx_cons (zx_r (hAr _ (List.mem_of_getElem? (i := 0) rfl)) hDc) (zx_cons (zx_r (hAr _ (List.mem_of_getElem? (i := 1) rfl)) hDc) (zx_cons (zx_r (hAr _ (List.mem_of_getElem? (i := 2) rfl)) hDc) (zx_cons (zx_r (hAr _ (List.mem_of_getElem? (i := 3) rfl)) hDc) zx_nil))))⟩⟩ rfl rfl hl.1 rfl (lv_room (Nat.le_of_ble_eq_true rfl)) dX8_ofThing_15 ⟨Nat.le_of_ble_eq_true rfl, Nat.le_of_ble_eq_true rfl⟩) hS (fun q _ h => hFc q h) hFc (fun r5 u t H4 locs ht hvm hw hB hz1 hk1 hS => ?_)
  obtain rfl : r5 = 0 := hw
  obtain ⟨hP1, hD1, hK1⟩ := hB
  rw [ht] at hP1
  obtain ⟨hP, hD⟩ := va_join (wr := []) (w1 := [(mo, .inr (10, [.int 1, .ref mr, .int 1, .long s9]))]) hP hD [0] [] rfl rfl (by decide) (by decide) hk1 hFc hP1 hD1
  have hP : va_P (dC, dI) vwCl [(mo, .inr (10, [.int 1, .ref mr, .int 1, .long s9]))] H4 := hP
  have hD : va_D A [(mo, .inr (10, [.int 1, .ref mr, .int 1, .long s9]))] := hD
  refine W.widen (k := 0) (n := 0) (Nat.le_of_ble_eq_true rfl) (Nat.le_of_ble_eq_true rfl) ?_
  have hP9 := hP.sub (ws' := [(mo, .inr (10, [.int 1, .ref mr, .int 1, .long s9]))]) [0] rfl
  have hD9 := hD.sub (ws' := [(mo, .inr (10, [.int 1, .ref mr, .int 1, .long s9]))]) [0] (by decide) rfl
  have hK9 := hK.sub (tys' := []) [] rfl
  exact W.iret hx hb hr (fun t ht hW => ⟨⟨0, (), rfl, rfl, ⟨by rw [ht]; exact hP9, hD9, va_K.moved hW.alike hK9⟩⟩, hS.F ht⟩) hS.2.2 dX8_ofThing_18

set_option maxRecDepth 20000 in
theorem zi_X8_ofPlayer_X8 : ∀ w ∈ u_ws RX8 TX8 4, w ∈ wsX8_ofPlayer := by decide +kernel
set_option maxRecDepth 20000 in
theorem zi_X8_ofPlayer_X7 : ∀ w ∈ u_ws RX7 TX7 14, w ∈ wsX8_ofPlayer := by decide +kernel
set_option maxHeartbeats 4000000 in
set_option maxRecDepth 100000 in
theorem cz_X8_ofPlayer (l : Launch) (dC : Nat → ClassId) (dI : Nat → Nat → Nat) (ed sz : Nat) (mo : Nat) (mr : Nat) (ll : Nat) (lt : Nat) (lp : Nat) (x9 : Int32) (s9 : Int64) (x0 : Int32) (x1 : Int32) : Met l yX8_ofPlayer wsX8_ofPlayer ({ frames := 1, cells := 0, slots := 0, locals := 22 } : Jvm.Room) (va_Pc [.ref mo, .int x0, .int x1] (zB dC dI ed sz [(mr, .inr (9, [.ref ll, .ref lt, .ref lp, .int (-1), .int 0, .int 0, .int 0, .int 0, .int 0, .int 0, .int (-1), .int 0, .int 0, .int 0])), (ll, .inr (1, [.int 0, .ref ed, .int 0])), (lt, .inr (1, [.int 0, .ref ed, .int 0])), (lp, .inr (1, [.int 0, .ref ed, .int 0]))] [(mo, .inr (10, [.int x9, .ref mr, .int 1, .long s9]))] [])) (va_Qi (fun (r : Int32) (_ : Unit) => r = 0) (fun (_ : Unit) (t : State) => va_P (dC, dI) vwCl [(mo, .inr (10, [.int 1, .ref mr, .int 1, .long s9]))] t.heap ∧ va_D (va_A [(mo, .inr (10, [.int x9, .ref mr, .int 1, .long s9]))] sz) [(mo, .inr (10, [.int 1, .ref mr, .int 1, .long s9]))] ∧ va_K (dC, dI) vwCl [] t) (va_A [(mo, .inr (10, [.int x9, .ref mr, .int 1, .long s9]))] sz)) 0 0 (va_A [(mo, .inr (10, [.int x9, .ref mr, .int 1, .long s9]))] sz) := by
  refine Met.ofW (cc := cX8_ofPlayer) (maxL := 3) (ret := (some .int)) (by decide) rfl ?_
  intro p e s m args below meth c s₁ B hml hv
  obtain ⟨rfl, hsz, hR0, hP, hK, hD0, hN, hH, hX0⟩ := hv
  have hx := B.exec
  have hb := B.bytes
  have hr := B.returns
  have hts := atoms_spec (ws := wsX8_ofPlayer) B.pre
  have hown : s.vm.findClass RX8 = some m.cls := findClass_of_methodNamed B.named
  have hlocks := B.notSynchronized
  subst hsz
  have hD := hD0.self (sz := s.heap.size)
  have hAr := zx_A hX0 hR0
  generalize hAe : va_A [(mo, .inr (10, [.int x9, .ref mr, .int 1, .long s9]))] s.heap.size = A at hD hAr hH ⊢
  have hA : ∀ q : Nat, s.heap.size ≤ q → A q := fun q h => by rw [← hAe]; exact Or.inr h
  have hS : va_S A s.heap s.heap [] := va_S.rf
  have hl := lv_entry ([.ref mo, .int x0, .int x1]) (n := 3) (Nat.le_of_ble_eq_true rfl)
  rw [lg_entry_eq]
  generalize (lg_sl ([.ref mo, .int x0, .int x1]) ++ List.replicate (3 - (lg_sl ([.ref mo, .int x0, .int x1])).length) Slot.unset).toArray = ls at hl ⊢
  have hl : lv_has ls 3 [(0, .ref mo), (1, .int x0), (2, .int x1)] := hl
  refine lv_aload_n hx hb dX8_ofPlayer_0 rfl (lv_at hl 0 rfl) ?_
  refine lv_iconst (v := 0) hx hb dX8_ofPlayer_1 (by decide) ?_
  refine va_put (D := (dC, dI)) (ci := 10) (v := .int 0) (ty := .int) (C := RX8) (T := TX8) (N := 4) hx hb hts zi_X8_ofPlayer_X8 tyX8 tyX8_ok nmX8 hown hK hP hD hS 0 rfl rfl 0 (by decide) (hts (.fieldLink RX8 20 "LockRoomsModel" "thrown" "I") (by decide +kernel)) (fun _ h9 => h9) rfl (by decide +kernel) rfl rfl (Nat.le_of_ble_eq_true rfl) dX8_ofPlayer_2 (fun H1 locs hP hD hS => ?_)
  have hP : va_P (dC, dI) vwCl [(mo, .inr (10, [.int 0, .ref mr, .int 1, .long s9]))] H1 := hP
  have hD : va_D A [(mo, .inr (10, [.int 0, .ref mr, .int 1, .long s9]))] := hD
  refine lv_iload_n hx hb dX8_ofPlayer_5 rfl (lv_at hl 1 rfl) ?_
  refine lv_iconst (v := 0) hx hb dX8_ofPlayer_6 (by decide) ?_
  refine lv_aload_n hx hb dX8_ofPlayer_7 rfl (lv_at hl 0 rfl) ?_
  refine va_get (D := (dC, dI)) (ci := 10) (v := .ref mr) (C := RX8) (T := TX8) (N := 4) hx hb hts zi_X8_ofPlayer_X8 hown hK hP 0 rfl rfl 1 (by decide) (hts (.fieldLink RX8 10 "LockRoomsModel" "room" "LLockRoomsModel$Room;") (by decide +kernel)) (fun _ h9 => h9) rfl dX8_ofPlayer_8 ?_
  refine va_getN (D := (dC, dI)) (ci := 9) (v := .ref lp) (C := RX7) (T := TX7) (N := 14) hx hb hts zi_X8_ofPlayer_X7 hown hK (zo_R hR0 hS hAr) 0 rfl rfl 2 (by decide) (va_Nw.use rfl (hN.1 ("LockRoomsModel", 59, "LockRoomsModel$Room", "players", "Ljava/util/ArrayList;", "LockRoomsModel") (List.mem_of_getElem? (i := 3) rfl))) (fun _ h9 => h9) rfl dX8_ofPlayer_11 ?_
  have hPr := ((zo_R hR0 hS hAr)).sub (ws' := [(lp, .inr (1, [.int 0, .ref ed, .int 0]))]) [3] rfl
  have hPc := hP.sub (ws' := []) [] rfl
  have hDc := hD.sub (ws' := []) [] (by decide) rfl
  have hKc := hK.sub (tys' := []) [] rfl
  have hFc := va_free (wc := []) hD hS hA [] rfl
  refine va_calli (va_runV (As := []) (rest := [.int 0, .int x0]) ⟨hx, hb, hml, hown, hts⟩ (cz_size0 l dC dI ed H1.size lp) (cwV 0 hts gX8_ofPlayer_Jx4a65c_size_8abf5 rfl rfl rfl (by decide +kernel) ⟨Nat.le_of_ble_eq_true rfl, Nat.le_of_ble_eq_true rfl⟩) ⟨zb_blind, va_recv hK (zo_R hR0 hS hAr) (ci := 1) (q0 := 3) rfl rfl, fun U hU hW => ⟨rfl, zb_mk hU hW hPr hPc hKc hDc hN hH hS hFc zx_e⟩⟩ rfl rfl hl.1 rfl (lv_room (Nat.le_of_ble_eq_true rfl)) dX8_ofPlayer_14 ⟨Nat.le_of_ble_eq_true rfl, Nat.le_of_ble_eq_true rfl⟩) hS (fun q _ h => hFc q h) hFc (fun r3 u t H2 locs ht hvm hw hB hz1 hk1 hS => ?_)
  obtain rfl : r3 = 0 := hw
  have hP := zo_K hP hk1
  refine lv_iconst (v := 1) hx hb dX8_ofPlayer_17 (by decide) ?_
  refine lv_isub hx hb dX8_ofPlayer_18 ?_
  refine zo_i (v := (-1)) (by decide) ?_
  have hPr := (zo_nil : va_P (dC, dI) vwCl [] H2)
  have hPc := hP.sub (ws' := []) [] rfl
  have hDc := hD.sub (ws' := []) [] (by decide) rfl
  have hKc := hK.sub (tys' := []) [] rfl
  have hFc := va_free (wc := []) hD hS hA [] rfl
  refine va_calli (va_runS (As := [.int x0, .int 0, .int (-1)]) (rest := []) ⟨hx, hb, hml, hown, hts⟩ (cz_X8_is l dC dI ed H2.size x0 0 (-1)) (va_cwS 3 hts gX8_ofPlayer_X8_is rfl rfl rfl (by decide +kernel) ⟨Nat.le_of_ble_eq_true rfl, Nat.le_of_ble_eq_true rfl⟩) ⟨zb_blind, fun U hU hW => ⟨rfl, zb_mk hU hW hPr hPc hKc hDc hN hH hS hFc zx_e⟩⟩ rfl rfl hl.1 rfl (lv_room (Nat.le_of_ble_eq_true rfl)) dX8_ofPlayer_19 ⟨Nat.le_of_ble_eq_true rfl, Nat.le_of_ble_eq_true rfl⟩) hS (fun q _ h => hFc q h) hFc (fun r5 u t H4 locs ht hvm hw hB hz1 hk1 hS => ?_)
  have hP := zo_K hP hk1
  by_cases c6 : (¬ x0 < 0 ∧ ¬ (-1) < x0)
  · exact absurd c6 (zi_m1 _)
  · obtain rfl : r5 = 0 := hw.trans (if_neg c6)
    refine lv_if_ne (tgt := 31) hx hb dX8_ofPlayer_22 (by decide) (fun h => absurd h (by decide)) (fun _ => ?_)
    refine lv_aload_n hx hb dX8_ofPlayer_25 rfl (lv_at hl 0 rfl) ?_
    refine lv_iconst (v := 1) hx hb dX8_ofPlayer_26 (by decide) ?_
    have hPr := ((zo_R hR0 hS hAr)).sub (ws' := [(mr, .inr (9, [.ref ll, .ref lt, .ref lp, .int (-1), .int 0, .int 0, .int 0, .int 0, .int 0, .int 0, .int (-1), .int 0, .int 0, .int 0])), (ll, .inr (1, [.int 0, .ref ed, .int 0])), (lt, .inr (1, [.int 0, .ref ed, .int 0])), (lp, .inr (1, [.int 0, .ref ed, .int 0]))]) [0, 1, 2, 3] rfl
    have hPc := hP.sub (ws' := [(mo, .inr (10, [.int 0, .ref mr, .int 1, .long s9]))]) [0] rfl
    have hDc := hD.sub (ws' := [(mo, .inr (10, [.int 0, .ref mr, .int 1, .long s9]))]) [0] (by decide) rfl
    have hKc := hK.sub (tys' := []) [] rfl
    have hFc := va_free (wc := [(mo, .inr (10, [.int 0, .ref mr, .int 1, .long s9]))]) hD hS hA [0] rfl
    refine va_calli (va_runV (As := [.int 1]) (rest := []) ⟨hx, hb, hml, hown, hts⟩ (cz_refuse l dC dI ed H4.size mo mr ll lt lp 0 s9 1) (cwV 1 hts gX8_ofPlayer_X8_refuse rfl rfl rfl (by decide +kernel) ⟨Nat.le_of_ble_eq_true rfl, Nat.le_of_ble_eq_true rfl⟩) ⟨zb_blind, va_recv hK hP (ci := 10) (q0 := 0) rfl rfl, fun U hU hW => ⟨rfl, zb_mk hU hW hPr hPc hKc hDc hN hH hS hFc (zx_cons (zx_r (hAr _ (List.mem_of_getElem? (i := 0) rfl)) hDc) (zx_cons (zx_r (hAr _ (List.mem_of_getElem? (i := 1) rfl)) hDc) (zx_cons (zx_r (hAr _ (List.mem_of_getElem? (i := 2) rfl)) hDc) (zx_cons (zx_r (hAr _ (List.mem_of_getElem? (i := 3) rfl)) hDc) zx_nil))))⟩⟩ rfl rfl hl.1 rfl (lv_room (Nat.le_of_ble_eq_true rfl)) dX8_ofPlayer_27 ⟨Nat.le_of_ble_eq_true rfl, Nat.le_of_ble_eq_true rfl⟩) hS (fun q _ h => hFc q h) hFc (fun r8 u t H7 locs ht hvm hw hB hz1 hk1 hS => ?_)
    obtain rfl : r8 = 0 := hw
    obtain ⟨hP1, hD1, hK1⟩ := hB
    rw [ht] at hP1
    obtain ⟨hP, hD⟩ := va_join (wr := []) (w1 := [(mo, .inr (10, [.int 1, .ref mr, .int 1, .long s9]))]) hP hD [0] [] rfl rfl (by decide) (by decide) hk1 hFc hP1 hD1
    have hP : va_P (dC, dI) vwCl [(mo, .inr (10, [.int 1, .ref mr, .int 1, .long s9]))] H7 := hP
    have hD : va_D A [(mo, .inr (10, [.int 1, .ref mr, .int 1, .long s9]))] := hD
    refine W.widen (k := 0) (n := 0) (Nat.le_of_ble_eq_true rfl) (Nat.le_of_ble_eq_true rfl) ?_
    have hP9 := hP.sub (ws' := [(mo, .inr (10, [.int 1, .ref mr, .int 1, .long s9]))]) [0] rfl
    have hD9 := hD.sub (ws' := [(mo, .inr (10, [.int 1, .ref mr, .int 1, .long s9]))]) [0] (by decide) rfl
    have hK9 := hK.sub (tys' := []) [] rfl
    exact W.iret hx hb hr (fun t ht hW => ⟨⟨0, (), rfl, rfl, ⟨by rw [ht]; exact hP9, hD9, va_K.moved hW.alike hK9⟩⟩, hS.F ht⟩) hS.2.2 dX8_ofPlayer_30

set_option maxRecDepth 20000 in
theorem zi_X8_meanScore_X8 : ∀ w ∈ u_ws RX8 TX8 4, w ∈ wsX8_meanScore := by decide +kernel
set_option maxRecDepth 20000 in
theorem zi_X8_meanScore_X7 : ∀ w ∈ u_ws RX7 TX7 14, w ∈ wsX8_meanScore := by decide +kernel
set_option maxHeartbeats 4000000 in
set_option maxRecDepth 100000 in
theorem cz_X8_meanScore (l : Launch) (dC : Nat → ClassId) (dI : Nat → Nat → Nat) (ed sz : Nat) (mo : Nat) (mr : Nat) (ll : Nat) (lt : Nat) (lp : Nat) (x9 : Int32) (s9 : Int64) : Met l yX8_meanScore wsX8_meanScore ({ frames := 0, cells := 0, slots := 0, locals := 0 } : Jvm.Room) (va_Pc [.ref mo] (zB dC dI ed sz [(mr, .inr (9, [.ref ll, .ref lt, .ref lp, .int (-1), .int 0, .int 0, .int 0, .int 0, .int 0, .int 0, .int (-1), .int 0, .int 0, .int 0])), (ll, .inr (1, [.int 0, .ref ed, .int 0])), (lt, .inr (1, [.int 0, .ref ed, .int 0])), (lp, .inr (1, [.int 0, .ref ed, .int 0]))] [(mo, .inr (10, [.int x9, .ref mr, .int 1, .long s9]))] [])) (va_Qd (fun (r : UInt64) (_ : Unit) => r = 0) (fun (_ : Unit) (t : State) => va_P (dC, dI) vwCl [(mo, .inr (10, [.int 0, .ref mr, .int 1, .long s9]))] t.heap ∧ va_D (va_A [(mo, .inr (10, [.int x9, .ref mr, .int 1, .long s9]))] sz) [(mo, .inr (10, [.int 0, .ref mr, .int 1, .long s9]))] ∧ va_K (dC, dI) vwCl [] t) (va_A [(mo, .inr (10, [.int x9, .ref mr, .int 1, .long s9]))] sz)) 0 0 (va_A [(mo, .inr (10, [.int x9, .ref mr, .int 1, .long s9]))] sz) := by
  refine Met.ofW (cc := cX8_meanScore) (maxL := 1) (ret := (some .double)) (by decide) rfl ?_
  intro p e s m args below meth c s₁ B hml hv
  obtain ⟨rfl, hsz, hR0, hP, hK, hD0, hN, hH, hX0⟩ := hv
  have hx := B.exec
  have hb := B.bytes
  have hr := B.returns
  have hts := atoms_spec (ws := wsX8_meanScore) B.pre
  have hown : s.vm.findClass RX8 = some m.cls := findClass_of_methodNamed B.named
  have hlocks := B.notSynchronized
  subst hsz
  have hD := hD0.self (sz := s.heap.size)
  have hAr := zx_A hX0 hR0
  generalize hAe : va_A [(mo, .inr (10, [.int x9, .ref mr, .int 1, .long s9]))] s.heap.size = A at hD hAr hH ⊢
  have hA : ∀ q : Nat, s.heap.size ≤ q → A q := fun q h => by rw [← hAe]; exact Or.inr h
  have hS : va_S A s.heap s.heap [] := va_S.rf
  have hl := lv_entry ([.ref mo]) (n := 1) (Nat.le_of_ble_eq_true rfl)
  rw [lg_entry_eq]
  generalize (lg_sl ([.ref mo]) ++ List.replicate (1 - (lg_sl ([.ref mo])).length) Slot.unset).toArray = ls at hl ⊢
  have hl : lv_has ls 1 [(0, .ref mo)] := hl
  refine lv_aload_n hx hb dX8_meanScore_0 rfl (lv_at hl 0 rfl) ?_
  refine lv_iconst (v := 0) hx hb dX8_meanScore_1 (by decide) ?_
  refine va_put (D := (dC, dI)) (ci := 10) (v := .int 0) (ty := .int) (C := RX8) (T := TX8) (N := 4) hx hb hts zi_X8_meanScore_X8 tyX8 tyX8_ok nmX8 hown hK hP hD hS 0 rfl rfl 0 (by decide) (hts (.fieldLink RX8 20 "LockRoomsModel" "thrown" "I") (by decide +kernel)) (fun _ h9 => h9) rfl (by decide +kernel) rfl rfl (Nat.le_of_ble_eq_true rfl) dX8_meanScore_2 (fun H1 locs hP hD hS => ?_)
  have hP : va_P (dC, dI) vwCl [(mo, .inr (10, [.int 0, .ref mr, .int 1, .long s9]))] H1 := hP
  have hD : va_D A [(mo, .inr (10, [.int 0, .ref mr, .int 1, .long s9]))] := hD
  refine lv_aload_n hx hb dX8_meanScore_5 rfl (lv_at hl 0 rfl) ?_
  refine va_get (D := (dC, dI)) (ci := 10) (v := .ref mr) (C := RX8) (T := TX8) (N := 4) hx hb hts zi_X8_meanScore_X8 hown hK hP 0 rfl rfl 1 (by decide) (hts (.fieldLink RX8 10 "LockRoomsModel" "room" "LLockRoomsModel$Room;") (by decide +kernel)) (fun _ h9 => h9) rfl dX8_meanScore_6 ?_
  refine va_getN (D := (dC, dI)) (ci := 9) (v := .int 0) (C := RX7) (T := TX7) (N := 14) hx hb hts zi_X8_meanScore_X7 hown hK (zo_R hR0 hS hAr) 0 rfl rfl 8 (by decide) (va_Nw.use rfl (hN.1 ("LockRoomsModel", 122, "LockRoomsModel$Room", "solved", "I", "LockRoomsModel") (List.mem_of_getElem? (i := 9) rfl))) (fun _ h9 => h9) rfl dX8_meanScore_9 ?_
  refine lv_if_ne (tgt := 19) hx hb dX8_meanScore_12 (by decide) (fun h => absurd h (by decide)) (fun _ => ?_)
  refine lv_dconst0 hx hb dX8_meanScore_15 ?_
  refine lv_goto (tgt := 36) hx hb dX8_meanScore_16 (by decide) ?_
  refine W.widen (k := 0) (n := 0) (Nat.le_of_ble_eq_true rfl) (Nat.le_of_ble_eq_true rfl) ?_
  have hP9 := hP.sub (ws' := [(mo, .inr (10, [.int 0, .ref mr, .int 1, .long s9]))]) [0] rfl
  have hD9 := hD.sub (ws' := [(mo, .inr (10, [.int 0, .ref mr, .int 1, .long s9]))]) [0] (by decide) rfl
  have hK9 := hK.sub (tys' := []) [] rfl
  exact W.dret hx hb hr (fun t ht hW => ⟨⟨0, (), rfl, rfl, ⟨by rw [ht]; exact hP9, hD9, va_K.moved hW.alike hK9⟩⟩, hS.F ht⟩) hS.2.2 dX8_meanScore_36

set_option maxRecDepth 20000 in
theorem zi_X8_power_X8 : ∀ w ∈ u_ws RX8 TX8 4, w ∈ wsX8_power := by decide +kernel
set_option maxRecDepth 20000 in
theorem zi_X8_power_X7 : ∀ w ∈ u_ws RX7 TX7 14, w ∈ wsX8_power := by decide +kernel
set_option maxHeartbeats 4000000 in
set_option maxRecDepth 100000 in
theorem cz_X8_power_0 (l : Launch) (dC : Nat → ClassId) (dI : Nat → Nat → Nat) (ed sz : Nat) (mo : Nat) (mr : Nat) (ll : Nat) (lt : Nat) (lp : Nat) (x9 : Int32) (s9 : Int64) : Met l yX8_power wsX8_power ({ frames := 1, cells := 0, slots := 0, locals := 20 } : Jvm.Room) (va_Pc [.ref mo, .int 0] (zB dC dI ed sz [(mr, .inr (9, [.ref ll, .ref lt, .ref lp, .int (-1), .int 0, .int 0, .int 0, .int 0, .int 0, .int 0, .int (-1), .int 0, .int 0, .int 0])), (ll, .inr (1, [.int 0, .ref ed, .int 0])), (lt, .inr (1, [.int 0, .ref ed, .int 0])), (lp, .inr (1, [.int 0, .ref ed, .int 0]))] [(mo, .inr (10, [.int x9, .ref mr, .int 1, .long s9]))] [])) (va_Qi (fun (r : Int32) (_ : Unit) => r = 0) (fun (_ : Unit) (t : State) => va_P (dC, dI) vwCl [] t.heap ∧ va_D (va_A [(mo, .inr (10, [.int x9, .ref mr, .int 1, .long s9]))] sz) [] ∧ va_K (dC, dI) vwCl [] t) (va_A [(mo, .inr (10, [.int x9, .ref mr, .int 1, .long s9]))] sz)) 0 0 (va_A [(mo, .inr (10, [.int x9, .ref mr, .int 1, .long s9]))] sz) := by
  refine Met.ofW (cc := cX8_power) (maxL := 6) (ret := (some .int)) (by decide) rfl ?_
  intro p e s m args below meth c s₁ B hml hv
  obtain ⟨rfl, hsz, hR0, hP, hK, hD0, hN, hH, hX0⟩ := hv
  have hx := B.exec
  have hb := B.bytes
  have hr := B.returns
  have hts := atoms_spec (ws := wsX8_power) B.pre
  have hown : s.vm.findClass RX8 = some m.cls := findClass_of_methodNamed B.named
  have hlocks := B.notSynchronized
  subst hsz
  have hD := hD0.self (sz := s.heap.size)
  have hAr := zx_A hX0 hR0
  generalize hAe : va_A [(mo, .inr (10, [.int x9, .ref mr, .int 1, .long s9]))] s.heap.size = A at hD hAr hH ⊢
  have hA : ∀ q : Nat, s.heap.size ≤ q → A q := fun q h => by rw [← hAe]; exact Or.inr h
  have hS : va_S A s.heap s.heap [] := va_S.rf
  have hl := lv_entry ([.ref mo, .int 0]) (n := 6) (Nat.le_of_ble_eq_true rfl)
  rw [lg_entry_eq]
  generalize (lg_sl ([.ref mo, .int 0]) ++ List.replicate (6 - (lg_sl ([.ref mo, .int 0])).length) Slot.unset).toArray = ls at hl ⊢
  have hl : lv_has ls 6 [(0, .ref mo), (1, .int 0)] := hl
  refine lv_aload_n hx hb dX8_power_0 rfl (lv_at hl 0 rfl) ?_
  refine lv_iconst (v := 0) hx hb dX8_power_1 (by decide) ?_
  refine va_put (D := (dC, dI)) (ci := 10) (v := .int 0) (ty := .int) (C := RX8) (T := TX8) (N := 4) hx hb hts zi_X8_power_X8 tyX8 tyX8_ok nmX8 hown hK hP hD hS 0 rfl rfl 0 (by decide) (hts (.fieldLink RX8 20 "LockRoomsModel" "thrown" "I") (by decide +kernel)) (fun _ h9 => h9) rfl (by decide +kernel) rfl rfl (Nat.le_of_ble_eq_true rfl) dX8_power_2 (fun H1 locs hP hD hS => ?_)
  have hP : va_P (dC, dI) vwCl [(mo, .inr (10, [.int 0, .ref mr, .int 1, .long s9]))] H1 := hP
  have hD : va_D A [(mo, .inr (10, [.int 0, .ref mr, .int 1, .long s9]))] := hD
  refine lv_aload_n hx hb dX8_power_5 rfl (lv_at hl 0 rfl) ?_
  refine va_get (D := (dC, dI)) (ci := 10) (v := .int 1) (C := RX8) (T := TX8) (N := 4) hx hb hts zi_X8_power_X8 hown hK hP 0 rfl rfl 2 (by decide) (hts (.fieldLink RX8 16 "LockRoomsModel" "hasPower" "Z") (by decide +kernel)) (fun _ h9 => h9) rfl dX8_power_6 ?_
  refine lv_if_eq (tgt := 20) hx hb dX8_power_9 (by decide) (fun h => absurd h (by decide)) (fun _ => ?_)
  refine lv_iload_n hx hb dX8_power_12 rfl (lv_at hl 1 rfl) ?_
  refine lv_if_ne (tgt := 20) hx hb dX8_power_13 (by decide) (fun h => absurd h (by decide)) (fun _ => ?_)
  refine lv_iconst (v := 1) hx hb dX8_power_16 (by decide) ?_
  refine lv_goto (tgt := 21) hx hb dX8_power_17 (by decide) ?_
  refine lv_istore_n (lv' := [(2, .int 1), (0, .ref mo), (1, .int 0)]) hx hb dX8_power_21 rfl hl (by decide) rfl (fun ls hl => ?_)
  refine lv_aload_n hx hb dX8_power_22 rfl (lv_at hl 1 rfl) ?_
  refine lv_iload_n hx hb dX8_power_23 rfl (lv_at hl 2 rfl) ?_
  refine va_put (D := (dC, dI)) (ci := 10) (v := .int 0) (ty := .boolean) (C := RX8) (T := TX8) (N := 4) hx hb hts zi_X8_power_X8 tyX8 tyX8_ok nmX8 hown hK hP hD hS 0 rfl rfl 2 (by decide) (hts (.fieldLink RX8 16 "LockRoomsModel" "hasPower" "Z") (by decide +kernel)) (fun _ h9 => h9) rfl (by decide +kernel) (by decide) (by decide) (Nat.le_of_ble_eq_true rfl) dX8_power_24 (fun H2 locs hP hD hS => ?_)
  have hP : va_P (dC, dI) vwCl [(mo, .inr (10, [.int 0, .ref mr, .int 0, .long s9]))] H2 := hP
  have hD : va_D A [(mo, .inr (10, [.int 0, .ref mr, .int 0, .long s9]))] := hD
  refine lv_iconst (v := 0) hx hb dX8_power_27 (by decide) ?_
  refine lv_istore_n (lv' := [(3, .int 0), (2, .int 1), (0, .ref mo), (1, .int 0)]) hx hb dX8_power_28 rfl hl (by decide) rfl (fun ls hl => ?_)
  refine lv_iconst (v := 0) hx hb dX8_power_29 (by decide) ?_
  refine lv_istore (lv' := [(4, .int 0), (3, .int 0), (2, .int 1), (0, .ref mo), (1, .int 0)]) hx hb dX8_power_30 hl (by decide) rfl (fun ls hl => ?_)
  refine lv_iload_n hx hb dX8_power_32 rfl (lv_at hl 2 rfl) ?_
  refine lv_if_eq (tgt := 104) hx hb dX8_power_33 (by decide) (fun h => absurd h (by decide)) (fun _ => ?_)
  refine lv_iload hx hb dX8_power_36 (lv_at hl 0 rfl) ?_
  refine lv_aload_n hx hb dX8_power_38 rfl (lv_at hl 3 rfl) ?_
  refine va_get (D := (dC, dI)) (ci := 10) (v := .ref mr) (C := RX8) (T := TX8) (N := 4) hx hb hts zi_X8_power_X8 hown hK hP 0 rfl rfl 1 (by decide) (hts (.fieldLink RX8 10 "LockRoomsModel" "room" "LLockRoomsModel$Room;") (by decide +kernel)) (fun _ h9 => h9) rfl dX8_power_39 ?_
  refine va_getN (D := (dC, dI)) (ci := 9) (v := .ref ll) (C := RX7) (T := TX7) (N := 14) hx hb hts zi_X8_power_X7 hown hK (zo_R hR0 hS hAr) 0 rfl rfl 0 (by decide) (va_Nw.use rfl (hN.1 ("LockRoomsModel", 24, "LockRoomsModel$Room", "locks", "Ljava/util/ArrayList;", "LockRoomsModel") (List.mem_of_getElem? (i := 1) rfl))) (fun _ h9 => h9) rfl dX8_power_42 ?_
  have hPr := ((zo_R hR0 hS hAr)).sub (ws' := [(ll, .inr (1, [.int 0, .ref ed, .int 0]))]) [1] rfl
  have hPc := hP.sub (ws' := []) [] rfl
  have hDc := hD.sub (ws' := []) [] (by decide) rfl
  have hKc := hK.sub (tys' := []) [] rfl
  have hFc := va_free (wc := []) hD hS hA [] rfl
  refine va_calli (va_runV (As := []) (rest := [.int 0]) ⟨hx, hb, hml, hown, hts⟩ (cz_size0 l dC dI ed H2.size ll) (cwV 0 hts gX8_power_Jx4a65c_size_8abf5 rfl rfl rfl (by decide +kernel) ⟨Nat.le_of_ble_eq_true rfl, Nat.le_of_ble_eq_true rfl⟩) ⟨zb_blind, va_recv hK (zo_R hR0 hS hAr) (ci := 1) (q0 := 1) rfl rfl, fun U hU hW => ⟨rfl, zb_mk hU hW hPr hPc hKc hDc hN hH hS hFc zx_e⟩⟩ rfl rfl hl.1 rfl (lv_room (Nat.le_of_ble_eq_true rfl)) dX8_power_45 ⟨Nat.le_of_ble_eq_true rfl, Nat.le_of_ble_eq_true rfl⟩) hS (fun q _ h => hFc q h) hFc (fun r4 u t H3 locs ht hvm hw hB hz1 hk1 hS => ?_)
  obtain rfl : r4 = 0 := hw
  have hP := zo_K hP hk1
  refine lv_icmp_ge (tgt := 104) hx hb dX8_power_48 (by decide) (fun _ => ?_) (fun h => absurd h (by decide))
  refine lv_aload_n hx hb dX8_power_104 rfl (lv_at hl 3 rfl) ?_
  refine va_get (D := (dC, dI)) (ci := 10) (v := .ref mr) (C := RX8) (T := TX8) (N := 4) hx hb hts zi_X8_power_X8 hown hK hP 0 rfl rfl 1 (by decide) (hts (.fieldLink RX8 10 "LockRoomsModel" "room" "LLockRoomsModel$Room;") (by decide +kernel)) (fun _ h9 => h9) rfl dX8_power_105 ?_
  refine va_getN (D := (dC, dI)) (ci := 9) (v := .int 0) (C := RX7) (T := TX7) (N := 14) hx hb hts zi_X8_power_X7 hown hK (zo_R hR0 hS hAr) 0 rfl rfl 5 (by decide) (va_Nw.use rfl (hN.1 ("LockRoomsModel", 45, "LockRoomsModel$Room", "isRunning", "Z", "LockRoomsModel") (List.mem_of_getElem? (i := 6) rfl))) (fun _ h9 => h9) rfl dX8_power_108 ?_
  refine lv_if_eq (tgt := 132) hx hb dX8_power_111 (by decide) (fun _ => ?_) (fun h => absurd h (by decide))
  refine lv_iload_n hx hb dX8_power_132 rfl (lv_at hl 1 rfl) ?_
  refine W.widen (k := 0) (n := 0) (Nat.le_of_ble_eq_true rfl) (Nat.le_of_ble_eq_true rfl) ?_
  have hP9 := hP.sub (ws' := []) [] rfl
  have hD9 := hD.sub (ws' := []) [] (by decide) rfl
  have hK9 := hK.sub (tys' := []) [] rfl
  exact W.iret hx hb hr (fun t ht hW => ⟨⟨0, (), rfl, rfl, ⟨by rw [ht]; exact hP9, hD9, va_K.moved hW.alike hK9⟩⟩, hS.F ht⟩) hS.2.2 dX8_power_133

set_option maxHeartbeats 4000000 in
set_option maxRecDepth 100000 in
theorem cz_X8_power_1 (l : Launch) (dC : Nat → ClassId) (dI : Nat → Nat → Nat) (ed sz : Nat) (mo : Nat) (mr : Nat) (ll : Nat) (lt : Nat) (lp : Nat) (x9 : Int32) (s9 : Int64) : Met l yX8_power wsX8_power ({ frames := 0, cells := 0, slots := 0, locals := 0 } : Jvm.Room) (va_Pc [.ref mo, .int 1] (zB dC dI ed sz [(mr, .inr (9, [.ref ll, .ref lt, .ref lp, .int (-1), .int 0, .int 0, .int 0, .int 0, .int 0, .int 0, .int (-1), .int 0, .int 0, .int 0])), (ll, .inr (1, [.int 0, .ref ed, .int 0])), (lt, .inr (1, [.int 0, .ref ed, .int 0])), (lp, .inr (1, [.int 0, .ref ed, .int 0]))] [(mo, .inr (10, [.int x9, .ref mr, .int 1, .long s9]))] [])) (va_Qi (fun (r : Int32) (_ : Unit) => r = 0) (fun (_ : Unit) (t : State) => va_P (dC, dI) vwCl [] t.heap ∧ va_D (va_A [(mo, .inr (10, [.int x9, .ref mr, .int 1, .long s9]))] sz) [] ∧ va_K (dC, dI) vwCl [] t) (va_A [(mo, .inr (10, [.int x9, .ref mr, .int 1, .long s9]))] sz)) 0 0 (va_A [(mo, .inr (10, [.int x9, .ref mr, .int 1, .long s9]))] sz) := by
  refine Met.ofW (cc := cX8_power) (maxL := 6) (ret := (some .int)) (by decide) rfl ?_
  intro p e s m args below meth c s₁ B hml hv
  obtain ⟨rfl, hsz, hR0, hP, hK, hD0, hN, hH, hX0⟩ := hv
  have hx := B.exec
  have hb := B.bytes
  have hr := B.returns
  have hts := atoms_spec (ws := wsX8_power) B.pre
  have hown : s.vm.findClass RX8 = some m.cls := findClass_of_methodNamed B.named
  have hlocks := B.notSynchronized
  subst hsz
  have hD := hD0.self (sz := s.heap.size)
  have hAr := zx_A hX0 hR0
  generalize hAe : va_A [(mo, .inr (10, [.int x9, .ref mr, .int 1, .long s9]))] s.heap.size = A at hD hAr hH ⊢
  have hA : ∀ q : Nat, s.heap.size ≤ q → A q := fun q h => by rw [← hAe]; exact Or.inr h
  have hS : va_S A s.heap s.heap [] := va_S.rf
  have hl := lv_entry ([.ref mo, .int 1]) (n := 6) (Nat.le_of_ble_eq_true rfl)
  rw [lg_entry_eq]
  generalize (lg_sl ([.ref mo, .int 1]) ++ List.replicate (6 - (lg_sl ([.ref mo, .int 1])).length) Slot.unset).toArray = ls at hl ⊢
  have hl : lv_has ls 6 [(0, .ref mo), (1, .int 1)] := hl
  refine lv_aload_n hx hb dX8_power_0 rfl (lv_at hl 0 rfl) ?_
  refine lv_iconst (v := 0) hx hb dX8_power_1 (by decide) ?_
  refine va_put (D := (dC, dI)) (ci := 10) (v := .int 0) (ty := .int) (C := RX8) (T := TX8) (N := 4) hx hb hts zi_X8_power_X8 tyX8 tyX8_ok nmX8 hown hK hP hD hS 0 rfl rfl 0 (by decide) (hts (.fieldLink RX8 20 "LockRoomsModel" "thrown" "I") (by decide +kernel)) (fun _ h9 => h9) rfl (by decide +kernel) rfl rfl (Nat.le_of_ble_eq_true rfl) dX8_power_2 (fun H1 locs hP hD hS => ?_)
  have hP : va_P (dC, dI) vwCl [(mo, .inr (10, [.int 0, .ref mr, .int 1, .long s9]))] H1 := hP
  have hD : va_D A [(mo, .inr (10, [.int 0, .ref mr, .int 1, .long s9]))] := hD
  refine lv_aload_n hx hb dX8_power_5 rfl (lv_at hl 0 rfl) ?_
  refine va_get (D := (dC, dI)) (ci := 10) (v := .int 1) (C := RX8) (T := TX8) (N := 4) hx hb hts zi_X8_power_X8 hown hK hP 0 rfl rfl 2 (by decide) (hts (.fieldLink RX8 16 "LockRoomsModel" "hasPower" "Z") (by decide +kernel)) (fun _ h9 => h9) rfl dX8_power_6 ?_
  refine lv_if_eq (tgt := 20) hx hb dX8_power_9 (by decide) (fun h => absurd h (by decide)) (fun _ => ?_)
  refine lv_iload_n hx hb dX8_power_12 rfl (lv_at hl 1 rfl) ?_
  refine lv_if_ne (tgt := 20) hx hb dX8_power_13 (by decide) (fun _ => ?_) (fun h => absurd h (by decide))
  refine lv_iconst (v := 0) hx hb dX8_power_20 (by decide) ?_
  refine lv_istore_n (lv' := [(2, .int 0), (0, .ref mo), (1, .int 1)]) hx hb dX8_power_21 rfl hl (by decide) rfl (fun ls hl => ?_)
  refine lv_aload_n hx hb dX8_power_22 rfl (lv_at hl 1 rfl) ?_
  refine lv_iload_n hx hb dX8_power_23 rfl (lv_at hl 2 rfl) ?_
  refine va_put (D := (dC, dI)) (ci := 10) (v := .int 1) (ty := .boolean) (C := RX8) (T := TX8) (N := 4) hx hb hts zi_X8_power_X8 tyX8 tyX8_ok nmX8 hown hK hP hD hS 0 rfl rfl 2 (by decide) (hts (.fieldLink RX8 16 "LockRoomsModel" "hasPower" "Z") (by decide +kernel)) (fun _ h9 => h9) rfl (by decide +kernel) (by decide) (by decide) (Nat.le_of_ble_eq_true rfl) dX8_power_24 (fun H2 locs hP hD hS => ?_)
  have hP : va_P (dC, dI) vwCl [(mo, .inr (10, [.int 0, .ref mr, .int 1, .long s9]))] H2 := hP
  have hD : va_D A [(mo, .inr (10, [.int 0, .ref mr, .int 1, .long s9]))] := hD
  refine lv_iconst (v := 0) hx hb dX8_power_27 (by decide) ?_
  refine lv_istore_n (lv' := [(3, .int 0), (2, .int 0), (0, .ref mo), (1, .int 1)]) hx hb dX8_power_28 rfl hl (by decide) rfl (fun ls hl => ?_)
  refine lv_iconst (v := 0) hx hb dX8_power_29 (by decide) ?_
  refine lv_istore (lv' := [(4, .int 0), (3, .int 0), (2, .int 0), (0, .ref mo), (1, .int 1)]) hx hb dX8_power_30 hl (by decide) rfl (fun ls hl => ?_)
  refine lv_iload_n hx hb dX8_power_32 rfl (lv_at hl 2 rfl) ?_
  refine lv_if_eq (tgt := 104) hx hb dX8_power_33 (by decide) (fun _ => ?_) (fun h => absurd h (by decide))
  refine lv_aload_n hx hb dX8_power_104 rfl (lv_at hl 3 rfl) ?_
  refine va_get (D := (dC, dI)) (ci := 10) (v := .ref mr) (C := RX8) (T := TX8) (N := 4) hx hb hts zi_X8_power_X8 hown hK hP 0 rfl rfl 1 (by decide) (hts (.fieldLink RX8 10 "LockRoomsModel" "room" "LLockRoomsModel$Room;") (by decide +kernel)) (fun _ h9 => h9) rfl dX8_power_105 ?_
  refine va_getN (D := (dC, dI)) (ci := 9) (v := .int 0) (C := RX7) (T := TX7) (N := 14) hx hb hts zi_X8_power_X7 hown hK (zo_R hR0 hS hAr) 0 rfl rfl 5 (by decide) (va_Nw.use rfl (hN.1 ("LockRoomsModel", 45, "LockRoomsModel$Room", "isRunning", "Z", "LockRoomsModel") (List.mem_of_getElem? (i := 6) rfl))) (fun _ h9 => h9) rfl dX8_power_108 ?_
  refine lv_if_eq (tgt := 132) hx hb dX8_power_111 (by decide) (fun _ => ?_) (fun h => absurd h (by decide))
  refine lv_iload_n hx hb dX8_power_132 rfl (lv_at hl 1 rfl) ?_
  refine W.widen (k := 0) (n := 0) (Nat.le_of_ble_eq_true rfl) (Nat.le_of_ble_eq_true rfl) ?_
  have hP9 := hP.sub (ws' := []) [] rfl
  have hD9 := hD.sub (ws' := []) [] (by decide) rfl
  have hK9 := hK.sub (tys' := []) [] rfl
  exact W.iret hx hb hr (fun t ht hW => ⟨⟨0, (), rfl, rfl, ⟨by rw [ht]; exact hP9, hD9, va_K.moved hW.alike hK9⟩⟩, hS.F ht⟩) hS.2.2 dX8_power_133

set_option maxRecDepth 20000 in
theorem zi_X8_canEnd_X8 : ∀ w ∈ u_ws RX8 TX8 4, w ∈ wsX8_canEnd := by decide +kernel
set_option maxHeartbeats 4000000 in
set_option maxRecDepth 100000 in
theorem cz_X8_canEnd (l : Launch) (dC : Nat → ClassId) (dI : Nat → Nat → Nat) (ed sz : Nat) (mo : Nat) (mr : Nat) (ll : Nat) (lt : Nat) (lp : Nat) (x9 : Int32) (s9 : Int64) : Met l yX8_canEnd wsX8_canEnd ({ frames := 6, cells := 1, slots := 1024, locals := 143 } : Jvm.Room) (va_Pc [.ref mo] (zB dC dI ed sz [(mr, .inr (9, [.ref ll, .ref lt, .ref lp, .int (-1), .int 0, .int 0, .int 0, .int 0, .int 0, .int 0, .int (-1), .int 0, .int 0, .int 0])), (ll, .inr (1, [.int 0, .ref ed, .int 0])), (lt, .inr (1, [.int 0, .ref ed, .int 0])), (lp, .inr (1, [.int 0, .ref ed, .int 0]))] [(mo, .inr (10, [.int x9, .ref mr, .int 1, .long s9]))] [])) (va_Qi (fun (r : Int32) (_ : Unit) => r = 0) (fun (_ : Unit) (t : State) => va_P (dC, dI) vwCl [(mo, .inr (10, [.int 0, .ref mr, .int 1, .long s9]))] t.heap ∧ va_D (va_A [(mo, .inr (10, [.int x9, .ref mr, .int 1, .long s9]))] sz) [(mo, .inr (10, [.int 0, .ref mr, .int 1, .long s9]))] ∧ va_K (dC, dI) vwCl [] t) (va_A [(mo, .inr (10, [.int x9, .ref mr, .int 1, .long s9]))] sz)) 1 1024 (va_A [(mo, .inr (10, [.int x9, .ref mr, .int 1, .long s9]))] sz) := by
  refine Met.ofW (cc := cX8_canEnd) (maxL := 1) (ret := (some .boolean)) (by decide) rfl ?_
  intro p e s m args below meth c s₁ B hml hv
  obtain ⟨rfl, hsz, hR0, hP, hK, hD0, hN, hH, hX0⟩ := hv
  have hx := B.exec
  have hb := B.bytes
  have hr := B.returns
  have hts := atoms_spec (ws := wsX8_canEnd) B.pre
  have hown : s.vm.findClass RX8 = some m.cls := findClass_of_methodNamed B.named
  have hlocks := B.notSynchronized
  subst hsz
  have hD := hD0.self (sz := s.heap.size)
  have hAr := zx_A hX0 hR0
  generalize hAe : va_A [(mo, .inr (10, [.int x9, .ref mr, .int 1, .long s9]))] s.heap.size = A at hD hAr hH ⊢
  have hA : ∀ q : Nat, s.heap.size ≤ q → A q := fun q h => by rw [← hAe]; exact Or.inr h
  have hS : va_S A s.heap s.heap [] := va_S.rf
  have hl := lv_entry ([.ref mo]) (n := 1) (Nat.le_of_ble_eq_true rfl)
  rw [lg_entry_eq]
  generalize (lg_sl ([.ref mo]) ++ List.replicate (1 - (lg_sl ([.ref mo])).length) Slot.unset).toArray = ls at hl ⊢
  have hl : lv_has ls 1 [(0, .ref mo)] := hl
  refine lv_aload_n hx hb dX8_canEnd_0 rfl (lv_at hl 0 rfl) ?_
  refine lv_iconst (v := 0) hx hb dX8_canEnd_1 (by decide) ?_
  refine va_put (D := (dC, dI)) (ci := 10) (v := .int 0) (ty := .int) (C := RX8) (T := TX8) (N := 4) hx hb hts zi_X8_canEnd_X8 tyX8 tyX8_ok nmX8 hown hK hP hD hS 0 rfl rfl 0 (by decide) (hts (.fieldLink RX8 20 "LockRoomsModel" "thrown" "I") (by decide +kernel)) (fun _ h9 => h9) rfl (by decide +kernel) rfl rfl (Nat.le_of_ble_eq_true rfl) dX8_canEnd_2 (fun H1 locs hP hD hS => ?_)
  have hP : va_P (dC, dI) vwCl [(mo, .inr (10, [.int 0, .ref mr, .int 1, .long s9]))] H1 := hP
  have hD : va_D A [(mo, .inr (10, [.int 0, .ref mr, .int 1, .long s9]))] := hD
  refine lv_aload_n hx hb dX8_canEnd_5 rfl (lv_at hl 0 rfl) ?_
  refine va_get (D := (dC, dI)) (ci := 10) (v := .ref mr) (C := RX8) (T := TX8) (N := 4) hx hb hts zi_X8_canEnd_X8 hown hK hP 0 rfl rfl 1 (by decide) (hts (.fieldLink RX8 10 "LockRoomsModel" "room" "LLockRoomsModel$Room;") (by decide +kernel)) (fun _ h9 => h9) rfl dX8_canEnd_6 ?_
  have hPr := ((zo_R hR0 hS hAr)).sub (ws' := [(mr, .inr (9, [.ref ll, .ref lt, .ref lp, .int (-1), .int 0, .int 0, .int 0, .int 0, .int 0, .int 0, .int (-1), .int 0, .int 0, .int 0])), (ll, .inr (1, [.int 0, .ref ed, .int 0])), (lt, .inr (1, [.int 0, .ref ed, .int 0])), (lp, .inr (1, [.int 0, .ref ed, .int 0]))]) [0, 1, 2, 3] rfl
  have hPc := hP.sub (ws' := []) [] rfl
  have hDc := hD.sub (ws' := []) [] (by decide) rfl
  have hKc := hK.sub (tys' := []) [] rfl
  have hFc := va_free (wc := []) hD hS hA [] rfl
  refine va_calli (va_runV (As := []) (rest := []) ⟨hx, hb, hml, hown, hts⟩ (cz_depth0 l dC dI ed H1.size mr ll lt lp) (cwV 0 hts gX8_canEnd_X7_depth_ rfl rfl rfl (by decide +kernel) ⟨Nat.le_of_ble_eq_true rfl, Nat.le_of_ble_eq_true rfl⟩) ⟨zb_blind, va_recv hK (zo_R hR0 hS hAr) (ci := 9) (q0 := 0) rfl rfl, fun U hU hW => ⟨rfl, zb_mk hU hW hPr hPc hKc hDc hN hH hS hFc zx_e⟩⟩ rfl rfl hl.1 rfl (lv_room (Nat.le_of_ble_eq_true rfl)) dX8_canEnd_9 ⟨Nat.le_of_ble_eq_true rfl, Nat.le_of_ble_eq_true rfl⟩) hS (fun q _ h => hFc q h) hFc (fun r3 u t H2 locs ht hvm hw hB hz1 hk1 hS => ?_)
  obtain rfl : r3 = (-1) := hw
  have hP := zo_K hP hk1
  refine lv_iconst (v := (-1)) hx hb dX8_canEnd_12 (by decide) ?_
  refine lv_icmp_eq (tgt := 20) hx hb dX8_canEnd_13 (by decide) (fun _ => ?_) (fun h => absurd h (by decide))
  refine lv_iconst (v := 0) hx hb dX8_canEnd_20 (by decide) ?_
  refine W.widen (k := 1) (n := 1024) (Nat.le_of_ble_eq_true rfl) (Nat.le_of_ble_eq_true rfl) ?_
  have hP9 := hP.sub (ws' := [(mo, .inr (10, [.int 0, .ref mr, .int 1, .long s9]))]) [0] rfl
  have hD9 := hD.sub (ws' := [(mo, .inr (10, [.int 0, .ref mr, .int 1, .long s9]))]) [0] (by decide) rfl
  have hK9 := hK.sub (tys' := []) [] rfl
  exact W.zret hx hb hr (by decide) (fun t ht hW => ⟨⟨0, (), rfl, rfl, ⟨by rw [ht]; exact hP9, hD9, va_K.moved hW.alike hK9⟩⟩, hS.F ht⟩) hS.2.2 dX8_canEnd_21

set_option maxRecDepth 20000 in
theorem zi_X8_stands_X8 : ∀ w ∈ u_ws RX8 TX8 4, w ∈ wsX8_stands := by decide +kernel
set_option maxHeartbeats 4000000 in
set_option maxRecDepth 100000 in
theorem cz_X8_stands (l : Launch) (dC : Nat → ClassId) (dI : Nat → Nat → Nat) (ed sz : Nat) (mo : Nat) (mr : Nat) (ll : Nat) (lt : Nat) (lp : Nat) (x9 : Int32) (s9 : Int64) : Met l yX8_stands wsX8_stands ({ frames := 5, cells := 1, slots := 1024, locals := 123 } : Jvm.Room) (va_Pc [.ref mo] (zB dC dI ed sz [(mr, .inr (9, [.ref ll, .ref lt, .ref lp, .int (-1), .int 0, .int 0, .int 0, .int 0, .int 0, .int 0, .int (-1), .int 0, .int 0, .int 0])), (ll, .inr (1, [.int 0, .ref ed, .int 0])), (lt, .inr (1, [.int 0, .ref ed, .int 0])), (lp, .inr (1, [.int 0, .ref ed, .int 0]))] [(mo, .inr (10, [.int x9, .ref mr, .int 1, .long s9]))] [])) (va_Qi (fun (r : Int32) (_ : Unit) => r = 1) (fun (_ : Unit) (t : State) => va_P (dC, dI) vwCl [(mo, .inr (10, [.int 0, .ref mr, .int 1, .long s9]))] t.heap ∧ va_D (va_A [(mo, .inr (10, [.int x9, .ref mr, .int 1, .long s9]))] sz) [(mo, .inr (10, [.int 0, .ref mr, .int 1, .long s9]))] ∧ va_K (dC, dI) vwCl [] t) (va_A [(mo, .inr (10, [.int x9, .ref mr, .int 1, .long s9]))] sz)) 1 1024 (va_A [(mo, .inr (10, [.int x9, .ref mr, .int 1, .long s9]))] sz) := by
  refine Met.ofW (cc := cX8_stands) (maxL := 1) (ret := (some .int)) (by decide) rfl ?_
  intro p e s m args below meth c s₁ B hml hv
  obtain ⟨rfl, hsz, hR0, hP, hK, hD0, hN, hH, hX0⟩ := hv
  have hx := B.exec
  have hb := B.bytes
  have hr := B.returns
  have hts := atoms_spec (ws := wsX8_stands) B.pre
  have hown : s.vm.findClass RX8 = some m.cls := findClass_of_methodNamed B.named
  have hlocks := B.notSynchronized
  subst hsz
  have hD := hD0.self (sz := s.heap.size)
  have hAr := zx_A hX0 hR0
  generalize hAe : va_A [(mo, .inr (10, [.int x9, .ref mr, .int 1, .long s9]))] s.heap.size = A at hD hAr hH ⊢
  have hA : ∀ q : Nat, s.heap.size ≤ q → A q := fun q h => by rw [← hAe]; exact Or.inr h
  have hS : va_S A s.heap s.heap [] := va_S.rf
  have hl := lv_entry ([.ref mo]) (n := 1) (Nat.le_of_ble_eq_true rfl)
  rw [lg_entry_eq]
  generalize (lg_sl ([.ref mo]) ++ List.replicate (1 - (lg_sl ([.ref mo])).length) Slot.unset).toArray = ls at hl ⊢
  have hl : lv_has ls 1 [(0, .ref mo)] := hl
  refine lv_aload_n hx hb dX8_stands_0 rfl (lv_at hl 0 rfl) ?_
  refine lv_iconst (v := 0) hx hb dX8_stands_1 (by decide) ?_
  refine va_put (D := (dC, dI)) (ci := 10) (v := .int 0) (ty := .int) (C := RX8) (T := TX8) (N := 4) hx hb hts zi_X8_stands_X8 tyX8 tyX8_ok nmX8 hown hK hP hD hS 0 rfl rfl 0 (by decide) (hts (.fieldLink RX8 20 "LockRoomsModel" "thrown" "I") (by decide +kernel)) (fun _ h9 => h9) rfl (by decide +kernel) rfl rfl (Nat.le_of_ble_eq_true rfl) dX8_stands_2 (fun H1 locs hP hD hS => ?_)
  have hP : va_P (dC, dI) vwCl [(mo, .inr (10, [.int 0, .ref mr, .int 1, .long s9]))] H1 := hP
  have hD : va_D A [(mo, .inr (10, [.int 0, .ref mr, .int 1, .long s9]))] := hD
  refine lv_aload_n hx hb dX8_stands_5 rfl (lv_at hl 0 rfl) ?_
  refine va_get (D := (dC, dI)) (ci := 10) (v := .ref mr) (C := RX8) (T := TX8) (N := 4) hx hb hts zi_X8_stands_X8 hown hK hP 0 rfl rfl 1 (by decide) (hts (.fieldLink RX8 10 "LockRoomsModel" "room" "LLockRoomsModel$Room;") (by decide +kernel)) (fun _ h9 => h9) rfl dX8_stands_6 ?_
  have hPr := ((zo_R hR0 hS hAr)).sub (ws' := [(mr, .inr (9, [.ref ll, .ref lt, .ref lp, .int (-1), .int 0, .int 0, .int 0, .int 0, .int 0, .int 0, .int (-1), .int 0, .int 0, .int 0])), (ll, .inr (1, [.int 0, .ref ed, .int 0])), (lt, .inr (1, [.int 0, .ref ed, .int 0])), (lp, .inr (1, [.int 0, .ref ed, .int 0]))]) [0, 1, 2, 3] rfl
  have hPc := hP.sub (ws' := []) [] rfl
  have hDc := hD.sub (ws' := []) [] (by decide) rfl
  have hKc := hK.sub (tys' := []) [] rfl
  have hFc := va_free (wc := []) hD hS hA [] rfl
  refine va_calli (va_runV (As := []) (rest := []) ⟨hx, hb, hml, hown, hts⟩ (cz_stands7 l dC dI ed H1.size mr ll lt lp) (cwV 0 hts gX8_stands_X7_stands rfl rfl rfl (by decide +kernel) ⟨Nat.le_of_ble_eq_true rfl, Nat.le_of_ble_eq_true rfl⟩) ⟨zb_blind, va_recv hK (zo_R hR0 hS hAr) (ci := 9) (q0 := 0) rfl rfl, fun U hU hW => ⟨rfl, zb_mk hU hW hPr hPc hKc hDc hN hH hS hFc zx_e⟩⟩ rfl rfl hl.1 rfl (lv_room (Nat.le_of_ble_eq_true rfl)) dX8_stands_9 ⟨Nat.le_of_ble_eq_true rfl, Nat.le_of_ble_eq_true rfl⟩) hS (fun q _ h => hFc q h) hFc (fun r3 u t H2 locs ht hvm hw hB hz1 hk1 hS => ?_)
  obtain rfl : r3 = 1 := hw
  have hP := zo_K hP hk1
  refine W.widen (k := 1) (n := 1024) (Nat.le_of_ble_eq_true rfl) (Nat.le_of_ble_eq_true rfl) ?_
  have hP9 := hP.sub (ws' := [(mo, .inr (10, [.int 0, .ref mr, .int 1, .long s9]))]) [0] rfl
  have hD9 := hD.sub (ws' := [(mo, .inr (10, [.int 0, .ref mr, .int 1, .long s9]))]) [0] (by decide) rfl
  have hK9 := hK.sub (tys' := []) [] rfl
  exact W.iret hx hb hr (fun t ht hW => ⟨⟨1, (), rfl, rfl, ⟨by rw [ht]; exact hP9, hD9, va_K.moved hW.alike hK9⟩⟩, hS.F ht⟩) hS.2.2 dX8_stands_12

set_option maxRecDepth 20000 in
theorem zi_X8_deadEnds_X8 : ∀ w ∈ u_ws RX8 TX8 4, w ∈ wsX8_deadEnds := by decide +kernel
set_option maxHeartbeats 4000000 in
set_option maxRecDepth 100000 in
theorem cz_X8_deadEnds (l : Launch) (dC : Nat → ClassId) (dI : Nat → Nat → Nat) (ed sz : Nat) (mo : Nat) (mr : Nat) (ll : Nat) (lt : Nat) (lp : Nat) (x9 : Int32) (s9 : Int64) : Met l yX8_deadEnds wsX8_deadEnds ({ frames := 5, cells := 2, slots := 2048, locals := 125 } : Jvm.Room) (va_Pc [.ref mo] (zB dC dI ed sz [(mr, .inr (9, [.ref ll, .ref lt, .ref lp, .int (-1), .int 0, .int 0, .int 0, .int 0, .int 0, .int 0, .int (-1), .int 0, .int 0, .int 0])), (ll, .inr (1, [.int 0, .ref ed, .int 0])), (lt, .inr (1, [.int 0, .ref ed, .int 0])), (lp, .inr (1, [.int 0, .ref ed, .int 0]))] [(mo, .inr (10, [.int x9, .ref mr, .int 1, .long s9]))] [])) (va_Qi (fun (r : Int32) (_ : Unit) => r = 1) (fun (_ : Unit) (t : State) => va_P (dC, dI) vwCl [(mo, .inr (10, [.int 0, .ref mr, .int 1, .long s9]))] t.heap ∧ va_D (va_A [(mo, .inr (10, [.int x9, .ref mr, .int 1, .long s9]))] sz) [(mo, .inr (10, [.int 0, .ref mr, .int 1, .long s9]))] ∧ va_K (dC, dI) vwCl [] t) (va_A [(mo, .inr (10, [.int x9, .ref mr, .int 1, .long s9]))] sz)) 2 2048 (va_A [(mo, .inr (10, [.int x9, .ref mr, .int 1, .long s9]))] sz) := by
  refine Met.ofW (cc := cX8_deadEnds) (maxL := 1) (ret := (some .int)) (by decide) rfl ?_
  intro p e s m args below meth c s₁ B hml hv
  obtain ⟨rfl, hsz, hR0, hP, hK, hD0, hN, hH, hX0⟩ := hv
  have hx := B.exec
  have hb := B.bytes
  have hr := B.returns
  have hts := atoms_spec (ws := wsX8_deadEnds) B.pre
  have hown : s.vm.findClass RX8 = some m.cls := findClass_of_methodNamed B.named
  have hlocks := B.notSynchronized
  subst hsz
  have hD := hD0.self (sz := s.heap.size)
  have hAr := zx_A hX0 hR0
  generalize hAe : va_A [(mo, .inr (10, [.int x9, .ref mr, .int 1, .long s9]))] s.heap.size = A at hD hAr hH ⊢
  have hA : ∀ q : Nat, s.heap.size ≤ q → A q := fun q h => by rw [← hAe]; exact Or.inr h
  have hS : va_S A s.heap s.heap [] := va_S.rf
  have hl := lv_entry ([.ref mo]) (n := 1) (Nat.le_of_ble_eq_true rfl)
  rw [lg_entry_eq]
  generalize (lg_sl ([.ref mo]) ++ List.replicate (1 - (lg_sl ([.ref mo])).length) Slot.unset).toArray = ls at hl ⊢
  have hl : lv_has ls 1 [(0, .ref mo)] := hl
  refine lv_aload_n hx hb dX8_deadEnds_0 rfl (lv_at hl 0 rfl) ?_
  refine lv_iconst (v := 0) hx hb dX8_deadEnds_1 (by decide) ?_
  refine va_put (D := (dC, dI)) (ci := 10) (v := .int 0) (ty := .int) (C := RX8) (T := TX8) (N := 4) hx hb hts zi_X8_deadEnds_X8 tyX8 tyX8_ok nmX8 hown hK hP hD hS 0 rfl rfl 0 (by decide) (hts (.fieldLink RX8 20 "LockRoomsModel" "thrown" "I") (by decide +kernel)) (fun _ h9 => h9) rfl (by decide +kernel) rfl rfl (Nat.le_of_ble_eq_true rfl) dX8_deadEnds_2 (fun H1 locs hP hD hS => ?_)
  have hP : va_P (dC, dI) vwCl [(mo, .inr (10, [.int 0, .ref mr, .int 1, .long s9]))] H1 := hP
  have hD : va_D A [(mo, .inr (10, [.int 0, .ref mr, .int 1, .long s9]))] := hD
  refine lv_aload_n hx hb dX8_deadEnds_5 rfl (lv_at hl 0 rfl) ?_
  refine va_get (D := (dC, dI)) (ci := 10) (v := .ref mr) (C := RX8) (T := TX8) (N := 4) hx hb hts zi_X8_deadEnds_X8 hown hK hP 0 rfl rfl 1 (by decide) (hts (.fieldLink RX8 10 "LockRoomsModel" "room" "LLockRoomsModel$Room;") (by decide +kernel)) (fun _ h9 => h9) rfl dX8_deadEnds_6 ?_
  have hPr := ((zo_R hR0 hS hAr)).sub (ws' := [(mr, .inr (9, [.ref ll, .ref lt, .ref lp, .int (-1), .int 0, .int 0, .int 0, .int 0, .int 0, .int 0, .int (-1), .int 0, .int 0, .int 0])), (ll, .inr (1, [.int 0, .ref ed, .int 0])), (lt, .inr (1, [.int 0, .ref ed, .int 0])), (lp, .inr (1, [.int 0, .ref ed, .int 0]))]) [0, 1, 2, 3] rfl
  have hPc := hP.sub (ws' := []) [] rfl
  have hDc := hD.sub (ws' := []) [] (by decide) rfl
  have hKc := hK.sub (tys' := []) [] rfl
  have hFc := va_free (wc := []) hD hS hA [] rfl
  refine va_calli (va_runV (As := []) (rest := []) ⟨hx, hb, hml, hown, hts⟩ (cz_deadEnds7 l dC dI ed H1.size mr ll lt lp) (cwV 0 hts gX8_deadEnds_X7_deadEnds rfl rfl rfl (by decide +kernel) ⟨Nat.le_of_ble_eq_true rfl, Nat.le_of_ble_eq_true rfl⟩) ⟨zb_blind, va_recv hK (zo_R hR0 hS hAr) (ci := 9) (q0 := 0) rfl rfl, fun U hU hW => ⟨rfl, zb_mk hU hW hPr hPc hKc hDc hN hH hS hFc zx_e⟩⟩ rfl rfl hl.1 rfl (lv_room (Nat.le_of_ble_eq_true rfl)) dX8_deadEnds_9 ⟨Nat.le_of_ble_eq_true rfl, Nat.le_of_ble_eq_true rfl⟩) hS (fun q _ h => hFc q h) hFc (fun r3 u t H2 locs ht hvm hw hB hz1 hk1 hS => ?_)
  obtain rfl : r3 = 1 := hw
  have hP := zo_K hP hk1
  refine W.widen (k := 2) (n := 2048) (Nat.le_of_ble_eq_true rfl) (Nat.le_of_ble_eq_true rfl) ?_
  have hP9 := hP.sub (ws' := [(mo, .inr (10, [.int 0, .ref mr, .int 1, .long s9]))]) [0] rfl
  have hD9 := hD.sub (ws' := [(mo, .inr (10, [.int 0, .ref mr, .int 1, .long s9]))]) [0] (by decide) rfl
  have hK9 := hK.sub (tys' := []) [] rfl
  exact W.iret hx hb hr (fun t ht hW => ⟨⟨1, (), rfl, rfl, ⟨by rw [ht]; exact hP9, hD9, va_K.moved hW.alike hK9⟩⟩, hS.F ht⟩) hS.2.2 dX8_deadEnds_12

set_option maxRecDepth 20000 in
theorem zi_X8_depth_X8 : ∀ w ∈ u_ws RX8 TX8 4, w ∈ wsX8_depth := by decide +kernel
set_option maxHeartbeats 4000000 in
set_option maxRecDepth 100000 in
theorem cz_X8_depth (l : Launch) (dC : Nat → ClassId) (dI : Nat → Nat → Nat) (ed sz : Nat) (mo : Nat) (mr : Nat) (ll : Nat) (lt : Nat) (lp : Nat) (x9 : Int32) (s9 : Int64) : Met l yX8_depth wsX8_depth ({ frames := 6, cells := 1, slots := 1024, locals := 143 } : Jvm.Room) (va_Pc [.ref mo] (zB dC dI ed sz [(mr, .inr (9, [.ref ll, .ref lt, .ref lp, .int (-1), .int 0, .int 0, .int 0, .int 0, .int 0, .int 0, .int (-1), .int 0, .int 0, .int 0])), (ll, .inr (1, [.int 0, .ref ed, .int 0])), (lt, .inr (1, [.int 0, .ref ed, .int 0])), (lp, .inr (1, [.int 0, .ref ed, .int 0]))] [(mo, .inr (10, [.int x9, .ref mr, .int 1, .long s9]))] [])) (va_Qi (fun (r : Int32) (_ : Unit) => r = (-1)) (fun (_ : Unit) (t : State) => va_P (dC, dI) vwCl [(mo, .inr (10, [.int 0, .ref mr, .int 1, .long s9]))] t.heap ∧ va_D (va_A [(mo, .inr (10, [.int x9, .ref mr, .int 1, .long s9]))] sz) [(mo, .inr (10, [.int 0, .ref mr, .int 1, .long s9]))] ∧ va_K (dC, dI) vwCl [] t) (va_A [(mo, .inr (10, [.int x9, .ref mr, .int 1, .long s9]))] sz)) 1 1024 (va_A [(mo, .inr (10, [.int x9, .ref mr, .int 1, .long s9]))] sz) := by
  refine Met.ofW (cc := cX8_depth) (maxL := 1) (ret := (some .int)) (by decide) rfl ?_
  intro p e s m args below meth c s₁ B hml hv
  obtain ⟨rfl, hsz, hR0, hP, hK, hD0, hN, hH, hX0⟩ := hv
  have hx := B.exec
  have hb := B.bytes
  have hr := B.returns
  have hts := atoms_spec (ws := wsX8_depth) B.pre
  have hown : s.vm.findClass RX8 = some m.cls := findClass_of_methodNamed B.named
  have hlocks := B.notSynchronized
  subst hsz
  have hD := hD0.self (sz := s.heap.size)
  have hAr := zx_A hX0 hR0
  generalize hAe : va_A [(mo, .inr (10, [.int x9, .ref mr, .int 1, .long s9]))] s.heap.size = A at hD hAr hH ⊢
  have hA : ∀ q : Nat, s.heap.size ≤ q → A q := fun q h => by rw [← hAe]; exact Or.inr h
  have hS : va_S A s.heap s.heap [] := va_S.rf
  have hl := lv_entry ([.ref mo]) (n := 1) (Nat.le_of_ble_eq_true rfl)
  rw [lg_entry_eq]
  generalize (lg_sl ([.ref mo]) ++ List.replicate (1 - (lg_sl ([.ref mo])).length) Slot.unset).toArray = ls at hl ⊢
  have hl : lv_has ls 1 [(0, .ref mo)] := hl
  refine lv_aload_n hx hb dX8_depth_0 rfl (lv_at hl 0 rfl) ?_
  refine lv_iconst (v := 0) hx hb dX8_depth_1 (by decide) ?_
  refine va_put (D := (dC, dI)) (ci := 10) (v := .int 0) (ty := .int) (C := RX8) (T := TX8) (N := 4) hx hb hts zi_X8_depth_X8 tyX8 tyX8_ok nmX8 hown hK hP hD hS 0 rfl rfl 0 (by decide) (hts (.fieldLink RX8 20 "LockRoomsModel" "thrown" "I") (by decide +kernel)) (fun _ h9 => h9) rfl (by decide +kernel) rfl rfl (Nat.le_of_ble_eq_true rfl) dX8_depth_2 (fun H1 locs hP hD hS => ?_)
  have hP : va_P (dC, dI) vwCl [(mo, .inr (10, [.int 0, .ref mr, .int 1, .long s9]))] H1 := hP
  have hD : va_D A [(mo, .inr (10, [.int 0, .ref mr, .int 1, .long s9]))] := hD
  refine lv_aload_n hx hb dX8_depth_5 rfl (lv_at hl 0 rfl) ?_
  refine va_get (D := (dC, dI)) (ci := 10) (v := .ref mr) (C := RX8) (T := TX8) (N := 4) hx hb hts zi_X8_depth_X8 hown hK hP 0 rfl rfl 1 (by decide) (hts (.fieldLink RX8 10 "LockRoomsModel" "room" "LLockRoomsModel$Room;") (by decide +kernel)) (fun _ h9 => h9) rfl dX8_depth_6 ?_
  have hPr := ((zo_R hR0 hS hAr)).sub (ws' := [(mr, .inr (9, [.ref ll, .ref lt, .ref lp, .int (-1), .int 0, .int 0, .int 0, .int 0, .int 0, .int 0, .int (-1), .int 0, .int 0, .int 0])), (ll, .inr (1, [.int 0, .ref ed, .int 0])), (lt, .inr (1, [.int 0, .ref ed, .int 0])), (lp, .inr (1, [.int 0, .ref ed, .int 0]))]) [0, 1, 2, 3] rfl
  have hPc := hP.sub (ws' := []) [] rfl
  have hDc := hD.sub (ws' := []) [] (by decide) rfl
  have hKc := hK.sub (tys' := []) [] rfl
  have hFc := va_free (wc := []) hD hS hA [] rfl
  refine va_calli (va_runV (As := []) (rest := []) ⟨hx, hb, hml, hown, hts⟩ (cz_depth0 l dC dI ed H1.size mr ll lt lp) (cwV 0 hts gX8_depth_X7_depth_ rfl rfl rfl (by decide +kernel) ⟨Nat.le_of_ble_eq_true rfl, Nat.le_of_ble_eq_true rfl⟩) ⟨zb_blind, va_recv hK (zo_R hR0 hS hAr) (ci := 9) (q0 := 0) rfl rfl, fun U hU hW => ⟨rfl, zb_mk hU hW hPr hPc hKc hDc hN hH hS hFc zx_e⟩⟩ rfl rfl hl.1 rfl (lv_room (Nat.le_of_ble_eq_true rfl)) dX8_depth_9 ⟨Nat.le_of_ble_eq_true rfl, Nat.le_of_ble_eq_true rfl⟩) hS (fun q _ h => hFc q h) hFc (fun r3 u t H2 locs ht hvm hw hB hz1 hk1 hS => ?_)
  obtain rfl : r3 = (-1) := hw
  have hP := zo_K hP hk1
  refine W.widen (k := 1) (n := 1024) (Nat.le_of_ble_eq_true rfl) (Nat.le_of_ble_eq_true rfl) ?_
  have hP9 := hP.sub (ws' := [(mo, .inr (10, [.int 0, .ref mr, .int 1, .long s9]))]) [0] rfl
  have hD9 := hD.sub (ws' := [(mo, .inr (10, [.int 0, .ref mr, .int 1, .long s9]))]) [0] (by decide) rfl
  have hK9 := hK.sub (tys' := []) [] rfl
  exact W.iret hx hb hr (fun t ht hW => ⟨⟨(-1), (), rfl, rfl, ⟨by rw [ht]; exact hP9, hD9, va_K.moved hW.alike hK9⟩⟩, hS.F ht⟩) hS.2.2 dX8_depth_12

set_option maxRecDepth 20000 in
theorem zi_X8_missNow_X8 : ∀ w ∈ u_ws RX8 TX8 4, w ∈ wsX8_missNow := by decide +kernel
set_option maxHeartbeats 4000000 in
set_option maxRecDepth 100000 in
theorem cz_missNow (l : Launch) (dC : Nat → ClassId) (dI : Nat → Nat → Nat) (ed sz : Nat) (mo : Nat) (mr : Nat) (ll : Nat) (lt : Nat) (lp : Nat) (x9 : Int32) (s9 : Int64) : Met l yX8_missNow wsX8_missNow ({ frames := 6, cells := 1, slots := 1024, locals := 143 } : Jvm.Room) (va_Pc [.ref mo] (zB dC dI ed sz [(mo, .inr (10, [.int x9, .ref mr, .int 1, .long s9])), (mr, .inr (9, [.ref ll, .ref lt, .ref lp, .int (-1), .int 0, .int 0, .int 0, .int 0, .int 0, .int 0, .int (-1), .int 0, .int 0, .int 0])), (ll, .inr (1, [.int 0, .ref ed, .int 0])), (lt, .inr (1, [.int 0, .ref ed, .int 0])), (lp, .inr (1, [.int 0, .ref ed, .int 0]))] [] [])) (va_Qi (fun (r : Int32) (_ : Unit) => r = 0) (fun (_ : Unit) (_ : State) => True) (va_A [] sz)) 1 1024 (va_A [] sz) := by
  refine Met.ofW (cc := cX8_missNow) (maxL := 5) (ret := (some .int)) (by decide) rfl ?_
  intro p e s m args below meth c s₁ B hml hv
  obtain ⟨rfl, hsz, hR0, hP, hK, hD0, hN, hH, hX0⟩ := hv
  have hx := B.exec
  have hb := B.bytes
  have hr := B.returns
  have hts := atoms_spec (ws := wsX8_missNow) B.pre
  have hown : s.vm.findClass RX8 = some m.cls := findClass_of_methodNamed B.named
  have hlocks := B.notSynchronized
  subst hsz
  have hD := hD0.self (sz := s.heap.size)
  have hAr := zx_A hX0 hR0
  generalize hAe : va_A [] s.heap.size = A at hD hAr hH ⊢
  have hA : ∀ q : Nat, s.heap.size ≤ q → A q := fun q h => by rw [← hAe]; exact Or.inr h
  have hS : va_S A s.heap s.heap [] := va_S.rf
  have hl := lv_entry ([.ref mo]) (n := 5) (Nat.le_of_ble_eq_true rfl)
  rw [lg_entry_eq]
  generalize (lg_sl ([.ref mo]) ++ List.replicate (5 - (lg_sl ([.ref mo])).length) Slot.unset).toArray = ls at hl ⊢
  have hl : lv_has ls 5 [(0, .ref mo)] := hl
  refine lv_aload_n hx hb dX8_missNow_0 rfl (lv_at hl 0 rfl) ?_
  refine va_get (D := (dC, dI)) (ci := 10) (v := .ref mr) (C := RX8) (T := TX8) (N := 4) hx hb hts zi_X8_missNow_X8 hown hK hR0 0 rfl rfl 1 (by decide) (hts (.fieldLink RX8 10 "LockRoomsModel" "room" "LLockRoomsModel$Room;") (by decide +kernel)) (fun _ h9 => h9) rfl dX8_missNow_1 ?_
  have hPr := (hR0).sub (ws' := [(mr, .inr (9, [.ref ll, .ref lt, .ref lp, .int (-1), .int 0, .int 0, .int 0, .int 0, .int 0, .int 0, .int (-1), .int 0, .int 0, .int 0])), (ll, .inr (1, [.int 0, .ref ed, .int 0])), (lt, .inr (1, [.int 0, .ref ed, .int 0])), (lp, .inr (1, [.int 0, .ref ed, .int 0]))]) [1, 2, 3, 4] rfl
  have hPc := hP.sub (ws' := []) [] rfl
  have hDc := hD.sub (ws' := []) [] (by decide) rfl
  have hKc := hK.sub (tys' := []) [] rfl
  have hFc := va_free (wc := []) hD hS hA [] rfl
  refine va_calli (va_runV (As := []) (rest := []) ⟨hx, hb, hml, hown, hts⟩ (cz_depth0 l dC dI ed s.heap.size mr ll lt lp) (cwV 0 hts gX8_missNow_X7_depth_ rfl rfl rfl (by decide +kernel) ⟨Nat.le_of_ble_eq_true rfl, Nat.le_of_ble_eq_true rfl⟩) ⟨zb_blind, va_recv hK hR0 (ci := 9) (q0 := 1) rfl rfl, fun U hU hW => ⟨rfl, zb_mk hU hW hPr hPc hKc hDc hN hH hS hFc zx_e⟩⟩ rfl rfl hl.1 rfl (lv_room (Nat.le_of_ble_eq_true rfl)) dX8_missNow_4 ⟨Nat.le_of_ble_eq_true rfl, Nat.le_of_ble_eq_true rfl⟩) hS (fun q _ h => hFc q h) hFc (fun r2 u t H1 locs ht hvm hw hB hz1 hk1 hS => ?_)
  obtain rfl : r2 = (-1) := hw
  have hP := zo_K hP hk1
  refine lv_iconst (v := (-1)) hx hb dX8_missNow_7 (by decide) ?_
  refine lv_icmp_ne (tgt := 13) hx hb dX8_missNow_8 (by decide) (fun h => absurd h (by decide)) (fun _ => ?_)
  refine lv_iconst (v := 0) hx hb dX8_missNow_11 (by decide) ?_
  refine W.widen (k := 1) (n := 1024) (Nat.le_of_ble_eq_true rfl) (Nat.le_of_ble_eq_true rfl) ?_
  exact W.iret hx hb hr (fun t ht hW => ⟨⟨0, (), rfl, rfl, trivial⟩, hS.F ht⟩) hS.2.2 dX8_missNow_12

set_option maxRecDepth 20000 in
theorem zi_X8_cannotMiss_X8 : ∀ w ∈ u_ws RX8 TX8 4, w ∈ wsX8_cannotMiss := by decide +kernel
set_option maxHeartbeats 4000000 in
set_option maxRecDepth 100000 in
theorem cz_X8_cannotMiss (l : Launch) (dC : Nat → ClassId) (dI : Nat → Nat → Nat) (ed sz : Nat) (mo : Nat) (mr : Nat) (ll : Nat) (lt : Nat) (lp : Nat) (x9 : Int32) (s9 : Int64) : Met l yX8_cannotMiss wsX8_cannotMiss ({ frames := 7, cells := 1, slots := 1024, locals := 167 } : Jvm.Room) (va_Pc [.ref mo] (zB dC dI ed sz [(mr, .inr (9, [.ref ll, .ref lt, .ref lp, .int (-1), .int 0, .int 0, .int 0, .int 0, .int 0, .int 0, .int (-1), .int 0, .int 0, .int 0])), (ll, .inr (1, [.int 0, .ref ed, .int 0])), (lt, .inr (1, [.int 0, .ref ed, .int 0])), (lp, .inr (1, [.int 0, .ref ed, .int 0]))] [(mo, .inr (10, [.int x9, .ref mr, .int 1, .long s9]))] [])) (va_Qi (fun (r : Int32) (_ : Unit) => r = 0) (fun (_ : Unit) (t : State) => va_P (dC, dI) vwCl [(mo, .inr (10, [.int 0, .ref mr, .int 1, .long s9]))] t.heap ∧ va_D (va_A [(mo, .inr (10, [.int x9, .ref mr, .int 1, .long s9]))] sz) [(mo, .inr (10, [.int 0, .ref mr, .int 1, .long s9]))] ∧ va_K (dC, dI) vwCl [] t) (va_A [(mo, .inr (10, [.int x9, .ref mr, .int 1, .long s9]))] sz)) 1 1024 (va_A [(mo, .inr (10, [.int x9, .ref mr, .int 1, .long s9]))] sz) := by
  refine Met.ofW (cc := cX8_cannotMiss) (maxL := 1) (ret := (some .int)) (by decide) rfl ?_
  intro p e s m args below meth c s₁ B hml hv
  obtain ⟨rfl, hsz, hR0, hP, hK, hD0, hN, hH, hX0⟩ := hv
  have hx := B.exec
  have hb := B.bytes
  have hr := B.returns
  have hts := atoms_spec (ws := wsX8_cannotMiss) B.pre
  have hown : s.vm.findClass RX8 = some m.cls := findClass_of_methodNamed B.named
  have hlocks := B.notSynchronized
  subst hsz
  have hD := hD0.self (sz := s.heap.size)
  have hAr := zx_A hX0 hR0
  generalize hAe : va_A [(mo, .inr (10, [.int x9, .ref mr, .int 1, .long s9]))] s.heap.size = A at hD hAr hH ⊢
  have hA : ∀ q : Nat, s.heap.size ≤ q → A q := fun q h => by rw [← hAe]; exact Or.inr h
  have hS : va_S A s.heap s.heap [] := va_S.rf
  have hl := lv_entry ([.ref mo]) (n := 1) (Nat.le_of_ble_eq_true rfl)
  rw [lg_entry_eq]
  generalize (lg_sl ([.ref mo]) ++ List.replicate (1 - (lg_sl ([.ref mo])).length) Slot.unset).toArray = ls at hl ⊢
  have hl : lv_has ls 1 [(0, .ref mo)] := hl
  refine lv_aload_n hx hb dX8_cannotMiss_0 rfl (lv_at hl 0 rfl) ?_
  refine lv_iconst (v := 0) hx hb dX8_cannotMiss_1 (by decide) ?_
  refine va_put (D := (dC, dI)) (ci := 10) (v := .int 0) (ty := .int) (C := RX8) (T := TX8) (N := 4) hx hb hts zi_X8_cannotMiss_X8 tyX8 tyX8_ok nmX8 hown hK hP hD hS 0 rfl rfl 0 (by decide) (hts (.fieldLink RX8 20 "LockRoomsModel" "thrown" "I") (by decide +kernel)) (fun _ h9 => h9) rfl (by decide +kernel) rfl rfl (Nat.le_of_ble_eq_true rfl) dX8_cannotMiss_2 (fun H1 locs hP hD hS => ?_)
  have hP : va_P (dC, dI) vwCl [(mo, .inr (10, [.int 0, .ref mr, .int 1, .long s9]))] H1 := hP
  have hD : va_D A [(mo, .inr (10, [.int 0, .ref mr, .int 1, .long s9]))] := hD
  refine lv_aload_n hx hb dX8_cannotMiss_5 rfl (lv_at hl 0 rfl) ?_
  have hPr := (show va_P (dC, dI) vwCl [(mo, .inr (10, [.int 0, .ref mr, .int 1, .long s9])), (mr, .inr (9, [.ref ll, .ref lt, .ref lp, .int (-1), .int 0, .int 0, .int 0, .int 0, .int 0, .int 0, .int (-1), .int 0, .int 0, .int 0])), (ll, .inr (1, [.int 0, .ref ed, .int 0])), (lt, .inr (1, [.int 0, .ref ed, .int 0])), (lp, .inr (1, [.int 0, .ref ed, .int 0]))] H1 from (zo_cons ((hP) 0 _ rfl) (zo_cons (((zo_R hR0 hS hAr)) 0 _ rfl) (zo_cons (((zo_R hR0 hS hAr)) 1 _ rfl) (zo_cons (((zo_R hR0 hS hAr)) 2 _ rfl) (zo_cons (((zo_R hR0 hS hAr)) 3 _ rfl) (zo_nil : va_P (dC, dI) vwCl [] H1)))))))
  have hPc := hP.sub (ws' := []) [] rfl
  have hDc := hD.sub (ws' := []) [] (by decide) rfl
  have hKc := hK.sub (tys' := []) [] rfl
  have hFc := va_free (wc := []) hD hS hA [] rfl
  refine va_calli (va_runV (As := []) (rest := []) ⟨hx, hb, hml, hown, hts⟩ (cz_missNow l dC dI ed H1.size mo mr ll lt lp 0 s9) (cwV 0 hts gX8_cannotMiss_X8_missNow rfl rfl rfl (by decide +kernel) ⟨Nat.le_of_ble_eq_true rfl, Nat.le_of_ble_eq_true rfl⟩) ⟨zb_blind, va_recv hK hP (ci := 10) (q0 := 0) rfl rfl, fun U hU hW => ⟨rfl, zb_mk hU hW hPr hPc hKc hDc hN hH hS hFc zx_e⟩⟩ rfl rfl hl.1 rfl (lv_room (Nat.le_of_ble_eq_true rfl)) dX8_cannotMiss_6 ⟨Nat.le_of_ble_eq_true rfl, Nat.le_of_ble_eq_true rfl⟩) hS (fun q _ h => hFc q h) hFc (fun r3 u t H2 locs ht hvm hw hB hz1 hk1 hS => ?_)
  obtain rfl : r3 = 0 := hw
  have hP := zo_K hP hk1
  refine W.widen (k := 1) (n := 1024) (Nat.le_of_ble_eq_true rfl) (Nat.le_of_ble_eq_true rfl) ?_
  have hP9 := hP.sub (ws' := [(mo, .inr (10, [.int 0, .ref mr, .int 1, .long s9]))]) [0] rfl
  have hD9 := hD.sub (ws' := [(mo, .inr (10, [.int 0, .ref mr, .int 1, .long s9]))]) [0] (by decide) rfl
  have hK9 := hK.sub (tys' := []) [] rfl
  exact W.iret hx hb hr (fun t ht hW => ⟨⟨0, (), rfl, rfl, ⟨by rw [ht]; exact hP9, hD9, va_K.moved hW.alike hK9⟩⟩, hS.F ht⟩) hS.2.2 dX8_cannotMiss_9

set_option maxRecDepth 20000 in
theorem zi_X8_bestHint_X8 : ∀ w ∈ u_ws RX8 TX8 4, w ∈ wsX8_bestHint := by decide +kernel
set_option maxHeartbeats 4000000 in
set_option maxRecDepth 100000 in
theorem cz_X8_bestHint (l : Launch) (dC : Nat → ClassId) (dI : Nat → Nat → Nat) (ed sz : Nat) (mo : Nat) (mr : Nat) (ll : Nat) (lt : Nat) (lp : Nat) (x9 : Int32) (s9 : Int64) : Met l yX8_bestHint wsX8_bestHint ({ frames := 2, cells := 0, slots := 0, locals := 44 } : Jvm.Room) (va_Pc [.ref mo] (zB dC dI ed sz [(mr, .inr (9, [.ref ll, .ref lt, .ref lp, .int (-1), .int 0, .int 0, .int 0, .int 0, .int 0, .int 0, .int (-1), .int 0, .int 0, .int 0])), (ll, .inr (1, [.int 0, .ref ed, .int 0])), (lt, .inr (1, [.int 0, .ref ed, .int 0])), (lp, .inr (1, [.int 0, .ref ed, .int 0]))] [(mo, .inr (10, [.int x9, .ref mr, .int 1, .long s9]))] [])) (va_Qi (fun (r : Int32) (_ : Unit) => r = (-1)) (fun (_ : Unit) (t : State) => va_P (dC, dI) vwCl [(mo, .inr (10, [.int 0, .ref mr, .int 1, .long s9]))] t.heap ∧ va_D (va_A [(mo, .inr (10, [.int x9, .ref mr, .int 1, .long s9]))] sz) [(mo, .inr (10, [.int 0, .ref mr, .int 1, .long s9]))] ∧ va_K (dC, dI) vwCl [] t) (va_A [(mo, .inr (10, [.int x9, .ref mr, .int 1, .long s9]))] sz)) 0 0 (va_A [(mo, .inr (10, [.int x9, .ref mr, .int 1, .long s9]))] sz) := by
  refine Met.ofW (cc := cX8_bestHint) (maxL := 1) (ret := (some .int)) (by decide) rfl ?_
  intro p e s m args below meth c s₁ B hml hv
  obtain ⟨rfl, hsz, hR0, hP, hK, hD0, hN, hH, hX0⟩ := hv
  have hx := B.exec
  have hb := B.bytes
  have hr := B.returns
  have hts := atoms_spec (ws := wsX8_bestHint) B.pre
  have hown : s.vm.findClass RX8 = some m.cls := findClass_of_methodNamed B.named
  have hlocks := B.notSynchronized
  subst hsz
  have hD := hD0.self (sz := s.heap.size)
  have hAr := zx_A hX0 hR0
  generalize hAe : va_A [(mo, .inr (10, [.int x9, .ref mr, .int 1, .long s9]))] s.heap.size = A at hD hAr hH ⊢
  have hA : ∀ q : Nat, s.heap.size ≤ q → A q := fun q h => by rw [← hAe]; exact Or.inr h
  have hS : va_S A s.heap s.heap [] := va_S.rf
  have hl := lv_entry ([.ref mo]) (n := 1) (Nat.le_of_ble_eq_true rfl)
  rw [lg_entry_eq]
  generalize (lg_sl ([.ref mo]) ++ List.replicate (1 - (lg_sl ([.ref mo])).length) Slot.unset).toArray = ls at hl ⊢
  have hl : lv_has ls 1 [(0, .ref mo)] := hl
  refine lv_aload_n hx hb dX8_bestHint_0 rfl (lv_at hl 0 rfl) ?_
  refine lv_iconst (v := 0) hx hb dX8_bestHint_1 (by decide) ?_
  refine va_put (D := (dC, dI)) (ci := 10) (v := .int 0) (ty := .int) (C := RX8) (T := TX8) (N := 4) hx hb hts zi_X8_bestHint_X8 tyX8 tyX8_ok nmX8 hown hK hP hD hS 0 rfl rfl 0 (by decide) (hts (.fieldLink RX8 20 "LockRoomsModel" "thrown" "I") (by decide +kernel)) (fun _ h9 => h9) rfl (by decide +kernel) rfl rfl (Nat.le_of_ble_eq_true rfl) dX8_bestHint_2 (fun H1 locs hP hD hS => ?_)
  have hP : va_P (dC, dI) vwCl [(mo, .inr (10, [.int 0, .ref mr, .int 1, .long s9]))] H1 := hP
  have hD : va_D A [(mo, .inr (10, [.int 0, .ref mr, .int 1, .long s9]))] := hD
  refine lv_aload_n hx hb dX8_bestHint_5 rfl (lv_at hl 0 rfl) ?_
  refine va_get (D := (dC, dI)) (ci := 10) (v := .ref mr) (C := RX8) (T := TX8) (N := 4) hx hb hts zi_X8_bestHint_X8 hown hK hP 0 rfl rfl 1 (by decide) (hts (.fieldLink RX8 10 "LockRoomsModel" "room" "LLockRoomsModel$Room;") (by decide +kernel)) (fun _ h9 => h9) rfl dX8_bestHint_6 ?_
  have hPr := ((zo_R hR0 hS hAr)).sub (ws' := [(mr, .inr (9, [.ref ll, .ref lt, .ref lp, .int (-1), .int 0, .int 0, .int 0, .int 0, .int 0, .int 0, .int (-1), .int 0, .int 0, .int 0])), (ll, .inr (1, [.int 0, .ref ed, .int 0])), (lt, .inr (1, [.int 0, .ref ed, .int 0])), (lp, .inr (1, [.int 0, .ref ed, .int 0]))]) [0, 1, 2, 3] rfl
  have hPc := hP.sub (ws' := []) [] rfl
  have hDc := hD.sub (ws' := []) [] (by decide) rfl
  have hKc := hK.sub (tys' := []) [] rfl
  have hFc := va_free (wc := []) hD hS hA [] rfl
  refine va_calli (va_runV (As := []) (rest := []) ⟨hx, hb, hml, hown, hts⟩ (cz_bestHint7 l dC dI ed H1.size mr ll lt lp) (cwV 0 hts gX8_bestHint_X7_bestHint rfl rfl rfl (by decide +kernel) ⟨Nat.le_of_ble_eq_true rfl, Nat.le_of_ble_eq_true rfl⟩) ⟨zb_blind, va_recv hK (zo_R hR0 hS hAr) (ci := 9) (q0 := 0) rfl rfl, fun U hU hW => ⟨rfl, zb_mk hU hW hPr hPc hKc hDc hN hH hS hFc zx_e⟩⟩ rfl rfl hl.1 rfl (lv_room (Nat.le_of_ble_eq_true rfl)) dX8_bestHint_9 ⟨Nat.le_of_ble_eq_true rfl, Nat.le_of_ble_eq_true rfl⟩) hS (fun q _ h => hFc q h) hFc (fun r3 u t H2 locs ht hvm hw hB hz1 hk1 hS => ?_)
  obtain rfl : r3 = (-1) := hw
  have hP := zo_K hP hk1
  refine W.widen (k := 0) (n := 0) (Nat.le_of_ble_eq_true rfl) (Nat.le_of_ble_eq_true rfl) ?_
  have hP9 := hP.sub (ws' := [(mo, .inr (10, [.int 0, .ref mr, .int 1, .long s9]))]) [0] rfl
  have hD9 := hD.sub (ws' := [(mo, .inr (10, [.int 0, .ref mr, .int 1, .long s9]))]) [0] (by decide) rfl
  have hK9 := hK.sub (tys' := []) [] rfl
  exact W.iret hx hb hr (fun t ht hW => ⟨⟨(-1), (), rfl, rfl, ⟨by rw [ht]; exact hP9, hD9, va_K.moved hW.alike hK9⟩⟩, hS.F ht⟩) hS.2.2 dX8_bestHint_12

set_option maxRecDepth 20000 in
theorem zi_X8_endsNow_X8 : ∀ w ∈ u_ws RX8 TX8 4, w ∈ wsX8_endsNow := by decide +kernel
set_option maxRecDepth 20000 in
theorem zi_X8_endsNow_X7 : ∀ w ∈ u_ws RX7 TX7 14, w ∈ wsX8_endsNow := by decide +kernel
set_option maxHeartbeats 4000000 in
set_option maxRecDepth 100000 in
theorem cz_endsNow (l : Launch) (dC : Nat → ClassId) (dI : Nat → Nat → Nat) (ed sz : Nat) (mo : Nat) (mr : Nat) (ll : Nat) (lt : Nat) (lp : Nat) (x9 : Int32) (s9 : Int64) : Met l yX8_endsNow wsX8_endsNow ({ frames := 6, cells := 7, slots := 35, locals := 115 } : Jvm.Room) (va_Pc [.ref mo] (zB dC dI ed sz [(mo, .inr (10, [.int x9, .ref mr, .int 1, .long s9])), (mr, .inr (9, [.ref ll, .ref lt, .ref lp, .int (-1), .int 0, .int 0, .int 0, .int 0, .int 0, .int 0, .int (-1), .int 0, .int 0, .int 0])), (ll, .inr (1, [.int 0, .ref ed, .int 0])), (lt, .inr (1, [.int 0, .ref ed, .int 0])), (lp, .inr (1, [.int 0, .ref ed, .int 0]))] [] [])) (va_Qi (fun (r : Int32) (_ : Unit) => r = (-1)) (fun (_ : Unit) (_ : State) => True) (va_A [] sz)) 7 35 (va_A [] sz) := by
  refine Met.ofW (cc := cX8_endsNow) (maxL := 2) (ret := (some .int)) (by decide) rfl ?_
  intro p e s m args below meth c s₁ B hml hv
  obtain ⟨rfl, hsz, hR0, hP, hK, hD0, hN, hH, hX0⟩ := hv
  have hx := B.exec
  have hb := B.bytes
  have hr := B.returns
  have hts := atoms_spec (ws := wsX8_endsNow) B.pre
  have hown : s.vm.findClass RX8 = some m.cls := findClass_of_methodNamed B.named
  have hlocks := B.notSynchronized
  subst hsz
  have hD := hD0.self (sz := s.heap.size)
  have hAr := zx_A hX0 hR0
  generalize hAe : va_A [] s.heap.size = A at hD hAr hH ⊢
  have hA : ∀ q : Nat, s.heap.size ≤ q → A q := fun q h => by rw [← hAe]; exact Or.inr h
  have hS : va_S A s.heap s.heap [] := va_S.rf
  have hl := lv_entry ([.ref mo]) (n := 2) (Nat.le_of_ble_eq_true rfl)
  rw [lg_entry_eq]
  generalize (lg_sl ([.ref mo]) ++ List.replicate (2 - (lg_sl ([.ref mo])).length) Slot.unset).toArray = ls at hl ⊢
  have hl : lv_has ls 2 [(0, .ref mo)] := hl
  refine lv_aload_n hx hb dX8_endsNow_0 rfl (lv_at hl 0 rfl) ?_
  refine va_get (D := (dC, dI)) (ci := 10) (v := .ref mr) (C := RX8) (T := TX8) (N := 4) hx hb hts zi_X8_endsNow_X8 hown hK hR0 0 rfl rfl 1 (by decide) (hts (.fieldLink RX8 10 "LockRoomsModel" "room" "LLockRoomsModel$Room;") (by decide +kernel)) (fun _ h9 => h9) rfl dX8_endsNow_1 ?_
  have hPr := (hR0).sub (ws' := [(mr, .inr (9, [.ref ll, .ref lt, .ref lp, .int (-1), .int 0, .int 0, .int 0, .int 0, .int 0, .int 0, .int (-1), .int 0, .int 0, .int 0])), (ll, .inr (1, [.int 0, .ref ed, .int 0])), (lt, .inr (1, [.int 0, .ref ed, .int 0])), (lp, .inr (1, [.int 0, .ref ed, .int 0]))]) [1, 2, 3, 4] rfl
  have hPc := hP.sub (ws' := []) [] rfl
  have hDc := hD.sub (ws' := []) [] (by decide) rfl
  have hKc := hK.sub (tys' := []) [] rfl
  have hFc := va_free (wc := []) hD hS hA [] rfl
  refine va_callr (va_runV (As := []) (rest := []) ⟨hx, hb, hml, hown, hts⟩ (cz_copy7 l dC dI ed s.heap.size mr ll lt lp) (cwV 0 hts gX8_endsNow_X7_copy rfl rfl rfl (by decide +kernel) ⟨Nat.le_of_ble_eq_true rfl, Nat.le_of_ble_eq_true rfl⟩) ⟨zb_blind, va_recv hK hR0 (ci := 9) (q0 := 1) rfl rfl, fun U hU hW => ⟨rfl, zb_mk hU hW hPr hPc hKc hDc hN hH hS hFc zx_e⟩⟩ rfl rfl hl.1 rfl (lv_room (Nat.le_of_ble_eq_true rfl)) dX8_endsNow_4 ⟨Nat.le_of_ble_eq_true rfl, Nat.le_of_ble_eq_true rfl⟩) hS (fun q _ h => hFc q h) hFc (fun u r2 t H1 locs ht hvm hw hB hz1 hk1 hS => ?_)
  obtain ⟨m1_3, m2_3, m3_3, hP1, hD1, hK1⟩ := hB
  rw [ht] at hP1
  obtain ⟨hP, hD⟩ := va_join (wr := []) (w1 := [(r2, .inr (9, [.ref m1_3, .ref m2_3, .ref m3_3, .int (-1), .int 0, .int 0, .int 0, .int 0, .int 0, .int 0, .int (-1), .int 0, .int 0, .int 0]))]) hP hD [] [] rfl rfl (by decide) (by decide) hk1 hFc hP1 hD1
  have hP : va_P (dC, dI) vwCl [(r2, .inr (9, [.ref m1_3, .ref m2_3, .ref m3_3, .int (-1), .int 0, .int 0, .int 0, .int 0, .int 0, .int 0, .int (-1), .int 0, .int 0, .int 0]))] H1 := hP
  have hD : va_D A [(r2, .inr (9, [.ref m1_3, .ref m2_3, .ref m3_3, .int (-1), .int 0, .int 0, .int 0, .int 0, .int 0, .int 0, .int (-1), .int 0, .int 0, .int 0]))] := hD
  refine lv_astore_n (lv' := [(1, .ref r2), (0, .ref mo)]) hx hb dX8_endsNow_7 rfl hl (by decide) rfl (fun ls hl => ?_)
  refine lv_aload_n hx hb dX8_endsNow_8 rfl (lv_at hl 0 rfl) ?_
  refine va_getN (D := (dC, dI)) (ci := 9) (v := .int 0) (C := RX7) (T := TX7) (N := 14) hx hb hts zi_X8_endsNow_X7 hown hK hP 0 rfl rfl 5 (by decide) (va_Nw.use rfl (hN.1 ("LockRoomsModel", 45, "LockRoomsModel$Room", "isRunning", "Z", "LockRoomsModel") (List.mem_of_getElem? (i := 6) rfl))) (fun _ h9 => h9) rfl dX8_endsNow_9 ?_
  refine lv_if_eq (tgt := 23) hx hb dX8_endsNow_12 (by decide) (fun _ => ?_) (fun h => absurd h (by decide))
  refine lv_aload_n hx hb dX8_endsNow_23 rfl (lv_at hl 0 rfl) ?_
  refine va_getN (D := (dC, dI)) (ci := 9) (v := .int 0) (C := RX7) (T := TX7) (N := 14) hx hb hts zi_X8_endsNow_X7 hown hK hP 0 rfl rfl 8 (by decide) (va_Nw.use rfl (hN.1 ("LockRoomsModel", 122, "LockRoomsModel$Room", "solved", "I", "LockRoomsModel") (List.mem_of_getElem? (i := 9) rfl))) (fun _ h9 => h9) rfl dX8_endsNow_24 ?_
  refine lv_if_le (tgt := 37) hx hb dX8_endsNow_27 (by decide) (fun _ => ?_) (fun h => absurd h (by decide))
  refine lv_iconst (v := (-1)) hx hb dX8_endsNow_37 (by decide) ?_
  refine W.widen (k := 7) (n := 35) (Nat.le_of_ble_eq_true rfl) (Nat.le_of_ble_eq_true rfl) ?_
  exact W.iret hx hb hr (fun t ht hW => ⟨⟨(-1), (), rfl, rfl, trivial⟩, hS.F ht⟩) hS.2.2 dX8_endsNow_38

set_option maxRecDepth 20000 in
theorem zi_X8_endsAt_X8 : ∀ w ∈ u_ws RX8 TX8 4, w ∈ wsX8_endsAt := by decide +kernel
set_option maxHeartbeats 4000000 in
set_option maxRecDepth 100000 in
theorem cz_X8_endsAt (l : Launch) (dC : Nat → ClassId) (dI : Nat → Nat → Nat) (ed sz : Nat) (mo : Nat) (mr : Nat) (ll : Nat) (lt : Nat) (lp : Nat) (x9 : Int32) (s9 : Int64) : Met l yX8_endsAt wsX8_endsAt ({ frames := 7, cells := 7, slots := 35, locals := 136 } : Jvm.Room) (va_Pc [.ref mo] (zB dC dI ed sz [(mr, .inr (9, [.ref ll, .ref lt, .ref lp, .int (-1), .int 0, .int 0, .int 0, .int 0, .int 0, .int 0, .int (-1), .int 0, .int 0, .int 0])), (ll, .inr (1, [.int 0, .ref ed, .int 0])), (lt, .inr (1, [.int 0, .ref ed, .int 0])), (lp, .inr (1, [.int 0, .ref ed, .int 0]))] [(mo, .inr (10, [.int x9, .ref mr, .int 1, .long s9]))] [])) (va_Qi (fun (r : Int32) (_ : Unit) => r = (-1)) (fun (_ : Unit) (t : State) => va_P (dC, dI) vwCl [(mo, .inr (10, [.int 0, .ref mr, .int 1, .long s9]))] t.heap ∧ va_D (va_A [(mo, .inr (10, [.int x9, .ref mr, .int 1, .long s9]))] sz) [(mo, .inr (10, [.int 0, .ref mr, .int 1, .long s9]))] ∧ va_K (dC, dI) vwCl [] t) (va_A [(mo, .inr (10, [.int x9, .ref mr, .int 1, .long s9]))] sz)) 7 35 (va_A [(mo, .inr (10, [.int x9, .ref mr, .int 1, .long s9]))] sz) := by
  refine Met.ofW (cc := cX8_endsAt) (maxL := 1) (ret := (some .int)) (by decide) rfl ?_
  intro p e s m args below meth c s₁ B hml hv
  obtain ⟨rfl, hsz, hR0, hP, hK, hD0, hN, hH, hX0⟩ := hv
  have hx := B.exec
  have hb := B.bytes
  have hr := B.returns
  have hts := atoms_spec (ws := wsX8_endsAt) B.pre
  have hown : s.vm.findClass RX8 = some m.cls := findClass_of_methodNamed B.named
  have hlocks := B.notSynchronized
  subst hsz
  have hD := hD0.self (sz := s.heap.size)
  have hAr := zx_A hX0 hR0
  generalize hAe : va_A [(mo, .inr (10, [.int x9, .ref mr, .int 1, .long s9]))] s.heap.size = A at hD hAr hH ⊢
  have hA : ∀ q : Nat, s.heap.size ≤ q → A q := fun q h => by rw [← hAe]; exact Or.inr h
  have hS : va_S A s.heap s.heap [] := va_S.rf
  have hl := lv_entry ([.ref mo]) (n := 1) (Nat.le_of_ble_eq_true rfl)
  rw [lg_entry_eq]
  generalize (lg_sl ([.ref mo]) ++ List.replicate (1 - (lg_sl ([.ref mo])).length) Slot.unset).toArray = ls at hl ⊢
  have hl : lv_has ls 1 [(0, .ref mo)] := hl
  refine lv_aload_n hx hb dX8_endsAt_0 rfl (lv_at hl 0 rfl) ?_
  refine lv_iconst (v := 0) hx hb dX8_endsAt_1 (by decide) ?_
  refine va_put (D := (dC, dI)) (ci := 10) (v := .int 0) (ty := .int) (C := RX8) (T := TX8) (N := 4) hx hb hts zi_X8_endsAt_X8 tyX8 tyX8_ok nmX8 hown hK hP hD hS 0 rfl rfl 0 (by decide) (hts (.fieldLink RX8 20 "LockRoomsModel" "thrown" "I") (by decide +kernel)) (fun _ h9 => h9) rfl (by decide +kernel) rfl rfl (Nat.le_of_ble_eq_true rfl) dX8_endsAt_2 (fun H1 locs hP hD hS => ?_)
  have hP : va_P (dC, dI) vwCl [(mo, .inr (10, [.int 0, .ref mr, .int 1, .long s9]))] H1 := hP
  have hD : va_D A [(mo, .inr (10, [.int 0, .ref mr, .int 1, .long s9]))] := hD
  refine lv_aload_n hx hb dX8_endsAt_5 rfl (lv_at hl 0 rfl) ?_
  have hPr := (show va_P (dC, dI) vwCl [(mo, .inr (10, [.int 0, .ref mr, .int 1, .long s9])), (mr, .inr (9, [.ref ll, .ref lt, .ref lp, .int (-1), .int 0, .int 0, .int 0, .int 0, .int 0, .int 0, .int (-1), .int 0, .int 0, .int 0])), (ll, .inr (1, [.int 0, .ref ed, .int 0])), (lt, .inr (1, [.int 0, .ref ed, .int 0])), (lp, .inr (1, [.int 0, .ref ed, .int 0]))] H1 from (zo_cons ((hP) 0 _ rfl) (zo_cons (((zo_R hR0 hS hAr)) 0 _ rfl) (zo_cons (((zo_R hR0 hS hAr)) 1 _ rfl) (zo_cons (((zo_R hR0 hS hAr)) 2 _ rfl) (zo_cons (((zo_R hR0 hS hAr)) 3 _ rfl) (zo_nil : va_P (dC, dI) vwCl [] H1)))))))
  have hPc := hP.sub (ws' := []) [] rfl
  have hDc := hD.sub (ws' := []) [] (by decide) rfl
  have hKc := hK.sub (tys' := []) [] rfl
  have hFc := va_free (wc := []) hD hS hA [] rfl
  refine va_calli (va_runV (As := []) (rest := []) ⟨hx, hb, hml, hown, hts⟩ (cz_endsNow l dC dI ed H1.size mo mr ll lt lp 0 s9) (cwV 0 hts gX8_endsAt_X8_endsNow rfl rfl rfl (by decide +kernel) ⟨Nat.le_of_ble_eq_true rfl, Nat.le_of_ble_eq_true rfl⟩) ⟨zb_blind, va_recv hK hP (ci := 10) (q0 := 0) rfl rfl, fun U hU hW => ⟨rfl, zb_mk hU hW hPr hPc hKc hDc hN hH hS hFc zx_e⟩⟩ rfl rfl hl.1 rfl (lv_room (Nat.le_of_ble_eq_true rfl)) dX8_endsAt_6 ⟨Nat.le_of_ble_eq_true rfl, Nat.le_of_ble_eq_true rfl⟩) hS (fun q _ h => hFc q h) hFc (fun r3 u t H2 locs ht hvm hw hB hz1 hk1 hS => ?_)
  obtain rfl : r3 = (-1) := hw
  have hP := zo_K hP hk1
  refine W.widen (k := 7) (n := 35) (Nat.le_of_ble_eq_true rfl) (Nat.le_of_ble_eq_true rfl) ?_
  have hP9 := hP.sub (ws' := [(mo, .inr (10, [.int 0, .ref mr, .int 1, .long s9]))]) [0] rfl
  have hD9 := hD.sub (ws' := [(mo, .inr (10, [.int 0, .ref mr, .int 1, .long s9]))]) [0] (by decide) rfl
  have hK9 := hK.sub (tys' := []) [] rfl
  exact W.iret hx hb hr (fun t ht hW => ⟨⟨(-1), (), rfl, rfl, ⟨by rw [ht]; exact hP9, hD9, va_K.moved hW.alike hK9⟩⟩, hS.F ht⟩) hS.2.2 dX8_endsAt_9


set_option maxHeartbeats 4000000 in
set_option maxRecDepth 100000 in
theorem cz_QX6_init (l : Launch) (dC : Nat → ClassId) (dI : Nat → Nat → Nat) (ed sz : Nat) (x : Nat) : Met l yX6_init wsX6_init ({ frames := 3, cells := 70, slots := 3537, locals := 53 } : Jvm.Room) (va_Pc [.ref x] (zB dC dI ed sz [] [(x, .inr (8, [.null, .null, .null]))] [])) (va_Qv (fun (_ : Unit) => True) (fun (_ : Unit) (t : State) => ∃ (rm : Nat), ∃ (tr : Nat), ∃ (st : Nat), ∃ (lk : Nat), ∃ (th : Nat), ∃ (pl : Nat), ∃ (gm : Nat), ∃ (cL : ClassId), ∃ (cT : ClassId), ∃ (fl : Nat → Option Nat), ∃ (ft : Nat → Option Nat), ∃ (l0 : Nat), ∃ (l1 : Nat), ∃ (t0 : Nat), ∃ (t1 : Nat), ∃ (t2 : Nat), ∃ (t3 : Nat), ∃ (t4 : Nat), ∃ (t5 : Nat), ∃ (t6 : Nat), ∃ (t7 : Nat), ∃ (t8 : Nat), ∃ (t9 : Nat), ∃ (a1 : Nat), ∃ (a2 : Nat), ∃ (a3 : Nat), ∃ (cZ : ClassId), ∃ (cI : ClassId), ∃ (cJ : ClassId), ∃ (f1 : Nat → Int32), ∃ (f2 : Nat → Int32), ∃ (f3 : Nat → Int32), (fl 0 = some l0 ∧ fl 1 = some l1 ∧ ft 0 = some t0 ∧ ft 1 = some t1 ∧ ft 2 = some t2 ∧ ft 3 = some t3 ∧ ft 4 = some t4 ∧ ft 5 = some t5 ∧ ft 6 = some t6 ∧ ft 7 = some t7 ∧ ft 8 = some t8 ∧ ft 9 = some t9) ∧ va_P (dC, dI) vwCl [(x, .inr (8, [.ref rm, .ref tr, .ref st])), (rm, .inr (5, [.ref lk, .ref th, .ref pl, .ref gm, .int 0, .int 0, .int 0, .int (-1), .int 1, .int 0, .int 0, .int 0])), (lk, .inl (cL, 10, .inr (.inr (.inr (.inr fl))))), (th, .inl (cT, 12, .inr (.inr (.inr (.inr ft))))), (gm, .inr (2, [.int 0, .int 0, .int 0, .int 0, .int 0, .int (-1), .long 0])), (l0, .inr (3, [.int 0, .int 0, .int 0, .int 0, .int 0, .int 0, .int 0, .int 0, .int 0, .int 0])), (l1, .inr (3, [.int 0, .int 0, .int 0, .int 0, .int 0, .int 0, .int 0, .int 0, .int 0, .int 0])), (t0, .inr (7, [.int 0, .int 0, .int 0, .int 0, .int 0])), (t1, .inr (7, [.int 0, .int 0, .int 0, .int 0, .int 0])), (t2, .inr (7, [.int 0, .int 0, .int 0, .int 0, .int 0])), (t3, .inr (7, [.int 0, .int 0, .int 0, .int 0, .int 0])), (t4, .inr (7, [.int 0, .int 0, .int 0, .int 0, .int 0])), (t5, .inr (7, [.int 0, .int 0, .int 0, .int 0, .int 0])), (t6, .inr (7, [.int 0, .int 0, .int 0, .int 0, .int 0])), (t7, .inr (7, [.int 0, .int 0, .int 0, .int 0, .int 0])), (t8, .inr (7, [.int 0, .int 0, .int 0, .int 0, .int 0])), (t9, .inr (7, [.int 0, .int 0, .int 0, .int 0, .int 0])), (st, .inr (6, [.ref a1, .ref a2, .ref a3])), (a1, .inl (cZ, 1024, .inl f1)), (a2, .inl (cI, 1024, .inl f2)), (a3, .inl (cJ, 1024, .inl f3))] t.heap ∧ va_D (va_A [(x, .inr (8, [.null, .null, .null]))] sz) [(x, .inr (8, [.ref rm, .ref tr, .ref st])), (rm, .inr (5, [.ref lk, .ref th, .ref pl, .ref gm, .int 0, .int 0, .int 0, .int (-1), .int 1, .int 0, .int 0, .int 0])), (lk, .inl (cL, 10, .inr (.inr (.inr (.inr fl))))), (th, .inl (cT, 12, .inr (.inr (.inr (.inr ft))))), (gm, .inr (2, [.int 0, .int 0, .int 0, .int 0, .int 0, .int (-1), .long 0])), (l0, .inr (3, [.int 0, .int 0, .int 0, .int 0, .int 0, .int 0, .int 0, .int 0, .int 0, .int 0])), (l1, .inr (3, [.int 0, .int 0, .int 0, .int 0, .int 0, .int 0, .int 0, .int 0, .int 0, .int 0])), (t0, .inr (7, [.int 0, .int 0, .int 0, .int 0, .int 0])), (t1, .inr (7, [.int 0, .int 0, .int 0, .int 0, .int 0])), (t2, .inr (7, [.int 0, .int 0, .int 0, .int 0, .int 0])), (t3, .inr (7, [.int 0, .int 0, .int 0, .int 0, .int 0])), (t4, .inr (7, [.int 0, .int 0, .int 0, .int 0, .int 0])), (t5, .inr (7, [.int 0, .int 0, .int 0, .int 0, .int 0])), (t6, .inr (7, [.int 0, .int 0, .int 0, .int 0, .int 0])), (t7, .inr (7, [.int 0, .int 0, .int 0, .int 0, .int 0])), (t8, .inr (7, [.int 0, .int 0, .int 0, .int 0, .int 0])), (t9, .inr (7, [.int 0, .int 0, .int 0, .int 0, .int 0])), (st, .inr (6, [.ref a1, .ref a2, .ref a3])), (a1, .inl (cZ, 1024, .inl f1)), (a2, .inl (cI, 1024, .inl f2)), (a3, .inl (cJ, 1024, .inl f3))] ∧ va_K (dC, dI) vwCl [(cL, .object "LockRooms$Lock"), (cT, .object "LockRooms$Thing"), (cZ, .boolean), (cI, .int), (cJ, .int)] t) (va_A [(x, .inr (8, [.null, .null, .null]))] sz)) 70 3537 (va_A [(x, .inr (8, [.null, .null, .null]))] sz) := by
  refine Met.ofW (cc := cX6_init) (maxL := 1) (ret := none) (by decide) rfl ?_
  intro p e s m args below meth c s₁ B hml hv
  obtain ⟨rfl, hsz, hR0, hP, hK, hD0, hN, hH, hX0⟩ := hv
  have hx := B.exec
  have hb := B.bytes
  have hr := B.returns
  have hts := atoms_spec (ws := wsX6_init) B.pre
  have hown : s.vm.findClass RX6 = some m.cls := findClass_of_methodNamed B.named
  have hlocks := B.notSynchronized
  have hin : meth.name = "<init>" := (name_of_methodNamed B.named B.method).1
  subst hsz
  have hD := hD0.self (sz := s.heap.size)
  have hAr := zx_A hX0 hR0
  generalize hAe : va_A [(x, .inr (8, [.null, .null, .null]))] s.heap.size = A at hD hAr hH ⊢
  have hA : ∀ q : Nat, s.heap.size ≤ q → A q := fun q h => by rw [← hAe]; exact Or.inr h
  have hS : va_S A s.heap s.heap [] := va_S.rf
  have hl := lv_entry ([.ref x]) (n := 1) (Nat.le_of_ble_eq_true rfl)
  rw [lg_entry_eq]
  generalize (lg_sl ([.ref x]) ++ List.replicate (1 - (lg_sl ([.ref x])).length) Slot.unset).toArray = ls at hl ⊢
  have hl : lv_has ls 1 [(0, .ref x)] := hl
  refine lv_aload_n hx hb dX6_init_0 rfl (lv_at hl 0 rfl) ?_
  refine W.objInit hx hb hown (hts (.methodLink RX6 3 objectInit) (by decide +kernel)) (hts (.instanceMethod objectInit) (by decide +kernel)) (hts (.code objectInit ⟨#[0xb1]⟩ 1 none) (by decide +kernel)) rfl (by rw [hml]; exact hl.1) rfl dX6_init_1 (Nat.le_of_ble_eq_true rfl) (Nat.le_of_ble_eq_true rfl) ?_
  refine W.eq (g2 := F0 m 4 ls []) rfl ?_
  refine lv_aload_n hx hb dX6_init_4 rfl (lv_at hl 0 rfl) ?_
  refine va_new (ci := 5) (fs := [.null, .null, .null, .null, .int 0, .int 0, .int 0, .int 0, .int 0, .int 0, .int 0, .int 0]) (C := RX3) (T := TX3) (N := 12) hx hb hts zi_X6_init_X3 tyX3 tyX3_ok hown (hts (.classLink RX6 9 RX3) (by decide +kernel)) (hts (.instantiable RX3 12) (by decide +kernel)) (hts (.initialized RX3) (by decide +kernel)) hK hP hD hS hA rfl (fun j hj => by rcases (show j = 0 ∨ j = 1 ∨ j = 2 ∨ j = 3 ∨ j = 4 ∨ j = 5 ∨ j = 6 ∨ j = 7 ∨ j = 8 ∨ j = 9 ∨ j = 10 ∨ j = 11 by omega) with rfl | rfl | rfl | rfl | rfl | rfl | rfl | rfl | rfl | rfl | rfl | rfl <;> rfl) (Nat.le_of_ble_eq_true rfl) (Nat.le_of_ble_eq_true rfl) dX6_init_5 (fun q1 H2 hP hD hS => ?_)
  have hP : va_P (dC, dI) vwCl [(x, .inr (8, [.null, .null, .null])), (q1, .inr (5, [.null, .null, .null, .null, .int 0, .int 0, .int 0, .int 0, .int 0, .int 0, .int 0, .int 0]))] H2 := hP
  have hD : va_D A [(x, .inr (8, [.null, .null, .null])), (q1, .inr (5, [.null, .null, .null, .null, .int 0, .int 0, .int 0, .int 0, .int 0, .int 0, .int 0, .int 0]))] := hD
  refine lv_dup hx hb dX6_init_8 rfl ?_
  have hPr := (zo_nil : va_P (dC, dI) vwCl [] H2)
  have hPc := hP.sub (ws' := [(q1, .inr (5, [.null, .null, .null, .null, .int 0, .int 0, .int 0, .int 0, .int 0, .int 0, .int 0, .int 0]))]) [1] rfl
  have hDc := hD.sub (ws' := [(q1, .inr (5, [.null, .null, .null, .null, .int 0, .int 0, .int 0, .int 0, .int 0, .int 0, .int 0, .int 0]))]) [1] (by decide) rfl
  have hKc := hK.sub (tys' := []) [] rfl
  have hFc := va_free (wc := [(q1, .inr (5, [.null, .null, .null, .null, .int 0, .int 0, .int 0, .int 0, .int 0, .int 0, .int 0, .int 0]))]) hD hS hA [1] rfl
  refine va_callv (va_runI (As := []) (rest := [.ref q1, .ref x]) ⟨hx, hb, hml, hown, hts⟩ (cz_QX3_init l dC dI ed H2.size q1) (cwI 0 hts gX6_init_X3_init rfl rfl rfl (hts (.initialized RX3) (by decide +kernel)) (hts (.methodLink RX6 11 yX3_init) (by decide +kernel)) (hts (.instanceMethod yX3_init) (by decide +kernel)) rfl (by decide +kernel) ⟨Nat.le_of_ble_eq_true rfl, Nat.le_of_ble_eq_true rfl⟩) ⟨zb_blind, fun U hU hW => ⟨rfl, zb_mk hU hW hPr hPc hKc hDc hN hH hS hFc zx_nil⟩⟩ rfl rfl hl.1 rfl (lv_room (Nat.le_of_ble_eq_true rfl)) dX6_init_9 ⟨Nat.le_of_ble_eq_true rfl, Nat.le_of_ble_eq_true rfl⟩) hS (fun q _ h => hFc q h) hFc (fun u t H3 locs ht hvm hw hB hz1 hk1 hS => ?_)
  obtain ⟨lk_5, th_5, pl_5, gm_5, cL_5, cT_5, fl_5, ft_5, l0_5, l1_5, t0_5, t1_5, t2_5, t3_5, t4_5, t5_5, t6_5, t7_5, t8_5, t9_5, ⟨k5_0, k5_1, k5_2, k5_3, k5_4, k5_5, k5_6, k5_7, k5_8, k5_9, k5_10, k5_11⟩, hP1, hD1, hK1⟩ := hB
  rw [ht] at hP1
  obtain ⟨hP, hD⟩ := va_join (wr := [(x, .inr (8, [.null, .null, .null]))]) (w1 := [(q1, .inr (5, [.ref lk_5, .ref th_5, .ref pl_5, .ref gm_5, .int 0, .int 0, .int 0, .int (-1), .int 1, .int 0, .int 0, .int 0])), (lk_5, .inl (cL_5, 10, .inr (.inr (.inr (.inr fl_5))))), (th_5, .inl (cT_5, 12, .inr (.inr (.inr (.inr ft_5))))), (gm_5, .inr (2, [.int 0, .int 0, .int 0, .int 0, .int 0, .int (-1), .long 0])), (l0_5, .inr (3, [.int 0, .int 0, .int 0, .int 0, .int 0, .int 0, .int 0, .int 0, .int 0, .int 0])), (l1_5, .inr (3, [.int 0, .int 0, .int 0, .int 0, .int 0, .int 0, .int 0, .int 0, .int 0, .int 0])), (t0_5, .inr (7, [.int 0, .int 0, .int 0, .int 0, .int 0])), (t1_5, .inr (7, [.int 0, .int 0, .int 0, .int 0, .int 0])), (t2_5, .inr (7, [.int 0, .int 0, .int 0, .int 0, .int 0])), (t3_5, .inr (7, [.int 0, .int 0, .int 0, .int 0, .int 0])), (t4_5, .inr (7, [.int 0, .int 0, .int 0, .int 0, .int 0])), (t5_5, .inr (7, [.int 0, .int 0, .int 0, .int 0, .int 0])), (t6_5, .inr (7, [.int 0, .int 0, .int 0, .int 0, .int 0])), (t7_5, .inr (7, [.int 0, .int 0, .int 0, .int 0, .int 0])), (t8_5, .inr (7, [.int 0, .int 0, .int 0, .int 0, .int 0])), (t9_5, .inr (7, [.int 0, .int 0, .int 0, .int 0, .int 0]))]) hP hD [1] [0] rfl rfl (by decide) (by decide) hk1 hFc hP1 hD1
  have hP : va_P (dC, dI) vwCl [(x, .inr (8, [.null, .null, .null])), (q1, .inr (5, [.ref lk_5, .ref th_5, .ref pl_5, .ref gm_5, .int 0, .int 0, .int 0, .int (-1), .int 1, .int 0, .int 0, .int 0])), (lk_5, .inl (cL_5, 10, .inr (.inr (.inr (.inr fl_5))))), (th_5, .inl (cT_5, 12, .inr (.inr (.inr (.inr ft_5))))), (gm_5, .inr (2, [.int 0, .int 0, .int 0, .int 0, .int 0, .int (-1), .long 0])), (l0_5, .inr (3, [.int 0, .int 0, .int 0, .int 0, .int 0, .int 0, .int 0, .int 0, .int 0, .int 0])), (l1_5, .inr (3, [.int 0, .int 0, .int 0, .int 0, .int 0, .int 0, .int 0, .int 0, .int 0, .int 0])), (t0_5, .inr (7, [.int 0, .int 0, .int 0, .int 0, .int 0])), (t1_5, .inr (7, [.int 0, .int 0, .int 0, .int 0, .int 0])), (t2_5, .inr (7, [.int 0, .int 0, .int 0, .int 0, .int 0])), (t3_5, .inr (7, [.int 0, .int 0, .int 0, .int 0, .int 0])), (t4_5, .inr (7, [.int 0, .int 0, .int 0, .int 0, .int 0])), (t5_5, .inr (7, [.int 0, .int 0, .int 0, .int 0, .int 0])), (t6_5, .inr (7, [.int 0, .int 0, .int 0, .int 0, .int 0])), (t7_5, .inr (7, [.int 0, .int 0, .int 0, .int 0, .int 0])), (t8_5, .inr (7, [.int 0, .int 0, .int 0, .int 0, .int 0])), (t9_5, .inr (7, [.int 0, .int 0, .int 0, .int 0, .int 0]))] H3 := hP
  have hD : va_D A [(x, .inr (8, [.null, .null, .null])), (q1, .inr (5, [.ref lk_5, .ref th_5, .ref pl_5, .ref gm_5, .int 0, .int 0, .int 0, .int (-1), .int 1, .int 0, .int 0, .int 0])), (lk_5, .inl (cL_5, 10, .inr (.inr (.inr (.inr fl_5))))), (th_5, .inl (cT_5, 12, .inr (.inr (.inr (.inr ft_5))))), (gm_5, .inr (2, [.int 0, .int 0, .int 0, .int 0, .int 0, .int (-1), .long 0])), (l0_5, .inr (3, [.int 0, .int 0, .int 0, .int 0, .int 0, .int 0, .int 0, .int 0, .int 0, .int 0])), (l1_5, .inr (3, [.int 0, .int 0, .int 0, .int 0, .int 0, .int 0, .int 0, .int 0, .int 0, .int 0])), (t0_5, .inr (7, [.int 0, .int 0, .int 0, .int 0, .int 0])), (t1_5, .inr (7, [.int 0, .int 0, .int 0, .int 0, .int 0])), (t2_5, .inr (7, [.int 0, .int 0, .int 0, .int 0, .int 0])), (t3_5, .inr (7, [.int 0, .int 0, .int 0, .int 0, .int 0])), (t4_5, .inr (7, [.int 0, .int 0, .int 0, .int 0, .int 0])), (t5_5, .inr (7, [.int 0, .int 0, .int 0, .int 0, .int 0])), (t6_5, .inr (7, [.int 0, .int 0, .int 0, .int 0, .int 0])), (t7_5, .inr (7, [.int 0, .int 0, .int 0, .int 0, .int 0])), (t8_5, .inr (7, [.int 0, .int 0, .int 0, .int 0, .int 0])), (t9_5, .inr (7, [.int 0, .int 0, .int 0, .int 0, .int 0]))] := hD
  have hK := hK.app (va_K.moved hvm.symm hK1)
  have hK : va_K (dC, dI) vwCl [(cL_5, .object "LockRooms$Lock"), (cT_5, .object "LockRooms$Thing")] s := hK
  refine va_putF (D := (dC, dI)) (ci := 8) (v := .ref q1) (ty := .object "LockRooms$Room") (C := RX6) (T := TX6) (N := 3) hx hb hts zi_X6_init_X6 tyX6 tyX6_ok nmX6 hown hK hP hD hS 0 rfl rfl 0 (by decide) (hts (.fieldLink RX6 12 "LockRooms" "room" "LLockRooms$Room;") (by decide +kernel)) (fun _ h9 => h9) rfl hin rfl (by decide +kernel) rfl rfl (Nat.le_of_ble_eq_true rfl) dX6_init_12 (fun H6 locs hP hD hS => ?_)
  have hP : va_P (dC, dI) vwCl [(x, .inr (8, [.ref q1, .null, .null])), (q1, .inr (5, [.ref lk_5, .ref th_5, .ref pl_5, .ref gm_5, .int 0, .int 0, .int 0, .int (-1), .int 1, .int 0, .int 0, .int 0])), (lk_5, .inl (cL_5, 10, .inr (.inr (.inr (.inr fl_5))))), (th_5, .inl (cT_5, 12, .inr (.inr (.inr (.inr ft_5))))), (gm_5, .inr (2, [.int 0, .int 0, .int 0, .int 0, .int 0, .int (-1), .long 0])), (l0_5, .inr (3, [.int 0, .int 0, .int 0, .int 0, .int 0, .int 0, .int 0, .int 0, .int 0, .int 0])), (l1_5, .inr (3, [.int 0, .int 0, .int 0, .int 0, .int 0, .int 0, .int 0, .int 0, .int 0, .int 0])), (t0_5, .inr (7, [.int 0, .int 0, .int 0, .int 0, .int 0])), (t1_5, .inr (7, [.int 0, .int 0, .int 0, .int 0, .int 0])), (t2_5, .inr (7, [.int 0, .int 0, .int 0, .int 0, .int 0])), (t3_5, .inr (7, [.int 0, .int 0, .int 0, .int 0, .int 0])), (t4_5, .inr (7, [.int 0, .int 0, .int 0, .int 0, .int 0])), (t5_5, .inr (7, [.int 0, .int 0, .int 0, .int 0, .int 0])), (t6_5, .inr (7, [.int 0, .int 0, .int 0, .int 0, .int 0])), (t7_5, .inr (7, [.int 0, .int 0, .int 0, .int 0, .int 0])), (t8_5, .inr (7, [.int 0, .int 0, .int 0, .int 0, .int 0])), (t9_5, .inr (7, [.int 0, .int 0, .int 0, .int 0, .int 0]))] H6 := hP
  have hD : va_D A [(x, .inr (8, [.ref q1, .null, .null])), (q1, .inr (5, [.ref lk_5, .ref th_5, .ref pl_5, .ref gm_5, .int 0, .int 0, .int 0, .int (-1), .int 1, .int 0, .int 0, .int 0])), (lk_5, .inl (cL_5, 10, .inr (.inr (.inr (.inr fl_5))))), (th_5, .inl (cT_5, 12, .inr (.inr (.inr (.inr ft_5))))), (gm_5, .inr (2, [.int 0, .int 0, .int 0, .int 0, .int 0, .int (-1), .long 0])), (l0_5, .inr (3, [.int 0, .int 0, .int 0, .int 0, .int 0, .int 0, .int 0, .int 0, .int 0, .int 0])), (l1_5, .inr (3, [.int 0, .int 0, .int 0, .int 0, .int 0, .int 0, .int 0, .int 0, .int 0, .int 0])), (t0_5, .inr (7, [.int 0, .int 0, .int 0, .int 0, .int 0])), (t1_5, .inr (7, [.int 0, .int 0, .int 0, .int 0, .int 0])), (t2_5, .inr (7, [.int 0, .int 0, .int 0, .int 0, .int 0])), (t3_5, .inr (7, [.int 0, .int 0, .int 0, .int 0, .int 0])), (t4_5, .inr (7, [.int 0, .int 0, .int 0, .int 0, .int 0])), (t5_5, .inr (7, [.int 0, .int 0, .int 0, .int 0, .int 0])), (t6_5, .inr (7, [.int 0, .int 0, .int 0, .int 0, .int 0])), (t7_5, .inr (7, [.int 0, .int 0, .int 0, .int 0, .int 0])), (t8_5, .inr (7, [.int 0, .int 0, .int 0, .int 0, .int 0])), (t9_5, .inr (7, [.int 0, .int 0, .int 0, .int 0, .int 0]))] := hD
  refine lv_aload_n hx hb dX6_init_15 rfl (lv_at hl 0 rfl) ?_
  refine va_new (ci := 5) (fs := [.null, .null, .null, .null, .int 0, .int 0, .int 0, .int 0, .int 0, .int 0, .int 0, .int 0]) (C := RX3) (T := TX3) (N := 12) hx hb hts zi_X6_init_X3 tyX3 tyX3_ok hown (hts (.classLink RX6 9 RX3) (by decide +kernel)) (hts (.instantiable RX3 12) (by decide +kernel)) (hts (.initialized RX3) (by decide +kernel)) hK hP hD hS hA rfl (fun j hj => by rcases (show j = 0 ∨ j = 1 ∨ j = 2 ∨ j = 3 ∨ j = 4 ∨ j = 5 ∨ j = 6 ∨ j = 7 ∨ j = 8 ∨ j = 9 ∨ j = 10 ∨ j = 11 by omega) with rfl | rfl | rfl | rfl | rfl | rfl | rfl | rfl | rfl | rfl | rfl | rfl <;> rfl) (Nat.le_of_ble_eq_true rfl) (Nat.le_of_ble_eq_true rfl) dX6_init_16 (fun q7 H8 hP hD hS => ?_)
  have hP : va_P (dC, dI) vwCl [(x, .inr (8, [.ref q1, .null, .null])), (q1, .inr (5, [.ref lk_5, .ref th_5, .ref pl_5, .ref gm_5, .int 0, .int 0, .int 0, .int (-1), .int 1, .int 0, .int 0, .int 0])), (lk_5, .inl (cL_5, 10, .inr (.inr (.inr (.inr fl_5))))), (th_5, .inl (cT_5, 12, .inr (.inr (.inr (.inr ft_5))))), (gm_5, .inr (2, [.int 0, .int 0, .int 0, .int 0, .int 0, .int (-1), .long 0])), (l0_5, .inr (3, [.int 0, .int 0, .int 0, .int 0, .int 0, .int 0, .int 0, .int 0, .int 0, .int 0])), (l1_5, .inr (3, [.int 0, .int 0, .int 0, .int 0, .int 0, .int 0, .int 0, .int 0, .int 0, .int 0])), (t0_5, .inr (7, [.int 0, .int 0, .int 0, .int 0, .int 0])), (t1_5, .inr (7, [.int 0, .int 0, .int 0, .int 0, .int 0])), (t2_5, .inr (7, [.int 0, .int 0, .int 0, .int 0, .int 0])), (t3_5, .inr (7, [.int 0, .int 0, .int 0, .int 0, .int 0])), (t4_5, .inr (7, [.int 0, .int 0, .int 0, .int 0, .int 0])), (t5_5, .inr (7, [.int 0, .int 0, .int 0, .int 0, .int 0])), (t6_5, .inr (7, [.int 0, .int 0, .int 0, .int 0, .int 0])), (t7_5, .inr (7, [.int 0, .int 0, .int 0, .int 0, .int 0])), (t8_5, .inr (7, [.int 0, .int 0, .int 0, .int 0, .int 0])), (t9_5, .inr (7, [.int 0, .int 0, .int 0, .int 0, .int 0])), (q7, .inr (5, [.null, .null, .null, .null, .int 0, .int 0, .int 0, .int 0, .int 0, .int 0, .int 0, .int 0]))] H8 := hP
  have hD : va_D A [(x, .inr (8, [.ref q1, .null, .null])), (q1, .inr (5, [.ref lk_5, .ref th_5, .ref pl_5, .ref gm_5, .int 0, .int 0, .int 0, .int (-1), .int 1, .int 0, .int 0, .int 0])), (lk_5, .inl (cL_5, 10, .inr (.inr (.inr (.inr fl_5))))), (th_5, .inl (cT_5, 12, .inr (.inr (.inr (.inr ft_5))))), (gm_5, .inr (2, [.int 0, .int 0, .int 0, .int 0, .int 0, .int (-1), .long 0])), (l0_5, .inr (3, [.int 0, .int 0, .int 0, .int 0, .int 0, .int 0, .int 0, .int 0, .int 0, .int 0])), (l1_5, .inr (3, [.int 0, .int 0, .int 0, .int 0, .int 0, .int 0, .int 0, .int 0, .int 0, .int 0])), (t0_5, .inr (7, [.int 0, .int 0, .int 0, .int 0, .int 0])), (t1_5, .inr (7, [.int 0, .int 0, .int 0, .int 0, .int 0])), (t2_5, .inr (7, [.int 0, .int 0, .int 0, .int 0, .int 0])), (t3_5, .inr (7, [.int 0, .int 0, .int 0, .int 0, .int 0])), (t4_5, .inr (7, [.int 0, .int 0, .int 0, .int 0, .int 0])), (t5_5, .inr (7, [.int 0, .int 0, .int 0, .int 0, .int 0])), (t6_5, .inr (7, [.int 0, .int 0, .int 0, .int 0, .int 0])), (t7_5, .inr (7, [.int 0, .int 0, .int 0, .int 0, .int 0])), (t8_5, .inr (7, [.int 0, .int 0, .int 0, .int 0, .int 0])), (t9_5, .inr (7, [.int 0, .int 0, .int 0, .int 0, .int 0])), (q7, .inr (5, [.null, .null, .null, .null, .int 0, .int 0, .int 0, .int 0, .int 0, .int 0, .int 0, .int 0]))] := hD
  refine lv_dup hx hb dX6_init_19 rfl ?_
  have hPr := (zo_nil : va_P (dC, dI) vwCl [] H8)
  have hPc := hP.sub (ws' := [(q7, .inr (5, [.null, .null, .null, .null, .int 0, .int 0, .int 0, .int 0, .int 0, .int 0, .int 0, .int 0]))]) [17] rfl
  have hDc := hD.sub (ws' := [(q7, .inr (5, [.null, .null, .null, .null, .int 0, .int 0, .int 0, .int 0, .int 0, .int 0, .int 0, .int 0]))]) [17] (by decide) rfl
  have hKc := hK.sub (tys' := []) [] rfl
  have hFc := va_free (wc := [(q7, .inr (5, [.null, .null, .null, .null, .int 0, .int 0, .int 0, .int 0, .int 0, .int 0, .int 0, .int 0]))]) hD hS hA [17] rfl
  refine va_callv (va_runI (As := []) (rest := [.ref q7, .ref x]) ⟨hx, hb, hml, hown, hts⟩ (cz_QX3_init l dC dI ed H8.size q7) (cwI 0 hts gX6_init_X3_init rfl rfl rfl (hts (.initialized RX3) (by decide +kernel)) (hts (.methodLink RX6 11 yX3_init) (by decide +kernel)) (hts (.instanceMethod yX3_init) (by decide +kernel)) rfl (by decide +kernel) ⟨Nat.le_of_ble_eq_true rfl, Nat.le_of_ble_eq_true rfl⟩) ⟨zb_blind, fun U hU hW => ⟨rfl, zb_mk hU hW hPr hPc hKc hDc hN hH hS hFc zx_nil⟩⟩ rfl rfl hl.1 rfl (lv_room (Nat.le_of_ble_eq_true rfl)) dX6_init_20 ⟨Nat.le_of_ble_eq_true rfl, Nat.le_of_ble_eq_true rfl⟩) hS (fun q _ h => hFc q h) hFc (fun u t H9 locs ht hvm hw hB hz1 hk1 hS => ?_)
  obtain ⟨lk_11, th_11, pl_11, gm_11, cL_11, cT_11, fl_11, ft_11, l0_11, l1_11, t0_11, t1_11, t2_11, t3_11, t4_11, t5_11, t6_11, t7_11, t8_11, t9_11, ⟨k11_0, k11_1, k11_2, k11_3, k11_4, k11_5, k11_6, k11_7, k11_8, k11_9, k11_10, k11_11⟩, hP1, hD1, hK1⟩ := hB
  rw [ht] at hP1
  obtain ⟨hP, hD⟩ := va_join (wr := [(x, .inr (8, [.ref q1, .null, .null])), (q1, .inr (5, [.ref lk_5, .ref th_5, .ref pl_5, .ref gm_5, .int 0, .int 0, .int 0, .int (-1), .int 1, .int 0, .int 0, .int 0])), (lk_5, .inl (cL_5, 10, .inr (.inr (.inr (.inr fl_5))))), (th_5, .inl (cT_5, 12, .inr (.inr (.inr (.inr ft_5))))), (gm_5, .inr (2, [.int 0, .int 0, .int 0, .int 0, .int 0, .int (-1), .long 0])), (l0_5, .inr (3, [.int 0, .int 0, .int 0, .int 0, .int 0, .int 0, .int 0, .int 0, .int 0, .int 0])), (l1_5, .inr (3, [.int 0, .int 0, .int 0, .int 0, .int 0, .int 0, .int 0, .int 0, .int 0, .int 0])), (t0_5, .inr (7, [.int 0, .int 0, .int 0, .int 0, .int 0])), (t1_5, .inr (7, [.int 0, .int 0, .int 0, .int 0, .int 0])), (t2_5, .inr (7, [.int 0, .int 0, .int 0, .int 0, .int 0])), (t3_5, .inr (7, [.int 0, .int 0, .int 0, .int 0, .int 0])), (t4_5, .inr (7, [.int 0, .int 0, .int 0, .int 0, .int 0])), (t5_5, .inr (7, [.int 0, .int 0, .int 0, .int 0, .int 0])), (t6_5, .inr (7, [.int 0, .int 0, .int 0, .int 0, .int 0])), (t7_5, .inr (7, [.int 0, .int 0, .int 0, .int 0, .int 0])), (t8_5, .inr (7, [.int 0, .int 0, .int 0, .int 0, .int 0])), (t9_5, .inr (7, [.int 0, .int 0, .int 0, .int 0, .int 0]))]) (w1 := [(q7, .inr (5, [.ref lk_11, .ref th_11, .ref pl_11, .ref gm_11, .int 0, .int 0, .int 0, .int (-1), .int 1, .int 0, .int 0, .int 0])), (lk_11, .inl (cL_11, 10, .inr (.inr (.inr (.inr fl_11))))), (th_11, .inl (cT_11, 12, .inr (.inr (.inr (.inr ft_11))))), (gm_11, .inr (2, [.int 0, .int 0, .int 0, .int 0, .int 0, .int (-1), .long 0])), (l0_11, .inr (3, [.int 0, .int 0, .int 0, .int 0, .int 0, .int 0, .int 0, .int 0, .int 0, .int 0])), (l1_11, .inr (3, [.int 0, .int 0, .int 0, .int 0, .int 0, .int 0, .int 0, .int 0, .int 0, .int 0])), (t0_11, .inr (7, [.int 0, .int 0, .int 0, .int 0, .int 0])), (t1_11, .inr (7, [.int 0, .int 0, .int 0, .int 0, .int 0])), (t2_11, .inr (7, [.int 0, .int 0, .int 0, .int 0, .int 0])), (t3_11, .inr (7, [.int 0, .int 0, .int 0, .int 0, .int 0])), (t4_11, .inr (7, [.int 0, .int 0, .int 0, .int 0, .int 0])), (t5_11, .inr (7, [.int 0, .int 0, .int 0, .int 0, .int 0])), (t6_11, .inr (7, [.int 0, .int 0, .int 0, .int 0, .int 0])), (t7_11, .inr (7, [.int 0, .int 0, .int 0, .int 0, .int 0])), (t8_11, .inr (7, [.int 0, .int 0, .int 0, .int 0, .int 0])), (t9_11, .inr (7, [.int 0, .int 0, .int 0, .int 0, .int 0]))]) hP hD [17] [0, 1, 2, 3, 4, 5, 6, 7, 8, 9, 10, 11, 12, 13, 14, 15, 16] rfl rfl (by decide) (by decide) hk1 hFc hP1 hD1
  have hP : va_P (dC, dI) vwCl [(x, .inr (8, [.ref q1, .null, .null])), (q1, .inr (5, [.ref lk_5, .ref th_5, .ref pl_5, .ref gm_5, .int 0, .int 0, .int 0, .int (-1), .int 1, .int 0, .int 0, .int 0])), (lk_5, .inl (cL_5, 10, .inr (.inr (.inr (.inr fl_5))))), (th_5, .inl (cT_5, 12, .inr (.inr (.inr (.inr ft_5))))), (gm_5, .inr (2, [.int 0, .int 0, .int 0, .int 0, .int 0, .int (-1), .long 0])), (l0_5, .inr (3, [.int 0, .int 0, .int 0, .int 0, .int 0, .int 0, .int 0, .int 0, .int 0, .int 0])), (l1_5, .inr (3, [.int 0, .int 0, .int 0, .int 0, .int 0, .int 0, .int 0, .int 0, .int 0, .int 0])), (t0_5, .inr (7, [.int 0, .int 0, .int 0, .int 0, .int 0])), (t1_5, .inr (7, [.int 0, .int 0, .int 0, .int 0, .int 0])), (t2_5, .inr (7, [.int 0, .int 0, .int 0, .int 0, .int 0])), (t3_5, .inr (7, [.int 0, .int 0, .int 0, .int 0, .int 0])), (t4_5, .inr (7, [.int 0, .int 0, .int 0, .int 0, .int 0])), (t5_5, .inr (7, [.int 0, .int 0, .int 0, .int 0, .int 0])), (t6_5, .inr (7, [.int 0, .int 0, .int 0, .int 0, .int 0])), (t7_5, .inr (7, [.int 0, .int 0, .int 0, .int 0, .int 0])), (t8_5, .inr (7, [.int 0, .int 0, .int 0, .int 0, .int 0])), (t9_5, .inr (7, [.int 0, .int 0, .int 0, .int 0, .int 0])), (q7, .inr (5, [.ref lk_11, .ref th_11, .ref pl_11, .ref gm_11, .int 0, .int 0, .int 0, .int (-1), .int 1, .int 0, .int 0, .int 0])), (lk_11, .inl (cL_11, 10, .inr (.inr (.inr (.inr fl_11))))), (th_11, .inl (cT_11, 12, .inr (.inr (.inr (.inr ft_11))))), (gm_11, .inr (2, [.int 0, .int 0, .int 0, .int 0, .int 0, .int (-1), .long 0])), (l0_11, .inr (3, [.int 0, .int 0, .int 0, .int 0, .int 0, .int 0, .int 0, .int 0, .int 0, .int 0])), (l1_11, .inr (3, [.int 0, .int 0, .int 0, .int 0, .int 0, .int 0, .int 0, .int 0, .int 0, .int 0])), (t0_11, .inr (7, [.int 0, .int 0, .int 0, .int 0, .int 0])), (t1_11, .inr (7, [.int 0, .int 0, .int 0, .int 0, .int 0])), (t2_11, .inr (7, [.int 0, .int 0, .int 0, .int 0, .int 0])), (t3_11, .inr (7, [.int 0, .int 0, .int 0, .int 0, .int 0])), (t4_11, .inr (7, [.int 0, .int 0, .int 0, .int 0, .int 0])), (t5_11, .inr (7, [.int 0, .int 0, .int 0, .int 0, .int 0])), (t6_11, .inr (7, [.int 0, .int 0, .int 0, .int 0, .int 0])), (t7_11, .inr (7, [.int 0, .int 0, .int 0, .int 0, .int 0])), (t8_11, .inr (7, [.int 0, .int 0, .int 0, .int 0, .int 0])), (t9_11, .inr (7, [.int 0, .int 0, .int 0, .int 0, .int 0]))] H9 := hP
  have hD : va_D A [(x, .inr (8, [.ref q1, .null, .null])), (q1, .inr (5, [.ref lk_5, .ref th_5, .ref pl_5, .ref gm_5, .int 0, .int 0, .int 0, .int (-1), .int 1, .int 0, .int 0, .int 0])), (lk_5, .inl (cL_5, 10, .inr (.inr (.inr (.inr fl_5))))), (th_5, .inl (cT_5, 12, .inr (.inr (.inr (.inr ft_5))))), (gm_5, .inr (2, [.int 0, .int 0, .int 0, .int 0, .int 0, .int (-1), .long 0])), (l0_5, .inr (3, [.int 0, .int 0, .int 0, .int 0, .int 0, .int 0, .int 0, .int 0, .int 0, .int 0])), (l1_5, .inr (3, [.int 0, .int 0, .int 0, .int 0, .int 0, .int 0, .int 0, .int 0, .int 0, .int 0])), (t0_5, .inr (7, [.int 0, .int 0, .int 0, .int 0, .int 0])), (t1_5, .inr (7, [.int 0, .int 0, .int 0, .int 0, .int 0])), (t2_5, .inr (7, [.int 0, .int 0, .int 0, .int 0, .int 0])), (t3_5, .inr (7, [.int 0, .int 0, .int 0, .int 0, .int 0])), (t4_5, .inr (7, [.int 0, .int 0, .int 0, .int 0, .int 0])), (t5_5, .inr (7, [.int 0, .int 0, .int 0, .int 0, .int 0])), (t6_5, .inr (7, [.int 0, .int 0, .int 0, .int 0, .int 0])), (t7_5, .inr (7, [.int 0, .int 0, .int 0, .int 0, .int 0])), (t8_5, .inr (7, [.int 0, .int 0, .int 0, .int 0, .int 0])), (t9_5, .inr (7, [.int 0, .int 0, .int 0, .int 0, .int 0])), (q7, .inr (5, [.ref lk_11, .ref th_11, .ref pl_11, .ref gm_11, .int 0, .int 0, .int 0, .int (-1), .int 1, .int 0, .int 0, .int 0])), (lk_11, .inl (cL_11, 10, .inr (.inr (.inr (.inr fl_11))))), (th_11, .inl (cT_11, 12, .inr (.inr (.inr (.inr ft_11))))), (gm_11, .inr (2, [.int 0, .int 0, .int 0, .int 0, .int 0, .int (-1), .long 0])), (l0_11, .inr (3, [.int 0, .int 0, .int 0, .int 0, .int 0, .int 0, .int 0, .int 0, .int 0, .int 0])), (l1_11, .inr (3, [.int 0, .int 0, .int 0, .int 0, .int 0, .int 0, .int 0, .int 0, .int 0, .int 0])), (t0_11, .inr (7, [.int 0, .int 0, .int 0, .int 0, .int 0])), (t1_11, .inr (7, [.int 0, .int 0, .int 0, .int 0, .int 0])), (t2_11, .inr (7, [.int 0, .int 0, .int 0, .int 0, .int 0])), (t3_11, .inr (7, [.int 0, .int 0, .int 0, .int 0, .int 0])), (t4_11, .inr (7, [.int 0, .int 0, .int 0, .int 0, .int 0])), (t5_11, .inr (7, [.int 0, .int 0, .int 0, .int 0, .int 0])), (t6_11, .inr (7, [.int 0, .int 0, .int 0, .int 0, .int 0])), (t7_11, .inr (7, [.int 0, .int 0, .int 0, .int 0, .int 0])), (t8_11, .inr (7, [.int 0, .int 0, .int 0, .int 0, .int 0])), (t9_11, .inr (7, [.int 0, .int 0, .int 0, .int 0, .int 0]))] := hD
  have hK := hK.app (va_K.moved hvm.symm hK1)
  have hK : va_K (dC, dI) vwCl [(cL_5, .object "LockRooms$Lock"), (cT_5, .object "LockRooms$Thing"), (cL_11, .object "LockRooms$Lock"), (cT_11, .object "LockRooms$Thing")] s := hK
  refine va_putF (D := (dC, dI)) (ci := 8) (v := .ref q7) (ty := .object "LockRooms$Room") (C := RX6) (T := TX6) (N := 3) hx hb hts zi_X6_init_X6 tyX6 tyX6_ok nmX6 hown hK hP hD hS 0 rfl rfl 1 (by decide) (hts (.fieldLink RX6 16 "LockRooms" "trial" "LLockRooms$Room;") (by decide +kernel)) (fun _ h9 => h9) rfl hin rfl (by decide +kernel) rfl rfl (Nat.le_of_ble_eq_true rfl) dX6_init_23 (fun H12 locs hP hD hS => ?_)
  have hP : va_P (dC, dI) vwCl [(x, .inr (8, [.ref q1, .ref q7, .null])), (q1, .inr (5, [.ref lk_5, .ref th_5, .ref pl_5, .ref gm_5, .int 0, .int 0, .int 0, .int (-1), .int 1, .int 0, .int 0, .int 0])), (lk_5, .inl (cL_5, 10, .inr (.inr (.inr (.inr fl_5))))), (th_5, .inl (cT_5, 12, .inr (.inr (.inr (.inr ft_5))))), (gm_5, .inr (2, [.int 0, .int 0, .int 0, .int 0, .int 0, .int (-1), .long 0])), (l0_5, .inr (3, [.int 0, .int 0, .int 0, .int 0, .int 0, .int 0, .int 0, .int 0, .int 0, .int 0])), (l1_5, .inr (3, [.int 0, .int 0, .int 0, .int 0, .int 0, .int 0, .int 0, .int 0, .int 0, .int 0])), (t0_5, .inr (7, [.int 0, .int 0, .int 0, .int 0, .int 0])), (t1_5, .inr (7, [.int 0, .int 0, .int 0, .int 0, .int 0])), (t2_5, .inr (7, [.int 0, .int 0, .int 0, .int 0, .int 0])), (t3_5, .inr (7, [.int 0, .int 0, .int 0, .int 0, .int 0])), (t4_5, .inr (7, [.int 0, .int 0, .int 0, .int 0, .int 0])), (t5_5, .inr (7, [.int 0, .int 0, .int 0, .int 0, .int 0])), (t6_5, .inr (7, [.int 0, .int 0, .int 0, .int 0, .int 0])), (t7_5, .inr (7, [.int 0, .int 0, .int 0, .int 0, .int 0])), (t8_5, .inr (7, [.int 0, .int 0, .int 0, .int 0, .int 0])), (t9_5, .inr (7, [.int 0, .int 0, .int 0, .int 0, .int 0])), (q7, .inr (5, [.ref lk_11, .ref th_11, .ref pl_11, .ref gm_11, .int 0, .int 0, .int 0, .int (-1), .int 1, .int 0, .int 0, .int 0])), (lk_11, .inl (cL_11, 10, .inr (.inr (.inr (.inr fl_11))))), (th_11, .inl (cT_11, 12, .inr (.inr (.inr (.inr ft_11))))), (gm_11, .inr (2, [.int 0, .int 0, .int 0, .int 0, .int 0, .int (-1), .long 0])), (l0_11, .inr (3, [.int 0, .int 0, .int 0, .int 0, .int 0, .int 0, .int 0, .int 0, .int 0, .int 0])), (l1_11, .inr (3, [.int 0, .int 0, .int 0, .int 0, .int 0, .int 0, .int 0, .int 0, .int 0, .int 0])), (t0_11, .inr (7, [.int 0, .int 0, .int 0, .int 0, .int 0])), (t1_11, .inr (7, [.int 0, .int 0, .int 0, .int 0, .int 0])), (t2_11, .inr (7, [.int 0, .int 0, .int 0, .int 0, .int 0])), (t3_11, .inr (7, [.int 0, .int 0, .int 0, .int 0, .int 0])), (t4_11, .inr (7, [.int 0, .int 0, .int 0, .int 0, .int 0])), (t5_11, .inr (7, [.int 0, .int 0, .int 0, .int 0, .int 0])), (t6_11, .inr (7, [.int 0, .int 0, .int 0, .int 0, .int 0])), (t7_11, .inr (7, [.int 0, .int 0, .int 0, .int 0, .int 0])), (t8_11, .inr (7, [.int 0, .int 0, .int 0, .int 0, .int 0])), (t9_11, .inr (7, [.int 0, .int 0, .int 0, .int 0, .int 0]))] H12 := hP
  have hD : va_D A [(x, .inr (8, [.ref q1, .ref q7, .null])), (q1, .inr (5, [.ref lk_5, .ref th_5, .ref pl_5, .ref gm_5, .int 0, .int 0, .int 0, .int (-1), .int 1, .int 0, .int 0, .int 0])), (lk_5, .inl (cL_5, 10, .inr (.inr (.inr (.inr fl_5))))), (th_5, .inl (cT_5, 12, .inr (.inr (.inr (.inr ft_5))))), (gm_5, .inr (2, [.int 0, .int 0, .int 0, .int 0, .int 0, .int (-1), .long 0])), (l0_5, .inr (3, [.int 0, .int 0, .int 0, .int 0, .int 0, .int 0, .int 0, .int 0, .int 0, .int 0])), (l1_5, .inr (3, [.int 0, .int 0, .int 0, .int 0, .int 0, .int 0, .int 0, .int 0, .int 0, .int 0])), (t0_5, .inr (7, [.int 0, .int 0, .int 0, .int 0, .int 0])), (t1_5, .inr (7, [.int 0, .int 0, .int 0, .int 0, .int 0])), (t2_5, .inr (7, [.int 0, .int 0, .int 0, .int 0, .int 0])), (t3_5, .inr (7, [.int 0, .int 0, .int 0, .int 0, .int 0])), (t4_5, .inr (7, [.int 0, .int 0, .int 0, .int 0, .int 0])), (t5_5, .inr (7, [.int 0, .int 0, .int 0, .int 0, .int 0])), (t6_5, .inr (7, [.int 0, .int 0, .int 0, .int 0, .int 0])), (t7_5, .inr (7, [.int 0, .int 0, .int 0, .int 0, .int 0])), (t8_5, .inr (7, [.int 0, .int 0, .int 0, .int 0, .int 0])), (t9_5, .inr (7, [.int 0, .int 0, .int 0, .int 0, .int 0])), (q7, .inr (5, [.ref lk_11, .ref th_11, .ref pl_11, .ref gm_11, .int 0, .int 0, .int 0, .int (-1), .int 1, .int 0, .int 0, .int 0])), (lk_11, .inl (cL_11, 10, .inr (.inr (.inr (.inr fl_11))))), (th_11, .inl (cT_11, 12, .inr (.inr (.inr (.inr ft_11))))), (gm_11, .inr (2, [.int 0, .int 0, .int 0, .int 0, .int 0, .int (-1), .long 0])), (l0_11, .inr (3, [.int 0, .int 0, .int 0, .int 0, .int 0, .int 0, .int 0, .int 0, .int 0, .int 0])), (l1_11, .inr (3, [.int 0, .int 0, .int 0, .int 0, .int 0, .int 0, .int 0, .int 0, .int 0, .int 0])), (t0_11, .inr (7, [.int 0, .int 0, .int 0, .int 0, .int 0])), (t1_11, .inr (7, [.int 0, .int 0, .int 0, .int 0, .int 0])), (t2_11, .inr (7, [.int 0, .int 0, .int 0, .int 0, .int 0])), (t3_11, .inr (7, [.int 0, .int 0, .int 0, .int 0, .int 0])), (t4_11, .inr (7, [.int 0, .int 0, .int 0, .int 0, .int 0])), (t5_11, .inr (7, [.int 0, .int 0, .int 0, .int 0, .int 0])), (t6_11, .inr (7, [.int 0, .int 0, .int 0, .int 0, .int 0])), (t7_11, .inr (7, [.int 0, .int 0, .int 0, .int 0, .int 0])), (t8_11, .inr (7, [.int 0, .int 0, .int 0, .int 0, .int 0])), (t9_11, .inr (7, [.int 0, .int 0, .int 0, .int 0, .int 0]))] := hD
  refine lv_aload_n hx hb dX6_init_26 rfl (lv_at hl 0 rfl) ?_
  refine va_new (ci := 6) (fs := [.null, .null, .null]) (C := RX4) (T := TX4) (N := 3) hx hb hts zi_X6_init_X4 tyX4 tyX4_ok hown (hts (.classLink RX6 19 RX4) (by decide +kernel)) (hts (.instantiable RX4 3) (by decide +kernel)) (hts (.initialized RX4) (by decide +kernel)) hK hP hD hS hA rfl (fun j hj => by rcases (show j = 0 ∨ j = 1 ∨ j = 2 by omega) with rfl | rfl | rfl <;> rfl) (Nat.le_of_ble_eq_true rfl) (Nat.le_of_ble_eq_true rfl) dX6_init_27 (fun q13 H14 hP hD hS => ?_)
  have hP : va_P (dC, dI) vwCl [(x, .inr (8, [.ref q1, .ref q7, .null])), (q1, .inr (5, [.ref lk_5, .ref th_5, .ref pl_5, .ref gm_5, .int 0, .int 0, .int 0, .int (-1), .int 1, .int 0, .int 0, .int 0])), (lk_5, .inl (cL_5, 10, .inr (.inr (.inr (.inr fl_5))))), (th_5, .inl (cT_5, 12, .inr (.inr (.inr (.inr ft_5))))), (gm_5, .inr (2, [.int 0, .int 0, .int 0, .int 0, .int 0, .int (-1), .long 0])), (l0_5, .inr (3, [.int 0, .int 0, .int 0, .int 0, .int 0, .int 0, .int 0, .int 0, .int 0, .int 0])), (l1_5, .inr (3, [.int 0, .int 0, .int 0, .int 0, .int 0, .int 0, .int 0, .int 0, .int 0, .int 0])), (t0_5, .inr (7, [.int 0, .int 0, .int 0, .int 0, .int 0])), (t1_5, .inr (7, [.int 0, .int 0, .int 0, .int 0, .int 0])), (t2_5, .inr (7, [.int 0, .int 0, .int 0, .int 0, .int 0])), (t3_5, .inr (7, [.int 0, .int 0, .int 0, .int 0, .int 0])), (t4_5, .inr (7, [.int 0, .int 0, .int 0, .int 0, .int 0])), (t5_5, .inr (7, [.int 0, .int 0, .int 0, .int 0, .int 0])), (t6_5, .inr (7, [.int 0, .int 0, .int 0, .int 0, .int 0])), (t7_5, .inr (7, [.int 0, .int 0, .int 0, .int 0, .int 0])), (t8_5, .inr (7, [.int 0, .int 0, .int 0, .int 0, .int 0])), (t9_5, .inr (7, [.int 0, .int 0, .int 0, .int 0, .int 0])), (q7, .inr (5, [.ref lk_11, .ref th_11, .ref pl_11, .ref gm_11, .int 0, .int 0, .int 0, .int (-1), .int 1, .int 0, .int 0, .int 0])), (lk_11, .inl (cL_11, 10, .inr (.inr (.inr (.inr fl_11))))), (th_11, .inl (cT_11, 12, .inr (.inr (.inr (.inr ft_11))))), (gm_11, .inr (2, [.int 0, .int 0, .int 0, .int 0, .int 0, .int (-1), .long 0])), (l0_11, .inr (3, [.int 0, .int 0, .int 0, .int 0, .int 0, .int 0, .int 0, .int 0, .int 0, .int 0])), (l1_11, .inr (3, [.int 0, .int 0, .int 0, .int 0, .int 0, .int 0, .int 0, .int 0, .int 0, .int 0])), (t0_11, .inr (7, [.int 0, .int 0, .int 0, .int 0, .int 0])), (t1_11, .inr (7, [.int 0, .int 0, .int 0, .int 0, .int 0])), (t2_11, .inr (7, [.int 0, .int 0, .int 0, .int 0, .int 0])), (t3_11, .inr (7, [.int 0, .int 0, .int 0, .int 0, .int 0])), (t4_11, .inr (7, [.int 0, .int 0, .int 0, .int 0, .int 0])), (t5_11, .inr (7, [.int 0, .int 0, .int 0, .int 0, .int 0])), (t6_11, .inr (7, [.int 0, .int 0, .int 0, .int 0, .int 0])), (t7_11, .inr (7, [.int 0, .int 0, .int 0, .int 0, .int 0])), (t8_11, .inr (7, [.int 0, .int 0, .int 0, .int 0, .int 0])), (t9_11, .inr (7, [.int 0, .int 0, .int 0, .int 0, .int 0])), (q13, .inr (6, [.null, .null, .null]))] H14 := hP
  have hD : va_D A [(x, .inr (8, [.ref q1, .ref q7, .null])), (q1, .inr (5, [.ref lk_5, .ref th_5, .ref pl_5, .ref gm_5, .int 0, .int 0, .int 0, .int (-1), .int 1, .int 0, .int 0, .int 0])), (lk_5, .inl (cL_5, 10, .inr (.inr (.inr (.inr fl_5))))), (th_5, .inl (cT_5, 12, .inr (.inr (.inr (.inr ft_5))))), (gm_5, .inr (2, [.int 0, .int 0, .int 0, .int 0, .int 0, .int (-1), .long 0])), (l0_5, .inr (3, [.int 0, .int 0, .int 0, .int 0, .int 0, .int 0, .int 0, .int 0, .int 0, .int 0])), (l1_5, .inr (3, [.int 0, .int 0, .int 0, .int 0, .int 0, .int 0, .int 0, .int 0, .int 0, .int 0])), (t0_5, .inr (7, [.int 0, .int 0, .int 0, .int 0, .int 0])), (t1_5, .inr (7, [.int 0, .int 0, .int 0, .int 0, .int 0])), (t2_5, .inr (7, [.int 0, .int 0, .int 0, .int 0, .int 0])), (t3_5, .inr (7, [.int 0, .int 0, .int 0, .int 0, .int 0])), (t4_5, .inr (7, [.int 0, .int 0, .int 0, .int 0, .int 0])), (t5_5, .inr (7, [.int 0, .int 0, .int 0, .int 0, .int 0])), (t6_5, .inr (7, [.int 0, .int 0, .int 0, .int 0, .int 0])), (t7_5, .inr (7, [.int 0, .int 0, .int 0, .int 0, .int 0])), (t8_5, .inr (7, [.int 0, .int 0, .int 0, .int 0, .int 0])), (t9_5, .inr (7, [.int 0, .int 0, .int 0, .int 0, .int 0])), (q7, .inr (5, [.ref lk_11, .ref th_11, .ref pl_11, .ref gm_11, .int 0, .int 0, .int 0, .int (-1), .int 1, .int 0, .int 0, .int 0])), (lk_11, .inl (cL_11, 10, .inr (.inr (.inr (.inr fl_11))))), (th_11, .inl (cT_11, 12, .inr (.inr (.inr (.inr ft_11))))), (gm_11, .inr (2, [.int 0, .int 0, .int 0, .int 0, .int 0, .int (-1), .long 0])), (l0_11, .inr (3, [.int 0, .int 0, .int 0, .int 0, .int 0, .int 0, .int 0, .int 0, .int 0, .int 0])), (l1_11, .inr (3, [.int 0, .int 0, .int 0, .int 0, .int 0, .int 0, .int 0, .int 0, .int 0, .int 0])), (t0_11, .inr (7, [.int 0, .int 0, .int 0, .int 0, .int 0])), (t1_11, .inr (7, [.int 0, .int 0, .int 0, .int 0, .int 0])), (t2_11, .inr (7, [.int 0, .int 0, .int 0, .int 0, .int 0])), (t3_11, .inr (7, [.int 0, .int 0, .int 0, .int 0, .int 0])), (t4_11, .inr (7, [.int 0, .int 0, .int 0, .int 0, .int 0])), (t5_11, .inr (7, [.int 0, .int 0, .int 0, .int 0, .int 0])), (t6_11, .inr (7, [.int 0, .int 0, .int 0, .int 0, .int 0])), (t7_11, .inr (7, [.int 0, .int 0, .int 0, .int 0, .int 0])), (t8_11, .inr (7, [.int 0, .int 0, .int 0, .int 0, .int 0])), (t9_11, .inr (7, [.int 0, .int 0, .int 0, .int 0, .int 0])), (q13, .inr (6, [.null, .null, .null]))] := hD
  refine lv_dup hx hb dX6_init_30 rfl ?_
  have hPr := (zo_nil : va_P (dC, dI) vwCl [] H14)
  have hPc := hP.sub (ws' := [(q13, .inr (6, [.null, .null, .null]))]) [33] rfl
  have hDc := hD.sub (ws' := [(q13, .inr (6, [.null, .null, .null]))]) [33] (by decide) rfl
  have hKc := hK.sub (tys' := []) [] rfl
  have hFc := va_free (wc := [(q13, .inr (6, [.null, .null, .null]))]) hD hS hA [33] rfl
  refine va_callv (va_runIN (As := []) (rest := [.ref q13, .ref x]) ⟨hx, hb, hml, hown, hts⟩ (cz_X4_init l dC dI ed H14.size q13) ⟨(va_cnB 0 hts gX6_init_X4_init_n21 rfl rfl rfl (hN.2.1 ("LockRooms", 21, yX4_init, "LockRooms") (List.mem_of_getElem? (i := 4) rfl)) (hts (.initialized RX4) (by decide +kernel)) (by decide +kernel) ⟨Nat.le_of_ble_eq_true rfl, Nat.le_of_ble_eq_true rfl⟩), rfl, (hts (.instanceMethod yX4_init) (by decide +kernel))⟩ ⟨zb_blind, fun U hU hW => ⟨rfl, zb_mk hU hW hPr hPc hKc hDc hN hH hS hFc zx_nil⟩⟩ rfl rfl hl.1 rfl (lv_room (Nat.le_of_ble_eq_true rfl)) dX6_init_31 ⟨Nat.le_of_ble_eq_true rfl, Nat.le_of_ble_eq_true rfl⟩) hS (fun q _ h => hFc q h) hFc (fun u t H15 locs ht hvm hw hB hz1 hk1 hS => ?_)
  obtain ⟨a1_17, a2_17, a3_17, cZ_17, cI_17, cJ_17, f1_17, f2_17, f3_17, hP1, hD1, hK1⟩ := hB
  rw [ht] at hP1
  obtain ⟨hP, hD⟩ := va_join (wr := [(x, .inr (8, [.ref q1, .ref q7, .null])), (q1, .inr (5, [.ref lk_5, .ref th_5, .ref pl_5, .ref gm_5, .int 0, .int 0, .int 0, .int (-1), .int 1, .int 0, .int 0, .int 0])), (lk_5, .inl (cL_5, 10, .inr (.inr (.inr (.inr fl_5))))), (th_5, .inl (cT_5, 12, .inr (.inr (.inr (.inr ft_5))))), (gm_5, .inr (2, [.int 0, .int 0, .int 0, .int 0, .int 0, .int (-1), .long 0])), (l0_5, .inr (3, [.int 0, .int 0, .int 0, .int 0, .int 0, .int 0, .int 0, .int 0, .int 0, .int 0])), (l1_5, .inr (3, [.int 0, .int 0, .int 0, .int 0, .int 0, .int 0, .int 0, .int 0, .int 0, .int 0])), (t0_5, .inr (7, [.int 0, .int 0, .int 0, .int 0, .int 0])), (t1_5, .inr (7, [.int 0, .int 0, .int 0, .int 0, .int 0])), (t2_5, .inr (7, [.int 0, .int 0, .int 0, .int 0, .int 0])), (t3_5, .inr (7, [.int 0, .int 0, .int 0, .int 0, .int 0])), (t4_5, .inr (7, [.int 0, .int 0, .int 0, .int 0, .int 0])), (t5_5, .inr (7, [.int 0, .int 0, .int 0, .int 0, .int 0])), (t6_5, .inr (7, [.int 0, .int 0, .int 0, .int 0, .int 0])), (t7_5, .inr (7, [.int 0, .int 0, .int 0, .int 0, .int 0])), (t8_5, .inr (7, [.int 0, .int 0, .int 0, .int 0, .int 0])), (t9_5, .inr (7, [.int 0, .int 0, .int 0, .int 0, .int 0])), (q7, .inr (5, [.ref lk_11, .ref th_11, .ref pl_11, .ref gm_11, .int 0, .int 0, .int 0, .int (-1), .int 1, .int 0, .int 0, .int 0])), (lk_11, .inl (cL_11, 10, .inr (.inr (.inr (.inr fl_11))))), (th_11, .inl (cT_11, 12, .inr (.inr (.inr (.inr ft_11))))), (gm_11, .inr (2, [.int 0, .int 0, .int 0, .int 0, .int 0, .int (-1), .long 0])), (l0_11, .inr (3, [.int 0, .int 0, .int 0, .int 0, .int 0, .int 0, .int 0, .int 0, .int 0, .int 0])), (l1_11, .inr (3, [.int 0, .int 0, .int 0, .int 0, .int 0, .int 0, .int 0, .int 0, .int 0, .int 0])), (t0_11, .inr (7, [.int 0, .int 0, .int 0, .int 0, .int 0])), (t1_11, .inr (7, [.int 0, .int 0, .int 0, .int 0, .int 0])), (t2_11, .inr (7, [.int 0, .int 0, .int 0, .int 0, .int 0])), (t3_11, .inr (7, [.int 0, .int 0, .int 0, .int 0, .int 0])), (t4_11, .inr (7, [.int 0, .int 0, .int 0, .int 0, .int 0])), (t5_11, .inr (7, [.int 0, .int 0, .int 0, .int 0, .int 0])), (t6_11, .inr (7, [.int 0, .int 0, .int 0, .int 0, .int 0])), (t7_11, .inr (7, [.int 0, .int 0, .int 0, .int 0, .int 0])), (t8_11, .inr (7, [.int 0, .int 0, .int 0, .int 0, .int 0])), (t9_11, .inr (7, [.int 0, .int 0, .int 0, .int 0, .int 0]))]) (w1 := [(q13, .inr (6, [.ref a1_17, .ref a2_17, .ref a3_17])), (a1_17, .inl (cZ_17, 1024, .inl f1_17)), (a2_17, .inl (cI_17, 1024, .inl f2_17)), (a3_17, .inl (cJ_17, 1024, .inl f3_17))]) hP hD [33] [0, 1, 2, 3, 4, 5, 6, 7, 8, 9, 10, 11, 12, 13, 14, 15, 16, 17, 18, 19, 20, 21, 22, 23, 24, 25, 26, 27, 28, 29, 30, 31, 32] rfl rfl (by decide) (by decide) hk1 hFc hP1 hD1
  have hP : va_P (dC, dI) vwCl [(x, .inr (8, [.ref q1, .ref q7, .null])), (q1, .inr (5, [.ref lk_5, .ref th_5, .ref pl_5, .ref gm_5, .int 0, .int 0, .int 0, .int (-1), .int 1, .int 0, .int 0, .int 0])), (lk_5, .inl (cL_5, 10, .inr (.inr (.inr (.inr fl_5))))), (th_5, .inl (cT_5, 12, .inr (.inr (.inr (.inr ft_5))))), (gm_5, .inr (2, [.int 0, .int 0, .int 0, .int 0, .int 0, .int (-1), .long 0])), (l0_5, .inr (3, [.int 0, .int 0, .int 0, .int 0, .int 0, .int 0, .int 0, .int 0, .int 0, .int 0])), (l1_5, .inr (3, [.int 0, .int 0, .int 0, .int 0, .int 0, .int 0, .int 0, .int 0, .int 0, .int 0])), (t0_5, .inr (7, [.int 0, .int 0, .int 0, .int 0, .int 0])), (t1_5, .inr (7, [.int 0, .int 0, .int 0, .int 0, .int 0])), (t2_5, .inr (7, [.int 0, .int 0, .int 0, .int 0, .int 0])), (t3_5, .inr (7, [.int 0, .int 0, .int 0, .int 0, .int 0])), (t4_5, .inr (7, [.int 0, .int 0, .int 0, .int 0, .int 0])), (t5_5, .inr (7, [.int 0, .int 0, .int 0, .int 0, .int 0])), (t6_5, .inr (7, [.int 0, .int 0, .int 0, .int 0, .int 0])), (t7_5, .inr (7, [.int 0, .int 0, .int 0, .int 0, .int 0])), (t8_5, .inr (7, [.int 0, .int 0, .int 0, .int 0, .int 0])), (t9_5, .inr (7, [.int 0, .int 0, .int 0, .int 0, .int 0])), (q7, .inr (5, [.ref lk_11, .ref th_11, .ref pl_11, .ref gm_11, .int 0, .int 0, .int 0, .int (-1), .int 1, .int 0, .int 0, .int 0])), (lk_11, .inl (cL_11, 10, .inr (.inr (.inr (.inr fl_11))))), (th_11, .inl (cT_11, 12, .inr (.inr (.inr (.inr ft_11))))), (gm_11, .inr (2, [.int 0, .int 0, .int 0, .int 0, .int 0, .int (-1), .long 0])), (l0_11, .inr (3, [.int 0, .int 0, .int 0, .int 0, .int 0, .int 0, .int 0, .int 0, .int 0, .int 0])), (l1_11, .inr (3, [.int 0, .int 0, .int 0, .int 0, .int 0, .int 0, .int 0, .int 0, .int 0, .int 0])), (t0_11, .inr (7, [.int 0, .int 0, .int 0, .int 0, .int 0])), (t1_11, .inr (7, [.int 0, .int 0, .int 0, .int 0, .int 0])), (t2_11, .inr (7, [.int 0, .int 0, .int 0, .int 0, .int 0])), (t3_11, .inr (7, [.int 0, .int 0, .int 0, .int 0, .int 0])), (t4_11, .inr (7, [.int 0, .int 0, .int 0, .int 0, .int 0])), (t5_11, .inr (7, [.int 0, .int 0, .int 0, .int 0, .int 0])), (t6_11, .inr (7, [.int 0, .int 0, .int 0, .int 0, .int 0])), (t7_11, .inr (7, [.int 0, .int 0, .int 0, .int 0, .int 0])), (t8_11, .inr (7, [.int 0, .int 0, .int 0, .int 0, .int 0])), (t9_11, .inr (7, [.int 0, .int 0, .int 0, .int 0, .int 0])), (q13, .inr (6, [.ref a1_17, .ref a2_17, .ref a3_17])), (a1_17, .inl (cZ_17, 1024, .inl f1_17)), (a2_17, .inl (cI_17, 1024, .inl f2_17)), (a3_17, .inl (cJ_17, 1024, .inl f3_17))] H15 := hP
  have hD : va_D A [(x, .inr (8, [.ref q1, .ref q7, .null])), (q1, .inr (5, [.ref lk_5, .ref th_5, .ref pl_5, .ref gm_5, .int 0, .int 0, .int 0, .int (-1), .int 1, .int 0, .int 0, .int 0])), (lk_5, .inl (cL_5, 10, .inr (.inr (.inr (.inr fl_5))))), (th_5, .inl (cT_5, 12, .inr (.inr (.inr (.inr ft_5))))), (gm_5, .inr (2, [.int 0, .int 0, .int 0, .int 0, .int 0, .int (-1), .long 0])), (l0_5, .inr (3, [.int 0, .int 0, .int 0, .int 0, .int 0, .int 0, .int 0, .int 0, .int 0, .int 0])), (l1_5, .inr (3, [.int 0, .int 0, .int 0, .int 0, .int 0, .int 0, .int 0, .int 0, .int 0, .int 0])), (t0_5, .inr (7, [.int 0, .int 0, .int 0, .int 0, .int 0])), (t1_5, .inr (7, [.int 0, .int 0, .int 0, .int 0, .int 0])), (t2_5, .inr (7, [.int 0, .int 0, .int 0, .int 0, .int 0])), (t3_5, .inr (7, [.int 0, .int 0, .int 0, .int 0, .int 0])), (t4_5, .inr (7, [.int 0, .int 0, .int 0, .int 0, .int 0])), (t5_5, .inr (7, [.int 0, .int 0, .int 0, .int 0, .int 0])), (t6_5, .inr (7, [.int 0, .int 0, .int 0, .int 0, .int 0])), (t7_5, .inr (7, [.int 0, .int 0, .int 0, .int 0, .int 0])), (t8_5, .inr (7, [.int 0, .int 0, .int 0, .int 0, .int 0])), (t9_5, .inr (7, [.int 0, .int 0, .int 0, .int 0, .int 0])), (q7, .inr (5, [.ref lk_11, .ref th_11, .ref pl_11, .ref gm_11, .int 0, .int 0, .int 0, .int (-1), .int 1, .int 0, .int 0, .int 0])), (lk_11, .inl (cL_11, 10, .inr (.inr (.inr (.inr fl_11))))), (th_11, .inl (cT_11, 12, .inr (.inr (.inr (.inr ft_11))))), (gm_11, .inr (2, [.int 0, .int 0, .int 0, .int 0, .int 0, .int (-1), .long 0])), (l0_11, .inr (3, [.int 0, .int 0, .int 0, .int 0, .int 0, .int 0, .int 0, .int 0, .int 0, .int 0])), (l1_11, .inr (3, [.int 0, .int 0, .int 0, .int 0, .int 0, .int 0, .int 0, .int 0, .int 0, .int 0])), (t0_11, .inr (7, [.int 0, .int 0, .int 0, .int 0, .int 0])), (t1_11, .inr (7, [.int 0, .int 0, .int 0, .int 0, .int 0])), (t2_11, .inr (7, [.int 0, .int 0, .int 0, .int 0, .int 0])), (t3_11, .inr (7, [.int 0, .int 0, .int 0, .int 0, .int 0])), (t4_11, .inr (7, [.int 0, .int 0, .int 0, .int 0, .int 0])), (t5_11, .inr (7, [.int 0, .int 0, .int 0, .int 0, .int 0])), (t6_11, .inr (7, [.int 0, .int 0, .int 0, .int 0, .int 0])), (t7_11, .inr (7, [.int 0, .int 0, .int 0, .int 0, .int 0])), (t8_11, .inr (7, [.int 0, .int 0, .int 0, .int 0, .int 0])), (t9_11, .inr (7, [.int 0, .int 0, .int 0, .int 0, .int 0])), (q13, .inr (6, [.ref a1_17, .ref a2_17, .ref a3_17])), (a1_17, .inl (cZ_17, 1024, .inl f1_17)), (a2_17, .inl (cI_17, 1024, .inl f2_17)), (a3_17, .inl (cJ_17, 1024, .inl f3_17))] := hD
  have hK := hK.app (va_K.moved hvm.symm hK1)
  have hK : va_K (dC, dI) vwCl [(cL_5, .object "LockRooms$Lock"), (cT_5, .object "LockRooms$Thing"), (cL_11, .object "LockRooms$Lock"), (cT_11, .object "LockRooms$Thing"), (cZ_17, .boolean), (cI_17, .int), (cJ_17, .int)] s := hK
  refine va_putF (D := (dC, dI)) (ci := 8) (v := .ref q13) (ty := .object "LockRooms$Stands") (C := RX6) (T := TX6) (N := 3) hx hb hts zi_X6_init_X6 tyX6 tyX6_ok nmX6 hown hK hP hD hS 0 rfl rfl 2 (by decide) (hts (.fieldLink RX6 22 "LockRooms" "future" "LLockRooms$Stands;") (by decide +kernel)) (fun _ h9 => h9) rfl hin rfl (by decide +kernel) rfl rfl (Nat.le_of_ble_eq_true rfl) dX6_init_34 (fun H18 locs hP hD hS => ?_)
  have hP : va_P (dC, dI) vwCl [(x, .inr (8, [.ref q1, .ref q7, .ref q13])), (q1, .inr (5, [.ref lk_5, .ref th_5, .ref pl_5, .ref gm_5, .int 0, .int 0, .int 0, .int (-1), .int 1, .int 0, .int 0, .int 0])), (lk_5, .inl (cL_5, 10, .inr (.inr (.inr (.inr fl_5))))), (th_5, .inl (cT_5, 12, .inr (.inr (.inr (.inr ft_5))))), (gm_5, .inr (2, [.int 0, .int 0, .int 0, .int 0, .int 0, .int (-1), .long 0])), (l0_5, .inr (3, [.int 0, .int 0, .int 0, .int 0, .int 0, .int 0, .int 0, .int 0, .int 0, .int 0])), (l1_5, .inr (3, [.int 0, .int 0, .int 0, .int 0, .int 0, .int 0, .int 0, .int 0, .int 0, .int 0])), (t0_5, .inr (7, [.int 0, .int 0, .int 0, .int 0, .int 0])), (t1_5, .inr (7, [.int 0, .int 0, .int 0, .int 0, .int 0])), (t2_5, .inr (7, [.int 0, .int 0, .int 0, .int 0, .int 0])), (t3_5, .inr (7, [.int 0, .int 0, .int 0, .int 0, .int 0])), (t4_5, .inr (7, [.int 0, .int 0, .int 0, .int 0, .int 0])), (t5_5, .inr (7, [.int 0, .int 0, .int 0, .int 0, .int 0])), (t6_5, .inr (7, [.int 0, .int 0, .int 0, .int 0, .int 0])), (t7_5, .inr (7, [.int 0, .int 0, .int 0, .int 0, .int 0])), (t8_5, .inr (7, [.int 0, .int 0, .int 0, .int 0, .int 0])), (t9_5, .inr (7, [.int 0, .int 0, .int 0, .int 0, .int 0])), (q7, .inr (5, [.ref lk_11, .ref th_11, .ref pl_11, .ref gm_11, .int 0, .int 0, .int 0, .int (-1), .int 1, .int 0, .int 0, .int 0])), (lk_11, .inl (cL_11, 10, .inr (.inr (.inr (.inr fl_11))))), (th_11, .inl (cT_11, 12, .inr (.inr (.inr (.inr ft_11))))), (gm_11, .inr (2, [.int 0, .int 0, .int 0, .int 0, .int 0, .int (-1), .long 0])), (l0_11, .inr (3, [.int 0, .int 0, .int 0, .int 0, .int 0, .int 0, .int 0, .int 0, .int 0, .int 0])), (l1_11, .inr (3, [.int 0, .int 0, .int 0, .int 0, .int 0, .int 0, .int 0, .int 0, .int 0, .int 0])), (t0_11, .inr (7, [.int 0, .int 0, .int 0, .int 0, .int 0])), (t1_11, .inr (7, [.int 0, .int 0, .int 0, .int 0, .int 0])), (t2_11, .inr (7, [.int 0, .int 0, .int 0, .int 0, .int 0])), (t3_11, .inr (7, [.int 0, .int 0, .int 0, .int 0, .int 0])), (t4_11, .inr (7, [.int 0, .int 0, .int 0, .int 0, .int 0])), (t5_11, .inr (7, [.int 0, .int 0, .int 0, .int 0, .int 0])), (t6_11, .inr (7, [.int 0, .int 0, .int 0, .int 0, .int 0])), (t7_11, .inr (7, [.int 0, .int 0, .int 0, .int 0, .int 0])), (t8_11, .inr (7, [.int 0, .int 0, .int 0, .int 0, .int 0])), (t9_11, .inr (7, [.int 0, .int 0, .int 0, .int 0, .int 0])), (q13, .inr (6, [.ref a1_17, .ref a2_17, .ref a3_17])), (a1_17, .inl (cZ_17, 1024, .inl f1_17)), (a2_17, .inl (cI_17, 1024, .inl f2_17)), (a3_17, .inl (cJ_17, 1024, .inl f3_17))] H18 := hP
  have hD : va_D A [(x, .inr (8, [.ref q1, .ref q7, .ref q13])), (q1, .inr (5, [.ref lk_5, .ref th_5, .ref pl_5, .ref gm_5, .int 0, .int 0, .int 0, .int (-1), .int 1, .int 0, .int 0, .int 0])), (lk_5, .inl (cL_5, 10, .inr (.inr (.inr (.inr fl_5))))), (th_5, .inl (cT_5, 12, .inr (.inr (.inr (.inr ft_5))))), (gm_5, .inr (2, [.int 0, .int 0, .int 0, .int 0, .int 0, .int (-1), .long 0])), (l0_5, .inr (3, [.int 0, .int 0, .int 0, .int 0, .int 0, .int 0, .int 0, .int 0, .int 0, .int 0])), (l1_5, .inr (3, [.int 0, .int 0, .int 0, .int 0, .int 0, .int 0, .int 0, .int 0, .int 0, .int 0])), (t0_5, .inr (7, [.int 0, .int 0, .int 0, .int 0, .int 0])), (t1_5, .inr (7, [.int 0, .int 0, .int 0, .int 0, .int 0])), (t2_5, .inr (7, [.int 0, .int 0, .int 0, .int 0, .int 0])), (t3_5, .inr (7, [.int 0, .int 0, .int 0, .int 0, .int 0])), (t4_5, .inr (7, [.int 0, .int 0, .int 0, .int 0, .int 0])), (t5_5, .inr (7, [.int 0, .int 0, .int 0, .int 0, .int 0])), (t6_5, .inr (7, [.int 0, .int 0, .int 0, .int 0, .int 0])), (t7_5, .inr (7, [.int 0, .int 0, .int 0, .int 0, .int 0])), (t8_5, .inr (7, [.int 0, .int 0, .int 0, .int 0, .int 0])), (t9_5, .inr (7, [.int 0, .int 0, .int 0, .int 0, .int 0])), (q7, .inr (5, [.ref lk_11, .ref th_11, .ref pl_11, .ref gm_11, .int 0, .int 0, .int 0, .int (-1), .int 1, .int 0, .int 0, .int 0])), (lk_11, .inl (cL_11, 10, .inr (.inr (.inr (.inr fl_11))))), (th_11, .inl (cT_11, 12, .inr (.inr (.inr (.inr ft_11))))), (gm_11, .inr (2, [.int 0, .int 0, .int 0, .int 0, .int 0, .int (-1), .long 0])), (l0_11, .inr (3, [.int 0, .int 0, .int 0, .int 0, .int 0, .int 0, .int 0, .int 0, .int 0, .int 0])), (l1_11, .inr (3, [.int 0, .int 0, .int 0, .int 0, .int 0, .int 0, .int 0, .int 0, .int 0, .int 0])), (t0_11, .inr (7, [.int 0, .int 0, .int 0, .int 0, .int 0])), (t1_11, .inr (7, [.int 0, .int 0, .int 0, .int 0, .int 0])), (t2_11, .inr (7, [.int 0, .int 0, .int 0, .int 0, .int 0])), (t3_11, .inr (7, [.int 0, .int 0, .int 0, .int 0, .int 0])), (t4_11, .inr (7, [.int 0, .int 0, .int 0, .int 0, .int 0])), (t5_11, .inr (7, [.int 0, .int 0, .int 0, .int 0, .int 0])), (t6_11, .inr (7, [.int 0, .int 0, .int 0, .int 0, .int 0])), (t7_11, .inr (7, [.int 0, .int 0, .int 0, .int 0, .int 0])), (t8_11, .inr (7, [.int 0, .int 0, .int 0, .int 0, .int 0])), (t9_11, .inr (7, [.int 0, .int 0, .int 0, .int 0, .int 0])), (q13, .inr (6, [.ref a1_17, .ref a2_17, .ref a3_17])), (a1_17, .inl (cZ_17, 1024, .inl f1_17)), (a2_17, .inl (cI_17, 1024, .inl f2_17)), (a3_17, .inl (cJ_17, 1024, .inl f3_17))] := hD
  refine W.widen (k := 70) (n := 3537) (Nat.le_of_ble_eq_true rfl) (Nat.le_of_ble_eq_true rfl) ?_
  have hP9 := hP.sub (ws' := [(x, .inr (8, [.ref q1, .ref q7, .ref q13])), (q1, .inr (5, [.ref lk_5, .ref th_5, .ref pl_5, .ref gm_5, .int 0, .int 0, .int 0, .int (-1), .int 1, .int 0, .int 0, .int 0])), (lk_5, .inl (cL_5, 10, .inr (.inr (.inr (.inr fl_5))))), (th_5, .inl (cT_5, 12, .inr (.inr (.inr (.inr ft_5))))), (gm_5, .inr (2, [.int 0, .int 0, .int 0, .int 0, .int 0, .int (-1), .long 0])), (l0_5, .inr (3, [.int 0, .int 0, .int 0, .int 0, .int 0, .int 0, .int 0, .int 0, .int 0, .int 0])), (l1_5, .inr (3, [.int 0, .int 0, .int 0, .int 0, .int 0, .int 0, .int 0, .int 0, .int 0, .int 0])), (t0_5, .inr (7, [.int 0, .int 0, .int 0, .int 0, .int 0])), (t1_5, .inr (7, [.int 0, .int 0, .int 0, .int 0, .int 0])), (t2_5, .inr (7, [.int 0, .int 0, .int 0, .int 0, .int 0])), (t3_5, .inr (7, [.int 0, .int 0, .int 0, .int 0, .int 0])), (t4_5, .inr (7, [.int 0, .int 0, .int 0, .int 0, .int 0])), (t5_5, .inr (7, [.int 0, .int 0, .int 0, .int 0, .int 0])), (t6_5, .inr (7, [.int 0, .int 0, .int 0, .int 0, .int 0])), (t7_5, .inr (7, [.int 0, .int 0, .int 0, .int 0, .int 0])), (t8_5, .inr (7, [.int 0, .int 0, .int 0, .int 0, .int 0])), (t9_5, .inr (7, [.int 0, .int 0, .int 0, .int 0, .int 0])), (q13, .inr (6, [.ref a1_17, .ref a2_17, .ref a3_17])), (a1_17, .inl (cZ_17, 1024, .inl f1_17)), (a2_17, .inl (cI_17, 1024, .inl f2_17)), (a3_17, .inl (cJ_17, 1024, .inl f3_17))]) [0, 1, 2, 3, 4, 5, 6, 7, 8, 9, 10, 11, 12, 13, 14, 15, 16, 33, 34, 35, 36] rfl
  have hD9 := hD.sub (ws' := [(x, .inr (8, [.ref q1, .ref q7, .ref q13])), (q1, .inr (5, [.ref lk_5, .ref th_5, .ref pl_5, .ref gm_5, .int 0, .int 0, .int 0, .int (-1), .int 1, .int 0, .int 0, .int 0])), (lk_5, .inl (cL_5, 10, .inr (.inr (.inr (.inr fl_5))))), (th_5, .inl (cT_5, 12, .inr (.inr (.inr (.inr ft_5))))), (gm_5, .inr (2, [.int 0, .int 0, .int 0, .int 0, .int 0, .int (-1), .long 0])), (l0_5, .inr (3, [.int 0, .int 0, .int 0, .int 0, .int 0, .int 0, .int 0, .int 0, .int 0, .int 0])), (l1_5, .inr (3, [.int 0, .int 0, .int 0, .int 0, .int 0, .int 0, .int 0, .int 0, .int 0, .int 0])), (t0_5, .inr (7, [.int 0, .int 0, .int 0, .int 0, .int 0])), (t1_5, .inr (7, [.int 0, .int 0, .int 0, .int 0, .int 0])), (t2_5, .inr (7, [.int 0, .int 0, .int 0, .int 0, .int 0])), (t3_5, .inr (7, [.int 0, .int 0, .int 0, .int 0, .int 0])), (t4_5, .inr (7, [.int 0, .int 0, .int 0, .int 0, .int 0])), (t5_5, .inr (7, [.int 0, .int 0, .int 0, .int 0, .int 0])), (t6_5, .inr (7, [.int 0, .int 0, .int 0, .int 0, .int 0])), (t7_5, .inr (7, [.int 0, .int 0, .int 0, .int 0, .int 0])), (t8_5, .inr (7, [.int 0, .int 0, .int 0, .int 0, .int 0])), (t9_5, .inr (7, [.int 0, .int 0, .int 0, .int 0, .int 0])), (q13, .inr (6, [.ref a1_17, .ref a2_17, .ref a3_17])), (a1_17, .inl (cZ_17, 1024, .inl f1_17)), (a2_17, .inl (cI_17, 1024, .inl f2_17)), (a3_17, .inl (cJ_17, 1024, .inl f3_17))]) [0, 1, 2, 3, 4, 5, 6, 7, 8, 9, 10, 11, 12, 13, 14, 15, 16, 33, 34, 35, 36] (by decide) rfl
  have hK9 := hK.sub (tys' := [(cL_5, .object "LockRooms$Lock"), (cT_5, .object "LockRooms$Thing"), (cZ_17, .boolean), (cI_17, .int), (cJ_17, .int)]) [0, 1, 4, 5, 6] rfl
  exact W.vret hx hb hr (fun t ht hW => ⟨⟨(), rfl, trivial, ⟨q1, q7, q13, lk_5, th_5, pl_5, gm_5, cL_5, cT_5, fl_5, ft_5, l0_5, l1_5, t0_5, t1_5, t2_5, t3_5, t4_5, t5_5, t6_5, t7_5, t8_5, t9_5, a1_17, a2_17, a3_17, cZ_17, cI_17, cJ_17, f1_17, f2_17, f3_17, ⟨k5_0, k5_1, k5_2, k5_3, k5_4, k5_5, k5_6, k5_7, k5_8, k5_9, k5_10, k5_11⟩, by rw [ht]; exact hP9, hD9, va_K.moved hW.alike hK9⟩⟩, hS.F ht⟩) hS.2.2 dX6_init_37
set_option maxHeartbeats 4000000 in
set_option maxRecDepth 100000 in
theorem cz_QaddLock_0 (l : Launch) (dC : Nat → ClassId) (dI : Nat → Nat → Nat) (ed sz : Nat) (lk : Nat) (cL : ClassId) (fl : Nat → Option Nat) (l0 : Nat) (rm : Nat) (th : Nat) (pl : Nat) (gm : Nat) (hkl0 : fl 0 = some l0) : Met l yX3_addLock wsX3_addLock ({ frames := 0, cells := 0, slots := 0, locals := 0 } : Jvm.Room) (va_Pc [.ref rm, .int 0, .int 0, .int 60, .int 0, .int 1] (zB dC dI ed sz [(lk, .inl (cL, 10, .inr (.inr (.inr (.inr fl)))))] [(rm, .inr (5, [.ref lk, .ref th, .ref pl, .ref gm, .int 0, .int 0, .int 0, .int (-1), .int 1, .int 0, .int 0, .int 0])), (l0, .inr (3, [.int 0, .int 0, .int 0, .int 0, .int 0, .int 0, .int 0, .int 0, .int 0, .int 0]))] [(cL, .object "LockRooms$Lock")])) (va_Qi (fun (r : Int32) (_ : Unit) => r = 0) (fun (_ : Unit) (t : State) => va_P (dC, dI) vwCl [(rm, .inr (5, [.ref lk, .ref th, .ref pl, .ref gm, .int 1, .int 0, .int 0, .int 0, .int 1, .int 0, .int 0, .int 0])), (l0, .inr (3, [.int 0, .int 0, .int 60, .int 0, .int 0, .int 0, .int 0, .int 0, .int 0, .int 0]))] t.heap ∧ va_D (va_A [(rm, .inr (5, [.ref lk, .ref th, .ref pl, .ref gm, .int 0, .int 0, .int 0, .int (-1), .int 1, .int 0, .int 0, .int 0])), (l0, .inr (3, [.int 0, .int 0, .int 0, .int 0, .int 0, .int 0, .int 0, .int 0, .int 0, .int 0]))] sz) [(rm, .inr (5, [.ref lk, .ref th, .ref pl, .ref gm, .int 1, .int 0, .int 0, .int 0, .int 1, .int 0, .int 0, .int 0])), (l0, .inr (3, [.int 0, .int 0, .int 60, .int 0, .int 0, .int 0, .int 0, .int 0, .int 0, .int 0]))] ∧ va_K (dC, dI) vwCl [] t) (va_A [(rm, .inr (5, [.ref lk, .ref th, .ref pl, .ref gm, .int 0, .int 0, .int 0, .int (-1), .int 1, .int 0, .int 0, .int 0])), (l0, .inr (3, [.int 0, .int 0, .int 0, .int 0, .int 0, .int 0, .int 0, .int 0, .int 0, .int 0]))] sz)) 0 0 (va_A [(rm, .inr (5, [.ref lk, .ref th, .ref pl, .ref gm, .int 0, .int 0, .int 0, .int (-1), .int 1, .int 0, .int 0, .int 0])), (l0, .inr (3, [.int 0, .int 0, .int 0, .int 0, .int 0, .int 0, .int 0, .int 0, .int 0, .int 0]))] sz) := by
  refine Met.ofW (cc := cX3_addLock) (maxL := 8) (ret := (some .int)) (by decide) rfl ?_
  intro p e s m args below meth c s₁ B hml hv
  obtain ⟨rfl, hsz, hR0, hP, hK, hD0, hN, hH, hX0⟩ := hv
  have hx := B.exec
  have hb := B.bytes
  have hr := B.returns
  have hts := atoms_spec (ws := wsX3_addLock) B.pre
  have hown : s.vm.findClass RX3 = some m.cls := findClass_of_methodNamed B.named
  have hlocks := B.notSynchronized
  subst hsz
  have hD := hD0.self (sz := s.heap.size)
  have hAr := zx_A hX0 hR0
  generalize hAe : va_A [(rm, .inr (5, [.ref lk, .ref th, .ref pl, .ref gm, .int 0, .int 0, .int 0, .int (-1), .int 1, .int 0, .int 0, .int 0])), (l0, .inr (3, [.int 0, .int 0, .int 0, .int 0, .int 0, .int 0, .int 0, .int 0, .int 0, .int 0]))] s.heap.size = A at hD hAr hH ⊢
  have hA : ∀ q : Nat, s.heap.size ≤ q → A q := fun q h => by rw [← hAe]; exact Or.inr h
  have hS : va_S A s.heap s.heap [] := va_S.rf
  have hl := lv_entry ([.ref rm, .int 0, .int 0, .int 60, .int 0, .int 1]) (n := 8) (Nat.le_of_ble_eq_true rfl)
  rw [lg_entry_eq]
  generalize (lg_sl ([.ref rm, .int 0, .int 0, .int 60, .int 0, .int 1]) ++ List.replicate (8 - (lg_sl ([.ref rm, .int 0, .int 0, .int 60, .int 0, .int 1])).length) Slot.unset).toArray = ls at hl ⊢
  have hl : lv_has ls 8 [(0, .ref rm), (1, .int 0), (2, .int 0), (3, .int 60), (4, .int 0), (5, .int 1)] := hl
  refine lv_aload_n hx hb dX3_addLock_0 rfl (lv_at hl 0 rfl) ?_
  refine va_get (D := (dC, dI)) (ci := 5) (v := .int 0) (C := RX3) (T := TX3) (N := 12) hx hb hts zi_X3_addLock_X3 hown hK hP 0 rfl rfl 4 (by decide) (hts (.fieldLink RX3 47 "LockRooms$Room" "lockCount" "I") (by decide +kernel)) (fun _ h9 => h9) rfl dX3_addLock_1 ?_
  refine lv_istore (lv' := [(6, .int 0), (0, .ref rm), (1, .int 0), (2, .int 0), (3, .int 60), (4, .int 0), (5, .int 1)]) hx hb dX3_addLock_4 hl (by decide) rfl (fun ls hl => ?_)
  refine lv_iload hx hb dX3_addLock_6 (lv_at hl 0 rfl) ?_
  refine lv_bipush (v := 10) hx hb dX3_addLock_8 (by decide) ?_
  refine lv_icmp_lt (tgt := 15) hx hb dX3_addLock_10 (by decide) (fun _ => ?_) (fun h => absurd h (by decide))
  refine lv_aload_n hx hb dX3_addLock_15 rfl (lv_at hl 1 rfl) ?_
  refine va_get (D := (dC, dI)) (ci := 5) (v := .ref lk) (C := RX3) (T := TX3) (N := 12) hx hb hts zi_X3_addLock_X3 hown hK hP 0 rfl rfl 0 (by decide) (hts (.fieldLink RX3 11 "LockRooms$Room" "locks" "[LLockRooms$Lock;") (by decide +kernel)) (fun _ h9 => h9) rfl dX3_addLock_16 ?_
  refine lv_iload hx hb dX3_addLock_19 (lv_at hl 0 rfl) ?_
  refine va_aldq hx hb hK hR0 0 0 rfl rfl (by unfold vp_in; decide) dX3_addLock_21 ?_
  refine zo_q (v := .ref l0) (by rw [show Int32.toNatClampNeg 0 = 0 from by decide, hkl0]; rfl) ?_
  refine lv_astore (lv' := [(7, .ref l0), (6, .int 0), (0, .ref rm), (1, .int 0), (2, .int 0), (3, .int 60), (4, .int 0), (5, .int 1)]) hx hb dX3_addLock_22 hl (by decide) rfl (fun ls hl => ?_)
  refine lv_aload hx hb dX3_addLock_24 (lv_at hl 0 rfl) ?_
  refine lv_iload_n hx hb dX3_addLock_26 rfl (lv_at hl 3 rfl) ?_
  refine va_put (D := (dC, dI)) (ci := 3) (v := .int 0) (ty := .int) (C := RX1) (T := TX1) (N := 10) hx hb hts zi_X3_addLock_X1 tyX1 tyX1_ok nmX1 hown hK hP hD hS 1 rfl rfl 0 (by decide) (hts (.fieldLink RX3 78 "LockRooms$Lock" "needs" "I") (by decide +kernel)) (fun _ h9 => h9) rfl (by decide +kernel) rfl rfl (Nat.le_of_ble_eq_true rfl) dX3_addLock_27 (fun H1 locs hP hD hS => ?_)
  have hP : va_P (dC, dI) vwCl [(rm, .inr (5, [.ref lk, .ref th, .ref pl, .ref gm, .int 0, .int 0, .int 0, .int (-1), .int 1, .int 0, .int 0, .int 0])), (l0, .inr (3, [.int 0, .int 0, .int 0, .int 0, .int 0, .int 0, .int 0, .int 0, .int 0, .int 0]))] H1 := hP
  have hD : va_D A [(rm, .inr (5, [.ref lk, .ref th, .ref pl, .ref gm, .int 0, .int 0, .int 0, .int (-1), .int 1, .int 0, .int 0, .int 0])), (l0, .inr (3, [.int 0, .int 0, .int 0, .int 0, .int 0, .int 0, .int 0, .int 0, .int 0, .int 0]))] := hD
  refine lv_aload hx hb dX3_addLock_30 (lv_at hl 0 rfl) ?_
  refine lv_iload_n hx hb dX3_addLock_32 rfl (lv_at hl 4 rfl) ?_
  refine va_put (D := (dC, dI)) (ci := 3) (v := .int 0) (ty := .int) (C := RX1) (T := TX1) (N := 10) hx hb hts zi_X3_addLock_X1 tyX1 tyX1_ok nmX1 hown hK hP hD hS 1 rfl rfl 1 (by decide) (hts (.fieldLink RX3 81 "LockRooms$Lock" "keeps" "I") (by decide +kernel)) (fun _ h9 => h9) rfl (by decide +kernel) rfl rfl (Nat.le_of_ble_eq_true rfl) dX3_addLock_33 (fun H2 locs hP hD hS => ?_)
  have hP : va_P (dC, dI) vwCl [(rm, .inr (5, [.ref lk, .ref th, .ref pl, .ref gm, .int 0, .int 0, .int 0, .int (-1), .int 1, .int 0, .int 0, .int 0])), (l0, .inr (3, [.int 0, .int 0, .int 0, .int 0, .int 0, .int 0, .int 0, .int 0, .int 0, .int 0]))] H2 := hP
  have hD : va_D A [(rm, .inr (5, [.ref lk, .ref th, .ref pl, .ref gm, .int 0, .int 0, .int 0, .int (-1), .int 1, .int 0, .int 0, .int 0])), (l0, .inr (3, [.int 0, .int 0, .int 0, .int 0, .int 0, .int 0, .int 0, .int 0, .int 0, .int 0]))] := hD
  refine lv_aload hx hb dX3_addLock_36 (lv_at hl 0 rfl) ?_
  refine lv_iload_n hx hb dX3_addLock_38 rfl (lv_at hl 5 rfl) ?_
  refine va_put (D := (dC, dI)) (ci := 3) (v := .int 60) (ty := .int) (C := RX1) (T := TX1) (N := 10) hx hb hts zi_X3_addLock_X1 tyX1 tyX1_ok nmX1 hown hK hP hD hS 1 rfl rfl 2 (by decide) (hts (.fieldLink RX3 84 "LockRooms$Lock" "hard" "I") (by decide +kernel)) (fun _ h9 => h9) rfl (by decide +kernel) rfl rfl (Nat.le_of_ble_eq_true rfl) dX3_addLock_39 (fun H3 locs hP hD hS => ?_)
  have hP : va_P (dC, dI) vwCl [(rm, .inr (5, [.ref lk, .ref th, .ref pl, .ref gm, .int 0, .int 0, .int 0, .int (-1), .int 1, .int 0, .int 0, .int 0])), (l0, .inr (3, [.int 0, .int 0, .int 60, .int 0, .int 0, .int 0, .int 0, .int 0, .int 0, .int 0]))] H3 := hP
  have hD : va_D A [(rm, .inr (5, [.ref lk, .ref th, .ref pl, .ref gm, .int 0, .int 0, .int 0, .int (-1), .int 1, .int 0, .int 0, .int 0])), (l0, .inr (3, [.int 0, .int 0, .int 60, .int 0, .int 0, .int 0, .int 0, .int 0, .int 0, .int 0]))] := hD
  refine lv_aload hx hb dX3_addLock_42 (lv_at hl 0 rfl) ?_
  refine lv_iload hx hb dX3_addLock_44 (lv_at hl 6 rfl) ?_
  refine va_put (D := (dC, dI)) (ci := 3) (v := .int 0) (ty := .boolean) (C := RX1) (T := TX1) (N := 10) hx hb hts zi_X3_addLock_X1 tyX1 tyX1_ok nmX1 hown hK hP hD hS 1 rfl rfl 3 (by decide) (hts (.fieldLink RX3 87 "LockRooms$Lock" "isMagnet" "Z") (by decide +kernel)) (fun _ h9 => h9) rfl (by decide +kernel) (by decide) (by decide) (Nat.le_of_ble_eq_true rfl) dX3_addLock_46 (fun H4 locs hP hD hS => ?_)
  have hP : va_P (dC, dI) vwCl [(rm, .inr (5, [.ref lk, .ref th, .ref pl, .ref gm, .int 0, .int 0, .int 0, .int (-1), .int 1, .int 0, .int 0, .int 0])), (l0, .inr (3, [.int 0, .int 0, .int 60, .int 0, .int 0, .int 0, .int 0, .int 0, .int 0, .int 0]))] H4 := hP
  have hD : va_D A [(rm, .inr (5, [.ref lk, .ref th, .ref pl, .ref gm, .int 0, .int 0, .int 0, .int (-1), .int 1, .int 0, .int 0, .int 0])), (l0, .inr (3, [.int 0, .int 0, .int 60, .int 0, .int 0, .int 0, .int 0, .int 0, .int 0, .int 0]))] := hD
  refine lv_iload hx hb dX3_addLock_49 (lv_at hl 7 rfl) ?_
  refine lv_if_eq (tgt := 60) hx hb dX3_addLock_51 (by decide) (fun h => absurd h (by decide)) (fun _ => ?_)
  refine lv_aload_n hx hb dX3_addLock_54 rfl (lv_at hl 2 rfl) ?_
  refine lv_iload hx hb dX3_addLock_55 (lv_at hl 1 rfl) ?_
  refine va_put (D := (dC, dI)) (ci := 5) (v := .int 0) (ty := .int) (C := RX3) (T := TX3) (N := 12) hx hb hts zi_X3_addLock_X3 tyX3 tyX3_ok nmX3 hown hK hP hD hS 0 rfl rfl 7 (by decide) (hts (.fieldLink RX3 36 "LockRooms$Room" "exit" "I") (by decide +kernel)) (fun _ h9 => h9) rfl (by decide +kernel) rfl rfl (Nat.le_of_ble_eq_true rfl) dX3_addLock_57 (fun H5 locs hP hD hS => ?_)
  have hP : va_P (dC, dI) vwCl [(rm, .inr (5, [.ref lk, .ref th, .ref pl, .ref gm, .int 0, .int 0, .int 0, .int 0, .int 1, .int 0, .int 0, .int 0])), (l0, .inr (3, [.int 0, .int 0, .int 60, .int 0, .int 0, .int 0, .int 0, .int 0, .int 0, .int 0]))] H5 := hP
  have hD : va_D A [(rm, .inr (5, [.ref lk, .ref th, .ref pl, .ref gm, .int 0, .int 0, .int 0, .int 0, .int 1, .int 0, .int 0, .int 0])), (l0, .inr (3, [.int 0, .int 0, .int 60, .int 0, .int 0, .int 0, .int 0, .int 0, .int 0, .int 0]))] := hD
  refine lv_aload_n hx hb dX3_addLock_60 rfl (lv_at hl 2 rfl) ?_
  refine lv_dup hx hb dX3_addLock_61 rfl ?_
  refine va_get (D := (dC, dI)) (ci := 5) (v := .int 0) (C := RX3) (T := TX3) (N := 12) hx hb hts zi_X3_addLock_X3 hown hK hP 0 rfl rfl 4 (by decide) (hts (.fieldLink RX3 47 "LockRooms$Room" "lockCount" "I") (by decide +kernel)) (fun _ h9 => h9) rfl dX3_addLock_62 ?_
  refine lv_iconst (v := 1) hx hb dX3_addLock_65 (by decide) ?_
  refine lv_iadd hx hb dX3_addLock_66 ?_
  refine zo_i (v := 1) (by decide) ?_
  refine va_put (D := (dC, dI)) (ci := 5) (v := .int 1) (ty := .int) (C := RX3) (T := TX3) (N := 12) hx hb hts zi_X3_addLock_X3 tyX3 tyX3_ok nmX3 hown hK hP hD hS 0 rfl rfl 4 (by decide) (hts (.fieldLink RX3 47 "LockRooms$Room" "lockCount" "I") (by decide +kernel)) (fun _ h9 => h9) rfl (by decide +kernel) rfl rfl (Nat.le_of_ble_eq_true rfl) dX3_addLock_67 (fun H6 locs hP hD hS => ?_)
  have hP : va_P (dC, dI) vwCl [(rm, .inr (5, [.ref lk, .ref th, .ref pl, .ref gm, .int 1, .int 0, .int 0, .int 0, .int 1, .int 0, .int 0, .int 0])), (l0, .inr (3, [.int 0, .int 0, .int 60, .int 0, .int 0, .int 0, .int 0, .int 0, .int 0, .int 0]))] H6 := hP
  have hD : va_D A [(rm, .inr (5, [.ref lk, .ref th, .ref pl, .ref gm, .int 1, .int 0, .int 0, .int 0, .int 1, .int 0, .int 0, .int 0])), (l0, .inr (3, [.int 0, .int 0, .int 60, .int 0, .int 0, .int 0, .int 0, .int 0, .int 0, .int 0]))] := hD
  refine lv_iload hx hb dX3_addLock_70 (lv_at hl 1 rfl) ?_
  refine W.widen (k := 0) (n := 0) (Nat.le_of_ble_eq_true rfl) (Nat.le_of_ble_eq_true rfl) ?_
  have hP9 := hP.sub (ws' := [(rm, .inr (5, [.ref lk, .ref th, .ref pl, .ref gm, .int 1, .int 0, .int 0, .int 0, .int 1, .int 0, .int 0, .int 0])), (l0, .inr (3, [.int 0, .int 0, .int 60, .int 0, .int 0, .int 0, .int 0, .int 0, .int 0, .int 0]))]) [0, 1] rfl
  have hD9 := hD.sub (ws' := [(rm, .inr (5, [.ref lk, .ref th, .ref pl, .ref gm, .int 1, .int 0, .int 0, .int 0, .int 1, .int 0, .int 0, .int 0])), (l0, .inr (3, [.int 0, .int 0, .int 60, .int 0, .int 0, .int 0, .int 0, .int 0, .int 0, .int 0]))]) [0, 1] (by decide) rfl
  have hK9 := hK.sub (tys' := []) [] rfl
  exact W.iret hx hb hr (fun t ht hW => ⟨⟨0, (), rfl, rfl, ⟨by rw [ht]; exact hP9, hD9, va_K.moved hW.alike hK9⟩⟩, hS.F ht⟩) hS.2.2 dX3_addLock_72
set_option maxHeartbeats 4000000 in
set_option maxRecDepth 100000 in
theorem cz_QX6_lock_0 (l : Launch) (dC : Nat → ClassId) (dI : Nat → Nat → Nat) (ed sz : Nat) (x : Nat) (rm : Nat) (tr : Nat) (st : Nat) (gm : Nat) (lk : Nat) (cL : ClassId) (fl : Nat → Option Nat) (l0 : Nat) (th : Nat) (pl : Nat) (hkl0 : fl 0 = some l0) : Met l yX6_lock wsX6_lock ({ frames := 1, cells := 0, slots := 0, locals := 27 } : Jvm.Room) (va_Pc [.ref x, .int 0, .int 0, .int 60, .int 0, .int 1] (zB dC dI ed sz [(x, .inr (8, [.ref rm, .ref tr, .ref st])), (gm, .inr (2, [.int 0, .int 0, .int 0, .int 0, .int 0, .int (-1), .long 0])), (lk, .inl (cL, 10, .inr (.inr (.inr (.inr fl)))))] [(rm, .inr (5, [.ref lk, .ref th, .ref pl, .ref gm, .int 0, .int 0, .int 0, .int (-1), .int 1, .int 0, .int 0, .int 0])), (l0, .inr (3, [.int 0, .int 0, .int 0, .int 0, .int 0, .int 0, .int 0, .int 0, .int 0, .int 0]))] [(cL, .object "LockRooms$Lock")])) (va_Qi (fun (r : Int32) (_ : Unit) => r = 0) (fun (_ : Unit) (t : State) => va_P (dC, dI) vwCl [(rm, .inr (5, [.ref lk, .ref th, .ref pl, .ref gm, .int 1, .int 0, .int 0, .int 0, .int 1, .int 0, .int 0, .int 0])), (l0, .inr (3, [.int 0, .int 0, .int 60, .int 0, .int 0, .int 0, .int 0, .int 0, .int 0, .int 0]))] t.heap ∧ va_D (va_A [(rm, .inr (5, [.ref lk, .ref th, .ref pl, .ref gm, .int 0, .int 0, .int 0, .int (-1), .int 1, .int 0, .int 0, .int 0])), (l0, .inr (3, [.int 0, .int 0, .int 0, .int 0, .int 0, .int 0, .int 0, .int 0, .int 0, .int 0]))] sz) [(rm, .inr (5, [.ref lk, .ref th, .ref pl, .ref gm, .int 1, .int 0, .int 0, .int 0, .int 1, .int 0, .int 0, .int 0])), (l0, .inr (3, [.int 0, .int 0, .int 60, .int 0, .int 0, .int 0, .int 0, .int 0, .int 0, .int 0]))] ∧ va_K (dC, dI) vwCl [] t) (va_A [(rm, .inr (5, [.ref lk, .ref th, .ref pl, .ref gm, .int 0, .int 0, .int 0, .int (-1), .int 1, .int 0, .int 0, .int 0])), (l0, .inr (3, [.int 0, .int 0, .int 0, .int 0, .int 0, .int 0, .int 0, .int 0, .int 0, .int 0]))] sz)) 0 0 (va_A [(rm, .inr (5, [.ref lk, .ref th, .ref pl, .ref gm, .int 0, .int 0, .int 0, .int (-1), .int 1, .int 0, .int 0, .int 0])), (l0, .inr (3, [.int 0, .int 0, .int 0, .int 0, .int 0, .int 0, .int 0, .int 0, .int 0, .int 0]))] sz) := by
  refine Met.ofW (cc := cX6_lock) (maxL := 6) (ret := (some .int)) (by decide) rfl ?_
  intro p e s m args below meth c s₁ B hml hv
  obtain ⟨rfl, hsz, hR0, hP, hK, hD0, hN, hH, hX0⟩ := hv
  have hx := B.exec
  have hb := B.bytes
  have hr := B.returns
  have hts := atoms_spec (ws := wsX6_lock) B.pre
  have hown : s.vm.findClass RX6 = some m.cls := findClass_of_methodNamed B.named
  have hlocks := B.notSynchronized
  subst hsz
  have hD := hD0.self (sz := s.heap.size)
  have hAr := zx_A hX0 hR0
  generalize hAe : va_A [(rm, .inr (5, [.ref lk, .ref th, .ref pl, .ref gm, .int 0, .int 0, .int 0, .int (-1), .int 1, .int 0, .int 0, .int 0])), (l0, .inr (3, [.int 0, .int 0, .int 0, .int 0, .int 0, .int 0, .int 0, .int 0, .int 0, .int 0]))] s.heap.size = A at hD hAr hH ⊢
  have hA : ∀ q : Nat, s.heap.size ≤ q → A q := fun q h => by rw [← hAe]; exact Or.inr h
  have hS : va_S A s.heap s.heap [] := va_S.rf
  have hl := lv_entry ([.ref x, .int 0, .int 0, .int 60, .int 0, .int 1]) (n := 6) (Nat.le_of_ble_eq_true rfl)
  rw [lg_entry_eq]
  generalize (lg_sl ([.ref x, .int 0, .int 0, .int 60, .int 0, .int 1]) ++ List.replicate (6 - (lg_sl ([.ref x, .int 0, .int 0, .int 60, .int 0, .int 1])).length) Slot.unset).toArray = ls at hl ⊢
  have hl : lv_has ls 6 [(0, .ref x), (1, .int 0), (2, .int 0), (3, .int 60), (4, .int 0), (5, .int 1)] := hl
  refine lv_iload_n hx hb dX6_lock_0 rfl (lv_at hl 1 rfl) ?_
  refine lv_if_lt (tgt := 29) hx hb dX6_lock_1 (by decide) (fun h => absurd h (by decide)) (fun _ => ?_)
  refine lv_iload_n hx hb dX6_lock_4 rfl (lv_at hl 1 rfl) ?_
  refine lv_sipush (v := 4095) hx hb dX6_lock_5 (by decide) ?_
  refine lv_icmp_gt (tgt := 29) hx hb dX6_lock_8 (by decide) (fun h => absurd h (by decide)) (fun _ => ?_)
  refine lv_iload_n hx hb dX6_lock_11 rfl (lv_at hl 2 rfl) ?_
  refine lv_iload_n hx hb dX6_lock_12 rfl (lv_at hl 1 rfl) ?_
  refine lv_iconst (v := (-1)) hx hb dX6_lock_13 (by decide) ?_
  refine lv_ixor hx hb dX6_lock_14 ?_
  refine zo_i (v := (-1)) (by decide) ?_
  refine lv_iand hx hb dX6_lock_15 ?_
  refine zo_i (v := 0) q_0and ?_
  refine lv_if_ne (tgt := 29) hx hb dX6_lock_16 (by decide) (fun h => absurd h (by decide)) (fun _ => ?_)
  refine lv_iload_n hx hb dX6_lock_19 rfl (lv_at hl 3 rfl) ?_
  refine lv_iconst (v := 1) hx hb dX6_lock_20 (by decide) ?_
  refine lv_bipush (v := 60) hx hb dX6_lock_21 (by decide) ?_
  have hPr := (zo_nil : va_P (dC, dI) vwCl [] s.heap)
  have hPc := hP.sub (ws' := []) [] rfl
  have hDc := hD.sub (ws' := []) [] (by decide) rfl
  have hKc := hK.sub (tys' := []) [] rfl
  have hFc := va_free (wc := []) hD hS hA [] rfl
  refine va_calli (va_runS (As := [.int 60, .int 1, .int 60]) (rest := []) ⟨hx, hb, hml, hown, hts⟩ (cz_QX6_isWithin_60_60 l dC dI ed s.heap.size ) (va_cwS 3 hts gX6_lock_X6_isWithin rfl rfl rfl (by decide +kernel) ⟨Nat.le_of_ble_eq_true rfl, Nat.le_of_ble_eq_true rfl⟩) ⟨zb_blind, fun U hU hW => ⟨rfl, zb_mk hU hW hPr hPc hKc hDc hN hH hS hFc zx_e⟩⟩ rfl rfl hl.1 rfl (lv_room (Nat.le_of_ble_eq_true rfl)) dX6_lock_23 ⟨Nat.le_of_ble_eq_true rfl, Nat.le_of_ble_eq_true rfl⟩) hS (fun q _ h => hFc q h) hFc (fun r2 u t H1 locs ht hvm hw hB hz1 hk1 hS => ?_)
  obtain rfl : r2 = 1 := hw
  have hP := zo_K hP hk1
  refine lv_if_ne (tgt := 39) hx hb dX6_lock_26 (by decide) (fun _ => ?_) (fun h => absurd h (by decide))
  refine lv_aload_n hx hb dX6_lock_39 rfl (lv_at hl 0 rfl) ?_
  refine va_get (D := (dC, dI)) (ci := 8) (v := .ref rm) (C := RX6) (T := TX6) (N := 3) hx hb hts zi_X6_lock_X6 hown hK (zo_R hR0 hS hAr) 0 rfl rfl 0 (by decide) (hts (.fieldLink RX6 12 "LockRooms" "room" "LLockRooms$Room;") (by decide +kernel)) (fun _ h9 => h9) rfl dX6_lock_40 ?_
  refine va_get (D := (dC, dI)) (ci := 5) (v := .int 0) (C := RX3) (T := TX3) (N := 12) hx hb hts zi_X6_lock_X3 hown hK hP 0 rfl rfl 4 (by decide) (hts (.fieldLink RX6 37 "LockRooms$Room" "lockCount" "I") (by decide +kernel)) (fun _ h9 => h9) rfl dX6_lock_43 ?_
  refine lv_bipush (v := 10) hx hb dX6_lock_46 (by decide) ?_
  refine lv_icmp_ge (tgt := 64) hx hb dX6_lock_48 (by decide) (fun h => absurd h (by decide)) (fun _ => ?_)
  refine lv_aload_n hx hb dX6_lock_51 rfl (lv_at hl 0 rfl) ?_
  refine va_get (D := (dC, dI)) (ci := 8) (v := .ref rm) (C := RX6) (T := TX6) (N := 3) hx hb hts zi_X6_lock_X6 hown hK (zo_R hR0 hS hAr) 0 rfl rfl 0 (by decide) (hts (.fieldLink RX6 12 "LockRooms" "room" "LLockRooms$Room;") (by decide +kernel)) (fun _ h9 => h9) rfl dX6_lock_52 ?_
  refine va_get (D := (dC, dI)) (ci := 5) (v := .ref gm) (C := RX3) (T := TX3) (N := 12) hx hb hts zi_X6_lock_X3 hown hK hP 0 rfl rfl 3 (by decide) (hts (.fieldLink RX6 41 "LockRooms$Room" "games" "LLockRooms$Games;") (by decide +kernel)) (fun _ h9 => h9) rfl dX6_lock_55 ?_
  refine va_get (D := (dC, dI)) (ci := 2) (v := .int 0) (C := RX0) (T := TX0) (N := 7) hx hb hts zi_X6_lock_X0 hown hK (zo_R hR0 hS hAr) 1 rfl rfl 0 (by decide) (hts (.fieldLink RX6 45 "LockRooms$Games" "isRunning" "Z") (by decide +kernel)) (fun _ h9 => h9) rfl dX6_lock_58 ?_
  refine lv_if_eq (tgt := 74) hx hb dX6_lock_61 (by decide) (fun _ => ?_) (fun h => absurd h (by decide))
  refine lv_aload_n hx hb dX6_lock_74 rfl (lv_at hl 0 rfl) ?_
  refine va_get (D := (dC, dI)) (ci := 8) (v := .ref rm) (C := RX6) (T := TX6) (N := 3) hx hb hts zi_X6_lock_X6 hown hK (zo_R hR0 hS hAr) 0 rfl rfl 0 (by decide) (hts (.fieldLink RX6 12 "LockRooms" "room" "LLockRooms$Room;") (by decide +kernel)) (fun _ h9 => h9) rfl dX6_lock_75 ?_
  refine lv_iload_n hx hb dX6_lock_78 rfl (lv_at hl 1 rfl) ?_
  refine lv_iload_n hx hb dX6_lock_79 rfl (lv_at hl 2 rfl) ?_
  refine lv_iload_n hx hb dX6_lock_80 rfl (lv_at hl 3 rfl) ?_
  refine lv_iload hx hb dX6_lock_81 (lv_at hl 4 rfl) ?_
  refine lv_iload hx hb dX6_lock_83 (lv_at hl 5 rfl) ?_
  have hPr := ((zo_R hR0 hS hAr)).sub (ws' := [(lk, .inl (cL, 10, .inr (.inr (.inr (.inr fl)))))]) [2] rfl
  have hPc := hP.sub (ws' := [(rm, .inr (5, [.ref lk, .ref th, .ref pl, .ref gm, .int 0, .int 0, .int 0, .int (-1), .int 1, .int 0, .int 0, .int 0])), (l0, .inr (3, [.int 0, .int 0, .int 0, .int 0, .int 0, .int 0, .int 0, .int 0, .int 0, .int 0]))]) [0, 1] rfl
  have hDc := hD.sub (ws' := [(rm, .inr (5, [.ref lk, .ref th, .ref pl, .ref gm, .int 0, .int 0, .int 0, .int (-1), .int 1, .int 0, .int 0, .int 0])), (l0, .inr (3, [.int 0, .int 0, .int 0, .int 0, .int 0, .int 0, .int 0, .int 0, .int 0, .int 0]))]) [0, 1] (by decide) rfl
  have hKc := hK.sub (tys' := [(cL, .object "LockRooms$Lock")]) [0] rfl
  have hFc := va_free (wc := [(rm, .inr (5, [.ref lk, .ref th, .ref pl, .ref gm, .int 0, .int 0, .int 0, .int (-1), .int 1, .int 0, .int 0, .int 0])), (l0, .inr (3, [.int 0, .int 0, .int 0, .int 0, .int 0, .int 0, .int 0, .int 0, .int 0, .int 0]))]) hD hS hA [0, 1] rfl
  refine va_calli (va_runV (As := [.int 0, .int 0, .int 60, .int 0, .int 1]) (rest := []) ⟨hx, hb, hml, hown, hts⟩ (cz_QaddLock_0 l dC dI ed H1.size lk cL fl l0 rm th pl gm hkl0) (cwV 5 hts gX6_lock_X3_addLock rfl rfl rfl (by decide +kernel) ⟨Nat.le_of_ble_eq_true rfl, Nat.le_of_ble_eq_true rfl⟩) ⟨zb_blind, va_recv hK hP (ci := 5) (q0 := 0) rfl rfl, fun U hU hW => ⟨rfl, zb_mk hU hW hPr hPc hKc hDc hN hH hS hFc (zx_cons (zx_r (hAr _ (List.mem_of_getElem? (i := 2) rfl)) hDc) zx_nil)⟩⟩ rfl rfl hl.1 rfl (lv_room (Nat.le_of_ble_eq_true rfl)) dX6_lock_85 ⟨Nat.le_of_ble_eq_true rfl, Nat.le_of_ble_eq_true rfl⟩) hS (fun q _ h => hFc q h) hFc (fun r4 u t H3 locs ht hvm hw hB hz1 hk1 hS => ?_)
  obtain rfl : r4 = 0 := hw
  obtain ⟨hP1, hD1, hK1⟩ := hB
  rw [ht] at hP1
  obtain ⟨hP, hD⟩ := va_join (wr := []) (w1 := [(rm, .inr (5, [.ref lk, .ref th, .ref pl, .ref gm, .int 1, .int 0, .int 0, .int 0, .int 1, .int 0, .int 0, .int 0])), (l0, .inr (3, [.int 0, .int 0, .int 60, .int 0, .int 0, .int 0, .int 0, .int 0, .int 0, .int 0]))]) hP hD [0, 1] [] rfl rfl (by decide) (by decide) hk1 hFc hP1 hD1
  have hP : va_P (dC, dI) vwCl [(rm, .inr (5, [.ref lk, .ref th, .ref pl, .ref gm, .int 1, .int 0, .int 0, .int 0, .int 1, .int 0, .int 0, .int 0])), (l0, .inr (3, [.int 0, .int 0, .int 60, .int 0, .int 0, .int 0, .int 0, .int 0, .int 0, .int 0]))] H3 := hP
  have hD : va_D A [(rm, .inr (5, [.ref lk, .ref th, .ref pl, .ref gm, .int 1, .int 0, .int 0, .int 0, .int 1, .int 0, .int 0, .int 0])), (l0, .inr (3, [.int 0, .int 0, .int 60, .int 0, .int 0, .int 0, .int 0, .int 0, .int 0, .int 0]))] := hD
  refine W.widen (k := 0) (n := 0) (Nat.le_of_ble_eq_true rfl) (Nat.le_of_ble_eq_true rfl) ?_
  have hP9 := hP.sub (ws' := [(rm, .inr (5, [.ref lk, .ref th, .ref pl, .ref gm, .int 1, .int 0, .int 0, .int 0, .int 1, .int 0, .int 0, .int 0])), (l0, .inr (3, [.int 0, .int 0, .int 60, .int 0, .int 0, .int 0, .int 0, .int 0, .int 0, .int 0]))]) [0, 1] rfl
  have hD9 := hD.sub (ws' := [(rm, .inr (5, [.ref lk, .ref th, .ref pl, .ref gm, .int 1, .int 0, .int 0, .int 0, .int 1, .int 0, .int 0, .int 0])), (l0, .inr (3, [.int 0, .int 0, .int 60, .int 0, .int 0, .int 0, .int 0, .int 0, .int 0, .int 0]))]) [0, 1] (by decide) rfl
  have hK9 := hK.sub (tys' := []) [] rfl
  exact W.iret hx hb hr (fun t ht hW => ⟨⟨0, (), rfl, rfl, ⟨by rw [ht]; exact hP9, hD9, va_K.moved hW.alike hK9⟩⟩, hS.F ht⟩) hS.2.2 dX6_lock_88
set_option maxHeartbeats 4000000 in
set_option maxRecDepth 100000 in
theorem cz_QL_lock_0 (l : Launch) (dC : Nat → ClassId) (dI : Nat → Nat → Nat) (ed sz : Nat) (x : Nat) (rm : Nat) (tr : Nat) (st : Nat) (gm : Nat) (lk : Nat) (cL : ClassId) (fl : Nat → Option Nat) (l0 : Nat) (th : Nat) (pl : Nat) (ou : Nat) (cQ : ClassId) (fo9 : Nat → Int64) (htr : l.stackTraces = false) (hkl0 : fl 0 = some l0) : vx_Met l yL_lock wsL_lock ({ frames := 2, cells := 0, slots := 0, locals := 52 } : Jvm.Room) (va_Pc [.ref x, .int 0, .int 0, .int 60, .int 0, .int 1, .ref ou] (zB dC dI ed sz [(x, .inr (8, [.ref rm, .ref tr, .ref st])), (gm, .inr (2, [.int 0, .int 0, .int 0, .int 0, .int 0, .int (-1), .long 0])), (lk, .inl (cL, 10, .inr (.inr (.inr (.inr fl)))))] [(rm, .inr (5, [.ref lk, .ref th, .ref pl, .ref gm, .int 0, .int 0, .int 0, .int (-1), .int 1, .int 0, .int 0, .int 0])), (l0, .inr (3, [.int 0, .int 0, .int 0, .int 0, .int 0, .int 0, .int 0, .int 0, .int 0, .int 0])), (ou, .inl (cQ, 1, .inr (.inl fo9)))] [(cL, .object "LockRooms$Lock"), (cQ, .long)])) (va_Qi (fun (r : Int32) (_ : Unit) => r = 0) (fun (_ : Unit) (t : State) => ∃ (fo8 : Nat → Int64), (fo8 0 = 0) ∧ va_P (dC, dI) vwCl [(rm, .inr (5, [.ref lk, .ref th, .ref pl, .ref gm, .int 1, .int 0, .int 0, .int 0, .int 1, .int 0, .int 0, .int 0])), (l0, .inr (3, [.int 0, .int 0, .int 60, .int 0, .int 0, .int 0, .int 0, .int 0, .int 0, .int 0])), (ou, .inl (cQ, 1, .inr (.inl fo8)))] t.heap ∧ va_D (va_A [(rm, .inr (5, [.ref lk, .ref th, .ref pl, .ref gm, .int 0, .int 0, .int 0, .int (-1), .int 1, .int 0, .int 0, .int 0])), (l0, .inr (3, [.int 0, .int 0, .int 0, .int 0, .int 0, .int 0, .int 0, .int 0, .int 0, .int 0])), (ou, .inl (cQ, 1, .inr (.inl fo9)))] sz) [(rm, .inr (5, [.ref lk, .ref th, .ref pl, .ref gm, .int 1, .int 0, .int 0, .int 0, .int 1, .int 0, .int 0, .int 0])), (l0, .inr (3, [.int 0, .int 0, .int 60, .int 0, .int 0, .int 0, .int 0, .int 0, .int 0, .int 0])), (ou, .inl (cQ, 1, .inr (.inl fo8)))] ∧ va_K (dC, dI) vwCl [(cQ, .long)] t) (va_A [(rm, .inr (5, [.ref lk, .ref th, .ref pl, .ref gm, .int 0, .int 0, .int 0, .int (-1), .int 1, .int 0, .int 0, .int 0])), (l0, .inr (3, [.int 0, .int 0, .int 0, .int 0, .int 0, .int 0, .int 0, .int 0, .int 0, .int 0])), (ou, .inl (cQ, 1, .inr (.inl fo9)))] sz)) (vx_X (fun (_ : Unit) => False) (fun (_ : String) (_ : Unit) (_ : State) => True) (va_A [(rm, .inr (5, [.ref lk, .ref th, .ref pl, .ref gm, .int 0, .int 0, .int 0, .int (-1), .int 1, .int 0, .int 0, .int 0])), (l0, .inr (3, [.int 0, .int 0, .int 0, .int 0, .int 0, .int 0, .int 0, .int 0, .int 0, .int 0])), (ou, .inl (cQ, 1, .inr (.inl fo9)))] sz)) 0 0 (va_A [(rm, .inr (5, [.ref lk, .ref th, .ref pl, .ref gm, .int 0, .int 0, .int 0, .int (-1), .int 1, .int 0, .int 0, .int 0])), (l0, .inr (3, [.int 0, .int 0, .int 0, .int 0, .int 0, .int 0, .int 0, .int 0, .int 0, .int 0])), (ou, .inl (cQ, 1, .inr (.inl fo9)))] sz) := by
  refine vx_ofWH (cc := cL_lock) (maxL := 8) (ret := (some .int)) (by decide) rfl ?_
  intro p e s m args below meth c s₁ B hml hv
  obtain ⟨rfl, hsz, hR0, hP, hK, hD0, hN, hH, hX0⟩ := hv
  have hx := B.exec
  have hb := B.bytes
  have hr := B.returns
  have hts := atoms_spec (ws := wsL_lock) B.pre
  have hown : s.vm.findClass RL = some m.cls := findClass_of_methodNamed B.named
  have hlocks := B.notSynchronized
  have hex : c.exceptionTable.toList = tableOf [(0, 16, 19, 13), (0, 16, 23, 15)] := vx_table (x := yL_lock) B (hts _ List.mem_cons_self)
  subst hsz
  have hD := hD0.self (sz := s.heap.size)
  have hAr := zx_A hX0 hR0
  generalize hAe : va_A [(rm, .inr (5, [.ref lk, .ref th, .ref pl, .ref gm, .int 0, .int 0, .int 0, .int (-1), .int 1, .int 0, .int 0, .int 0])), (l0, .inr (3, [.int 0, .int 0, .int 0, .int 0, .int 0, .int 0, .int 0, .int 0, .int 0, .int 0])), (ou, .inl (cQ, 1, .inr (.inl fo9)))] s.heap.size = A at hD hAr hH ⊢
  have hA : ∀ q : Nat, s.heap.size ≤ q → A q := fun q h => by rw [← hAe]; exact Or.inr h
  have hS : va_S A s.heap s.heap [] := va_S.rf
  have hl := lv_entry ([.ref x, .int 0, .int 0, .int 60, .int 0, .int 1, .ref ou]) (n := 8) (Nat.le_of_ble_eq_true rfl)
  rw [lg_entry_eq]
  generalize (lg_sl ([.ref x, .int 0, .int 0, .int 60, .int 0, .int 1, .ref ou]) ++ List.replicate (8 - (lg_sl ([.ref x, .int 0, .int 0, .int 60, .int 0, .int 1, .ref ou])).length) Slot.unset).toArray = ls at hl ⊢
  have hl : lv_has ls 8 [(0, .ref x), (1, .int 0), (2, .int 0), (3, .int 60), (4, .int 0), (5, .int 1), (6, .ref ou)] := hl
  refine lv_aload hx hb dL_lock_0 (lv_at hl 6 rfl) ?_
  refine lv_iconst (v := 0) hx hb dL_lock_2 (by decide) ?_
  refine lv_aload_n hx hb dL_lock_3 rfl (lv_at hl 0 rfl) ?_
  refine lv_iload_n hx hb dL_lock_4 rfl (lv_at hl 1 rfl) ?_
  refine lv_iload_n hx hb dL_lock_5 rfl (lv_at hl 2 rfl) ?_
  refine lv_iload_n hx hb dL_lock_6 rfl (lv_at hl 3 rfl) ?_
  refine lv_iload hx hb dL_lock_7 (lv_at hl 4 rfl) ?_
  refine lv_iload hx hb dL_lock_9 (lv_at hl 5 rfl) ?_
  have hPr := (hR0).sub (ws' := [(x, .inr (8, [.ref rm, .ref tr, .ref st])), (gm, .inr (2, [.int 0, .int 0, .int 0, .int 0, .int 0, .int (-1), .long 0])), (lk, .inl (cL, 10, .inr (.inr (.inr (.inr fl)))))]) [0, 1, 2] rfl
  have hPc := hP.sub (ws' := [(rm, .inr (5, [.ref lk, .ref th, .ref pl, .ref gm, .int 0, .int 0, .int 0, .int (-1), .int 1, .int 0, .int 0, .int 0])), (l0, .inr (3, [.int 0, .int 0, .int 0, .int 0, .int 0, .int 0, .int 0, .int 0, .int 0, .int 0]))]) [0, 1] rfl
  have hDc := hD.sub (ws' := [(rm, .inr (5, [.ref lk, .ref th, .ref pl, .ref gm, .int 0, .int 0, .int 0, .int (-1), .int 1, .int 0, .int 0, .int 0])), (l0, .inr (3, [.int 0, .int 0, .int 0, .int 0, .int 0, .int 0, .int 0, .int 0, .int 0, .int 0]))]) [0, 1] (by decide) rfl
  have hKc := hK.sub (tys' := [(cL, .object "LockRooms$Lock")]) [0] rfl
  have hFc := va_free (wc := [(rm, .inr (5, [.ref lk, .ref th, .ref pl, .ref gm, .int 0, .int 0, .int 0, .int (-1), .int 1, .int 0, .int 0, .int 0])), (l0, .inr (3, [.int 0, .int 0, .int 0, .int 0, .int 0, .int 0, .int 0, .int 0, .int 0, .int 0]))]) hD hS hA [0, 1] rfl
  refine va_calli (va_runV (As := [.int 0, .int 0, .int 60, .int 0, .int 1]) (rest := [.int 0, .ref ou]) ⟨hx, hb, hml, hown, hts⟩ (cz_QX6_lock_0 l dC dI ed s.heap.size x rm tr st gm lk cL fl l0 th pl hkl0) (cwV 5 hts gL_lock_X6_lock rfl rfl rfl (by decide +kernel) ⟨Nat.le_of_ble_eq_true rfl, Nat.le_of_ble_eq_true rfl⟩) ⟨zb_blind, va_recv hK hR0 (ci := 8) (q0 := 0) rfl rfl, fun U hU hW => ⟨rfl, zb_mk hU hW hPr hPc hKc hDc hN hH hS hFc (zx_cons (zx_r (hAr _ (List.mem_of_getElem? (i := 0) rfl)) hDc) (zx_cons (zx_r (hAr _ (List.mem_of_getElem? (i := 1) rfl)) hDc) (zx_cons (zx_r (hAr _ (List.mem_of_getElem? (i := 2) rfl)) hDc) zx_nil)))⟩⟩ rfl rfl hl.1 rfl (lv_room (Nat.le_of_ble_eq_true rfl)) dL_lock_11 ⟨Nat.le_of_ble_eq_true rfl, Nat.le_of_ble_eq_true rfl⟩) hS (fun q _ h => hFc q h) hFc (fun r2 u t H1 locs ht hvm hw hB hz1 hk1 hS => ?_)
  obtain rfl : r2 = 0 := hw
  obtain ⟨hP1, hD1, hK1⟩ := hB
  rw [ht] at hP1
  obtain ⟨hP, hD⟩ := va_join (wr := [(ou, .inl (cQ, 1, .inr (.inl fo9)))]) (w1 := [(rm, .inr (5, [.ref lk, .ref th, .ref pl, .ref gm, .int 1, .int 0, .int 0, .int 0, .int 1, .int 0, .int 0, .int 0])), (l0, .inr (3, [.int 0, .int 0, .int 60, .int 0, .int 0, .int 0, .int 0, .int 0, .int 0, .int 0]))]) hP hD [0, 1] [2] rfl rfl (by decide) (by decide) hk1 hFc hP1 hD1
  have hP : va_P (dC, dI) vwCl [(ou, .inl (cQ, 1, .inr (.inl fo9))), (rm, .inr (5, [.ref lk, .ref th, .ref pl, .ref gm, .int 1, .int 0, .int 0, .int 0, .int 1, .int 0, .int 0, .int 0])), (l0, .inr (3, [.int 0, .int 0, .int 60, .int 0, .int 0, .int 0, .int 0, .int 0, .int 0, .int 0]))] H1 := hP
  have hD : va_D A [(ou, .inl (cQ, 1, .inr (.inl fo9))), (rm, .inr (5, [.ref lk, .ref th, .ref pl, .ref gm, .int 1, .int 0, .int 0, .int 0, .int 1, .int 0, .int 0, .int 0])), (l0, .inr (3, [.int 0, .int 0, .int 60, .int 0, .int 0, .int 0, .int 0, .int 0, .int 0, .int 0]))] := hD
  refine lv_i2l (v := 0) hx hb dL_lock_14 (by decide) ?_
  refine va_last hx hb hK hP hD hS 0 1 rfl rfl (by unfold vp_in; decide) dL_lock_15 (fun H4 locs hP hD hS => ?_)
  obtain ⟨f5, ef5⟩ : ∃ z : Nat → Int64, z = vp_updL fo9 0 0 := ⟨_, rfl⟩
  have k6 : f5 0 = 0 := by rw [ef5]; exact pk_uLs
  have hP : va_P (dC, dI) vwCl [(ou, .inl (cQ, 1, .inr (.inl f5))), (rm, .inr (5, [.ref lk, .ref th, .ref pl, .ref gm, .int 1, .int 0, .int 0, .int 0, .int 1, .int 0, .int 0, .int 0])), (l0, .inr (3, [.int 0, .int 0, .int 60, .int 0, .int 0, .int 0, .int 0, .int 0, .int 0, .int 0]))] H4 := by rw [ef5]; exact hP
  have hD : va_D A [(ou, .inl (cQ, 1, .inr (.inl f5))), (rm, .inr (5, [.ref lk, .ref th, .ref pl, .ref gm, .int 1, .int 0, .int 0, .int 0, .int 1, .int 0, .int 0, .int 0])), (l0, .inr (3, [.int 0, .int 0, .int 60, .int 0, .int 0, .int 0, .int 0, .int 0, .int 0, .int 0]))] := by rw [ef5]; exact hD
  refine lv_goto (tgt := 27) hx hb dL_lock_16 (by decide) ?_
  refine lv_iconst (v := 0) hx hb dL_lock_27 (by decide) ?_
  refine vx_ret ?_
  refine W.widen (k := 0) (n := 0) (Nat.le_of_ble_eq_true rfl) (Nat.le_of_ble_eq_true rfl) ?_
  have hP9 := hP.sub (ws' := [(rm, .inr (5, [.ref lk, .ref th, .ref pl, .ref gm, .int 1, .int 0, .int 0, .int 0, .int 1, .int 0, .int 0, .int 0])), (l0, .inr (3, [.int 0, .int 0, .int 60, .int 0, .int 0, .int 0, .int 0, .int 0, .int 0, .int 0])), (ou, .inl (cQ, 1, .inr (.inl f5)))]) [1, 2, 0] rfl
  have hD9 := hD.sub (ws' := [(rm, .inr (5, [.ref lk, .ref th, .ref pl, .ref gm, .int 1, .int 0, .int 0, .int 0, .int 1, .int 0, .int 0, .int 0])), (l0, .inr (3, [.int 0, .int 0, .int 60, .int 0, .int 0, .int 0, .int 0, .int 0, .int 0, .int 0])), (ou, .inl (cQ, 1, .inr (.inl f5)))]) [1, 2, 0] (by decide) rfl
  have hK9 := hK.sub (tys' := [(cQ, .long)]) [1] rfl
  exact W.iret hx hb hr (fun t ht hW => ⟨⟨0, (), rfl, rfl, ⟨f5, k6, by rw [ht]; exact hP9, hD9, va_K.moved hW.alike hK9⟩⟩, hS.F ht⟩) hS.2.2 dL_lock_28
set_option maxHeartbeats 4000000 in
set_option maxRecDepth 100000 in
theorem cz_QX8_lock_0 (l : Launch) (dC : Nat → ClassId) (dI : Nat → Nat → Nat) (ed sz : Nat) (mo : Nat) (mr : Nat) (x9 : Int32) (s9 : Int64) (ll : Nat) (lt : Nat) (lp : Nat) : Met l yX8_lock wsX8_lock ({ frames := 5, cells := 2, slots := 20, locals := 101 } : Jvm.Room) (va_Pc [.ref mo, .int 0, .int 0, .int 60, .int 0, .int 1] (zB dC dI ed sz [] [(mo, .inr (10, [.int x9, .ref mr, .int 1, .long s9])), (mr, .inr (9, [.ref ll, .ref lt, .ref lp, .int (-1), .int 0, .int 0, .int 0, .int 0, .int 0, .int 0, .int (-1), .int 0, .int 0, .int 0])), (ll, .inr (1, [.int 0, .ref ed, .int 0]))] [])) (va_Qi (fun (r : Int32) (_ : Unit) => r = 0) (fun (_ : Unit) (t : State) => ∃ (ola : Nat), ∃ (cOl : ClassId), ∃ (go : Nat → Option Nat), ∃ (la0 : Nat), ∃ (cA0 : ClassId), ∃ (fa0 : Nat → Int32), (go 0 = some la0 ∧ fa0 0 = 0 ∧ fa0 1 = 0 ∧ fa0 2 = 60 ∧ fa0 3 = 0 ∧ fa0 4 = 0 ∧ fa0 5 = 0 ∧ fa0 6 = 0 ∧ fa0 7 = 0 ∧ fa0 8 = 0 ∧ fa0 9 = 0) ∧ va_P (dC, dI) vwCl [(mo, .inr (10, [.int 0, .ref mr, .int 1, .long s9])), (mr, .inr (9, [.ref ll, .ref lt, .ref lp, .int 0, .int 0, .int 0, .int 0, .int 0, .int 0, .int 0, .int (-1), .int 0, .int 0, .int 0])), (ll, .inr (1, [.int 1, .ref ola, .int 1])), (ola, .inl (cOl, 10, .inr (.inr (.inr (.inr go))))), (la0, .inl (cA0, 10, .inl fa0))] t.heap ∧ va_D (va_A [(mo, .inr (10, [.int x9, .ref mr, .int 1, .long s9])), (mr, .inr (9, [.ref ll, .ref lt, .ref lp, .int (-1), .int 0, .int 0, .int 0, .int 0, .int 0, .int 0, .int (-1), .int 0, .int 0, .int 0])), (ll, .inr (1, [.int 0, .ref ed, .int 0]))] sz) [(mo, .inr (10, [.int 0, .ref mr, .int 1, .long s9])), (mr, .inr (9, [.ref ll, .ref lt, .ref lp, .int 0, .int 0, .int 0, .int 0, .int 0, .int 0, .int 0, .int (-1), .int 0, .int 0, .int 0])), (ll, .inr (1, [.int 1, .ref ola, .int 1])), (ola, .inl (cOl, 10, .inr (.inr (.inr (.inr go))))), (la0, .inl (cA0, 10, .inl fa0))] ∧ va_K (dC, dI) vwCl [(cOl, .object "java/lang/Object"), (cA0, .int)] t) (va_A [(mo, .inr (10, [.int x9, .ref mr, .int 1, .long s9])), (mr, .inr (9, [.ref ll, .ref lt, .ref lp, .int (-1), .int 0, .int 0, .int 0, .int 0, .int 0, .int 0, .int (-1), .int 0, .int 0, .int 0])), (ll, .inr (1, [.int 0, .ref ed, .int 0]))] sz)) 2 20 (va_A [(mo, .inr (10, [.int x9, .ref mr, .int 1, .long s9])), (mr, .inr (9, [.ref ll, .ref lt, .ref lp, .int (-1), .int 0, .int 0, .int 0, .int 0, .int 0, .int 0, .int (-1), .int 0, .int 0, .int 0])), (ll, .inr (1, [.int 0, .ref ed, .int 0]))] sz) := by
  refine Met.ofW (cc := cX8_lock) (maxL := 7) (ret := (some .int)) (by decide) rfl ?_
  intro p e s m args below meth c s₁ B hml hv
  obtain ⟨rfl, hsz, hR0, hP, hK, hD0, hN, hH, hX0⟩ := hv
  have hx := B.exec
  have hb := B.bytes
  have hr := B.returns
  have hts := atoms_spec (ws := wsX8_lock) B.pre
  have hown : s.vm.findClass RX8 = some m.cls := findClass_of_methodNamed B.named
  have hlocks := B.notSynchronized
  subst hsz
  have hD := hD0.self (sz := s.heap.size)
  have hAr := zx_A hX0 hR0
  generalize hAe : va_A [(mo, .inr (10, [.int x9, .ref mr, .int 1, .long s9])), (mr, .inr (9, [.ref ll, .ref lt, .ref lp, .int (-1), .int 0, .int 0, .int 0, .int 0, .int 0, .int 0, .int (-1), .int 0, .int 0, .int 0])), (ll, .inr (1, [.int 0, .ref ed, .int 0]))] s.heap.size = A at hD hAr hH ⊢
  have hA : ∀ q : Nat, s.heap.size ≤ q → A q := fun q h => by rw [← hAe]; exact Or.inr h
  have hS : va_S A s.heap s.heap [] := va_S.rf
  have hl := lv_entry ([.ref mo, .int 0, .int 0, .int 60, .int 0, .int 1]) (n := 7) (Nat.le_of_ble_eq_true rfl)
  rw [lg_entry_eq]
  generalize (lg_sl ([.ref mo, .int 0, .int 0, .int 60, .int 0, .int 1]) ++ List.replicate (7 - (lg_sl ([.ref mo, .int 0, .int 0, .int 60, .int 0, .int 1])).length) Slot.unset).toArray = ls at hl ⊢
  have hl : lv_has ls 7 [(0, .ref mo), (1, .int 0), (2, .int 0), (3, .int 60), (4, .int 0), (5, .int 1)] := hl
  refine lv_aload_n hx hb dX8_lock_0 rfl (lv_at hl 0 rfl) ?_
  refine lv_iconst (v := 0) hx hb dX8_lock_1 (by decide) ?_
  refine va_put (D := (dC, dI)) (ci := 10) (v := .int 0) (ty := .int) (C := RX8) (T := TX8) (N := 4) hx hb hts zi_X8_lock_X8 tyX8 tyX8_ok nmX8 hown hK hP hD hS 0 rfl rfl 0 (by decide) (hts (.fieldLink RX8 20 "LockRoomsModel" "thrown" "I") (by decide +kernel)) (fun _ h9 => h9) rfl (by decide +kernel) rfl rfl (Nat.le_of_ble_eq_true rfl) dX8_lock_2 (fun H1 locs hP hD hS => ?_)
  have hP : va_P (dC, dI) vwCl [(mo, .inr (10, [.int 0, .ref mr, .int 1, .long s9])), (mr, .inr (9, [.ref ll, .ref lt, .ref lp, .int (-1), .int 0, .int 0, .int 0, .int 0, .int 0, .int 0, .int (-1), .int 0, .int 0, .int 0])), (ll, .inr (1, [.int 0, .ref ed, .int 0]))] H1 := hP
  have hD : va_D A [(mo, .inr (10, [.int 0, .ref mr, .int 1, .long s9])), (mr, .inr (9, [.ref ll, .ref lt, .ref lp, .int (-1), .int 0, .int 0, .int 0, .int 0, .int 0, .int 0, .int (-1), .int 0, .int 0, .int 0])), (ll, .inr (1, [.int 0, .ref ed, .int 0]))] := hD
  refine lv_iload_n hx hb dX8_lock_5 rfl (lv_at hl 1 rfl) ?_
  refine lv_iconst (v := 0) hx hb dX8_lock_6 (by decide) ?_
  refine lv_sipush (v := 4095) hx hb dX8_lock_7 (by decide) ?_
  have hPr := (zo_nil : va_P (dC, dI) vwCl [] H1)
  have hPc := hP.sub (ws' := []) [] rfl
  have hDc := hD.sub (ws' := []) [] (by decide) rfl
  have hKc := hK.sub (tys' := []) [] rfl
  have hFc := va_free (wc := []) hD hS hA [] rfl
  refine va_calli (va_runS (As := [.int 0, .int 0, .int 4095]) (rest := []) ⟨hx, hb, hml, hown, hts⟩ (cz_QX8_is_0_4095 l dC dI ed H1.size ) (va_cwS 3 hts gX8_lock_X8_is rfl rfl rfl (by decide +kernel) ⟨Nat.le_of_ble_eq_true rfl, Nat.le_of_ble_eq_true rfl⟩) ⟨zb_blind, fun U hU hW => ⟨rfl, zb_mk hU hW hPr hPc hKc hDc hN hH hS hFc zx_e⟩⟩ rfl rfl hl.1 rfl (lv_room (Nat.le_of_ble_eq_true rfl)) dX8_lock_10 ⟨Nat.le_of_ble_eq_true rfl, Nat.le_of_ble_eq_true rfl⟩) hS (fun q _ h => hFc q h) hFc (fun r3 u t H2 locs ht hvm hw hB hz1 hk1 hS => ?_)
  obtain rfl : r3 = 1 := hw
  have hP := zo_K hP hk1
  refine lv_if_eq (tgt := 34) hx hb dX8_lock_13 (by decide) (fun h => absurd h (by decide)) (fun _ => ?_)
  refine lv_iload_n hx hb dX8_lock_16 rfl (lv_at hl 2 rfl) ?_
  refine lv_iload_n hx hb dX8_lock_17 rfl (lv_at hl 1 rfl) ?_
  refine lv_iconst (v := (-1)) hx hb dX8_lock_18 (by decide) ?_
  refine lv_ixor hx hb dX8_lock_19 ?_
  refine zo_i (v := (-1)) (by decide) ?_
  refine lv_iand hx hb dX8_lock_20 ?_
  refine zo_i (v := 0) q_0and ?_
  refine lv_if_ne (tgt := 34) hx hb dX8_lock_21 (by decide) (fun h => absurd h (by decide)) (fun _ => ?_)
  refine lv_iload_n hx hb dX8_lock_24 rfl (lv_at hl 3 rfl) ?_
  refine lv_iconst (v := 1) hx hb dX8_lock_25 (by decide) ?_
  refine lv_bipush (v := 60) hx hb dX8_lock_26 (by decide) ?_
  have hPr := (zo_nil : va_P (dC, dI) vwCl [] H2)
  have hPc := hP.sub (ws' := []) [] rfl
  have hDc := hD.sub (ws' := []) [] (by decide) rfl
  have hKc := hK.sub (tys' := []) [] rfl
  have hFc := va_free (wc := []) hD hS hA [] rfl
  refine va_calli (va_runS (As := [.int 60, .int 1, .int 60]) (rest := []) ⟨hx, hb, hml, hown, hts⟩ (cz_QX8_is_60_60 l dC dI ed H2.size ) (va_cwS 3 hts gX8_lock_X8_is rfl rfl rfl (by decide +kernel) ⟨Nat.le_of_ble_eq_true rfl, Nat.le_of_ble_eq_true rfl⟩) ⟨zb_blind, fun U hU hW => ⟨rfl, zb_mk hU hW hPr hPc hKc hDc hN hH hS hFc zx_e⟩⟩ rfl rfl hl.1 rfl (lv_room (Nat.le_of_ble_eq_true rfl)) dX8_lock_28 ⟨Nat.le_of_ble_eq_true rfl, Nat.le_of_ble_eq_true rfl⟩) hS (fun q _ h => hFc q h) hFc (fun r5 u t H4 locs ht hvm hw hB hz1 hk1 hS => ?_)
  obtain rfl : r5 = 1 := hw
  have hP := zo_K hP hk1
  refine lv_if_ne (tgt := 40) hx hb dX8_lock_31 (by decide) (fun _ => ?_) (fun h => absurd h (by decide))
  refine lv_aload_n hx hb dX8_lock_40 rfl (lv_at hl 0 rfl) ?_
  refine va_get (D := (dC, dI)) (ci := 10) (v := .ref mr) (C := RX8) (T := TX8) (N := 4) hx hb hts zi_X8_lock_X8 hown hK hP 0 rfl rfl 1 (by decide) (hts (.fieldLink RX8 10 "LockRoomsModel" "room" "LLockRoomsModel$Room;") (by decide +kernel)) (fun _ h9 => h9) rfl dX8_lock_41 ?_
  refine va_getN (D := (dC, dI)) (ci := 9) (v := .ref ll) (C := RX7) (T := TX7) (N := 14) hx hb hts zi_X8_lock_X7 hown hK hP 1 rfl rfl 0 (by decide) (va_Nw.use rfl (hN.1 ("LockRoomsModel", 24, "LockRoomsModel$Room", "locks", "Ljava/util/ArrayList;", "LockRoomsModel") (List.mem_of_getElem? (i := 1) rfl))) (fun _ h9 => h9) rfl dX8_lock_44 ?_
  have hPr := (hP).sub (ws' := [(ll, .inr (1, [.int 0, .ref ed, .int 0]))]) [2] rfl
  have hPc := hP.sub (ws' := []) [] rfl
  have hDc := hD.sub (ws' := []) [] (by decide) rfl
  have hKc := hK.sub (tys' := []) [] rfl
  have hFc := va_free (wc := []) hD hS hA [] rfl
  refine va_calli (va_runV (As := []) (rest := []) ⟨hx, hb, hml, hown, hts⟩ (cz_Qsize l dC dI ed H4.size ll 0 ed 0) (cwV 0 hts gX8_lock_Jx4a65c_size_8abf5 rfl rfl rfl (by decide +kernel) ⟨Nat.le_of_ble_eq_true rfl, Nat.le_of_ble_eq_true rfl⟩) ⟨zb_blind, va_recv hK hP (ci := 1) (q0 := 2) rfl rfl, fun U hU hW => ⟨rfl, zb_mk hU hW hPr hPc hKc hDc hN hH hS hFc zx_e⟩⟩ rfl rfl hl.1 rfl (lv_room (Nat.le_of_ble_eq_true rfl)) dX8_lock_47 ⟨Nat.le_of_ble_eq_true rfl, Nat.le_of_ble_eq_true rfl⟩) hS (fun q _ h => hFc q h) hFc (fun r7 u t H6 locs ht hvm hw hB hz1 hk1 hS => ?_)
  obtain rfl : r7 = 0 := hw.trans (by decide +kernel)
  have hP := zo_K hP hk1
  refine lv_bipush (v := 10) hx hb dX8_lock_50 (by decide) ?_
  refine lv_icmp_eq (tgt := 65) hx hb dX8_lock_52 (by decide) (fun h => absurd h (by decide)) (fun _ => ?_)
  refine lv_aload_n hx hb dX8_lock_55 rfl (lv_at hl 0 rfl) ?_
  refine va_get (D := (dC, dI)) (ci := 10) (v := .ref mr) (C := RX8) (T := TX8) (N := 4) hx hb hts zi_X8_lock_X8 hown hK hP 0 rfl rfl 1 (by decide) (hts (.fieldLink RX8 10 "LockRoomsModel" "room" "LLockRoomsModel$Room;") (by decide +kernel)) (fun _ h9 => h9) rfl dX8_lock_56 ?_
  refine va_getN (D := (dC, dI)) (ci := 9) (v := .int 0) (C := RX7) (T := TX7) (N := 14) hx hb hts zi_X8_lock_X7 hown hK hP 1 rfl rfl 5 (by decide) (va_Nw.use rfl (hN.1 ("LockRoomsModel", 45, "LockRoomsModel$Room", "isRunning", "Z", "LockRoomsModel") (List.mem_of_getElem? (i := 6) rfl))) (fun _ h9 => h9) rfl dX8_lock_59 ?_
  refine lv_if_eq (tgt := 71) hx hb dX8_lock_62 (by decide) (fun _ => ?_) (fun h => absurd h (by decide))
  refine lv_bipush (v := 10) hx hb dX8_lock_71 (by decide) ?_
  refine va_newa (atype := .int) (a0 := (10, .inl (fun _ => 0))) hx hb (hts (.arrayClass .int) (by decide +kernel)) rfl hK hP hD hS hA (fun cA => rfl) (by decide) (N' := 10) (by decide) (by decide) (Nat.le_of_ble_eq_true rfl) (Nat.le_of_ble_eq_true rfl) dX8_lock_73 (fun q8 cA10 H9 hK hP hD hS => ?_)
  have hP : va_P (dC, dI) vwCl [(mo, .inr (10, [.int 0, .ref mr, .int 1, .long s9])), (mr, .inr (9, [.ref ll, .ref lt, .ref lp, .int (-1), .int 0, .int 0, .int 0, .int 0, .int 0, .int 0, .int (-1), .int 0, .int 0, .int 0])), (ll, .inr (1, [.int 0, .ref ed, .int 0])), (q8, .inl (cA10, 10, .inl (fun _ => 0)))] H9 := hP
  have hD : va_D A [(mo, .inr (10, [.int 0, .ref mr, .int 1, .long s9])), (mr, .inr (9, [.ref ll, .ref lt, .ref lp, .int (-1), .int 0, .int 0, .int 0, .int 0, .int 0, .int 0, .int (-1), .int 0, .int 0, .int 0])), (ll, .inr (1, [.int 0, .ref ed, .int 0])), (q8, .inl (cA10, 10, .inl (fun _ => 0)))] := hD
  refine lv_astore (lv' := [(6, .ref q8), (0, .ref mo), (1, .int 0), (2, .int 0), (3, .int 60), (4, .int 0), (5, .int 1)]) hx hb dX8_lock_75 hl (by decide) rfl (fun ls hl => ?_)
  refine lv_aload hx hb dX8_lock_77 (lv_at hl 0 rfl) ?_
  refine lv_iconst (v := 0) hx hb dX8_lock_79 (by decide) ?_
  refine lv_iload_n hx hb dX8_lock_80 rfl (lv_at hl 2 rfl) ?_
  refine va_iast hx hb hK hP hD hS 3 0 rfl rfl (by unfold vp_in; decide) dX8_lock_81 (fun H12 locs hP hD hS => ?_)
  obtain ⟨f13, ef13⟩ : ∃ z : Nat → Int32, z = upd (fun _ => 0) 0 0 := ⟨_, rfl⟩
  have k14 : f13 1 = 0 := by rw [ef13]; exact (pk_un (by decide)).trans (rfl)
  have k15 : f13 2 = 0 := by rw [ef13]; exact (pk_un (by decide)).trans (rfl)
  have k16 : f13 3 = 0 := by rw [ef13]; exact (pk_un (by decide)).trans (rfl)
  have k17 : f13 4 = 0 := by rw [ef13]; exact (pk_un (by decide)).trans (rfl)
  have k18 : f13 5 = 0 := by rw [ef13]; exact (pk_un (by decide)).trans (rfl)
  have k19 : f13 6 = 0 := by rw [ef13]; exact (pk_un (by decide)).trans (rfl)
  have k20 : f13 7 = 0 := by rw [ef13]; exact (pk_un (by decide)).trans (rfl)
  have k21 : f13 8 = 0 := by rw [ef13]; exact (pk_un (by decide)).trans (rfl)
  have k22 : f13 9 = 0 := by rw [ef13]; exact (pk_un (by decide)).trans (rfl)
  have k23 : f13 0 = 0 := by rw [ef13]; exact pk_us
  have hP : va_P (dC, dI) vwCl [(mo, .inr (10, [.int 0, .ref mr, .int 1, .long s9])), (mr, .inr (9, [.ref ll, .ref lt, .ref lp, .int (-1), .int 0, .int 0, .int 0, .int 0, .int 0, .int 0, .int (-1), .int 0, .int 0, .int 0])), (ll, .inr (1, [.int 0, .ref ed, .int 0])), (q8, .inl (cA10, 10, .inl f13))] H12 := by rw [ef13]; exact hP
  have hD : va_D A [(mo, .inr (10, [.int 0, .ref mr, .int 1, .long s9])), (mr, .inr (9, [.ref ll, .ref lt, .ref lp, .int (-1), .int 0, .int 0, .int 0, .int 0, .int 0, .int 0, .int (-1), .int 0, .int 0, .int 0])), (ll, .inr (1, [.int 0, .ref ed, .int 0])), (q8, .inl (cA10, 10, .inl f13))] := by rw [ef13]; exact hD
  refine lv_aload hx hb dX8_lock_82 (lv_at hl 0 rfl) ?_
  refine lv_iconst (v := 1) hx hb dX8_lock_84 (by decide) ?_
  refine lv_iload_n hx hb dX8_lock_85 rfl (lv_at hl 3 rfl) ?_
  refine va_iast hx hb hK hP hD hS 3 0 rfl rfl (by unfold vp_in; decide) dX8_lock_86 (fun H24 locs hP hD hS => ?_)
  obtain ⟨f25, ef25⟩ : ∃ z : Nat → Int32, z = upd f13 1 0 := ⟨_, rfl⟩
  have k26 : f25 2 = 0 := by rw [ef25]; exact (pk_un (by decide)).trans (k15)
  have k27 : f25 3 = 0 := by rw [ef25]; exact (pk_un (by decide)).trans (k16)
  have k28 : f25 4 = 0 := by rw [ef25]; exact (pk_un (by decide)).trans (k17)
  have k29 : f25 5 = 0 := by rw [ef25]; exact (pk_un (by decide)).trans (k18)
  have k30 : f25 6 = 0 := by rw [ef25]; exact (pk_un (by decide)).trans (k19)
  have k31 : f25 7 = 0 := by rw [ef25]; exact (pk_un (by decide)).trans (k20)
  have k32 : f25 8 = 0 := by rw [ef25]; exact (pk_un (by decide)).trans (k21)
  have k33 : f25 9 = 0 := by rw [ef25]; exact (pk_un (by decide)).trans (k22)
  have k34 : f25 0 = 0 := by rw [ef25]; exact (pk_un (by decide)).trans (k23)
  have k35 : f25 1 = 0 := by rw [ef25]; exact pk_us
  have hP : va_P (dC, dI) vwCl [(mo, .inr (10, [.int 0, .ref mr, .int 1, .long s9])), (mr, .inr (9, [.ref ll, .ref lt, .ref lp, .int (-1), .int 0, .int 0, .int 0, .int 0, .int 0, .int 0, .int (-1), .int 0, .int 0, .int 0])), (ll, .inr (1, [.int 0, .ref ed, .int 0])), (q8, .inl (cA10, 10, .inl f25))] H24 := by rw [ef25]; exact hP
  have hD : va_D A [(mo, .inr (10, [.int 0, .ref mr, .int 1, .long s9])), (mr, .inr (9, [.ref ll, .ref lt, .ref lp, .int (-1), .int 0, .int 0, .int 0, .int 0, .int 0, .int 0, .int (-1), .int 0, .int 0, .int 0])), (ll, .inr (1, [.int 0, .ref ed, .int 0])), (q8, .inl (cA10, 10, .inl f25))] := by rw [ef25]; exact hD
  refine lv_aload hx hb dX8_lock_87 (lv_at hl 0 rfl) ?_
  refine lv_iconst (v := 2) hx hb dX8_lock_89 (by decide) ?_
  refine lv_iload_n hx hb dX8_lock_90 rfl (lv_at hl 4 rfl) ?_
  refine va_iast hx hb hK hP hD hS 3 0 rfl rfl (by unfold vp_in; decide) dX8_lock_91 (fun H36 locs hP hD hS => ?_)
  obtain ⟨f37, ef37⟩ : ∃ z : Nat → Int32, z = upd f25 2 60 := ⟨_, rfl⟩
  have k38 : f37 3 = 0 := by rw [ef37]; exact (pk_un (by decide)).trans (k27)
  have k39 : f37 4 = 0 := by rw [ef37]; exact (pk_un (by decide)).trans (k28)
  have k40 : f37 5 = 0 := by rw [ef37]; exact (pk_un (by decide)).trans (k29)
  have k41 : f37 6 = 0 := by rw [ef37]; exact (pk_un (by decide)).trans (k30)
  have k42 : f37 7 = 0 := by rw [ef37]; exact (pk_un (by decide)).trans (k31)
  have k43 : f37 8 = 0 := by rw [ef37]; exact (pk_un (by decide)).trans (k32)
  have k44 : f37 9 = 0 := by rw [ef37]; exact (pk_un (by decide)).trans (k33)
  have k45 : f37 0 = 0 := by rw [ef37]; exact (pk_un (by decide)).trans (k34)
  have k46 : f37 1 = 0 := by rw [ef37]; exact (pk_un (by decide)).trans (k35)
  have k47 : f37 2 = 60 := by rw [ef37]; exact pk_us
  have hP : va_P (dC, dI) vwCl [(mo, .inr (10, [.int 0, .ref mr, .int 1, .long s9])), (mr, .inr (9, [.ref ll, .ref lt, .ref lp, .int (-1), .int 0, .int 0, .int 0, .int 0, .int 0, .int 0, .int (-1), .int 0, .int 0, .int 0])), (ll, .inr (1, [.int 0, .ref ed, .int 0])), (q8, .inl (cA10, 10, .inl f37))] H36 := by rw [ef37]; exact hP
  have hD : va_D A [(mo, .inr (10, [.int 0, .ref mr, .int 1, .long s9])), (mr, .inr (9, [.ref ll, .ref lt, .ref lp, .int (-1), .int 0, .int 0, .int 0, .int 0, .int 0, .int 0, .int (-1), .int 0, .int 0, .int 0])), (ll, .inr (1, [.int 0, .ref ed, .int 0])), (q8, .inl (cA10, 10, .inl f37))] := by rw [ef37]; exact hD
  refine lv_aload hx hb dX8_lock_92 (lv_at hl 0 rfl) ?_
  refine lv_iconst (v := 3) hx hb dX8_lock_94 (by decide) ?_
  refine lv_iload hx hb dX8_lock_95 (lv_at hl 5 rfl) ?_
  refine lv_if_eq (tgt := 104) hx hb dX8_lock_97 (by decide) (fun _ => ?_) (fun h => absurd h (by decide))
  refine lv_iconst (v := 0) hx hb dX8_lock_104 (by decide) ?_
  refine va_iast hx hb hK hP hD hS 3 0 rfl rfl (by unfold vp_in; decide) dX8_lock_105 (fun H48 locs hP hD hS => ?_)
  obtain ⟨f49, ef49⟩ : ∃ z : Nat → Int32, z = upd f37 3 0 := ⟨_, rfl⟩
  have k50 : f49 4 = 0 := by rw [ef49]; exact (pk_un (by decide)).trans (k39)
  have k51 : f49 5 = 0 := by rw [ef49]; exact (pk_un (by decide)).trans (k40)
  have k52 : f49 6 = 0 := by rw [ef49]; exact (pk_un (by decide)).trans (k41)
  have k53 : f49 7 = 0 := by rw [ef49]; exact (pk_un (by decide)).trans (k42)
  have k54 : f49 8 = 0 := by rw [ef49]; exact (pk_un (by decide)).trans (k43)
  have k55 : f49 9 = 0 := by rw [ef49]; exact (pk_un (by decide)).trans (k44)
  have k56 : f49 0 = 0 := by rw [ef49]; exact (pk_un (by decide)).trans (k45)
  have k57 : f49 1 = 0 := by rw [ef49]; exact (pk_un (by decide)).trans (k46)
  have k58 : f49 2 = 60 := by rw [ef49]; exact (pk_un (by decide)).trans (k47)
  have k59 : f49 3 = 0 := by rw [ef49]; exact pk_us
  have hP : va_P (dC, dI) vwCl [(mo, .inr (10, [.int 0, .ref mr, .int 1, .long s9])), (mr, .inr (9, [.ref ll, .ref lt, .ref lp, .int (-1), .int 0, .int 0, .int 0, .int 0, .int 0, .int 0, .int (-1), .int 0, .int 0, .int 0])), (ll, .inr (1, [.int 0, .ref ed, .int 0])), (q8, .inl (cA10, 10, .inl f49))] H48 := by rw [ef49]; exact hP
  have hD : va_D A [(mo, .inr (10, [.int 0, .ref mr, .int 1, .long s9])), (mr, .inr (9, [.ref ll, .ref lt, .ref lp, .int (-1), .int 0, .int 0, .int 0, .int 0, .int 0, .int 0, .int (-1), .int 0, .int 0, .int 0])), (ll, .inr (1, [.int 0, .ref ed, .int 0])), (q8, .inl (cA10, 10, .inl f49))] := by rw [ef49]; exact hD
  refine lv_aload_n hx hb dX8_lock_106 rfl (lv_at hl 1 rfl) ?_
  refine va_get (D := (dC, dI)) (ci := 10) (v := .ref mr) (C := RX8) (T := TX8) (N := 4) hx hb hts zi_X8_lock_X8 hown hK hP 0 rfl rfl 1 (by decide) (hts (.fieldLink RX8 10 "LockRoomsModel" "room" "LLockRoomsModel$Room;") (by decide +kernel)) (fun _ h9 => h9) rfl dX8_lock_107 ?_
  refine va_getN (D := (dC, dI)) (ci := 9) (v := .ref ll) (C := RX7) (T := TX7) (N := 14) hx hb hts zi_X8_lock_X7 hown hK hP 1 rfl rfl 0 (by decide) (va_Nw.use rfl (hN.1 ("LockRoomsModel", 24, "LockRoomsModel$Room", "locks", "Ljava/util/ArrayList;", "LockRoomsModel") (List.mem_of_getElem? (i := 1) rfl))) (fun _ h9 => h9) rfl dX8_lock_110 ?_
  refine lv_aload hx hb dX8_lock_113 (lv_at hl 0 rfl) ?_
  have hPr := (hP).sub (ws' := [(q8, .inl (cA10, 10, .inl f49))]) [3] rfl
  have hPc := hP.sub (ws' := [(ll, .inr (1, [.int 0, .ref ed, .int 0]))]) [2] rfl
  have hDc := hD.sub (ws' := [(ll, .inr (1, [.int 0, .ref ed, .int 0]))]) [2] (by decide) rfl
  have hKc := hK.sub (tys' := [(cA10, .int)]) [0] rfl
  have hFc := va_free (wc := [(ll, .inr (1, [.int 0, .ref ed, .int 0]))]) hD hS hA [2] rfl
  refine va_calli (va_runV (As := [.ref q8]) (rest := []) ⟨hx, hb, hml, hown, hts⟩ (cz_Qadd_0 l dC dI ed H48.size q8 cA10 10 f49 ll) (cwV 1 hts gX8_lock_Jx4a65c_add_9ea2d rfl rfl rfl (by decide +kernel) ⟨Nat.le_of_ble_eq_true rfl, Nat.le_of_ble_eq_true rfl⟩) ⟨zb_blind, va_recv hK hP (ci := 1) (q0 := 2) rfl rfl, fun U hU hW => ⟨rfl, zb_mk hU hW hPr hPc hKc hDc hN hH hS hFc (zx_cons (zx_o hD 3 [2] rfl rfl (by decide)) zx_nil)⟩⟩ rfl rfl hl.1 rfl (lv_room (Nat.le_of_ble_eq_true rfl)) dX8_lock_115 ⟨Nat.le_of_ble_eq_true rfl, Nat.le_of_ble_eq_true rfl⟩) hS (fun q _ h => hFc q h) hFc (fun r61 u t H60 locs ht hvm hw hB hz1 hk1 hS => ?_)
  obtain rfl : r61 = 1 := hw
  obtain ⟨oa_62, cO_62, go_62, k62_0, hP1, hD1, hK1⟩ := hB
  rw [ht] at hP1
  obtain ⟨hP, hD⟩ := va_join (wr := [(mo, .inr (10, [.int 0, .ref mr, .int 1, .long s9])), (mr, .inr (9, [.ref ll, .ref lt, .ref lp, .int (-1), .int 0, .int 0, .int 0, .int 0, .int 0, .int 0, .int (-1), .int 0, .int 0, .int 0])), (q8, .inl (cA10, 10, .inl f49))]) (w1 := [(ll, .inr (1, [.int 1, .ref oa_62, .int 1])), (oa_62, .inl (cO_62, 10, .inr (.inr (.inr (.inr go_62)))))]) hP hD [2] [0, 1, 3] rfl rfl (by decide) (by decide) hk1 hFc hP1 hD1
  have hP : va_P (dC, dI) vwCl [(mo, .inr (10, [.int 0, .ref mr, .int 1, .long s9])), (mr, .inr (9, [.ref ll, .ref lt, .ref lp, .int (-1), .int 0, .int 0, .int 0, .int 0, .int 0, .int 0, .int (-1), .int 0, .int 0, .int 0])), (q8, .inl (cA10, 10, .inl f49)), (ll, .inr (1, [.int 1, .ref oa_62, .int 1])), (oa_62, .inl (cO_62, 10, .inr (.inr (.inr (.inr go_62)))))] H60 := hP
  have hD : va_D A [(mo, .inr (10, [.int 0, .ref mr, .int 1, .long s9])), (mr, .inr (9, [.ref ll, .ref lt, .ref lp, .int (-1), .int 0, .int 0, .int 0, .int 0, .int 0, .int 0, .int (-1), .int 0, .int 0, .int 0])), (q8, .inl (cA10, 10, .inl f49)), (ll, .inr (1, [.int 1, .ref oa_62, .int 1])), (oa_62, .inl (cO_62, 10, .inr (.inr (.inr (.inr go_62)))))] := hD
  have hK := hK.app (va_K.moved hvm.symm hK1)
  have hK : va_K (dC, dI) vwCl [(cA10, .int), (cO_62, .object "java/lang/Object")] s := hK
  refine lv_pop hx hb dX8_lock_118 rfl ?_
  refine lv_iload hx hb dX8_lock_119 (lv_at hl 6 rfl) ?_
  refine lv_if_eq (tgt := 143) hx hb dX8_lock_121 (by decide) (fun h => absurd h (by decide)) (fun _ => ?_)
  refine lv_aload_n hx hb dX8_lock_124 rfl (lv_at hl 1 rfl) ?_
  refine va_get (D := (dC, dI)) (ci := 10) (v := .ref mr) (C := RX8) (T := TX8) (N := 4) hx hb hts zi_X8_lock_X8 hown hK hP 0 rfl rfl 1 (by decide) (hts (.fieldLink RX8 10 "LockRoomsModel" "room" "LLockRoomsModel$Room;") (by decide +kernel)) (fun _ h9 => h9) rfl dX8_lock_125 ?_
  refine lv_aload_n hx hb dX8_lock_128 rfl (lv_at hl 1 rfl) ?_
  refine va_get (D := (dC, dI)) (ci := 10) (v := .ref mr) (C := RX8) (T := TX8) (N := 4) hx hb hts zi_X8_lock_X8 hown hK hP 0 rfl rfl 1 (by decide) (hts (.fieldLink RX8 10 "LockRoomsModel" "room" "LLockRoomsModel$Room;") (by decide +kernel)) (fun _ h9 => h9) rfl dX8_lock_129 ?_
  refine va_getN (D := (dC, dI)) (ci := 9) (v := .ref ll) (C := RX7) (T := TX7) (N := 14) hx hb hts zi_X8_lock_X7 hown hK hP 1 rfl rfl 0 (by decide) (va_Nw.use rfl (hN.1 ("LockRoomsModel", 24, "LockRoomsModel$Room", "locks", "Ljava/util/ArrayList;", "LockRoomsModel") (List.mem_of_getElem? (i := 1) rfl))) (fun _ h9 => h9) rfl dX8_lock_132 ?_
  have hPr := (hP).sub (ws' := [(ll, .inr (1, [.int 1, .ref oa_62, .int 1]))]) [3] rfl
  have hPc := hP.sub (ws' := []) [] rfl
  have hDc := hD.sub (ws' := []) [] (by decide) rfl
  have hKc := hK.sub (tys' := []) [] rfl
  have hFc := va_free (wc := []) hD hS hA [] rfl
  refine va_calli (va_runV (As := []) (rest := [.ref mr]) ⟨hx, hb, hml, hown, hts⟩ (cz_Qsize l dC dI ed H60.size ll 1 oa_62 1) (cwV 0 hts gX8_lock_Jx4a65c_size_8abf5 rfl rfl rfl (by decide +kernel) ⟨Nat.le_of_ble_eq_true rfl, Nat.le_of_ble_eq_true rfl⟩) ⟨zb_blind, va_recv hK hP (ci := 1) (q0 := 3) rfl rfl, fun U hU hW => ⟨rfl, zb_mk hU hW hPr hPc hKc hDc hN hH hS hFc zx_e⟩⟩ rfl rfl hl.1 rfl (lv_room (Nat.le_of_ble_eq_true rfl)) dX8_lock_135 ⟨Nat.le_of_ble_eq_true rfl, Nat.le_of_ble_eq_true rfl⟩) hS (fun q _ h => hFc q h) hFc (fun r64 u t H63 locs ht hvm hw hB hz1 hk1 hS => ?_)
  obtain rfl : r64 = 1 := hw.trans (by decide +kernel)
  have hP := zo_K hP hk1
  refine lv_iconst (v := 1) hx hb dX8_lock_138 (by decide) ?_
  refine lv_isub hx hb dX8_lock_139 ?_
  refine zo_i (v := 0) (by decide) ?_
  refine va_putN (D := (dC, dI)) (ci := 9) (v := .int 0) (ty := .int) (C := RX7) (T := TX7) (N := 14) hx hb hts zi_X8_lock_X7 tyX7 tyX7_ok nmX7 hown hK hP hD hS 1 rfl rfl 3 (by decide) (va_Nw.use rfl (hN.1 ("LockRoomsModel", 52, "LockRoomsModel$Room", "exit", "I", "LockRoomsModel") (List.mem_of_getElem? (i := 4) rfl))) (fun _ h9 => h9) rfl (by decide +kernel) rfl rfl (Nat.le_of_ble_eq_true rfl) dX8_lock_140 (fun H65 locs hP hD hS => ?_)
  have hP : va_P (dC, dI) vwCl [(mo, .inr (10, [.int 0, .ref mr, .int 1, .long s9])), (mr, .inr (9, [.ref ll, .ref lt, .ref lp, .int 0, .int 0, .int 0, .int 0, .int 0, .int 0, .int 0, .int (-1), .int 0, .int 0, .int 0])), (q8, .inl (cA10, 10, .inl f49)), (ll, .inr (1, [.int 1, .ref oa_62, .int 1])), (oa_62, .inl (cO_62, 10, .inr (.inr (.inr (.inr go_62)))))] H65 := hP
  have hD : va_D A [(mo, .inr (10, [.int 0, .ref mr, .int 1, .long s9])), (mr, .inr (9, [.ref ll, .ref lt, .ref lp, .int 0, .int 0, .int 0, .int 0, .int 0, .int 0, .int 0, .int (-1), .int 0, .int 0, .int 0])), (q8, .inl (cA10, 10, .inl f49)), (ll, .inr (1, [.int 1, .ref oa_62, .int 1])), (oa_62, .inl (cO_62, 10, .inr (.inr (.inr (.inr go_62)))))] := hD
  refine lv_aload_n hx hb dX8_lock_143 rfl (lv_at hl 1 rfl) ?_
  refine va_get (D := (dC, dI)) (ci := 10) (v := .ref mr) (C := RX8) (T := TX8) (N := 4) hx hb hts zi_X8_lock_X8 hown hK hP 0 rfl rfl 1 (by decide) (hts (.fieldLink RX8 10 "LockRoomsModel" "room" "LLockRoomsModel$Room;") (by decide +kernel)) (fun _ h9 => h9) rfl dX8_lock_144 ?_
  refine va_getN (D := (dC, dI)) (ci := 9) (v := .ref ll) (C := RX7) (T := TX7) (N := 14) hx hb hts zi_X8_lock_X7 hown hK hP 1 rfl rfl 0 (by decide) (va_Nw.use rfl (hN.1 ("LockRoomsModel", 24, "LockRoomsModel$Room", "locks", "Ljava/util/ArrayList;", "LockRoomsModel") (List.mem_of_getElem? (i := 1) rfl))) (fun _ h9 => h9) rfl dX8_lock_147 ?_
  have hPr := (hP).sub (ws' := [(ll, .inr (1, [.int 1, .ref oa_62, .int 1]))]) [3] rfl
  have hPc := hP.sub (ws' := []) [] rfl
  have hDc := hD.sub (ws' := []) [] (by decide) rfl
  have hKc := hK.sub (tys' := []) [] rfl
  have hFc := va_free (wc := []) hD hS hA [] rfl
  refine va_calli (va_runV (As := []) (rest := []) ⟨hx, hb, hml, hown, hts⟩ (cz_Qsize l dC dI ed H65.size ll 1 oa_62 1) (cwV 0 hts gX8_lock_Jx4a65c_size_8abf5 rfl rfl rfl (by decide +kernel) ⟨Nat.le_of_ble_eq_true rfl, Nat.le_of_ble_eq_true rfl⟩) ⟨zb_blind, va_recv hK hP (ci := 1) (q0 := 3) rfl rfl, fun U hU hW => ⟨rfl, zb_mk hU hW hPr hPc hKc hDc hN hH hS hFc zx_e⟩⟩ rfl rfl hl.1 rfl (lv_room (Nat.le_of_ble_eq_true rfl)) dX8_lock_150 ⟨Nat.le_of_ble_eq_true rfl, Nat.le_of_ble_eq_true rfl⟩) hS (fun q _ h => hFc q h) hFc (fun r67 u t H66 locs ht hvm hw hB hz1 hk1 hS => ?_)
  obtain rfl : r67 = 1 := hw.trans (by decide +kernel)
  have hP := zo_K hP hk1
  refine lv_iconst (v := 1) hx hb dX8_lock_153 (by decide) ?_
  refine lv_isub hx hb dX8_lock_154 ?_
  refine zo_i (v := 0) (by decide) ?_
  refine W.widen (k := 2) (n := 20) (Nat.le_of_ble_eq_true rfl) (Nat.le_of_ble_eq_true rfl) ?_
  have hP9 := hP.sub (ws' := [(mo, .inr (10, [.int 0, .ref mr, .int 1, .long s9])), (mr, .inr (9, [.ref ll, .ref lt, .ref lp, .int 0, .int 0, .int 0, .int 0, .int 0, .int 0, .int 0, .int (-1), .int 0, .int 0, .int 0])), (ll, .inr (1, [.int 1, .ref oa_62, .int 1])), (oa_62, .inl (cO_62, 10, .inr (.inr (.inr (.inr go_62))))), (q8, .inl (cA10, 10, .inl f49))]) [0, 1, 3, 4, 2] rfl
  have hD9 := hD.sub (ws' := [(mo, .inr (10, [.int 0, .ref mr, .int 1, .long s9])), (mr, .inr (9, [.ref ll, .ref lt, .ref lp, .int 0, .int 0, .int 0, .int 0, .int 0, .int 0, .int 0, .int (-1), .int 0, .int 0, .int 0])), (ll, .inr (1, [.int 1, .ref oa_62, .int 1])), (oa_62, .inl (cO_62, 10, .inr (.inr (.inr (.inr go_62))))), (q8, .inl (cA10, 10, .inl f49))]) [0, 1, 3, 4, 2] (by decide) rfl
  have hK9 := hK.sub (tys' := [(cO_62, .object "java/lang/Object"), (cA10, .int)]) [1, 0] rfl
  exact W.iret hx hb hr (fun t ht hW => ⟨⟨0, (), rfl, rfl, ⟨oa_62, cO_62, go_62, q8, cA10, f49, ⟨k62_0, k56, k57, k58, k59, k50, k51, k52, k53, k54, k55⟩, by rw [ht]; exact hP9, hD9, va_K.moved hW.alike hK9⟩⟩, hS.F ht⟩) hS.2.2 dX8_lock_155
set_option maxHeartbeats 4000000 in
set_option maxRecDepth 100000 in
theorem cz_QaddLock_1 (l : Launch) (dC : Nat → ClassId) (dI : Nat → Nat → Nat) (ed sz : Nat) (lk : Nat) (cL : ClassId) (fl : Nat → Option Nat) (l1 : Nat) (rm : Nat) (th : Nat) (pl : Nat) (gm : Nat) (hkl1 : fl 1 = some l1) : Met l yX3_addLock wsX3_addLock ({ frames := 0, cells := 0, slots := 0, locals := 0 } : Jvm.Room) (va_Pc [.ref rm, .int 0, .int 0, .int 60, .int 0, .int 0] (zB dC dI ed sz [(lk, .inl (cL, 10, .inr (.inr (.inr (.inr fl)))))] [(rm, .inr (5, [.ref lk, .ref th, .ref pl, .ref gm, .int 1, .int 0, .int 0, .int 0, .int 1, .int 0, .int 0, .int 0])), (l1, .inr (3, [.int 0, .int 0, .int 0, .int 0, .int 0, .int 0, .int 0, .int 0, .int 0, .int 0]))] [(cL, .object "LockRooms$Lock")])) (va_Qi (fun (r : Int32) (_ : Unit) => r = 1) (fun (_ : Unit) (t : State) => va_P (dC, dI) vwCl [(rm, .inr (5, [.ref lk, .ref th, .ref pl, .ref gm, .int 2, .int 0, .int 0, .int 0, .int 1, .int 0, .int 0, .int 0])), (l1, .inr (3, [.int 0, .int 0, .int 60, .int 0, .int 0, .int 0, .int 0, .int 0, .int 0, .int 0]))] t.heap ∧ va_D (va_A [(rm, .inr (5, [.ref lk, .ref th, .ref pl, .ref gm, .int 1, .int 0, .int 0, .int 0, .int 1, .int 0, .int 0, .int 0])), (l1, .inr (3, [.int 0, .int 0, .int 0, .int 0, .int 0, .int 0, .int 0, .int 0, .int 0, .int 0]))] sz) [(rm, .inr (5, [.ref lk, .ref th, .ref pl, .ref gm, .int 2, .int 0, .int 0, .int 0, .int 1, .int 0, .int 0, .int 0])), (l1, .inr (3, [.int 0, .int 0, .int 60, .int 0, .int 0, .int 0, .int 0, .int 0, .int 0, .int 0]))] ∧ va_K (dC, dI) vwCl [] t) (va_A [(rm, .inr (5, [.ref lk, .ref th, .ref pl, .ref gm, .int 1, .int 0, .int 0, .int 0, .int 1, .int 0, .int 0, .int 0])), (l1, .inr (3, [.int 0, .int 0, .int 0, .int 0, .int 0, .int 0, .int 0, .int 0, .int 0, .int 0]))] sz)) 0 0 (va_A [(rm, .inr (5, [.ref lk, .ref th, .ref pl, .ref gm, .int 1, .int 0, .int 0, .int 0, .int 1, .int 0, .int 0, .int 0])), (l1, .inr (3, [.int 0, .int 0, .int 0, .int 0, .int 0, .int 0, .int 0, .int 0, .int 0, .int 0]))] sz) := by
  refine Met.ofW (cc := cX3_addLock) (maxL := 8) (ret := (some .int)) (by decide) rfl ?_
  intro p e s m args below meth c s₁ B hml hv
  obtain ⟨rfl, hsz, hR0, hP, hK, hD0, hN, hH, hX0⟩ := hv
  have hx := B.exec
  have hb := B.bytes
  have hr := B.returns
  have hts := atoms_spec (ws := wsX3_addLock) B.pre
  have hown : s.vm.findClass RX3 = some m.cls := findClass_of_methodNamed B.named
  have hlocks := B.notSynchronized
  subst hsz
  have hD := hD0.self (sz := s.heap.size)
  have hAr := zx_A hX0 hR0
  generalize hAe : va_A [(rm, .inr (5, [.ref lk, .ref th, .ref pl, .ref gm, .int 1, .int 0, .int 0, .int 0, .int 1, .int 0, .int 0, .int 0])), (l1, .inr (3, [.int 0, .int 0, .int 0, .int 0, .int 0, .int 0, .int 0, .int 0, .int 0, .int 0]))] s.heap.size = A at hD hAr hH ⊢
  have hA : ∀ q : Nat, s.heap.size ≤ q → A q := fun q h => by rw [← hAe]; exact Or.inr h
  have hS : va_S A s.heap s.heap [] := va_S.rf
  have hl := lv_entry ([.ref rm, .int 0, .int 0, .int 60, .int 0, .int 0]) (n := 8) (Nat.le_of_ble_eq_true rfl)
  rw [lg_entry_eq]
  generalize (lg_sl ([.ref rm, .int 0, .int 0, .int 60, .int 0, .int 0]) ++ List.replicate (8 - (lg_sl ([.ref rm, .int 0, .int 0, .int 60, .int 0, .int 0])).length) Slot.unset).toArray = ls at hl ⊢
  have hl : lv_has ls 8 [(0, .ref rm), (1, .int 0), (2, .int 0), (3, .int 60), (4, .int 0), (5, .int 0)] := hl
  refine lv_aload_n hx hb dX3_addLock_0 rfl (lv_at hl 0 rfl) ?_
  refine va_get (D := (dC, dI)) (ci := 5) (v := .int 1) (C := RX3) (T := TX3) (N := 12) hx hb hts zi_X3_addLock_X3 hown hK hP 0 rfl rfl 4 (by decide) (hts (.fieldLink RX3 47 "LockRooms$Room" "lockCount" "I") (by decide +kernel)) (fun _ h9 => h9) rfl dX3_addLock_1 ?_
  refine lv_istore (lv' := [(6, .int 1), (0, .ref rm), (1, .int 0), (2, .int 0), (3, .int 60), (4, .int 0), (5, .int 0)]) hx hb dX3_addLock_4 hl (by decide) rfl (fun ls hl => ?_)
  refine lv_iload hx hb dX3_addLock_6 (lv_at hl 0 rfl) ?_
  refine lv_bipush (v := 10) hx hb dX3_addLock_8 (by decide) ?_
  refine lv_icmp_lt (tgt := 15) hx hb dX3_addLock_10 (by decide) (fun _ => ?_) (fun h => absurd h (by decide))
  refine lv_aload_n hx hb dX3_addLock_15 rfl (lv_at hl 1 rfl) ?_
  refine va_get (D := (dC, dI)) (ci := 5) (v := .ref lk) (C := RX3) (T := TX3) (N := 12) hx hb hts zi_X3_addLock_X3 hown hK hP 0 rfl rfl 0 (by decide) (hts (.fieldLink RX3 11 "LockRooms$Room" "locks" "[LLockRooms$Lock;") (by decide +kernel)) (fun _ h9 => h9) rfl dX3_addLock_16 ?_
  refine lv_iload hx hb dX3_addLock_19 (lv_at hl 0 rfl) ?_
  refine va_aldq hx hb hK hR0 0 0 rfl rfl (by unfold vp_in; decide) dX3_addLock_21 ?_
  refine zo_q (v := .ref l1) (by rw [show Int32.toNatClampNeg 1 = 1 from by decide, hkl1]; rfl) ?_
  refine lv_astore (lv' := [(7, .ref l1), (6, .int 1), (0, .ref rm), (1, .int 0), (2, .int 0), (3, .int 60), (4, .int 0), (5, .int 0)]) hx hb dX3_addLock_22 hl (by decide) rfl (fun ls hl => ?_)
  refine lv_aload hx hb dX3_addLock_24 (lv_at hl 0 rfl) ?_
  refine lv_iload_n hx hb dX3_addLock_26 rfl (lv_at hl 3 rfl) ?_
  refine va_put (D := (dC, dI)) (ci := 3) (v := .int 0) (ty := .int) (C := RX1) (T := TX1) (N := 10) hx hb hts zi_X3_addLock_X1 tyX1 tyX1_ok nmX1 hown hK hP hD hS 1 rfl rfl 0 (by decide) (hts (.fieldLink RX3 78 "LockRooms$Lock" "needs" "I") (by decide +kernel)) (fun _ h9 => h9) rfl (by decide +kernel) rfl rfl (Nat.le_of_ble_eq_true rfl) dX3_addLock_27 (fun H1 locs hP hD hS => ?_)
  have hP : va_P (dC, dI) vwCl [(rm, .inr (5, [.ref lk, .ref th, .ref pl, .ref gm, .int 1, .int 0, .int 0, .int 0, .int 1, .int 0, .int 0, .int 0])), (l1, .inr (3, [.int 0, .int 0, .int 0, .int 0, .int 0, .int 0, .int 0, .int 0, .int 0, .int 0]))] H1 := hP
  have hD : va_D A [(rm, .inr (5, [.ref lk, .ref th, .ref pl, .ref gm, .int 1, .int 0, .int 0, .int 0, .int 1, .int 0, .int 0, .int 0])), (l1, .inr (3, [.int 0, .int 0, .int 0, .int 0, .int 0, .int 0, .int 0, .int 0, .int 0, .int 0]))] := hD
  refine lv_aload hx hb dX3_addLock_30 (lv_at hl 0 rfl) ?_
  refine lv_iload_n hx hb dX3_addLock_32 rfl (lv_at hl 4 rfl) ?_
  refine va_put (D := (dC, dI)) (ci := 3) (v := .int 0) (ty := .int) (C := RX1) (T := TX1) (N := 10) hx hb hts zi_X3_addLock_X1 tyX1 tyX1_ok nmX1 hown hK hP hD hS 1 rfl rfl 1 (by decide) (hts (.fieldLink RX3 81 "LockRooms$Lock" "keeps" "I") (by decide +kernel)) (fun _ h9 => h9) rfl (by decide +kernel) rfl rfl (Nat.le_of_ble_eq_true rfl) dX3_addLock_33 (fun H2 locs hP hD hS => ?_)
  have hP : va_P (dC, dI) vwCl [(rm, .inr (5, [.ref lk, .ref th, .ref pl, .ref gm, .int 1, .int 0, .int 0, .int 0, .int 1, .int 0, .int 0, .int 0])), (l1, .inr (3, [.int 0, .int 0, .int 0, .int 0, .int 0, .int 0, .int 0, .int 0, .int 0, .int 0]))] H2 := hP
  have hD : va_D A [(rm, .inr (5, [.ref lk, .ref th, .ref pl, .ref gm, .int 1, .int 0, .int 0, .int 0, .int 1, .int 0, .int 0, .int 0])), (l1, .inr (3, [.int 0, .int 0, .int 0, .int 0, .int 0, .int 0, .int 0, .int 0, .int 0, .int 0]))] := hD
  refine lv_aload hx hb dX3_addLock_36 (lv_at hl 0 rfl) ?_
  refine lv_iload_n hx hb dX3_addLock_38 rfl (lv_at hl 5 rfl) ?_
  refine va_put (D := (dC, dI)) (ci := 3) (v := .int 60) (ty := .int) (C := RX1) (T := TX1) (N := 10) hx hb hts zi_X3_addLock_X1 tyX1 tyX1_ok nmX1 hown hK hP hD hS 1 rfl rfl 2 (by decide) (hts (.fieldLink RX3 84 "LockRooms$Lock" "hard" "I") (by decide +kernel)) (fun _ h9 => h9) rfl (by decide +kernel) rfl rfl (Nat.le_of_ble_eq_true rfl) dX3_addLock_39 (fun H3 locs hP hD hS => ?_)
  have hP : va_P (dC, dI) vwCl [(rm, .inr (5, [.ref lk, .ref th, .ref pl, .ref gm, .int 1, .int 0, .int 0, .int 0, .int 1, .int 0, .int 0, .int 0])), (l1, .inr (3, [.int 0, .int 0, .int 60, .int 0, .int 0, .int 0, .int 0, .int 0, .int 0, .int 0]))] H3 := hP
  have hD : va_D A [(rm, .inr (5, [.ref lk, .ref th, .ref pl, .ref gm, .int 1, .int 0, .int 0, .int 0, .int 1, .int 0, .int 0, .int 0])), (l1, .inr (3, [.int 0, .int 0, .int 60, .int 0, .int 0, .int 0, .int 0, .int 0, .int 0, .int 0]))] := hD
  refine lv_aload hx hb dX3_addLock_42 (lv_at hl 0 rfl) ?_
  refine lv_iload hx hb dX3_addLock_44 (lv_at hl 6 rfl) ?_
  refine va_put (D := (dC, dI)) (ci := 3) (v := .int 0) (ty := .boolean) (C := RX1) (T := TX1) (N := 10) hx hb hts zi_X3_addLock_X1 tyX1 tyX1_ok nmX1 hown hK hP hD hS 1 rfl rfl 3 (by decide) (hts (.fieldLink RX3 87 "LockRooms$Lock" "isMagnet" "Z") (by decide +kernel)) (fun _ h9 => h9) rfl (by decide +kernel) (by decide) (by decide) (Nat.le_of_ble_eq_true rfl) dX3_addLock_46 (fun H4 locs hP hD hS => ?_)
  have hP : va_P (dC, dI) vwCl [(rm, .inr (5, [.ref lk, .ref th, .ref pl, .ref gm, .int 1, .int 0, .int 0, .int 0, .int 1, .int 0, .int 0, .int 0])), (l1, .inr (3, [.int 0, .int 0, .int 60, .int 0, .int 0, .int 0, .int 0, .int 0, .int 0, .int 0]))] H4 := hP
  have hD : va_D A [(rm, .inr (5, [.ref lk, .ref th, .ref pl, .ref gm, .int 1, .int 0, .int 0, .int 0, .int 1, .int 0, .int 0, .int 0])), (l1, .inr (3, [.int 0, .int 0, .int 60, .int 0, .int 0, .int 0, .int 0, .int 0, .int 0, .int 0]))] := hD
  refine lv_iload hx hb dX3_addLock_49 (lv_at hl 7 rfl) ?_
  refine lv_if_eq (tgt := 60) hx hb dX3_addLock_51 (by decide) (fun _ => ?_) (fun h => absurd h (by decide))
  refine lv_aload_n hx hb dX3_addLock_60 rfl (lv_at hl 2 rfl) ?_
  refine lv_dup hx hb dX3_addLock_61 rfl ?_
  refine va_get (D := (dC, dI)) (ci := 5) (v := .int 1) (C := RX3) (T := TX3) (N := 12) hx hb hts zi_X3_addLock_X3 hown hK hP 0 rfl rfl 4 (by decide) (hts (.fieldLink RX3 47 "LockRooms$Room" "lockCount" "I") (by decide +kernel)) (fun _ h9 => h9) rfl dX3_addLock_62 ?_
  refine lv_iconst (v := 1) hx hb dX3_addLock_65 (by decide) ?_
  refine lv_iadd hx hb dX3_addLock_66 ?_
  refine zo_i (v := 2) (by decide) ?_
  refine va_put (D := (dC, dI)) (ci := 5) (v := .int 2) (ty := .int) (C := RX3) (T := TX3) (N := 12) hx hb hts zi_X3_addLock_X3 tyX3 tyX3_ok nmX3 hown hK hP hD hS 0 rfl rfl 4 (by decide) (hts (.fieldLink RX3 47 "LockRooms$Room" "lockCount" "I") (by decide +kernel)) (fun _ h9 => h9) rfl (by decide +kernel) rfl rfl (Nat.le_of_ble_eq_true rfl) dX3_addLock_67 (fun H5 locs hP hD hS => ?_)
  have hP : va_P (dC, dI) vwCl [(rm, .inr (5, [.ref lk, .ref th, .ref pl, .ref gm, .int 2, .int 0, .int 0, .int 0, .int 1, .int 0, .int 0, .int 0])), (l1, .inr (3, [.int 0, .int 0, .int 60, .int 0, .int 0, .int 0, .int 0, .int 0, .int 0, .int 0]))] H5 := hP
  have hD : va_D A [(rm, .inr (5, [.ref lk, .ref th, .ref pl, .ref gm, .int 2, .int 0, .int 0, .int 0, .int 1, .int 0, .int 0, .int 0])), (l1, .inr (3, [.int 0, .int 0, .int 60, .int 0, .int 0, .int 0, .int 0, .int 0, .int 0, .int 0]))] := hD
  refine lv_iload hx hb dX3_addLock_70 (lv_at hl 1 rfl) ?_
  refine W.widen (k := 0) (n := 0) (Nat.le_of_ble_eq_true rfl) (Nat.le_of_ble_eq_true rfl) ?_
  have hP9 := hP.sub (ws' := [(rm, .inr (5, [.ref lk, .ref th, .ref pl, .ref gm, .int 2, .int 0, .int 0, .int 0, .int 1, .int 0, .int 0, .int 0])), (l1, .inr (3, [.int 0, .int 0, .int 60, .int 0, .int 0, .int 0, .int 0, .int 0, .int 0, .int 0]))]) [0, 1] rfl
  have hD9 := hD.sub (ws' := [(rm, .inr (5, [.ref lk, .ref th, .ref pl, .ref gm, .int 2, .int 0, .int 0, .int 0, .int 1, .int 0, .int 0, .int 0])), (l1, .inr (3, [.int 0, .int 0, .int 60, .int 0, .int 0, .int 0, .int 0, .int 0, .int 0, .int 0]))]) [0, 1] (by decide) rfl
  have hK9 := hK.sub (tys' := []) [] rfl
  exact W.iret hx hb hr (fun t ht hW => ⟨⟨1, (), rfl, rfl, ⟨by rw [ht]; exact hP9, hD9, va_K.moved hW.alike hK9⟩⟩, hS.F ht⟩) hS.2.2 dX3_addLock_72
set_option maxHeartbeats 4000000 in
set_option maxRecDepth 100000 in
theorem cz_QX6_lock_1 (l : Launch) (dC : Nat → ClassId) (dI : Nat → Nat → Nat) (ed sz : Nat) (x : Nat) (rm : Nat) (tr : Nat) (st : Nat) (gm : Nat) (lk : Nat) (cL : ClassId) (fl : Nat → Option Nat) (l1 : Nat) (th : Nat) (pl : Nat) (hkl1 : fl 1 = some l1) : Met l yX6_lock wsX6_lock ({ frames := 1, cells := 0, slots := 0, locals := 27 } : Jvm.Room) (va_Pc [.ref x, .int 0, .int 0, .int 60, .int 0, .int 0] (zB dC dI ed sz [(x, .inr (8, [.ref rm, .ref tr, .ref st])), (gm, .inr (2, [.int 0, .int 0, .int 0, .int 0, .int 0, .int (-1), .long 0])), (lk, .inl (cL, 10, .inr (.inr (.inr (.inr fl)))))] [(rm, .inr (5, [.ref lk, .ref th, .ref pl, .ref gm, .int 1, .int 0, .int 0, .int 0, .int 1, .int 0, .int 0, .int 0])), (l1, .inr (3, [.int 0, .int 0, .int 0, .int 0, .int 0, .int 0, .int 0, .int 0, .int 0, .int 0]))] [(cL, .object "LockRooms$Lock")])) (va_Qi (fun (r : Int32) (_ : Unit) => r = 1) (fun (_ : Unit) (t : State) => va_P (dC, dI) vwCl [(rm, .inr (5, [.ref lk, .ref th, .ref pl, .ref gm, .int 2, .int 0, .int 0, .int 0, .int 1, .int 0, .int 0, .int 0])), (l1, .inr (3, [.int 0, .int 0, .int 60, .int 0, .int 0, .int 0, .int 0, .int 0, .int 0, .int 0]))] t.heap ∧ va_D (va_A [(rm, .inr (5, [.ref lk, .ref th, .ref pl, .ref gm, .int 1, .int 0, .int 0, .int 0, .int 1, .int 0, .int 0, .int 0])), (l1, .inr (3, [.int 0, .int 0, .int 0, .int 0, .int 0, .int 0, .int 0, .int 0, .int 0, .int 0]))] sz) [(rm, .inr (5, [.ref lk, .ref th, .ref pl, .ref gm, .int 2, .int 0, .int 0, .int 0, .int 1, .int 0, .int 0, .int 0])), (l1, .inr (3, [.int 0, .int 0, .int 60, .int 0, .int 0, .int 0, .int 0, .int 0, .int 0, .int 0]))] ∧ va_K (dC, dI) vwCl [] t) (va_A [(rm, .inr (5, [.ref lk, .ref th, .ref pl, .ref gm, .int 1, .int 0, .int 0, .int 0, .int 1, .int 0, .int 0, .int 0])), (l1, .inr (3, [.int 0, .int 0, .int 0, .int 0, .int 0, .int 0, .int 0, .int 0, .int 0, .int 0]))] sz)) 0 0 (va_A [(rm, .inr (5, [.ref lk, .ref th, .ref pl, .ref gm, .int 1, .int 0, .int 0, .int 0, .int 1, .int 0, .int 0, .int 0])), (l1, .inr (3, [.int 0, .int 0, .int 0, .int 0, .int 0, .int 0, .int 0, .int 0, .int 0, .int 0]))] sz) := by
  refine Met.ofW (cc := cX6_lock) (maxL := 6) (ret := (some .int)) (by decide) rfl ?_
  intro p e s m args below meth c s₁ B hml hv
  obtain ⟨rfl, hsz, hR0, hP, hK, hD0, hN, hH, hX0⟩ := hv
  have hx := B.exec
  have hb := B.bytes
  have hr := B.returns
  have hts := atoms_spec (ws := wsX6_lock) B.pre
  have hown : s.vm.findClass RX6 = some m.cls := findClass_of_methodNamed B.named
  have hlocks := B.notSynchronized
  subst hsz
  have hD := hD0.self (sz := s.heap.size)
  have hAr := zx_A hX0 hR0
  generalize hAe : va_A [(rm, .inr (5, [.ref lk, .ref th, .ref pl, .ref gm, .int 1, .int 0, .int 0, .int 0, .int 1, .int 0, .int 0, .int 0])), (l1, .inr (3, [.int 0, .int 0, .int 0, .int 0, .int 0, .int 0, .int 0, .int 0, .int 0, .int 0]))] s.heap.size = A at hD hAr hH ⊢
  have hA : ∀ q : Nat, s.heap.size ≤ q → A q := fun q h => by rw [← hAe]; exact Or.inr h
  have hS : va_S A s.heap s.heap [] := va_S.rf
  have hl := lv_entry ([.ref x, .int 0, .int 0, .int 60, .int 0, .int 0]) (n := 6) (Nat.le_of_ble_eq_true rfl)
  rw [lg_entry_eq]
  generalize (lg_sl ([.ref x, .int 0, .int 0, .int 60, .int 0, .int 0]) ++ List.replicate (6 - (lg_sl ([.ref x, .int 0, .int 0, .int 60, .int 0, .int 0])).length) Slot.unset).toArray = ls at hl ⊢
  have hl : lv_has ls 6 [(0, .ref x), (1, .int 0), (2, .int 0), (3, .int 60), (4, .int 0), (5, .int 0)] := hl
  refine lv_iload_n hx hb dX6_lock_0 rfl (lv_at hl 1 rfl) ?_
  refine lv_if_lt (tgt := 29) hx hb dX6_lock_1 (by decide) (fun h => absurd h (by decide)) (fun _ => ?_)
  refine lv_iload_n hx hb dX6_lock_4 rfl (lv_at hl 1 rfl) ?_
  refine lv_sipush (v := 4095) hx hb dX6_lock_5 (by decide) ?_
  refine lv_icmp_gt (tgt := 29) hx hb dX6_lock_8 (by decide) (fun h => absurd h (by decide)) (fun _ => ?_)
  refine lv_iload_n hx hb dX6_lock_11 rfl (lv_at hl 2 rfl) ?_
  refine lv_iload_n hx hb dX6_lock_12 rfl (lv_at hl 1 rfl) ?_
  refine lv_iconst (v := (-1)) hx hb dX6_lock_13 (by decide) ?_
  refine lv_ixor hx hb dX6_lock_14 ?_
  refine zo_i (v := (-1)) (by decide) ?_
  refine lv_iand hx hb dX6_lock_15 ?_
  refine zo_i (v := 0) q_0and ?_
  refine lv_if_ne (tgt := 29) hx hb dX6_lock_16 (by decide) (fun h => absurd h (by decide)) (fun _ => ?_)
  refine lv_iload_n hx hb dX6_lock_19 rfl (lv_at hl 3 rfl) ?_
  refine lv_iconst (v := 1) hx hb dX6_lock_20 (by decide) ?_
  refine lv_bipush (v := 60) hx hb dX6_lock_21 (by decide) ?_
  have hPr := (zo_nil : va_P (dC, dI) vwCl [] s.heap)
  have hPc := hP.sub (ws' := []) [] rfl
  have hDc := hD.sub (ws' := []) [] (by decide) rfl
  have hKc := hK.sub (tys' := []) [] rfl
  have hFc := va_free (wc := []) hD hS hA [] rfl
  refine va_calli (va_runS (As := [.int 60, .int 1, .int 60]) (rest := []) ⟨hx, hb, hml, hown, hts⟩ (cz_QX6_isWithin_60_60 l dC dI ed s.heap.size ) (va_cwS 3 hts gX6_lock_X6_isWithin rfl rfl rfl (by decide +kernel) ⟨Nat.le_of_ble_eq_true rfl, Nat.le_of_ble_eq_true rfl⟩) ⟨zb_blind, fun U hU hW => ⟨rfl, zb_mk hU hW hPr hPc hKc hDc hN hH hS hFc zx_e⟩⟩ rfl rfl hl.1 rfl (lv_room (Nat.le_of_ble_eq_true rfl)) dX6_lock_23 ⟨Nat.le_of_ble_eq_true rfl, Nat.le_of_ble_eq_true rfl⟩) hS (fun q _ h => hFc q h) hFc (fun r2 u t H1 locs ht hvm hw hB hz1 hk1 hS => ?_)
  obtain rfl : r2 = 1 := hw
  have hP := zo_K hP hk1
  refine lv_if_ne (tgt := 39) hx hb dX6_lock_26 (by decide) (fun _ => ?_) (fun h => absurd h (by decide))
  refine lv_aload_n hx hb dX6_lock_39 rfl (lv_at hl 0 rfl) ?_
  refine va_get (D := (dC, dI)) (ci := 8) (v := .ref rm) (C := RX6) (T := TX6) (N := 3) hx hb hts zi_X6_lock_X6 hown hK (zo_R hR0 hS hAr) 0 rfl rfl 0 (by decide) (hts (.fieldLink RX6 12 "LockRooms" "room" "LLockRooms$Room;") (by decide +kernel)) (fun _ h9 => h9) rfl dX6_lock_40 ?_
  refine va_get (D := (dC, dI)) (ci := 5) (v := .int 1) (C := RX3) (T := TX3) (N := 12) hx hb hts zi_X6_lock_X3 hown hK hP 0 rfl rfl 4 (by decide) (hts (.fieldLink RX6 37 "LockRooms$Room" "lockCount" "I") (by decide +kernel)) (fun _ h9 => h9) rfl dX6_lock_43 ?_
  refine lv_bipush (v := 10) hx hb dX6_lock_46 (by decide) ?_
  refine lv_icmp_ge (tgt := 64) hx hb dX6_lock_48 (by decide) (fun h => absurd h (by decide)) (fun _ => ?_)
  refine lv_aload_n hx hb dX6_lock_51 rfl (lv_at hl 0 rfl) ?_
  refine va_get (D := (dC, dI)) (ci := 8) (v := .ref rm) (C := RX6) (T := TX6) (N := 3) hx hb hts zi_X6_lock_X6 hown hK (zo_R hR0 hS hAr) 0 rfl rfl 0 (by decide) (hts (.fieldLink RX6 12 "LockRooms" "room" "LLockRooms$Room;") (by decide +kernel)) (fun _ h9 => h9) rfl dX6_lock_52 ?_
  refine va_get (D := (dC, dI)) (ci := 5) (v := .ref gm) (C := RX3) (T := TX3) (N := 12) hx hb hts zi_X6_lock_X3 hown hK hP 0 rfl rfl 3 (by decide) (hts (.fieldLink RX6 41 "LockRooms$Room" "games" "LLockRooms$Games;") (by decide +kernel)) (fun _ h9 => h9) rfl dX6_lock_55 ?_
  refine va_get (D := (dC, dI)) (ci := 2) (v := .int 0) (C := RX0) (T := TX0) (N := 7) hx hb hts zi_X6_lock_X0 hown hK (zo_R hR0 hS hAr) 1 rfl rfl 0 (by decide) (hts (.fieldLink RX6 45 "LockRooms$Games" "isRunning" "Z") (by decide +kernel)) (fun _ h9 => h9) rfl dX6_lock_58 ?_
  refine lv_if_eq (tgt := 74) hx hb dX6_lock_61 (by decide) (fun _ => ?_) (fun h => absurd h (by decide))
  refine lv_aload_n hx hb dX6_lock_74 rfl (lv_at hl 0 rfl) ?_
  refine va_get (D := (dC, dI)) (ci := 8) (v := .ref rm) (C := RX6) (T := TX6) (N := 3) hx hb hts zi_X6_lock_X6 hown hK (zo_R hR0 hS hAr) 0 rfl rfl 0 (by decide) (hts (.fieldLink RX6 12 "LockRooms" "room" "LLockRooms$Room;") (by decide +kernel)) (fun _ h9 => h9) rfl dX6_lock_75 ?_
  refine lv_iload_n hx hb dX6_lock_78 rfl (lv_at hl 1 rfl) ?_
  refine lv_iload_n hx hb dX6_lock_79 rfl (lv_at hl 2 rfl) ?_
  refine lv_iload_n hx hb dX6_lock_80 rfl (lv_at hl 3 rfl) ?_
  refine lv_iload hx hb dX6_lock_81 (lv_at hl 4 rfl) ?_
  refine lv_iload hx hb dX6_lock_83 (lv_at hl 5 rfl) ?_
  have hPr := ((zo_R hR0 hS hAr)).sub (ws' := [(lk, .inl (cL, 10, .inr (.inr (.inr (.inr fl)))))]) [2] rfl
  have hPc := hP.sub (ws' := [(rm, .inr (5, [.ref lk, .ref th, .ref pl, .ref gm, .int 1, .int 0, .int 0, .int 0, .int 1, .int 0, .int 0, .int 0])), (l1, .inr (3, [.int 0, .int 0, .int 0, .int 0, .int 0, .int 0, .int 0, .int 0, .int 0, .int 0]))]) [0, 1] rfl
  have hDc := hD.sub (ws' := [(rm, .inr (5, [.ref lk, .ref th, .ref pl, .ref gm, .int 1, .int 0, .int 0, .int 0, .int 1, .int 0, .int 0, .int 0])), (l1, .inr (3, [.int 0, .int 0, .int 0, .int 0, .int 0, .int 0, .int 0, .int 0, .int 0, .int 0]))]) [0, 1] (by decide) rfl
  have hKc := hK.sub (tys' := [(cL, .object "LockRooms$Lock")]) [0] rfl
  have hFc := va_free (wc := [(rm, .inr (5, [.ref lk, .ref th, .ref pl, .ref gm, .int 1, .int 0, .int 0, .int 0, .int 1, .int 0, .int 0, .int 0])), (l1, .inr (3, [.int 0, .int 0, .int 0, .int 0, .int 0, .int 0, .int 0, .int 0, .int 0, .int 0]))]) hD hS hA [0, 1] rfl
  refine va_calli (va_runV (As := [.int 0, .int 0, .int 60, .int 0, .int 0]) (rest := []) ⟨hx, hb, hml, hown, hts⟩ (cz_QaddLock_1 l dC dI ed H1.size lk cL fl l1 rm th pl gm hkl1) (cwV 5 hts gX6_lock_X3_addLock rfl rfl rfl (by decide +kernel) ⟨Nat.le_of_ble_eq_true rfl, Nat.le_of_ble_eq_true rfl⟩) ⟨zb_blind, va_recv hK hP (ci := 5) (q0 := 0) rfl rfl, fun U hU hW => ⟨rfl, zb_mk hU hW hPr hPc hKc hDc hN hH hS hFc (zx_cons (zx_r (hAr _ (List.mem_of_getElem? (i := 2) rfl)) hDc) zx_nil)⟩⟩ rfl rfl hl.1 rfl (lv_room (Nat.le_of_ble_eq_true rfl)) dX6_lock_85 ⟨Nat.le_of_ble_eq_true rfl, Nat.le_of_ble_eq_true rfl⟩) hS (fun q _ h => hFc q h) hFc (fun r4 u t H3 locs ht hvm hw hB hz1 hk1 hS => ?_)
  obtain rfl : r4 = 1 := hw
  obtain ⟨hP1, hD1, hK1⟩ := hB
  rw [ht] at hP1
  obtain ⟨hP, hD⟩ := va_join (wr := []) (w1 := [(rm, .inr (5, [.ref lk, .ref th, .ref pl, .ref gm, .int 2, .int 0, .int 0, .int 0, .int 1, .int 0, .int 0, .int 0])), (l1, .inr (3, [.int 0, .int 0, .int 60, .int 0, .int 0, .int 0, .int 0, .int 0, .int 0, .int 0]))]) hP hD [0, 1] [] rfl rfl (by decide) (by decide) hk1 hFc hP1 hD1
  have hP : va_P (dC, dI) vwCl [(rm, .inr (5, [.ref lk, .ref th, .ref pl, .ref gm, .int 2, .int 0, .int 0, .int 0, .int 1, .int 0, .int 0, .int 0])), (l1, .inr (3, [.int 0, .int 0, .int 60, .int 0, .int 0, .int 0, .int 0, .int 0, .int 0, .int 0]))] H3 := hP
  have hD : va_D A [(rm, .inr (5, [.ref lk, .ref th, .ref pl, .ref gm, .int 2, .int 0, .int 0, .int 0, .int 1, .int 0, .int 0, .int 0])), (l1, .inr (3, [.int 0, .int 0, .int 60, .int 0, .int 0, .int 0, .int 0, .int 0, .int 0, .int 0]))] := hD
  refine W.widen (k := 0) (n := 0) (Nat.le_of_ble_eq_true rfl) (Nat.le_of_ble_eq_true rfl) ?_
  have hP9 := hP.sub (ws' := [(rm, .inr (5, [.ref lk, .ref th, .ref pl, .ref gm, .int 2, .int 0, .int 0, .int 0, .int 1, .int 0, .int 0, .int 0])), (l1, .inr (3, [.int 0, .int 0, .int 60, .int 0, .int 0, .int 0, .int 0, .int 0, .int 0, .int 0]))]) [0, 1] rfl
  have hD9 := hD.sub (ws' := [(rm, .inr (5, [.ref lk, .ref th, .ref pl, .ref gm, .int 2, .int 0, .int 0, .int 0, .int 1, .int 0, .int 0, .int 0])), (l1, .inr (3, [.int 0, .int 0, .int 60, .int 0, .int 0, .int 0, .int 0, .int 0, .int 0, .int 0]))]) [0, 1] (by decide) rfl
  have hK9 := hK.sub (tys' := []) [] rfl
  exact W.iret hx hb hr (fun t ht hW => ⟨⟨1, (), rfl, rfl, ⟨by rw [ht]; exact hP9, hD9, va_K.moved hW.alike hK9⟩⟩, hS.F ht⟩) hS.2.2 dX6_lock_88
set_option maxHeartbeats 4000000 in
set_option maxRecDepth 100000 in
theorem cz_QL_lock_1 (l : Launch) (dC : Nat → ClassId) (dI : Nat → Nat → Nat) (ed sz : Nat) (x : Nat) (rm : Nat) (tr : Nat) (st : Nat) (gm : Nat) (lk : Nat) (cL : ClassId) (fl : Nat → Option Nat) (l1 : Nat) (th : Nat) (pl : Nat) (ou : Nat) (cQ : ClassId) (fo9 : Nat → Int64) (htr : l.stackTraces = false) (hkl1 : fl 1 = some l1) : vx_Met l yL_lock wsL_lock ({ frames := 2, cells := 0, slots := 0, locals := 52 } : Jvm.Room) (va_Pc [.ref x, .int 0, .int 0, .int 60, .int 0, .int 0, .ref ou] (zB dC dI ed sz [(x, .inr (8, [.ref rm, .ref tr, .ref st])), (gm, .inr (2, [.int 0, .int 0, .int 0, .int 0, .int 0, .int (-1), .long 0])), (lk, .inl (cL, 10, .inr (.inr (.inr (.inr fl)))))] [(rm, .inr (5, [.ref lk, .ref th, .ref pl, .ref gm, .int 1, .int 0, .int 0, .int 0, .int 1, .int 0, .int 0, .int 0])), (l1, .inr (3, [.int 0, .int 0, .int 0, .int 0, .int 0, .int 0, .int 0, .int 0, .int 0, .int 0])), (ou, .inl (cQ, 1, .inr (.inl fo9)))] [(cL, .object "LockRooms$Lock"), (cQ, .long)])) (va_Qi (fun (r : Int32) (_ : Unit) => r = 0) (fun (_ : Unit) (t : State) => ∃ (fo8 : Nat → Int64), (fo8 0 = 1) ∧ va_P (dC, dI) vwCl [(rm, .inr (5, [.ref lk, .ref th, .ref pl, .ref gm, .int 2, .int 0, .int 0, .int 0, .int 1, .int 0, .int 0, .int 0])), (l1, .inr (3, [.int 0, .int 0, .int 60, .int 0, .int 0, .int 0, .int 0, .int 0, .int 0, .int 0])), (ou, .inl (cQ, 1, .inr (.inl fo8)))] t.heap ∧ va_D (va_A [(rm, .inr (5, [.ref lk, .ref th, .ref pl, .ref gm, .int 1, .int 0, .int 0, .int 0, .int 1, .int 0, .int 0, .int 0])), (l1, .inr (3, [.int 0, .int 0, .int 0, .int 0, .int 0, .int 0, .int 0, .int 0, .int 0, .int 0])), (ou, .inl (cQ, 1, .inr (.inl fo9)))] sz) [(rm, .inr (5, [.ref lk, .ref th, .ref pl, .ref gm, .int 2, .int 0, .int 0, .int 0, .int 1, .int 0, .int 0, .int 0])), (l1, .inr (3, [.int 0, .int 0, .int 60, .int 0, .int 0, .int 0, .int 0, .int 0, .int 0, .int 0])), (ou, .inl (cQ, 1, .inr (.inl fo8)))] ∧ va_K (dC, dI) vwCl [(cQ, .long)] t) (va_A [(rm, .inr (5, [.ref lk, .ref th, .ref pl, .ref gm, .int 1, .int 0, .int 0, .int 0, .int 1, .int 0, .int 0, .int 0])), (l1, .inr (3, [.int 0, .int 0, .int 0, .int 0, .int 0, .int 0, .int 0, .int 0, .int 0, .int 0])), (ou, .inl (cQ, 1, .inr (.inl fo9)))] sz)) (vx_X (fun (_ : Unit) => False) (fun (_ : String) (_ : Unit) (_ : State) => True) (va_A [(rm, .inr (5, [.ref lk, .ref th, .ref pl, .ref gm, .int 1, .int 0, .int 0, .int 0, .int 1, .int 0, .int 0, .int 0])), (l1, .inr (3, [.int 0, .int 0, .int 0, .int 0, .int 0, .int 0, .int 0, .int 0, .int 0, .int 0])), (ou, .inl (cQ, 1, .inr (.inl fo9)))] sz)) 0 0 (va_A [(rm, .inr (5, [.ref lk, .ref th, .ref pl, .ref gm, .int 1, .int 0, .int 0, .int 0, .int 1, .int 0, .int 0, .int 0])), (l1, .inr (3, [.int 0, .int 0, .int 0, .int 0, .int 0, .int 0, .int 0, .int 0, .int 0, .int 0])), (ou, .inl (cQ, 1, .inr (.inl fo9)))] sz) := by
  refine vx_ofWH (cc := cL_lock) (maxL := 8) (ret := (some .int)) (by decide) rfl ?_
  intro p e s m args below meth c s₁ B hml hv
  obtain ⟨rfl, hsz, hR0, hP, hK, hD0, hN, hH, hX0⟩ := hv
  have hx := B.exec
  have hb := B.bytes
  have hr := B.returns
  have hts := atoms_spec (ws := wsL_lock) B.pre
  have hown : s.vm.findClass RL = some m.cls := findClass_of_methodNamed B.named
  have hlocks := B.notSynchronized
  have hex : c.exceptionTable.toList = tableOf [(0, 16, 19, 13), (0, 16, 23, 15)] := vx_table (x := yL_lock) B (hts _ List.mem_cons_self)
  subst hsz
  have hD := hD0.self (sz := s.heap.size)
  have hAr := zx_A hX0 hR0
  generalize hAe : va_A [(rm, .inr (5, [.ref lk, .ref th, .ref pl, .ref gm, .int 1, .int 0, .int 0, .int 0, .int 1, .int 0, .int 0, .int 0])), (l1, .inr (3, [.int 0, .int 0, .int 0, .int 0, .int 0, .int 0, .int 0, .int 0, .int 0, .int 0])), (ou, .inl (cQ, 1, .inr (.inl fo9)))] s.heap.size = A at hD hAr hH ⊢
  have hA : ∀ q : Nat, s.heap.size ≤ q → A q := fun q h => by rw [← hAe]; exact Or.inr h
  have hS : va_S A s.heap s.heap [] := va_S.rf
  have hl := lv_entry ([.ref x, .int 0, .int 0, .int 60, .int 0, .int 0, .ref ou]) (n := 8) (Nat.le_of_ble_eq_true rfl)
  rw [lg_entry_eq]
  generalize (lg_sl ([.ref x, .int 0, .int 0, .int 60, .int 0, .int 0, .ref ou]) ++ List.replicate (8 - (lg_sl ([.ref x, .int 0, .int 0, .int 60, .int 0, .int 0, .ref ou])).length) Slot.unset).toArray = ls at hl ⊢
  have hl : lv_has ls 8 [(0, .ref x), (1, .int 0), (2, .int 0), (3, .int 60), (4, .int 0), (5, .int 0), (6, .ref ou)] := hl
  refine lv_aload hx hb dL_lock_0 (lv_at hl 6 rfl) ?_
  refine lv_iconst (v := 0) hx hb dL_lock_2 (by decide) ?_
  refine lv_aload_n hx hb dL_lock_3 rfl (lv_at hl 0 rfl) ?_
  refine lv_iload_n hx hb dL_lock_4 rfl (lv_at hl 1 rfl) ?_
  refine lv_iload_n hx hb dL_lock_5 rfl (lv_at hl 2 rfl) ?_
  refine lv_iload_n hx hb dL_lock_6 rfl (lv_at hl 3 rfl) ?_
  refine lv_iload hx hb dL_lock_7 (lv_at hl 4 rfl) ?_
  refine lv_iload hx hb dL_lock_9 (lv_at hl 5 rfl) ?_
  have hPr := (hR0).sub (ws' := [(x, .inr (8, [.ref rm, .ref tr, .ref st])), (gm, .inr (2, [.int 0, .int 0, .int 0, .int 0, .int 0, .int (-1), .long 0])), (lk, .inl (cL, 10, .inr (.inr (.inr (.inr fl)))))]) [0, 1, 2] rfl
  have hPc := hP.sub (ws' := [(rm, .inr (5, [.ref lk, .ref th, .ref pl, .ref gm, .int 1, .int 0, .int 0, .int 0, .int 1, .int 0, .int 0, .int 0])), (l1, .inr (3, [.int 0, .int 0, .int 0, .int 0, .int 0, .int 0, .int 0, .int 0, .int 0, .int 0]))]) [0, 1] rfl
  have hDc := hD.sub (ws' := [(rm, .inr (5, [.ref lk, .ref th, .ref pl, .ref gm, .int 1, .int 0, .int 0, .int 0, .int 1, .int 0, .int 0, .int 0])), (l1, .inr (3, [.int 0, .int 0, .int 0, .int 0, .int 0, .int 0, .int 0, .int 0, .int 0, .int 0]))]) [0, 1] (by decide) rfl
  have hKc := hK.sub (tys' := [(cL, .object "LockRooms$Lock")]) [0] rfl
  have hFc := va_free (wc := [(rm, .inr (5, [.ref lk, .ref th, .ref pl, .ref gm, .int 1, .int 0, .int 0, .int 0, .int 1, .int 0, .int 0, .int 0])), (l1, .inr (3, [.int 0, .int 0, .int 0, .int 0, .int 0, .int 0, .int 0, .int 0, .int 0, .int 0]))]) hD hS hA [0, 1] rfl
  refine va_calli (va_runV (As := [.int 0, .int 0, .int 60, .int 0, .int 0]) (rest := [.int 0, .ref ou]) ⟨hx, hb, hml, hown, hts⟩ (cz_QX6_lock_1 l dC dI ed s.heap.size x rm tr st gm lk cL fl l1 th pl hkl1) (cwV 5 hts gL_lock_X6_lock rfl rfl rfl (by decide +kernel) ⟨Nat.le_of_ble_eq_true rfl, Nat.le_of_ble_eq_true rfl⟩) ⟨zb_blind, va_recv hK hR0 (ci := 8) (q0 := 0) rfl rfl, fun U hU hW => ⟨rfl, zb_mk hU hW hPr hPc hKc hDc hN hH hS hFc (zx_cons (zx_r (hAr _ (List.mem_of_getElem? (i := 0) rfl)) hDc) (zx_cons (zx_r (hAr _ (List.mem_of_getElem? (i := 1) rfl)) hDc) (zx_cons (zx_r (hAr _ (List.mem_of_getElem? (i := 2) rfl)) hDc) zx_nil)))⟩⟩ rfl rfl hl.1 rfl (lv_room (Nat.le_of_ble_eq_true rfl)) dL_lock_11 ⟨Nat.le_of_ble_eq_true rfl, Nat.le_of_ble_eq_true rfl⟩) hS (fun q _ h => hFc q h) hFc (fun r2 u t H1 locs ht hvm hw hB hz1 hk1 hS => ?_)
  obtain rfl : r2 = 1 := hw
  obtain ⟨hP1, hD1, hK1⟩ := hB
  rw [ht] at hP1
  obtain ⟨hP, hD⟩ := va_join (wr := [(ou, .inl (cQ, 1, .inr (.inl fo9)))]) (w1 := [(rm, .inr (5, [.ref lk, .ref th, .ref pl, .ref gm, .int 2, .int 0, .int 0, .int 0, .int 1, .int 0, .int 0, .int 0])), (l1, .inr (3, [.int 0, .int 0, .int 60, .int 0, .int 0, .int 0, .int 0, .int 0, .int 0, .int 0]))]) hP hD [0, 1] [2] rfl rfl (by decide) (by decide) hk1 hFc hP1 hD1
  have hP : va_P (dC, dI) vwCl [(ou, .inl (cQ, 1, .inr (.inl fo9))), (rm, .inr (5, [.ref lk, .ref th, .ref pl, .ref gm, .int 2, .int 0, .int 0, .int 0, .int 1, .int 0, .int 0, .int 0])), (l1, .inr (3, [.int 0, .int 0, .int 60, .int 0, .int 0, .int 0, .int 0, .int 0, .int 0, .int 0]))] H1 := hP
  have hD : va_D A [(ou, .inl (cQ, 1, .inr (.inl fo9))), (rm, .inr (5, [.ref lk, .ref th, .ref pl, .ref gm, .int 2, .int 0, .int 0, .int 0, .int 1, .int 0, .int 0, .int 0])), (l1, .inr (3, [.int 0, .int 0, .int 60, .int 0, .int 0, .int 0, .int 0, .int 0, .int 0, .int 0]))] := hD
  refine lv_i2l (v := 1) hx hb dL_lock_14 (by decide) ?_
  refine va_last hx hb hK hP hD hS 0 1 rfl rfl (by unfold vp_in; decide) dL_lock_15 (fun H4 locs hP hD hS => ?_)
  obtain ⟨f5, ef5⟩ : ∃ z : Nat → Int64, z = vp_updL fo9 0 1 := ⟨_, rfl⟩
  have k6 : f5 0 = 1 := by rw [ef5]; exact pk_uLs
  have hP : va_P (dC, dI) vwCl [(ou, .inl (cQ, 1, .inr (.inl f5))), (rm, .inr (5, [.ref lk, .ref th, .ref pl, .ref gm, .int 2, .int 0, .int 0, .int 0, .int 1, .int 0, .int 0, .int 0])), (l1, .inr (3, [.int 0, .int 0, .int 60, .int 0, .int 0, .int 0, .int 0, .int 0, .int 0, .int 0]))] H4 := by rw [ef5]; exact hP
  have hD : va_D A [(ou, .inl (cQ, 1, .inr (.inl f5))), (rm, .inr (5, [.ref lk, .ref th, .ref pl, .ref gm, .int 2, .int 0, .int 0, .int 0, .int 1, .int 0, .int 0, .int 0])), (l1, .inr (3, [.int 0, .int 0, .int 60, .int 0, .int 0, .int 0, .int 0, .int 0, .int 0, .int 0]))] := by rw [ef5]; exact hD
  refine lv_goto (tgt := 27) hx hb dL_lock_16 (by decide) ?_
  refine lv_iconst (v := 0) hx hb dL_lock_27 (by decide) ?_
  refine vx_ret ?_
  refine W.widen (k := 0) (n := 0) (Nat.le_of_ble_eq_true rfl) (Nat.le_of_ble_eq_true rfl) ?_
  have hP9 := hP.sub (ws' := [(rm, .inr (5, [.ref lk, .ref th, .ref pl, .ref gm, .int 2, .int 0, .int 0, .int 0, .int 1, .int 0, .int 0, .int 0])), (l1, .inr (3, [.int 0, .int 0, .int 60, .int 0, .int 0, .int 0, .int 0, .int 0, .int 0, .int 0])), (ou, .inl (cQ, 1, .inr (.inl f5)))]) [1, 2, 0] rfl
  have hD9 := hD.sub (ws' := [(rm, .inr (5, [.ref lk, .ref th, .ref pl, .ref gm, .int 2, .int 0, .int 0, .int 0, .int 1, .int 0, .int 0, .int 0])), (l1, .inr (3, [.int 0, .int 0, .int 60, .int 0, .int 0, .int 0, .int 0, .int 0, .int 0, .int 0])), (ou, .inl (cQ, 1, .inr (.inl f5)))]) [1, 2, 0] (by decide) rfl
  have hK9 := hK.sub (tys' := [(cQ, .long)]) [1] rfl
  exact W.iret hx hb hr (fun t ht hW => ⟨⟨0, (), rfl, rfl, ⟨f5, k6, by rw [ht]; exact hP9, hD9, va_K.moved hW.alike hK9⟩⟩, hS.F ht⟩) hS.2.2 dL_lock_28
set_option maxHeartbeats 4000000 in
set_option maxRecDepth 100000 in
theorem cz_QX8_lock_1 (l : Launch) (dC : Nat → ClassId) (dI : Nat → Nat → Nat) (ed sz : Nat) (mo : Nat) (mr : Nat) (x9 : Int32) (s9 : Int64) (ll : Nat) (lt : Nat) (lp : Nat) (ola : Nat) (cOl : ClassId) (fol : Nat → Option Nat) (la0 : Nat) (hol0 : fol 0 = some la0) : Met l yX8_lock wsX8_lock ({ frames := 2, cells := 1, slots := 10, locals := 44 } : Jvm.Room) (va_Pc [.ref mo, .int 0, .int 0, .int 60, .int 0, .int 0] (zB dC dI ed sz [] [(mo, .inr (10, [.int x9, .ref mr, .int 1, .long s9])), (mr, .inr (9, [.ref ll, .ref lt, .ref lp, .int 0, .int 0, .int 0, .int 0, .int 0, .int 0, .int 0, .int (-1), .int 0, .int 0, .int 0])), (ll, .inr (1, [.int 1, .ref ola, .int 1])), (ola, .inl (cOl, 10, .inr (.inr (.inr (.inr fol)))))] [(cOl, .object "java/lang/Object")])) (va_Qi (fun (r : Int32) (_ : Unit) => r = 1) (fun (_ : Unit) (t : State) => ∃ (go : Nat → Option Nat), ∃ (la1 : Nat), ∃ (cA1 : ClassId), ∃ (fa1 : Nat → Int32), (go 0 = some la0 ∧ go 1 = some la1 ∧ fa1 0 = 0 ∧ fa1 1 = 0 ∧ fa1 2 = 60 ∧ fa1 3 = 0 ∧ fa1 4 = 0 ∧ fa1 5 = 0 ∧ fa1 6 = 0 ∧ fa1 7 = 0 ∧ fa1 8 = 0 ∧ fa1 9 = 0) ∧ va_P (dC, dI) vwCl [(mo, .inr (10, [.int 0, .ref mr, .int 1, .long s9])), (mr, .inr (9, [.ref ll, .ref lt, .ref lp, .int 0, .int 0, .int 0, .int 0, .int 0, .int 0, .int 0, .int (-1), .int 0, .int 0, .int 0])), (ll, .inr (1, [.int 2, .ref ola, .int 2])), (ola, .inl (cOl, 10, .inr (.inr (.inr (.inr go))))), (la1, .inl (cA1, 10, .inl fa1))] t.heap ∧ va_D (va_A [(mo, .inr (10, [.int x9, .ref mr, .int 1, .long s9])), (mr, .inr (9, [.ref ll, .ref lt, .ref lp, .int 0, .int 0, .int 0, .int 0, .int 0, .int 0, .int 0, .int (-1), .int 0, .int 0, .int 0])), (ll, .inr (1, [.int 1, .ref ola, .int 1])), (ola, .inl (cOl, 10, .inr (.inr (.inr (.inr fol)))))] sz) [(mo, .inr (10, [.int 0, .ref mr, .int 1, .long s9])), (mr, .inr (9, [.ref ll, .ref lt, .ref lp, .int 0, .int 0, .int 0, .int 0, .int 0, .int 0, .int 0, .int (-1), .int 0, .int 0, .int 0])), (ll, .inr (1, [.int 2, .ref ola, .int 2])), (ola, .inl (cOl, 10, .inr (.inr (.inr (.inr go))))), (la1, .inl (cA1, 10, .inl fa1))] ∧ va_K (dC, dI) vwCl [(cOl, .object "java/lang/Object"), (cA1, .int)] t) (va_A [(mo, .inr (10, [.int x9, .ref mr, .int 1, .long s9])), (mr, .inr (9, [.ref ll, .ref lt, .ref lp, .int 0, .int 0, .int 0, .int 0, .int 0, .int 0, .int 0, .int (-1), .int 0, .int 0, .int 0])), (ll, .inr (1, [.int 1, .ref ola, .int 1])), (ola, .inl (cOl, 10, .inr (.inr (.inr (.inr fol)))))] sz)) 1 10 (va_A [(mo, .inr (10, [.int x9, .ref mr, .int 1, .long s9])), (mr, .inr (9, [.ref ll, .ref lt, .ref lp, .int 0, .int 0, .int 0, .int 0, .int 0, .int 0, .int 0, .int (-1), .int 0, .int 0, .int 0])), (ll, .inr (1, [.int 1, .ref ola, .int 1])), (ola, .inl (cOl, 10, .inr (.inr (.inr (.inr fol)))))] sz) := by
  refine Met.ofW (cc := cX8_lock) (maxL := 7) (ret := (some .int)) (by decide) rfl ?_
  intro p e s m args below meth c s₁ B hml hv
  obtain ⟨rfl, hsz, hR0, hP, hK, hD0, hN, hH, hX0⟩ := hv
  have hx := B.exec
  have hb := B.bytes
  have hr := B.returns
  have hts := atoms_spec (ws := wsX8_lock) B.pre
  have hown : s.vm.findClass RX8 = some m.cls := findClass_of_methodNamed B.named
  have hlocks := B.notSynchronized
  subst hsz
  have hD := hD0.self (sz := s.heap.size)
  have hAr := zx_A hX0 hR0
  generalize hAe : va_A [(mo, .inr (10, [.int x9, .ref mr, .int 1, .long s9])), (mr, .inr (9, [.ref ll, .ref lt, .ref lp, .int 0, .int 0, .int 0, .int 0, .int 0, .int 0, .int 0, .int (-1), .int 0, .int 0, .int 0])), (ll, .inr (1, [.int 1, .ref ola, .int 1])), (ola, .inl (cOl, 10, .inr (.inr (.inr (.inr fol)))))] s.heap.size = A at hD hAr hH ⊢
  have hA : ∀ q : Nat, s.heap.size ≤ q → A q := fun q h => by rw [← hAe]; exact Or.inr h
  have hS : va_S A s.heap s.heap [] := va_S.rf
  have hl := lv_entry ([.ref mo, .int 0, .int 0, .int 60, .int 0, .int 0]) (n := 7) (Nat.le_of_ble_eq_true rfl)
  rw [lg_entry_eq]
  generalize (lg_sl ([.ref mo, .int 0, .int 0, .int 60, .int 0, .int 0]) ++ List.replicate (7 - (lg_sl ([.ref mo, .int 0, .int 0, .int 60, .int 0, .int 0])).length) Slot.unset).toArray = ls at hl ⊢
  have hl : lv_has ls 7 [(0, .ref mo), (1, .int 0), (2, .int 0), (3, .int 60), (4, .int 0), (5, .int 0)] := hl
  refine lv_aload_n hx hb dX8_lock_0 rfl (lv_at hl 0 rfl) ?_
  refine lv_iconst (v := 0) hx hb dX8_lock_1 (by decide) ?_
  refine va_put (D := (dC, dI)) (ci := 10) (v := .int 0) (ty := .int) (C := RX8) (T := TX8) (N := 4) hx hb hts zi_X8_lock_X8 tyX8 tyX8_ok nmX8 hown hK hP hD hS 0 rfl rfl 0 (by decide) (hts (.fieldLink RX8 20 "LockRoomsModel" "thrown" "I") (by decide +kernel)) (fun _ h9 => h9) rfl (by decide +kernel) rfl rfl (Nat.le_of_ble_eq_true rfl) dX8_lock_2 (fun H1 locs hP hD hS => ?_)
  have hP : va_P (dC, dI) vwCl [(mo, .inr (10, [.int 0, .ref mr, .int 1, .long s9])), (mr, .inr (9, [.ref ll, .ref lt, .ref lp, .int 0, .int 0, .int 0, .int 0, .int 0, .int 0, .int 0, .int (-1), .int 0, .int 0, .int 0])), (ll, .inr (1, [.int 1, .ref ola, .int 1])), (ola, .inl (cOl, 10, .inr (.inr (.inr (.inr fol)))))] H1 := hP
  have hD : va_D A [(mo, .inr (10, [.int 0, .ref mr, .int 1, .long s9])), (mr, .inr (9, [.ref ll, .ref lt, .ref lp, .int 0, .int 0, .int 0, .int 0, .int 0, .int 0, .int 0, .int (-1), .int 0, .int 0, .int 0])), (ll, .inr (1, [.int 1, .ref ola, .int 1])), (ola, .inl (cOl, 10, .inr (.inr (.inr (.inr fol)))))] := hD
  refine lv_iload_n hx hb dX8_lock_5 rfl (lv_at hl 1 rfl) ?_
  refine lv_iconst (v := 0) hx hb dX8_lock_6 (by decide) ?_
  refine lv_sipush (v := 4095) hx hb dX8_lock_7 (by decide) ?_
  have hPr := (zo_nil : va_P (dC, dI) vwCl [] H1)
  have hPc := hP.sub (ws' := []) [] rfl
  have hDc := hD.sub (ws' := []) [] (by decide) rfl
  have hKc := hK.sub (tys' := []) [] rfl
  have hFc := va_free (wc := []) hD hS hA [] rfl
  refine va_calli (va_runS (As := [.int 0, .int 0, .int 4095]) (rest := []) ⟨hx, hb, hml, hown, hts⟩ (cz_QX8_is_0_4095 l dC dI ed H1.size ) (va_cwS 3 hts gX8_lock_X8_is rfl rfl rfl (by decide +kernel) ⟨Nat.le_of_ble_eq_true rfl, Nat.le_of_ble_eq_true rfl⟩) ⟨zb_blind, fun U hU hW => ⟨rfl, zb_mk hU hW hPr hPc hKc hDc hN hH hS hFc zx_e⟩⟩ rfl rfl hl.1 rfl (lv_room (Nat.le_of_ble_eq_true rfl)) dX8_lock_10 ⟨Nat.le_of_ble_eq_true rfl, Nat.le_of_ble_eq_true rfl⟩) hS (fun q _ h => hFc q h) hFc (fun r3 u t H2 locs ht hvm hw hB hz1 hk1 hS => ?_)
  obtain rfl : r3 = 1 := hw
  have hP := zo_K hP hk1
  refine lv_if_eq (tgt := 34) hx hb dX8_lock_13 (by decide) (fun h => absurd h (by decide)) (fun _ => ?_)
  refine lv_iload_n hx hb dX8_lock_16 rfl (lv_at hl 2 rfl) ?_
  refine lv_iload_n hx hb dX8_lock_17 rfl (lv_at hl 1 rfl) ?_
  refine lv_iconst (v := (-1)) hx hb dX8_lock_18 (by decide) ?_
  refine lv_ixor hx hb dX8_lock_19 ?_
  refine zo_i (v := (-1)) (by decide) ?_
  refine lv_iand hx hb dX8_lock_20 ?_
  refine zo_i (v := 0) q_0and ?_
  refine lv_if_ne (tgt := 34) hx hb dX8_lock_21 (by decide) (fun h => absurd h (by decide)) (fun _ => ?_)
  refine lv_iload_n hx hb dX8_lock_24 rfl (lv_at hl 3 rfl) ?_
  refine lv_iconst (v := 1) hx hb dX8_lock_25 (by decide) ?_
  refine lv_bipush (v := 60) hx hb dX8_lock_26 (by decide) ?_
  have hPr := (zo_nil : va_P (dC, dI) vwCl [] H2)
  have hPc := hP.sub (ws' := []) [] rfl
  have hDc := hD.sub (ws' := []) [] (by decide) rfl
  have hKc := hK.sub (tys' := []) [] rfl
  have hFc := va_free (wc := []) hD hS hA [] rfl
  refine va_calli (va_runS (As := [.int 60, .int 1, .int 60]) (rest := []) ⟨hx, hb, hml, hown, hts⟩ (cz_QX8_is_60_60 l dC dI ed H2.size ) (va_cwS 3 hts gX8_lock_X8_is rfl rfl rfl (by decide +kernel) ⟨Nat.le_of_ble_eq_true rfl, Nat.le_of_ble_eq_true rfl⟩) ⟨zb_blind, fun U hU hW => ⟨rfl, zb_mk hU hW hPr hPc hKc hDc hN hH hS hFc zx_e⟩⟩ rfl rfl hl.1 rfl (lv_room (Nat.le_of_ble_eq_true rfl)) dX8_lock_28 ⟨Nat.le_of_ble_eq_true rfl, Nat.le_of_ble_eq_true rfl⟩) hS (fun q _ h => hFc q h) hFc (fun r5 u t H4 locs ht hvm hw hB hz1 hk1 hS => ?_)
  obtain rfl : r5 = 1 := hw
  have hP := zo_K hP hk1
  refine lv_if_ne (tgt := 40) hx hb dX8_lock_31 (by decide) (fun _ => ?_) (fun h => absurd h (by decide))
  refine lv_aload_n hx hb dX8_lock_40 rfl (lv_at hl 0 rfl) ?_
  refine va_get (D := (dC, dI)) (ci := 10) (v := .ref mr) (C := RX8) (T := TX8) (N := 4) hx hb hts zi_X8_lock_X8 hown hK hP 0 rfl rfl 1 (by decide) (hts (.fieldLink RX8 10 "LockRoomsModel" "room" "LLockRoomsModel$Room;") (by decide +kernel)) (fun _ h9 => h9) rfl dX8_lock_41 ?_
  refine va_getN (D := (dC, dI)) (ci := 9) (v := .ref ll) (C := RX7) (T := TX7) (N := 14) hx hb hts zi_X8_lock_X7 hown hK hP 1 rfl rfl 0 (by decide) (va_Nw.use rfl (hN.1 ("LockRoomsModel", 24, "LockRoomsModel$Room", "locks", "Ljava/util/ArrayList;", "LockRoomsModel") (List.mem_of_getElem? (i := 1) rfl))) (fun _ h9 => h9) rfl dX8_lock_44 ?_
  have hPr := (hP).sub (ws' := [(ll, .inr (1, [.int 1, .ref ola, .int 1]))]) [2] rfl
  have hPc := hP.sub (ws' := []) [] rfl
  have hDc := hD.sub (ws' := []) [] (by decide) rfl
  have hKc := hK.sub (tys' := []) [] rfl
  have hFc := va_free (wc := []) hD hS hA [] rfl
  refine va_calli (va_runV (As := []) (rest := []) ⟨hx, hb, hml, hown, hts⟩ (cz_Qsize l dC dI ed H4.size ll 1 ola 1) (cwV 0 hts gX8_lock_Jx4a65c_size_8abf5 rfl rfl rfl (by decide +kernel) ⟨Nat.le_of_ble_eq_true rfl, Nat.le_of_ble_eq_true rfl⟩) ⟨zb_blind, va_recv hK hP (ci := 1) (q0 := 2) rfl rfl, fun U hU hW => ⟨rfl, zb_mk hU hW hPr hPc hKc hDc hN hH hS hFc zx_e⟩⟩ rfl rfl hl.1 rfl (lv_room (Nat.le_of_ble_eq_true rfl)) dX8_lock_47 ⟨Nat.le_of_ble_eq_true rfl, Nat.le_of_ble_eq_true rfl⟩) hS (fun q _ h => hFc q h) hFc (fun r7 u t H6 locs ht hvm hw hB hz1 hk1 hS => ?_)
  obtain rfl : r7 = 1 := hw.trans (by decide +kernel)
  have hP := zo_K hP hk1
  refine lv_bipush (v := 10) hx hb dX8_lock_50 (by decide) ?_
  refine lv_icmp_eq (tgt := 65) hx hb dX8_lock_52 (by decide) (fun h => absurd h (by decide)) (fun _ => ?_)
  refine lv_aload_n hx hb dX8_lock_55 rfl (lv_at hl 0 rfl) ?_
  refine va_get (D := (dC, dI)) (ci := 10) (v := .ref mr) (C := RX8) (T := TX8) (N := 4) hx hb hts zi_X8_lock_X8 hown hK hP 0 rfl rfl 1 (by decide) (hts (.fieldLink RX8 10 "LockRoomsModel" "room" "LLockRoomsModel$Room;") (by decide +kernel)) (fun _ h9 => h9) rfl dX8_lock_56 ?_
  refine va_getN (D := (dC, dI)) (ci := 9) (v := .int 0) (C := RX7) (T := TX7) (N := 14) hx hb hts zi_X8_lock_X7 hown hK hP 1 rfl rfl 5 (by decide) (va_Nw.use rfl (hN.1 ("LockRoomsModel", 45, "LockRoomsModel$Room", "isRunning", "Z", "LockRoomsModel") (List.mem_of_getElem? (i := 6) rfl))) (fun _ h9 => h9) rfl dX8_lock_59 ?_
  refine lv_if_eq (tgt := 71) hx hb dX8_lock_62 (by decide) (fun _ => ?_) (fun h => absurd h (by decide))
  refine lv_bipush (v := 10) hx hb dX8_lock_71 (by decide) ?_
  refine va_newa (atype := .int) (a0 := (10, .inl (fun _ => 0))) hx hb (hts (.arrayClass .int) (by decide +kernel)) rfl hK hP hD hS hA (fun cA => rfl) (by decide) (N' := 10) (by decide) (by decide) (Nat.le_of_ble_eq_true rfl) (Nat.le_of_ble_eq_true rfl) dX8_lock_73 (fun q8 cA10 H9 hK hP hD hS => ?_)
  have hP : va_P (dC, dI) vwCl [(mo, .inr (10, [.int 0, .ref mr, .int 1, .long s9])), (mr, .inr (9, [.ref ll, .ref lt, .ref lp, .int 0, .int 0, .int 0, .int 0, .int 0, .int 0, .int 0, .int (-1), .int 0, .int 0, .int 0])), (ll, .inr (1, [.int 1, .ref ola, .int 1])), (ola, .inl (cOl, 10, .inr (.inr (.inr (.inr fol))))), (q8, .inl (cA10, 10, .inl (fun _ => 0)))] H9 := hP
  have hD : va_D A [(mo, .inr (10, [.int 0, .ref mr, .int 1, .long s9])), (mr, .inr (9, [.ref ll, .ref lt, .ref lp, .int 0, .int 0, .int 0, .int 0, .int 0, .int 0, .int 0, .int (-1), .int 0, .int 0, .int 0])), (ll, .inr (1, [.int 1, .ref ola, .int 1])), (ola, .inl (cOl, 10, .inr (.inr (.inr (.inr fol))))), (q8, .inl (cA10, 10, .inl (fun _ => 0)))] := hD
  refine lv_astore (lv' := [(6, .ref q8), (0, .ref mo), (1, .int 0), (2, .int 0), (3, .int 60), (4, .int 0), (5, .int 0)]) hx hb dX8_lock_75 hl (by decide) rfl (fun ls hl => ?_)
  refine lv_aload hx hb dX8_lock_77 (lv_at hl 0 rfl) ?_
  refine lv_iconst (v := 0) hx hb dX8_lock_79 (by decide) ?_
  refine lv_iload_n hx hb dX8_lock_80 rfl (lv_at hl 2 rfl) ?_
  refine va_iast hx hb hK hP hD hS 4 1 rfl rfl (by unfold vp_in; decide) dX8_lock_81 (fun H12 locs hP hD hS => ?_)
  obtain ⟨f13, ef13⟩ : ∃ z : Nat → Int32, z = upd (fun _ => 0) 0 0 := ⟨_, rfl⟩
  have k14 : f13 1 = 0 := by rw [ef13]; exact (pk_un (by decide)).trans (rfl)
  have k15 : f13 2 = 0 := by rw [ef13]; exact (pk_un (by decide)).trans (rfl)
  have k16 : f13 3 = 0 := by rw [ef13]; exact (pk_un (by decide)).trans (rfl)
  have k17 : f13 4 = 0 := by rw [ef13]; exact (pk_un (by decide)).trans (rfl)
  have k18 : f13 5 = 0 := by rw [ef13]; exact (pk_un (by decide)).trans (rfl)
  have k19 : f13 6 = 0 := by rw [ef13]; exact (pk_un (by decide)).trans (rfl)
  have k20 : f13 7 = 0 := by rw [ef13]; exact (pk_un (by decide)).trans (rfl)
  have k21 : f13 8 = 0 := by rw [ef13]; exact (pk_un (by decide)).trans (rfl)
  have k22 : f13 9 = 0 := by rw [ef13]; exact (pk_un (by decide)).trans (rfl)
  have k23 : f13 0 = 0 := by rw [ef13]; exact pk_us
  have hP : va_P (dC, dI) vwCl [(mo, .inr (10, [.int 0, .ref mr, .int 1, .long s9])), (mr, .inr (9, [.ref ll, .ref lt, .ref lp, .int 0, .int 0, .int 0, .int 0, .int 0, .int 0, .int 0, .int (-1), .int 0, .int 0, .int 0])), (ll, .inr (1, [.int 1, .ref ola, .int 1])), (ola, .inl (cOl, 10, .inr (.inr (.inr (.inr fol))))), (q8, .inl (cA10, 10, .inl f13))] H12 := by rw [ef13]; exact hP
  have hD : va_D A [(mo, .inr (10, [.int 0, .ref mr, .int 1, .long s9])), (mr, .inr (9, [.ref ll, .ref lt, .ref lp, .int 0, .int 0, .int 0, .int 0, .int 0, .int 0, .int 0, .int (-1), .int 0, .int 0, .int 0])), (ll, .inr (1, [.int 1, .ref ola, .int 1])), (ola, .inl (cOl, 10, .inr (.inr (.inr (.inr fol))))), (q8, .inl (cA10, 10, .inl f13))] := by rw [ef13]; exact hD
  refine lv_aload hx hb dX8_lock_82 (lv_at hl 0 rfl) ?_
  refine lv_iconst (v := 1) hx hb dX8_lock_84 (by decide) ?_
  refine lv_iload_n hx hb dX8_lock_85 rfl (lv_at hl 3 rfl) ?_
  refine va_iast hx hb hK hP hD hS 4 1 rfl rfl (by unfold vp_in; decide) dX8_lock_86 (fun H24 locs hP hD hS => ?_)
  obtain ⟨f25, ef25⟩ : ∃ z : Nat → Int32, z = upd f13 1 0 := ⟨_, rfl⟩
  have k26 : f25 2 = 0 := by rw [ef25]; exact (pk_un (by decide)).trans (k15)
  have k27 : f25 3 = 0 := by rw [ef25]; exact (pk_un (by decide)).trans (k16)
  have k28 : f25 4 = 0 := by rw [ef25]; exact (pk_un (by decide)).trans (k17)
  have k29 : f25 5 = 0 := by rw [ef25]; exact (pk_un (by decide)).trans (k18)
  have k30 : f25 6 = 0 := by rw [ef25]; exact (pk_un (by decide)).trans (k19)
  have k31 : f25 7 = 0 := by rw [ef25]; exact (pk_un (by decide)).trans (k20)
  have k32 : f25 8 = 0 := by rw [ef25]; exact (pk_un (by decide)).trans (k21)
  have k33 : f25 9 = 0 := by rw [ef25]; exact (pk_un (by decide)).trans (k22)
  have k34 : f25 0 = 0 := by rw [ef25]; exact (pk_un (by decide)).trans (k23)
  have k35 : f25 1 = 0 := by rw [ef25]; exact pk_us
  have hP : va_P (dC, dI) vwCl [(mo, .inr (10, [.int 0, .ref mr, .int 1, .long s9])), (mr, .inr (9, [.ref ll, .ref lt, .ref lp, .int 0, .int 0, .int 0, .int 0, .int 0, .int 0, .int 0, .int (-1), .int 0, .int 0, .int 0])), (ll, .inr (1, [.int 1, .ref ola, .int 1])), (ola, .inl (cOl, 10, .inr (.inr (.inr (.inr fol))))), (q8, .inl (cA10, 10, .inl f25))] H24 := by rw [ef25]; exact hP
  have hD : va_D A [(mo, .inr (10, [.int 0, .ref mr, .int 1, .long s9])), (mr, .inr (9, [.ref ll, .ref lt, .ref lp, .int 0, .int 0, .int 0, .int 0, .int 0, .int 0, .int 0, .int (-1), .int 0, .int 0, .int 0])), (ll, .inr (1, [.int 1, .ref ola, .int 1])), (ola, .inl (cOl, 10, .inr (.inr (.inr (.inr fol))))), (q8, .inl (cA10, 10, .inl f25))] := by rw [ef25]; exact hD
  refine lv_aload hx hb dX8_lock_87 (lv_at hl 0 rfl) ?_
  refine lv_iconst (v := 2) hx hb dX8_lock_89 (by decide) ?_
  refine lv_iload_n hx hb dX8_lock_90 rfl (lv_at hl 4 rfl) ?_
  refine va_iast hx hb hK hP hD hS 4 1 rfl rfl (by unfold vp_in; decide) dX8_lock_91 (fun H36 locs hP hD hS => ?_)
  obtain ⟨f37, ef37⟩ : ∃ z : Nat → Int32, z = upd f25 2 60 := ⟨_, rfl⟩
  have k38 : f37 3 = 0 := by rw [ef37]; exact (pk_un (by decide)).trans (k27)
  have k39 : f37 4 = 0 := by rw [ef37]; exact (pk_un (by decide)).trans (k28)
  have k40 : f37 5 = 0 := by rw [ef37]; exact (pk_un (by decide)).trans (k29)
  have k41 : f37 6 = 0 := by rw [ef37]; exact (pk_un (by decide)).trans (k30)
  have k42 : f37 7 = 0 := by rw [ef37]; exact (pk_un (by decide)).trans (k31)
  have k43 : f37 8 = 0 := by rw [ef37]; exact (pk_un (by decide)).trans (k32)
  have k44 : f37 9 = 0 := by rw [ef37]; exact (pk_un (by decide)).trans (k33)
  have k45 : f37 0 = 0 := by rw [ef37]; exact (pk_un (by decide)).trans (k34)
  have k46 : f37 1 = 0 := by rw [ef37]; exact (pk_un (by decide)).trans (k35)
  have k47 : f37 2 = 60 := by rw [ef37]; exact pk_us
  have hP : va_P (dC, dI) vwCl [(mo, .inr (10, [.int 0, .ref mr, .int 1, .long s9])), (mr, .inr (9, [.ref ll, .ref lt, .ref lp, .int 0, .int 0, .int 0, .int 0, .int 0, .int 0, .int 0, .int (-1), .int 0, .int 0, .int 0])), (ll, .inr (1, [.int 1, .ref ola, .int 1])), (ola, .inl (cOl, 10, .inr (.inr (.inr (.inr fol))))), (q8, .inl (cA10, 10, .inl f37))] H36 := by rw [ef37]; exact hP
  have hD : va_D A [(mo, .inr (10, [.int 0, .ref mr, .int 1, .long s9])), (mr, .inr (9, [.ref ll, .ref lt, .ref lp, .int 0, .int 0, .int 0, .int 0, .int 0, .int 0, .int 0, .int (-1), .int 0, .int 0, .int 0])), (ll, .inr (1, [.int 1, .ref ola, .int 1])), (ola, .inl (cOl, 10, .inr (.inr (.inr (.inr fol))))), (q8, .inl (cA10, 10, .inl f37))] := by rw [ef37]; exact hD
  refine lv_aload hx hb dX8_lock_92 (lv_at hl 0 rfl) ?_
  refine lv_iconst (v := 3) hx hb dX8_lock_94 (by decide) ?_
  refine lv_iload hx hb dX8_lock_95 (lv_at hl 5 rfl) ?_
  refine lv_if_eq (tgt := 104) hx hb dX8_lock_97 (by decide) (fun _ => ?_) (fun h => absurd h (by decide))
  refine lv_iconst (v := 0) hx hb dX8_lock_104 (by decide) ?_
  refine va_iast hx hb hK hP hD hS 4 1 rfl rfl (by unfold vp_in; decide) dX8_lock_105 (fun H48 locs hP hD hS => ?_)
  obtain ⟨f49, ef49⟩ : ∃ z : Nat → Int32, z = upd f37 3 0 := ⟨_, rfl⟩
  have k50 : f49 4 = 0 := by rw [ef49]; exact (pk_un (by decide)).trans (k39)
  have k51 : f49 5 = 0 := by rw [ef49]; exact (pk_un (by decide)).trans (k40)
  have k52 : f49 6 = 0 := by rw [ef49]; exact (pk_un (by decide)).trans (k41)
  have k53 : f49 7 = 0 := by rw [ef49]; exact (pk_un (by decide)).trans (k42)
  have k54 : f49 8 = 0 := by rw [ef49]; exact (pk_un (by decide)).trans (k43)
  have k55 : f49 9 = 0 := by rw [ef49]; exact (pk_un (by decide)).trans (k44)
  have k56 : f49 0 = 0 := by rw [ef49]; exact (pk_un (by decide)).trans (k45)
  have k57 : f49 1 = 0 := by rw [ef49]; exact (pk_un (by decide)).trans (k46)
  have k58 : f49 2 = 60 := by rw [ef49]; exact (pk_un (by decide)).trans (k47)
  have k59 : f49 3 = 0 := by rw [ef49]; exact pk_us
  have hP : va_P (dC, dI) vwCl [(mo, .inr (10, [.int 0, .ref mr, .int 1, .long s9])), (mr, .inr (9, [.ref ll, .ref lt, .ref lp, .int 0, .int 0, .int 0, .int 0, .int 0, .int 0, .int 0, .int (-1), .int 0, .int 0, .int 0])), (ll, .inr (1, [.int 1, .ref ola, .int 1])), (ola, .inl (cOl, 10, .inr (.inr (.inr (.inr fol))))), (q8, .inl (cA10, 10, .inl f49))] H48 := by rw [ef49]; exact hP
  have hD : va_D A [(mo, .inr (10, [.int 0, .ref mr, .int 1, .long s9])), (mr, .inr (9, [.ref ll, .ref lt, .ref lp, .int 0, .int 0, .int 0, .int 0, .int 0, .int 0, .int 0, .int (-1), .int 0, .int 0, .int 0])), (ll, .inr (1, [.int 1, .ref ola, .int 1])), (ola, .inl (cOl, 10, .inr (.inr (.inr (.inr fol))))), (q8, .inl (cA10, 10, .inl f49))] := by rw [ef49]; exact hD
  refine lv_aload_n hx hb dX8_lock_106 rfl (lv_at hl 1 rfl) ?_
  refine va_get (D := (dC, dI)) (ci := 10) (v := .ref mr) (C := RX8) (T := TX8) (N := 4) hx hb hts zi_X8_lock_X8 hown hK hP 0 rfl rfl 1 (by decide) (hts (.fieldLink RX8 10 "LockRoomsModel" "room" "LLockRoomsModel$Room;") (by decide +kernel)) (fun _ h9 => h9) rfl dX8_lock_107 ?_
  refine va_getN (D := (dC, dI)) (ci := 9) (v := .ref ll) (C := RX7) (T := TX7) (N := 14) hx hb hts zi_X8_lock_X7 hown hK hP 1 rfl rfl 0 (by decide) (va_Nw.use rfl (hN.1 ("LockRoomsModel", 24, "LockRoomsModel$Room", "locks", "Ljava/util/ArrayList;", "LockRoomsModel") (List.mem_of_getElem? (i := 1) rfl))) (fun _ h9 => h9) rfl dX8_lock_110 ?_
  refine lv_aload hx hb dX8_lock_113 (lv_at hl 0 rfl) ?_
  have hPr := (hP).sub (ws' := [(q8, .inl (cA10, 10, .inl f49))]) [4] rfl
  have hPc := hP.sub (ws' := [(ll, .inr (1, [.int 1, .ref ola, .int 1])), (ola, .inl (cOl, 10, .inr (.inr (.inr (.inr fol)))))]) [2, 3] rfl
  have hDc := hD.sub (ws' := [(ll, .inr (1, [.int 1, .ref ola, .int 1])), (ola, .inl (cOl, 10, .inr (.inr (.inr (.inr fol)))))]) [2, 3] (by decide) rfl
  have hKc := hK.sub (tys' := [(cA10, .int), (cOl, .object "java/lang/Object")]) [1, 0] rfl
  have hFc := va_free (wc := [(ll, .inr (1, [.int 1, .ref ola, .int 1])), (ola, .inl (cOl, 10, .inr (.inr (.inr (.inr fol)))))]) hD hS hA [2, 3] rfl
  refine va_calli (va_runV (As := [.ref q8]) (rest := []) ⟨hx, hb, hml, hown, hts⟩ (cz_Qadd_1 l dC dI ed H48.size q8 cA10 10 f49 ll ola cOl fol la0 hol0) (cwV 1 hts gX8_lock_Jx4a65c_add_9ea2d rfl rfl rfl (by decide +kernel) ⟨Nat.le_of_ble_eq_true rfl, Nat.le_of_ble_eq_true rfl⟩) ⟨zb_blind, va_recv hK hP (ci := 1) (q0 := 2) rfl rfl, fun U hU hW => ⟨rfl, zb_mk hU hW hPr hPc hKc hDc hN hH hS hFc (zx_cons (zx_o hD 4 [2, 3] rfl rfl (by decide)) zx_nil)⟩⟩ rfl rfl hl.1 rfl (lv_room (Nat.le_of_ble_eq_true rfl)) dX8_lock_115 ⟨Nat.le_of_ble_eq_true rfl, Nat.le_of_ble_eq_true rfl⟩) hS (fun q _ h => hFc q h) hFc (fun r61 u t H60 locs ht hvm hw hB hz1 hk1 hS => ?_)
  obtain rfl : r61 = 1 := hw
  obtain ⟨go_62, ⟨k62_0, k62_1⟩, hP1, hD1, hK1⟩ := hB
  rw [ht] at hP1
  obtain ⟨hP, hD⟩ := va_join (wr := [(mo, .inr (10, [.int 0, .ref mr, .int 1, .long s9])), (mr, .inr (9, [.ref ll, .ref lt, .ref lp, .int 0, .int 0, .int 0, .int 0, .int 0, .int 0, .int 0, .int (-1), .int 0, .int 0, .int 0])), (q8, .inl (cA10, 10, .inl f49))]) (w1 := [(ll, .inr (1, [.int 2, .ref ola, .int 2])), (ola, .inl (cOl, 10, .inr (.inr (.inr (.inr go_62)))))]) hP hD [2, 3] [0, 1, 4] rfl rfl (by decide) (by decide) hk1 hFc hP1 hD1
  have hP : va_P (dC, dI) vwCl [(mo, .inr (10, [.int 0, .ref mr, .int 1, .long s9])), (mr, .inr (9, [.ref ll, .ref lt, .ref lp, .int 0, .int 0, .int 0, .int 0, .int 0, .int 0, .int 0, .int (-1), .int 0, .int 0, .int 0])), (q8, .inl (cA10, 10, .inl f49)), (ll, .inr (1, [.int 2, .ref ola, .int 2])), (ola, .inl (cOl, 10, .inr (.inr (.inr (.inr go_62)))))] H60 := hP
  have hD : va_D A [(mo, .inr (10, [.int 0, .ref mr, .int 1, .long s9])), (mr, .inr (9, [.ref ll, .ref lt, .ref lp, .int 0, .int 0, .int 0, .int 0, .int 0, .int 0, .int 0, .int (-1), .int 0, .int 0, .int 0])), (q8, .inl (cA10, 10, .inl f49)), (ll, .inr (1, [.int 2, .ref ola, .int 2])), (ola, .inl (cOl, 10, .inr (.inr (.inr (.inr go_62)))))] := hD
  refine lv_pop hx hb dX8_lock_118 rfl ?_
  refine lv_iload hx hb dX8_lock_119 (lv_at hl 6 rfl) ?_
  refine lv_if_eq (tgt := 143) hx hb dX8_lock_121 (by decide) (fun _ => ?_) (fun h => absurd h (by decide))
  refine lv_aload_n hx hb dX8_lock_143 rfl (lv_at hl 1 rfl) ?_
  refine va_get (D := (dC, dI)) (ci := 10) (v := .ref mr) (C := RX8) (T := TX8) (N := 4) hx hb hts zi_X8_lock_X8 hown hK hP 0 rfl rfl 1 (by decide) (hts (.fieldLink RX8 10 "LockRoomsModel" "room" "LLockRoomsModel$Room;") (by decide +kernel)) (fun _ h9 => h9) rfl dX8_lock_144 ?_
  refine va_getN (D := (dC, dI)) (ci := 9) (v := .ref ll) (C := RX7) (T := TX7) (N := 14) hx hb hts zi_X8_lock_X7 hown hK hP 1 rfl rfl 0 (by decide) (va_Nw.use rfl (hN.1 ("LockRoomsModel", 24, "LockRoomsModel$Room", "locks", "Ljava/util/ArrayList;", "LockRoomsModel") (List.mem_of_getElem? (i := 1) rfl))) (fun _ h9 => h9) rfl dX8_lock_147 ?_
  have hPr := (hP).sub (ws' := [(ll, .inr (1, [.int 2, .ref ola, .int 2]))]) [3] rfl
  have hPc := hP.sub (ws' := []) [] rfl
  have hDc := hD.sub (ws' := []) [] (by decide) rfl
  have hKc := hK.sub (tys' := []) [] rfl
  have hFc := va_free (wc := []) hD hS hA [] rfl
  refine va_calli (va_runV (As := []) (rest := []) ⟨hx, hb, hml, hown, hts⟩ (cz_Qsize l dC dI ed H60.size ll 2 ola 2) (cwV 0 hts gX8_lock_Jx4a65c_size_8abf5 rfl rfl rfl (by decide +kernel) ⟨Nat.le_of_ble_eq_true rfl, Nat.le_of_ble_eq_true rfl⟩) ⟨zb_blind, va_recv hK hP (ci := 1) (q0 := 3) rfl rfl, fun U hU hW => ⟨rfl, zb_mk hU hW hPr hPc hKc hDc hN hH hS hFc zx_e⟩⟩ rfl rfl hl.1 rfl (lv_room (Nat.le_of_ble_eq_true rfl)) dX8_lock_150 ⟨Nat.le_of_ble_eq_true rfl, Nat.le_of_ble_eq_true rfl⟩) hS (fun q _ h => hFc q h) hFc (fun r64 u t H63 locs ht hvm hw hB hz1 hk1 hS => ?_)
  obtain rfl : r64 = 2 := hw.trans (by decide +kernel)
  have hP := zo_K hP hk1
  refine lv_iconst (v := 1) hx hb dX8_lock_153 (by decide) ?_
  refine lv_isub hx hb dX8_lock_154 ?_
  refine zo_i (v := 1) (by decide) ?_
  refine W.widen (k := 1) (n := 10) (Nat.le_of_ble_eq_true rfl) (Nat.le_of_ble_eq_true rfl) ?_
  have hP9 := hP.sub (ws' := [(mo, .inr (10, [.int 0, .ref mr, .int 1, .long s9])), (mr, .inr (9, [.ref ll, .ref lt, .ref lp, .int 0, .int 0, .int 0, .int 0, .int 0, .int 0, .int 0, .int (-1), .int 0, .int 0, .int 0])), (ll, .inr (1, [.int 2, .ref ola, .int 2])), (ola, .inl (cOl, 10, .inr (.inr (.inr (.inr go_62))))), (q8, .inl (cA10, 10, .inl f49))]) [0, 1, 3, 4, 2] rfl
  have hD9 := hD.sub (ws' := [(mo, .inr (10, [.int 0, .ref mr, .int 1, .long s9])), (mr, .inr (9, [.ref ll, .ref lt, .ref lp, .int 0, .int 0, .int 0, .int 0, .int 0, .int 0, .int 0, .int (-1), .int 0, .int 0, .int 0])), (ll, .inr (1, [.int 2, .ref ola, .int 2])), (ola, .inl (cOl, 10, .inr (.inr (.inr (.inr go_62))))), (q8, .inl (cA10, 10, .inl f49))]) [0, 1, 3, 4, 2] (by decide) rfl
  have hK9 := hK.sub (tys' := [(cOl, .object "java/lang/Object"), (cA10, .int)]) [0, 1] rfl
  exact W.iret hx hb hr (fun t ht hW => ⟨⟨1, (), rfl, rfl, ⟨go_62, q8, cA10, f49, ⟨k62_0, k62_1, k56, k57, k58, k59, k50, k51, k52, k53, k54, k55⟩, by rw [ht]; exact hP9, hD9, va_K.moved hW.alike hK9⟩⟩, hS.F ht⟩) hS.2.2 dX8_lock_155

set_option maxHeartbeats 4000000 in
set_option maxRecDepth 100000 in
theorem cz_RX6_init (l : Launch) (dC : Nat → ClassId) (dI : Nat → Nat → Nat) (ed sz : Nat) (x : Nat) : Met l yX6_init wsX6_init ({ frames := 3, cells := 70, slots := 3537, locals := 53 } : Jvm.Room) (va_Pc [.ref x] (zB dC dI ed sz [] [(x, .inr (8, [.null, .null, .null]))] [])) (va_Qv (fun (_ : Unit) => True) (fun (_ : Unit) (t : State) => ∃ (rm : Nat), ∃ (tr : Nat), ∃ (st : Nat), ∃ (lk : Nat), ∃ (th : Nat), ∃ (pl : Nat), ∃ (gm : Nat), ∃ (cP : ClassId), ∃ (fp : Nat → Option Nat), ∃ (p0 : Nat), ∃ (tlk : Nat), ∃ (tth : Nat), ∃ (tpl : Nat), ∃ (tgm : Nat), ∃ (tcP : ClassId), ∃ (tfp : Nat → Option Nat), ∃ (tp0 : Nat), (fp 0 = some p0 ∧ tfp 0 = some tp0) ∧ va_P (dC, dI) vwCl [(x, .inr (8, [.ref rm, .ref tr, .ref st])), (rm, .inr (5, [.ref lk, .ref th, .ref pl, .ref gm, .int 0, .int 0, .int 0, .int (-1), .int 1, .int 0, .int 0, .int 0])), (pl, .inl (cP, 6, .inr (.inr (.inr (.inr fp))))), (gm, .inr (2, [.int 0, .int 0, .int 0, .int 0, .int 0, .int (-1), .long 0])), (p0, .inr (4, [.int 0, .int 0, .int 0, .int 0])), (tr, .inr (5, [.ref tlk, .ref tth, .ref tpl, .ref tgm, .int 0, .int 0, .int 0, .int (-1), .int 1, .int 0, .int 0, .int 0])), (tpl, .inl (tcP, 6, .inr (.inr (.inr (.inr tfp))))), (tgm, .inr (2, [.int 0, .int 0, .int 0, .int 0, .int 0, .int (-1), .long 0])), (tp0, .inr (4, [.int 0, .int 0, .int 0, .int 0]))] t.heap ∧ va_D (va_A [(x, .inr (8, [.null, .null, .null]))] sz) [(x, .inr (8, [.ref rm, .ref tr, .ref st])), (rm, .inr (5, [.ref lk, .ref th, .ref pl, .ref gm, .int 0, .int 0, .int 0, .int (-1), .int 1, .int 0, .int 0, .int 0])), (pl, .inl (cP, 6, .inr (.inr (.inr (.inr fp))))), (gm, .inr (2, [.int 0, .int 0, .int 0, .int 0, .int 0, .int (-1), .long 0])), (p0, .inr (4, [.int 0, .int 0, .int 0, .int 0])), (tr, .inr (5, [.ref tlk, .ref tth, .ref tpl, .ref tgm, .int 0, .int 0, .int 0, .int (-1), .int 1, .int 0, .int 0, .int 0])), (tpl, .inl (tcP, 6, .inr (.inr (.inr (.inr tfp))))), (tgm, .inr (2, [.int 0, .int 0, .int 0, .int 0, .int 0, .int (-1), .long 0])), (tp0, .inr (4, [.int 0, .int 0, .int 0, .int 0]))] ∧ va_K (dC, dI) vwCl [(cP, .object "LockRooms$Player"), (tcP, .object "LockRooms$Player")] t) (va_A [(x, .inr (8, [.null, .null, .null]))] sz)) 70 3537 (va_A [(x, .inr (8, [.null, .null, .null]))] sz) := by
  refine Met.ofW (cc := cX6_init) (maxL := 1) (ret := none) (by decide) rfl ?_
  intro p e s m args below meth c s₁ B hml hv
  obtain ⟨rfl, hsz, hR0, hP, hK, hD0, hN, hH, hX0⟩ := hv
  have hx := B.exec
  have hb := B.bytes
  have hr := B.returns
  have hts := atoms_spec (ws := wsX6_init) B.pre
  have hown : s.vm.findClass RX6 = some m.cls := findClass_of_methodNamed B.named
  have hlocks := B.notSynchronized
  have hin : meth.name = "<init>" := (name_of_methodNamed B.named B.method).1
  subst hsz
  have hD := hD0.self (sz := s.heap.size)
  have hAr := zx_A hX0 hR0
  generalize hAe : va_A [(x, .inr (8, [.null, .null, .null]))] s.heap.size = A at hD hAr hH ⊢
  have hA : ∀ q : Nat, s.heap.size ≤ q → A q := fun q h => by rw [← hAe]; exact Or.inr h
  have hS : va_S A s.heap s.heap [] := va_S.rf
  have hl := lv_entry ([.ref x]) (n := 1) (Nat.le_of_ble_eq_true rfl)
  rw [lg_entry_eq]
  generalize (lg_sl ([.ref x]) ++ List.replicate (1 - (lg_sl ([.ref x])).length) Slot.unset).toArray = ls at hl ⊢
  have hl : lv_has ls 1 [(0, .ref x)] := hl
  refine lv_aload_n hx hb dX6_init_0 rfl (lv_at hl 0 rfl) ?_
  refine W.objInit hx hb hown (hts (.methodLink RX6 3 objectInit) (by decide +kernel)) (hts (.instanceMethod objectInit) (by decide +kernel)) (hts (.code objectInit ⟨#[0xb1]⟩ 1 none) (by decide +kernel)) rfl (by rw [hml]; exact hl.1) rfl dX6_init_1 (Nat.le_of_ble_eq_true rfl) (Nat.le_of_ble_eq_true rfl) ?_
  refine W.eq (g2 := F0 m 4 ls []) rfl ?_
  refine lv_aload_n hx hb dX6_init_4 rfl (lv_at hl 0 rfl) ?_
  refine va_new (ci := 5) (fs := [.null, .null, .null, .null, .int 0, .int 0, .int 0, .int 0, .int 0, .int 0, .int 0, .int 0]) (C := RX3) (T := TX3) (N := 12) hx hb hts zi_X6_init_X3 tyX3 tyX3_ok hown (hts (.classLink RX6 9 RX3) (by decide +kernel)) (hts (.instantiable RX3 12) (by decide +kernel)) (hts (.initialized RX3) (by decide +kernel)) hK hP hD hS hA rfl (fun j hj => by rcases (show j = 0 ∨ j = 1 ∨ j = 2 ∨ j = 3 ∨ j = 4 ∨ j = 5 ∨ j = 6 ∨ j = 7 ∨ j = 8 ∨ j = 9 ∨ j = 10 ∨ j = 11 by omega) with rfl | rfl | rfl | rfl | rfl | rfl | rfl | rfl | rfl | rfl | rfl | rfl <;> rfl) (Nat.le_of_ble_eq_true rfl) (Nat.le_of_ble_eq_true rfl) dX6_init_5 (fun q1 H2 hP hD hS => ?_)
  have hP : va_P (dC, dI) vwCl [(x, .inr (8, [.null, .null, .null])), (q1, .inr (5, [.null, .null, .null, .null, .int 0, .int 0, .int 0, .int 0, .int 0, .int 0, .int 0, .int 0]))] H2 := hP
  have hD : va_D A [(x, .inr (8, [.null, .null, .null])), (q1, .inr (5, [.null, .null, .null, .null, .int 0, .int 0, .int 0, .int 0, .int 0, .int 0, .int 0, .int 0]))] := hD
  refine lv_dup hx hb dX6_init_8 rfl ?_
  have hPr := (zo_nil : va_P (dC, dI) vwCl [] H2)
  have hPc := hP.sub (ws' := [(q1, .inr (5, [.null, .null, .null, .null, .int 0, .int 0, .int 0, .int 0, .int 0, .int 0, .int 0, .int 0]))]) [1] rfl
  have hDc := hD.sub (ws' := [(q1, .inr (5, [.null, .null, .null, .null, .int 0, .int 0, .int 0, .int 0, .int 0, .int 0, .int 0, .int 0]))]) [1] (by decide) rfl
  have hKc := hK.sub (tys' := []) [] rfl
  have hFc := va_free (wc := [(q1, .inr (5, [.null, .null, .null, .null, .int 0, .int 0, .int 0, .int 0, .int 0, .int 0, .int 0, .int 0]))]) hD hS hA [1] rfl
  refine va_callv (va_runI (As := []) (rest := [.ref q1, .ref x]) ⟨hx, hb, hml, hown, hts⟩ (cz_RX3_init l dC dI ed H2.size q1) (cwI 0 hts gX6_init_X3_init rfl rfl rfl (hts (.initialized RX3) (by decide +kernel)) (hts (.methodLink RX6 11 yX3_init) (by decide +kernel)) (hts (.instanceMethod yX3_init) (by decide +kernel)) rfl (by decide +kernel) ⟨Nat.le_of_ble_eq_true rfl, Nat.le_of_ble_eq_true rfl⟩) ⟨zb_blind, fun U hU hW => ⟨rfl, zb_mk hU hW hPr hPc hKc hDc hN hH hS hFc zx_nil⟩⟩ rfl rfl hl.1 rfl (lv_room (Nat.le_of_ble_eq_true rfl)) dX6_init_9 ⟨Nat.le_of_ble_eq_true rfl, Nat.le_of_ble_eq_true rfl⟩) hS (fun q _ h => hFc q h) hFc (fun u t H3 locs ht hvm hw hB hz1 hk1 hS => ?_)
  obtain ⟨lk_5, th_5, pl_5, gm_5, cP_5, fp_5, p0_5, k5_0, hP1, hD1, hK1⟩ := hB
  rw [ht] at hP1
  obtain ⟨hP, hD⟩ := va_join (wr := [(x, .inr (8, [.null, .null, .null]))]) (w1 := [(q1, .inr (5, [.ref lk_5, .ref th_5, .ref pl_5, .ref gm_5, .int 0, .int 0, .int 0, .int (-1), .int 1, .int 0, .int 0, .int 0])), (pl_5, .inl (cP_5, 6, .inr (.inr (.inr (.inr fp_5))))), (gm_5, .inr (2, [.int 0, .int 0, .int 0, .int 0, .int 0, .int (-1), .long 0])), (p0_5, .inr (4, [.int 0, .int 0, .int 0, .int 0]))]) hP hD [1] [0] rfl rfl (by decide) (by decide) hk1 hFc hP1 hD1
  have hP : va_P (dC, dI) vwCl [(x, .inr (8, [.null, .null, .null])), (q1, .inr (5, [.ref lk_5, .ref th_5, .ref pl_5, .ref gm_5, .int 0, .int 0, .int 0, .int (-1), .int 1, .int 0, .int 0, .int 0])), (pl_5, .inl (cP_5, 6, .inr (.inr (.inr (.inr fp_5))))), (gm_5, .inr (2, [.int 0, .int 0, .int 0, .int 0, .int 0, .int (-1), .long 0])), (p0_5, .inr (4, [.int 0, .int 0, .int 0, .int 0]))] H3 := hP
  have hD : va_D A [(x, .inr (8, [.null, .null, .null])), (q1, .inr (5, [.ref lk_5, .ref th_5, .ref pl_5, .ref gm_5, .int 0, .int 0, .int 0, .int (-1), .int 1, .int 0, .int 0, .int 0])), (pl_5, .inl (cP_5, 6, .inr (.inr (.inr (.inr fp_5))))), (gm_5, .inr (2, [.int 0, .int 0, .int 0, .int 0, .int 0, .int (-1), .long 0])), (p0_5, .inr (4, [.int 0, .int 0, .int 0, .int 0]))] := hD
  have hK := hK.app (va_K.moved hvm.symm hK1)
  have hK : va_K (dC, dI) vwCl [(cP_5, .object "LockRooms$Player")] s := hK
  refine va_putF (D := (dC, dI)) (ci := 8) (v := .ref q1) (ty := .object "LockRooms$Room") (C := RX6) (T := TX6) (N := 3) hx hb hts zi_X6_init_X6 tyX6 tyX6_ok nmX6 hown hK hP hD hS 0 rfl rfl 0 (by decide) (hts (.fieldLink RX6 12 "LockRooms" "room" "LLockRooms$Room;") (by decide +kernel)) (fun _ h9 => h9) rfl hin rfl (by decide +kernel) rfl rfl (Nat.le_of_ble_eq_true rfl) dX6_init_12 (fun H6 locs hP hD hS => ?_)
  have hP : va_P (dC, dI) vwCl [(x, .inr (8, [.ref q1, .null, .null])), (q1, .inr (5, [.ref lk_5, .ref th_5, .ref pl_5, .ref gm_5, .int 0, .int 0, .int 0, .int (-1), .int 1, .int 0, .int 0, .int 0])), (pl_5, .inl (cP_5, 6, .inr (.inr (.inr (.inr fp_5))))), (gm_5, .inr (2, [.int 0, .int 0, .int 0, .int 0, .int 0, .int (-1), .long 0])), (p0_5, .inr (4, [.int 0, .int 0, .int 0, .int 0]))] H6 := hP
  have hD : va_D A [(x, .inr (8, [.ref q1, .null, .null])), (q1, .inr (5, [.ref lk_5, .ref th_5, .ref pl_5, .ref gm_5, .int 0, .int 0, .int 0, .int (-1), .int 1, .int 0, .int 0, .int 0])), (pl_5, .inl (cP_5, 6, .inr (.inr (.inr (.inr fp_5))))), (gm_5, .inr (2, [.int 0, .int 0, .int 0, .int 0, .int 0, .int (-1), .long 0])), (p0_5, .inr (4, [.int 0, .int 0, .int 0, .int 0]))] := hD
  refine lv_aload_n hx hb dX6_init_15 rfl (lv_at hl 0 rfl) ?_
  refine va_new (ci := 5) (fs := [.null, .null, .null, .null, .int 0, .int 0, .int 0, .int 0, .int 0, .int 0, .int 0, .int 0]) (C := RX3) (T := TX3) (N := 12) hx hb hts zi_X6_init_X3 tyX3 tyX3_ok hown (hts (.classLink RX6 9 RX3) (by decide +kernel)) (hts (.instantiable RX3 12) (by decide +kernel)) (hts (.initialized RX3) (by decide +kernel)) hK hP hD hS hA rfl (fun j hj => by rcases (show j = 0 ∨ j = 1 ∨ j = 2 ∨ j = 3 ∨ j = 4 ∨ j = 5 ∨ j = 6 ∨ j = 7 ∨ j = 8 ∨ j = 9 ∨ j = 10 ∨ j = 11 by omega) with rfl | rfl | rfl | rfl | rfl | rfl | rfl | rfl | rfl | rfl | rfl | rfl <;> rfl) (Nat.le_of_ble_eq_true rfl) (Nat.le_of_ble_eq_true rfl) dX6_init_16 (fun q7 H8 hP hD hS => ?_)
  have hP : va_P (dC, dI) vwCl [(x, .inr (8, [.ref q1, .null, .null])), (q1, .inr (5, [.ref lk_5, .ref th_5, .ref pl_5, .ref gm_5, .int 0, .int 0, .int 0, .int (-1), .int 1, .int 0, .int 0, .int 0])), (pl_5, .inl (cP_5, 6, .inr (.inr (.inr (.inr fp_5))))), (gm_5, .inr (2, [.int 0, .int 0, .int 0, .int 0, .int 0, .int (-1), .long 0])), (p0_5, .inr (4, [.int 0, .int 0, .int 0, .int 0])), (q7, .inr (5, [.null, .null, .null, .null, .int 0, .int 0, .int 0, .int 0, .int 0, .int 0, .int 0, .int 0]))] H8 := hP
  have hD : va_D A [(x, .inr (8, [.ref q1, .null, .null])), (q1, .inr (5, [.ref lk_5, .ref th_5, .ref pl_5, .ref gm_5, .int 0, .int 0, .int 0, .int (-1), .int 1, .int 0, .int 0, .int 0])), (pl_5, .inl (cP_5, 6, .inr (.inr (.inr (.inr fp_5))))), (gm_5, .inr (2, [.int 0, .int 0, .int 0, .int 0, .int 0, .int (-1), .long 0])), (p0_5, .inr (4, [.int 0, .int 0, .int 0, .int 0])), (q7, .inr (5, [.null, .null, .null, .null, .int 0, .int 0, .int 0, .int 0, .int 0, .int 0, .int 0, .int 0]))] := hD
  refine lv_dup hx hb dX6_init_19 rfl ?_
  have hPr := (zo_nil : va_P (dC, dI) vwCl [] H8)
  have hPc := hP.sub (ws' := [(q7, .inr (5, [.null, .null, .null, .null, .int 0, .int 0, .int 0, .int 0, .int 0, .int 0, .int 0, .int 0]))]) [5] rfl
  have hDc := hD.sub (ws' := [(q7, .inr (5, [.null, .null, .null, .null, .int 0, .int 0, .int 0, .int 0, .int 0, .int 0, .int 0, .int 0]))]) [5] (by decide) rfl
  have hKc := hK.sub (tys' := []) [] rfl
  have hFc := va_free (wc := [(q7, .inr (5, [.null, .null, .null, .null, .int 0, .int 0, .int 0, .int 0, .int 0, .int 0, .int 0, .int 0]))]) hD hS hA [5] rfl
  refine va_callv (va_runI (As := []) (rest := [.ref q7, .ref x]) ⟨hx, hb, hml, hown, hts⟩ (cz_RX3_init l dC dI ed H8.size q7) (cwI 0 hts gX6_init_X3_init rfl rfl rfl (hts (.initialized RX3) (by decide +kernel)) (hts (.methodLink RX6 11 yX3_init) (by decide +kernel)) (hts (.instanceMethod yX3_init) (by decide +kernel)) rfl (by decide +kernel) ⟨Nat.le_of_ble_eq_true rfl, Nat.le_of_ble_eq_true rfl⟩) ⟨zb_blind, fun U hU hW => ⟨rfl, zb_mk hU hW hPr hPc hKc hDc hN hH hS hFc zx_nil⟩⟩ rfl rfl hl.1 rfl (lv_room (Nat.le_of_ble_eq_true rfl)) dX6_init_20 ⟨Nat.le_of_ble_eq_true rfl, Nat.le_of_ble_eq_true rfl⟩) hS (fun q _ h => hFc q h) hFc (fun u t H9 locs ht hvm hw hB hz1 hk1 hS => ?_)
  obtain ⟨lk_11, th_11, pl_11, gm_11, cP_11, fp_11, p0_11, k11_0, hP1, hD1, hK1⟩ := hB
  rw [ht] at hP1
  obtain ⟨hP, hD⟩ := va_join (wr := [(x, .inr (8, [.ref q1, .null, .null])), (q1, .inr (5, [.ref lk_5, .ref th_5, .ref pl_5, .ref gm_5, .int 0, .int 0, .int 0, .int (-1), .int 1, .int 0, .int 0, .int 0])), (pl_5, .inl (cP_5, 6, .inr (.inr (.inr (.inr fp_5))))), (gm_5, .inr (2, [.int 0, .int 0, .int 0, .int 0, .int 0, .int (-1), .long 0])), (p0_5, .inr (4, [.int 0, .int 0, .int 0, .int 0]))]) (w1 := [(q7, .inr (5, [.ref lk_11, .ref th_11, .ref pl_11, .ref gm_11, .int 0, .int 0, .int 0, .int (-1), .int 1, .int 0, .int 0, .int 0])), (pl_11, .inl (cP_11, 6, .inr (.inr (.inr (.inr fp_11))))), (gm_11, .inr (2, [.int 0, .int 0, .int 0, .int 0, .int 0, .int (-1), .long 0])), (p0_11, .inr (4, [.int 0, .int 0, .int 0, .int 0]))]) hP hD [5] [0, 1, 2, 3, 4] rfl rfl (by decide) (by decide) hk1 hFc hP1 hD1
  have hP : va_P (dC, dI) vwCl [(x, .inr (8, [.ref q1, .null, .null])), (q1, .inr (5, [.ref lk_5, .ref th_5, .ref pl_5, .ref gm_5, .int 0, .int 0, .int 0, .int (-1), .int 1, .int 0, .int 0, .int 0])), (pl_5, .inl (cP_5, 6, .inr (.inr (.inr (.inr fp_5))))), (gm_5, .inr (2, [.int 0, .int 0, .int 0, .int 0, .int 0, .int (-1), .long 0])), (p0_5, .inr (4, [.int 0, .int 0, .int 0, .int 0])), (q7, .inr (5, [.ref lk_11, .ref th_11, .ref pl_11, .ref gm_11, .int 0, .int 0, .int 0, .int (-1), .int 1, .int 0, .int 0, .int 0])), (pl_11, .inl (cP_11, 6, .inr (.inr (.inr (.inr fp_11))))), (gm_11, .inr (2, [.int 0, .int 0, .int 0, .int 0, .int 0, .int (-1), .long 0])), (p0_11, .inr (4, [.int 0, .int 0, .int 0, .int 0]))] H9 := hP
  have hD : va_D A [(x, .inr (8, [.ref q1, .null, .null])), (q1, .inr (5, [.ref lk_5, .ref th_5, .ref pl_5, .ref gm_5, .int 0, .int 0, .int 0, .int (-1), .int 1, .int 0, .int 0, .int 0])), (pl_5, .inl (cP_5, 6, .inr (.inr (.inr (.inr fp_5))))), (gm_5, .inr (2, [.int 0, .int 0, .int 0, .int 0, .int 0, .int (-1), .long 0])), (p0_5, .inr (4, [.int 0, .int 0, .int 0, .int 0])), (q7, .inr (5, [.ref lk_11, .ref th_11, .ref pl_11, .ref gm_11, .int 0, .int 0, .int 0, .int (-1), .int 1, .int 0, .int 0, .int 0])), (pl_11, .inl (cP_11, 6, .inr (.inr (.inr (.inr fp_11))))), (gm_11, .inr (2, [.int 0, .int 0, .int 0, .int 0, .int 0, .int (-1), .long 0])), (p0_11, .inr (4, [.int 0, .int 0, .int 0, .int 0]))] := hD
  have hK := hK.app (va_K.moved hvm.symm hK1)
  have hK : va_K (dC, dI) vwCl [(cP_5, .object "LockRooms$Player"), (cP_11, .object "LockRooms$Player")] s := hK
  refine va_putF (D := (dC, dI)) (ci := 8) (v := .ref q7) (ty := .object "LockRooms$Room") (C := RX6) (T := TX6) (N := 3) hx hb hts zi_X6_init_X6 tyX6 tyX6_ok nmX6 hown hK hP hD hS 0 rfl rfl 1 (by decide) (hts (.fieldLink RX6 16 "LockRooms" "trial" "LLockRooms$Room;") (by decide +kernel)) (fun _ h9 => h9) rfl hin rfl (by decide +kernel) rfl rfl (Nat.le_of_ble_eq_true rfl) dX6_init_23 (fun H12 locs hP hD hS => ?_)
  have hP : va_P (dC, dI) vwCl [(x, .inr (8, [.ref q1, .ref q7, .null])), (q1, .inr (5, [.ref lk_5, .ref th_5, .ref pl_5, .ref gm_5, .int 0, .int 0, .int 0, .int (-1), .int 1, .int 0, .int 0, .int 0])), (pl_5, .inl (cP_5, 6, .inr (.inr (.inr (.inr fp_5))))), (gm_5, .inr (2, [.int 0, .int 0, .int 0, .int 0, .int 0, .int (-1), .long 0])), (p0_5, .inr (4, [.int 0, .int 0, .int 0, .int 0])), (q7, .inr (5, [.ref lk_11, .ref th_11, .ref pl_11, .ref gm_11, .int 0, .int 0, .int 0, .int (-1), .int 1, .int 0, .int 0, .int 0])), (pl_11, .inl (cP_11, 6, .inr (.inr (.inr (.inr fp_11))))), (gm_11, .inr (2, [.int 0, .int 0, .int 0, .int 0, .int 0, .int (-1), .long 0])), (p0_11, .inr (4, [.int 0, .int 0, .int 0, .int 0]))] H12 := hP
  have hD : va_D A [(x, .inr (8, [.ref q1, .ref q7, .null])), (q1, .inr (5, [.ref lk_5, .ref th_5, .ref pl_5, .ref gm_5, .int 0, .int 0, .int 0, .int (-1), .int 1, .int 0, .int 0, .int 0])), (pl_5, .inl (cP_5, 6, .inr (.inr (.inr (.inr fp_5))))), (gm_5, .inr (2, [.int 0, .int 0, .int 0, .int 0, .int 0, .int (-1), .long 0])), (p0_5, .inr (4, [.int 0, .int 0, .int 0, .int 0])), (q7, .inr (5, [.ref lk_11, .ref th_11, .ref pl_11, .ref gm_11, .int 0, .int 0, .int 0, .int (-1), .int 1, .int 0, .int 0, .int 0])), (pl_11, .inl (cP_11, 6, .inr (.inr (.inr (.inr fp_11))))), (gm_11, .inr (2, [.int 0, .int 0, .int 0, .int 0, .int 0, .int (-1), .long 0])), (p0_11, .inr (4, [.int 0, .int 0, .int 0, .int 0]))] := hD
  refine lv_aload_n hx hb dX6_init_26 rfl (lv_at hl 0 rfl) ?_
  refine va_new (ci := 6) (fs := [.null, .null, .null]) (C := RX4) (T := TX4) (N := 3) hx hb hts zi_X6_init_X4 tyX4 tyX4_ok hown (hts (.classLink RX6 19 RX4) (by decide +kernel)) (hts (.instantiable RX4 3) (by decide +kernel)) (hts (.initialized RX4) (by decide +kernel)) hK hP hD hS hA rfl (fun j hj => by rcases (show j = 0 ∨ j = 1 ∨ j = 2 by omega) with rfl | rfl | rfl <;> rfl) (Nat.le_of_ble_eq_true rfl) (Nat.le_of_ble_eq_true rfl) dX6_init_27 (fun q13 H14 hP hD hS => ?_)
  have hP : va_P (dC, dI) vwCl [(x, .inr (8, [.ref q1, .ref q7, .null])), (q1, .inr (5, [.ref lk_5, .ref th_5, .ref pl_5, .ref gm_5, .int 0, .int 0, .int 0, .int (-1), .int 1, .int 0, .int 0, .int 0])), (pl_5, .inl (cP_5, 6, .inr (.inr (.inr (.inr fp_5))))), (gm_5, .inr (2, [.int 0, .int 0, .int 0, .int 0, .int 0, .int (-1), .long 0])), (p0_5, .inr (4, [.int 0, .int 0, .int 0, .int 0])), (q7, .inr (5, [.ref lk_11, .ref th_11, .ref pl_11, .ref gm_11, .int 0, .int 0, .int 0, .int (-1), .int 1, .int 0, .int 0, .int 0])), (pl_11, .inl (cP_11, 6, .inr (.inr (.inr (.inr fp_11))))), (gm_11, .inr (2, [.int 0, .int 0, .int 0, .int 0, .int 0, .int (-1), .long 0])), (p0_11, .inr (4, [.int 0, .int 0, .int 0, .int 0])), (q13, .inr (6, [.null, .null, .null]))] H14 := hP
  have hD : va_D A [(x, .inr (8, [.ref q1, .ref q7, .null])), (q1, .inr (5, [.ref lk_5, .ref th_5, .ref pl_5, .ref gm_5, .int 0, .int 0, .int 0, .int (-1), .int 1, .int 0, .int 0, .int 0])), (pl_5, .inl (cP_5, 6, .inr (.inr (.inr (.inr fp_5))))), (gm_5, .inr (2, [.int 0, .int 0, .int 0, .int 0, .int 0, .int (-1), .long 0])), (p0_5, .inr (4, [.int 0, .int 0, .int 0, .int 0])), (q7, .inr (5, [.ref lk_11, .ref th_11, .ref pl_11, .ref gm_11, .int 0, .int 0, .int 0, .int (-1), .int 1, .int 0, .int 0, .int 0])), (pl_11, .inl (cP_11, 6, .inr (.inr (.inr (.inr fp_11))))), (gm_11, .inr (2, [.int 0, .int 0, .int 0, .int 0, .int 0, .int (-1), .long 0])), (p0_11, .inr (4, [.int 0, .int 0, .int 0, .int 0])), (q13, .inr (6, [.null, .null, .null]))] := hD
  refine lv_dup hx hb dX6_init_30 rfl ?_
  have hPr := (zo_nil : va_P (dC, dI) vwCl [] H14)
  have hPc := hP.sub (ws' := [(q13, .inr (6, [.null, .null, .null]))]) [9] rfl
  have hDc := hD.sub (ws' := [(q13, .inr (6, [.null, .null, .null]))]) [9] (by decide) rfl
  have hKc := hK.sub (tys' := []) [] rfl
  have hFc := va_free (wc := [(q13, .inr (6, [.null, .null, .null]))]) hD hS hA [9] rfl
  refine va_callv (va_runIN (As := []) (rest := [.ref q13, .ref x]) ⟨hx, hb, hml, hown, hts⟩ (cz_X4_init l dC dI ed H14.size q13) ⟨(va_cnB 0 hts gX6_init_X4_init_n21 rfl rfl rfl (hN.2.1 ("LockRooms", 21, yX4_init, "LockRooms") (List.mem_of_getElem? (i := 4) rfl)) (hts (.initialized RX4) (by decide +kernel)) (by decide +kernel) ⟨Nat.le_of_ble_eq_true rfl, Nat.le_of_ble_eq_true rfl⟩), rfl, (hts (.instanceMethod yX4_init) (by decide +kernel))⟩ ⟨zb_blind, fun U hU hW => ⟨rfl, zb_mk hU hW hPr hPc hKc hDc hN hH hS hFc zx_nil⟩⟩ rfl rfl hl.1 rfl (lv_room (Nat.le_of_ble_eq_true rfl)) dX6_init_31 ⟨Nat.le_of_ble_eq_true rfl, Nat.le_of_ble_eq_true rfl⟩) hS (fun q _ h => hFc q h) hFc (fun u t H15 locs ht hvm hw hB hz1 hk1 hS => ?_)
  obtain ⟨a1_17, a2_17, a3_17, cZ_17, cI_17, cJ_17, f1_17, f2_17, f3_17, hP1, hD1, hK1⟩ := hB
  rw [ht] at hP1
  obtain ⟨hP, hD⟩ := va_join (wr := [(x, .inr (8, [.ref q1, .ref q7, .null])), (q1, .inr (5, [.ref lk_5, .ref th_5, .ref pl_5, .ref gm_5, .int 0, .int 0, .int 0, .int (-1), .int 1, .int 0, .int 0, .int 0])), (pl_5, .inl (cP_5, 6, .inr (.inr (.inr (.inr fp_5))))), (gm_5, .inr (2, [.int 0, .int 0, .int 0, .int 0, .int 0, .int (-1), .long 0])), (p0_5, .inr (4, [.int 0, .int 0, .int 0, .int 0])), (q7, .inr (5, [.ref lk_11, .ref th_11, .ref pl_11, .ref gm_11, .int 0, .int 0, .int 0, .int (-1), .int 1, .int 0, .int 0, .int 0])), (pl_11, .inl (cP_11, 6, .inr (.inr (.inr (.inr fp_11))))), (gm_11, .inr (2, [.int 0, .int 0, .int 0, .int 0, .int 0, .int (-1), .long 0])), (p0_11, .inr (4, [.int 0, .int 0, .int 0, .int 0]))]) (w1 := [(q13, .inr (6, [.ref a1_17, .ref a2_17, .ref a3_17])), (a1_17, .inl (cZ_17, 1024, .inl f1_17)), (a2_17, .inl (cI_17, 1024, .inl f2_17)), (a3_17, .inl (cJ_17, 1024, .inl f3_17))]) hP hD [9] [0, 1, 2, 3, 4, 5, 6, 7, 8] rfl rfl (by decide) (by decide) hk1 hFc hP1 hD1
  have hP : va_P (dC, dI) vwCl [(x, .inr (8, [.ref q1, .ref q7, .null])), (q1, .inr (5, [.ref lk_5, .ref th_5, .ref pl_5, .ref gm_5, .int 0, .int 0, .int 0, .int (-1), .int 1, .int 0, .int 0, .int 0])), (pl_5, .inl (cP_5, 6, .inr (.inr (.inr (.inr fp_5))))), (gm_5, .inr (2, [.int 0, .int 0, .int 0, .int 0, .int 0, .int (-1), .long 0])), (p0_5, .inr (4, [.int 0, .int 0, .int 0, .int 0])), (q7, .inr (5, [.ref lk_11, .ref th_11, .ref pl_11, .ref gm_11, .int 0, .int 0, .int 0, .int (-1), .int 1, .int 0, .int 0, .int 0])), (pl_11, .inl (cP_11, 6, .inr (.inr (.inr (.inr fp_11))))), (gm_11, .inr (2, [.int 0, .int 0, .int 0, .int 0, .int 0, .int (-1), .long 0])), (p0_11, .inr (4, [.int 0, .int 0, .int 0, .int 0])), (q13, .inr (6, [.ref a1_17, .ref a2_17, .ref a3_17])), (a1_17, .inl (cZ_17, 1024, .inl f1_17)), (a2_17, .inl (cI_17, 1024, .inl f2_17)), (a3_17, .inl (cJ_17, 1024, .inl f3_17))] H15 := hP
  have hD : va_D A [(x, .inr (8, [.ref q1, .ref q7, .null])), (q1, .inr (5, [.ref lk_5, .ref th_5, .ref pl_5, .ref gm_5, .int 0, .int 0, .int 0, .int (-1), .int 1, .int 0, .int 0, .int 0])), (pl_5, .inl (cP_5, 6, .inr (.inr (.inr (.inr fp_5))))), (gm_5, .inr (2, [.int 0, .int 0, .int 0, .int 0, .int 0, .int (-1), .long 0])), (p0_5, .inr (4, [.int 0, .int 0, .int 0, .int 0])), (q7, .inr (5, [.ref lk_11, .ref th_11, .ref pl_11, .ref gm_11, .int 0, .int 0, .int 0, .int (-1), .int 1, .int 0, .int 0, .int 0])), (pl_11, .inl (cP_11, 6, .inr (.inr (.inr (.inr fp_11))))), (gm_11, .inr (2, [.int 0, .int 0, .int 0, .int 0, .int 0, .int (-1), .long 0])), (p0_11, .inr (4, [.int 0, .int 0, .int 0, .int 0])), (q13, .inr (6, [.ref a1_17, .ref a2_17, .ref a3_17])), (a1_17, .inl (cZ_17, 1024, .inl f1_17)), (a2_17, .inl (cI_17, 1024, .inl f2_17)), (a3_17, .inl (cJ_17, 1024, .inl f3_17))] := hD
  have hK := hK.app (va_K.moved hvm.symm hK1)
  have hK : va_K (dC, dI) vwCl [(cP_5, .object "LockRooms$Player"), (cP_11, .object "LockRooms$Player"), (cZ_17, .boolean), (cI_17, .int), (cJ_17, .int)] s := hK
  refine va_putF (D := (dC, dI)) (ci := 8) (v := .ref q13) (ty := .object "LockRooms$Stands") (C := RX6) (T := TX6) (N := 3) hx hb hts zi_X6_init_X6 tyX6 tyX6_ok nmX6 hown hK hP hD hS 0 rfl rfl 2 (by decide) (hts (.fieldLink RX6 22 "LockRooms" "future" "LLockRooms$Stands;") (by decide +kernel)) (fun _ h9 => h9) rfl hin rfl (by decide +kernel) rfl rfl (Nat.le_of_ble_eq_true rfl) dX6_init_34 (fun H18 locs hP hD hS => ?_)
  have hP : va_P (dC, dI) vwCl [(x, .inr (8, [.ref q1, .ref q7, .ref q13])), (q1, .inr (5, [.ref lk_5, .ref th_5, .ref pl_5, .ref gm_5, .int 0, .int 0, .int 0, .int (-1), .int 1, .int 0, .int 0, .int 0])), (pl_5, .inl (cP_5, 6, .inr (.inr (.inr (.inr fp_5))))), (gm_5, .inr (2, [.int 0, .int 0, .int 0, .int 0, .int 0, .int (-1), .long 0])), (p0_5, .inr (4, [.int 0, .int 0, .int 0, .int 0])), (q7, .inr (5, [.ref lk_11, .ref th_11, .ref pl_11, .ref gm_11, .int 0, .int 0, .int 0, .int (-1), .int 1, .int 0, .int 0, .int 0])), (pl_11, .inl (cP_11, 6, .inr (.inr (.inr (.inr fp_11))))), (gm_11, .inr (2, [.int 0, .int 0, .int 0, .int 0, .int 0, .int (-1), .long 0])), (p0_11, .inr (4, [.int 0, .int 0, .int 0, .int 0])), (q13, .inr (6, [.ref a1_17, .ref a2_17, .ref a3_17])), (a1_17, .inl (cZ_17, 1024, .inl f1_17)), (a2_17, .inl (cI_17, 1024, .inl f2_17)), (a3_17, .inl (cJ_17, 1024, .inl f3_17))] H18 := hP
  have hD : va_D A [(x, .inr (8, [.ref q1, .ref q7, .ref q13])), (q1, .inr (5, [.ref lk_5, .ref th_5, .ref pl_5, .ref gm_5, .int 0, .int 0, .int 0, .int (-1), .int 1, .int 0, .int 0, .int 0])), (pl_5, .inl (cP_5, 6, .inr (.inr (.inr (.inr fp_5))))), (gm_5, .inr (2, [.int 0, .int 0, .int 0, .int 0, .int 0, .int (-1), .long 0])), (p0_5, .inr (4, [.int 0, .int 0, .int 0, .int 0])), (q7, .inr (5, [.ref lk_11, .ref th_11, .ref pl_11, .ref gm_11, .int 0, .int 0, .int 0, .int (-1), .int 1, .int 0, .int 0, .int 0])), (pl_11, .inl (cP_11, 6, .inr (.inr (.inr (.inr fp_11))))), (gm_11, .inr (2, [.int 0, .int 0, .int 0, .int 0, .int 0, .int (-1), .long 0])), (p0_11, .inr (4, [.int 0, .int 0, .int 0, .int 0])), (q13, .inr (6, [.ref a1_17, .ref a2_17, .ref a3_17])), (a1_17, .inl (cZ_17, 1024, .inl f1_17)), (a2_17, .inl (cI_17, 1024, .inl f2_17)), (a3_17, .inl (cJ_17, 1024, .inl f3_17))] := hD
  refine W.widen (k := 70) (n := 3537) (Nat.le_of_ble_eq_true rfl) (Nat.le_of_ble_eq_true rfl) ?_
  have hP9 := hP.sub (ws' := [(x, .inr (8, [.ref q1, .ref q7, .ref q13])), (q1, .inr (5, [.ref lk_5, .ref th_5, .ref pl_5, .ref gm_5, .int 0, .int 0, .int 0, .int (-1), .int 1, .int 0, .int 0, .int 0])), (pl_5, .inl (cP_5, 6, .inr (.inr (.inr (.inr fp_5))))), (gm_5, .inr (2, [.int 0, .int 0, .int 0, .int 0, .int 0, .int (-1), .long 0])), (p0_5, .inr (4, [.int 0, .int 0, .int 0, .int 0])), (q7, .inr (5, [.ref lk_11, .ref th_11, .ref pl_11, .ref gm_11, .int 0, .int 0, .int 0, .int (-1), .int 1, .int 0, .int 0, .int 0])), (pl_11, .inl (cP_11, 6, .inr (.inr (.inr (.inr fp_11))))), (gm_11, .inr (2, [.int 0, .int 0, .int 0, .int 0, .int 0, .int (-1), .long 0])), (p0_11, .inr (4, [.int 0, .int 0, .int 0, .int 0]))]) [0, 1, 2, 3, 4, 5, 6, 7, 8] rfl
  have hD9 := hD.sub (ws' := [(x, .inr (8, [.ref q1, .ref q7, .ref q13])), (q1, .inr (5, [.ref lk_5, .ref th_5, .ref pl_5, .ref gm_5, .int 0, .int 0, .int 0, .int (-1), .int 1, .int 0, .int 0, .int 0])), (pl_5, .inl (cP_5, 6, .inr (.inr (.inr (.inr fp_5))))), (gm_5, .inr (2, [.int 0, .int 0, .int 0, .int 0, .int 0, .int (-1), .long 0])), (p0_5, .inr (4, [.int 0, .int 0, .int 0, .int 0])), (q7, .inr (5, [.ref lk_11, .ref th_11, .ref pl_11, .ref gm_11, .int 0, .int 0, .int 0, .int (-1), .int 1, .int 0, .int 0, .int 0])), (pl_11, .inl (cP_11, 6, .inr (.inr (.inr (.inr fp_11))))), (gm_11, .inr (2, [.int 0, .int 0, .int 0, .int 0, .int 0, .int (-1), .long 0])), (p0_11, .inr (4, [.int 0, .int 0, .int 0, .int 0]))]) [0, 1, 2, 3, 4, 5, 6, 7, 8] (by decide) rfl
  have hK9 := hK.sub (tys' := [(cP_5, .object "LockRooms$Player"), (cP_11, .object "LockRooms$Player")]) [0, 1] rfl
  exact W.vret hx hb hr (fun t ht hW => ⟨⟨(), rfl, trivial, ⟨q1, q7, q13, lk_5, th_5, pl_5, gm_5, cP_5, fp_5, p0_5, lk_11, th_11, pl_11, gm_11, cP_11, fp_11, p0_11, ⟨k5_0, k11_0⟩, by rw [ht]; exact hP9, hD9, va_K.moved hW.alike hK9⟩⟩, hS.F ht⟩) hS.2.2 dX6_init_37
set_option maxHeartbeats 4000000 in
set_option maxRecDepth 100000 in
theorem cz_RhasLock (l : Launch) (dC : Nat → ClassId) (dI : Nat → Nat → Nat) (ed sz : Nat) (rm : Nat) (lk : Nat) (th : Nat) (pl : Nat) (gm : Nat) (y6 : Int32) (y8 : Int32) (y9 : Int32) (y10 : Int32) (y11 : Int32) : Met l yX3_hasLock wsX3_hasLock ({ frames := 0, cells := 0, slots := 0, locals := 0 } : Jvm.Room) (va_Pc [.ref rm, .int (-1)] (zB dC dI ed sz [(rm, .inr (5, [.ref lk, .ref th, .ref pl, .ref gm, .int 0, .int 0, .int y6, .int (-1), .int y8, .int y9, .int y10, .int y11]))] [] [])) (va_Qi (fun (r : Int32) (_ : Unit) => r = 0) (fun (_ : Unit) (_ : State) => True) (va_A [] sz)) 0 0 (va_A [] sz) := by
  refine Met.ofW (cc := cX3_hasLock) (maxL := 2) (ret := (some .boolean)) (by decide) rfl ?_
  intro p e s m args below meth c s₁ B hml hv
  obtain ⟨rfl, hsz, hR0, hP, hK, hD0, hN, hH, hX0⟩ := hv
  have hx := B.exec
  have hb := B.bytes
  have hr := B.returns
  have hts := atoms_spec (ws := wsX3_hasLock) B.pre
  have hown : s.vm.findClass RX3 = some m.cls := findClass_of_methodNamed B.named
  have hlocks := B.notSynchronized
  subst hsz
  have hD := hD0.self (sz := s.heap.size)
  have hAr := zx_A hX0 hR0
  generalize hAe : va_A [] s.heap.size = A at hD hAr hH ⊢
  have hA : ∀ q : Nat, s.heap.size ≤ q → A q := fun q h => by rw [← hAe]; exact Or.inr h
  have hS : va_S A s.heap s.heap [] := va_S.rf
  have hl := lv_entry ([.ref rm, .int (-1)]) (n := 2) (Nat.le_of_ble_eq_true rfl)
  rw [lg_entry_eq]
  generalize (lg_sl ([.ref rm, .int (-1)]) ++ List.replicate (2 - (lg_sl ([.ref rm, .int (-1)])).length) Slot.unset).toArray = ls at hl ⊢
  have hl : lv_has ls 2 [(0, .ref rm), (1, .int (-1))] := hl
  refine lv_iload_n hx hb dX3_hasLock_0 rfl (lv_at hl 1 rfl) ?_
  refine lv_if_lt (tgt := 16) hx hb dX3_hasLock_1 (by decide) (fun _ => ?_) (fun h => absurd h (by decide))
  refine lv_iconst (v := 0) hx hb dX3_hasLock_16 (by decide) ?_
  refine W.widen (k := 0) (n := 0) (Nat.le_of_ble_eq_true rfl) (Nat.le_of_ble_eq_true rfl) ?_
  exact W.zret hx hb hr (by decide) (fun t ht hW => ⟨⟨0, (), rfl, rfl, trivial⟩, hS.F ht⟩) hS.2.2 dX3_hasLock_17
set_option maxHeartbeats 4000000 in
set_option maxRecDepth 100000 in
theorem cz_RhasThing (l : Launch) (dC : Nat → ClassId) (dI : Nat → Nat → Nat) (ed sz : Nat) (rm : Nat) (lk : Nat) (th : Nat) (pl : Nat) (gm : Nat) (y6 : Int32) (y8 : Int32) (y9 : Int32) (y10 : Int32) (y11 : Int32) : Met l yX3_hasThing wsX3_hasThing ({ frames := 0, cells := 0, slots := 0, locals := 0 } : Jvm.Room) (va_Pc [.ref rm, .int (-1)] (zB dC dI ed sz [(rm, .inr (5, [.ref lk, .ref th, .ref pl, .ref gm, .int 0, .int 0, .int y6, .int (-1), .int y8, .int y9, .int y10, .int y11]))] [] [])) (va_Qi (fun (r : Int32) (_ : Unit) => r = 0) (fun (_ : Unit) (_ : State) => True) (va_A [] sz)) 0 0 (va_A [] sz) := by
  refine Met.ofW (cc := cX3_hasThing) (maxL := 2) (ret := (some .boolean)) (by decide) rfl ?_
  intro p e s m args below meth c s₁ B hml hv
  obtain ⟨rfl, hsz, hR0, hP, hK, hD0, hN, hH, hX0⟩ := hv
  have hx := B.exec
  have hb := B.bytes
  have hr := B.returns
  have hts := atoms_spec (ws := wsX3_hasThing) B.pre
  have hown : s.vm.findClass RX3 = some m.cls := findClass_of_methodNamed B.named
  have hlocks := B.notSynchronized
  subst hsz
  have hD := hD0.self (sz := s.heap.size)
  have hAr := zx_A hX0 hR0
  generalize hAe : va_A [] s.heap.size = A at hD hAr hH ⊢
  have hA : ∀ q : Nat, s.heap.size ≤ q → A q := fun q h => by rw [← hAe]; exact Or.inr h
  have hS : va_S A s.heap s.heap [] := va_S.rf
  have hl := lv_entry ([.ref rm, .int (-1)]) (n := 2) (Nat.le_of_ble_eq_true rfl)
  rw [lg_entry_eq]
  generalize (lg_sl ([.ref rm, .int (-1)]) ++ List.replicate (2 - (lg_sl ([.ref rm, .int (-1)])).length) Slot.unset).toArray = ls at hl ⊢
  have hl : lv_has ls 2 [(0, .ref rm), (1, .int (-1))] := hl
  refine lv_iload_n hx hb dX3_hasThing_0 rfl (lv_at hl 1 rfl) ?_
  refine lv_if_lt (tgt := 16) hx hb dX3_hasThing_1 (by decide) (fun _ => ?_) (fun h => absurd h (by decide))
  refine lv_iconst (v := 0) hx hb dX3_hasThing_16 (by decide) ?_
  refine W.widen (k := 0) (n := 0) (Nat.le_of_ble_eq_true rfl) (Nat.le_of_ble_eq_true rfl) ?_
  exact W.zret hx hb hr (by decide) (fun t ht hW => ⟨⟨0, (), rfl, rfl, trivial⟩, hS.F ht⟩) hS.2.2 dX3_hasThing_17
set_option maxHeartbeats 4000000 in
set_option maxRecDepth 100000 in
theorem cz_RthingsIn (l : Launch) (dC : Nat → ClassId) (dI : Nat → Nat → Nat) (ed sz : Nat) (rm : Nat) (lk : Nat) (th : Nat) (pl : Nat) (gm : Nat) (y6 : Int32) (y8 : Int32) (y9 : Int32) (y10 : Int32) (y11 : Int32) (x0 : Int32) : Met l yX3_thingsIn wsX3_thingsIn ({ frames := 0, cells := 0, slots := 0, locals := 0 } : Jvm.Room) (va_Pc [.ref rm, .int x0] (zB dC dI ed sz [(rm, .inr (5, [.ref lk, .ref th, .ref pl, .ref gm, .int 0, .int 0, .int y6, .int (-1), .int y8, .int y9, .int y10, .int y11]))] [] [])) (va_Qi (fun (r : Int32) (_ : Unit) => r = 0) (fun (_ : Unit) (_ : State) => True) (va_A [] sz)) 0 0 (va_A [] sz) := by
  refine Met.ofW (cc := cX3_thingsIn) (maxL := 4) (ret := (some .int)) (by decide) rfl ?_
  intro p e s m args below meth c s₁ B hml hv
  obtain ⟨rfl, hsz, hR0, hP, hK, hD0, hN, hH, hX0⟩ := hv
  have hx := B.exec
  have hb := B.bytes
  have hr := B.returns
  have hts := atoms_spec (ws := wsX3_thingsIn) B.pre
  have hown : s.vm.findClass RX3 = some m.cls := findClass_of_methodNamed B.named
  have hlocks := B.notSynchronized
  subst hsz
  have hD := hD0.self (sz := s.heap.size)
  have hAr := zx_A hX0 hR0
  generalize hAe : va_A [] s.heap.size = A at hD hAr hH ⊢
  have hA : ∀ q : Nat, s.heap.size ≤ q → A q := fun q h => by rw [← hAe]; exact Or.inr h
  have hS : va_S A s.heap s.heap [] := va_S.rf
  have hl := lv_entry ([.ref rm, .int x0]) (n := 4) (Nat.le_of_ble_eq_true rfl)
  rw [lg_entry_eq]
  generalize (lg_sl ([.ref rm, .int x0]) ++ List.replicate (4 - (lg_sl ([.ref rm, .int x0])).length) Slot.unset).toArray = ls at hl ⊢
  have hl : lv_has ls 4 [(0, .ref rm), (1, .int x0)] := hl
  refine lv_iconst (v := 0) hx hb dX3_thingsIn_0 (by decide) ?_
  refine lv_istore_n (lv' := [(2, .int 0), (0, .ref rm), (1, .int x0)]) hx hb dX3_thingsIn_1 rfl hl (by decide) rfl (fun ls hl => ?_)
  refine lv_iconst (v := 0) hx hb dX3_thingsIn_2 (by decide) ?_
  refine lv_istore_n (lv' := [(3, .int 0), (2, .int 0), (0, .ref rm), (1, .int x0)]) hx hb dX3_thingsIn_3 rfl hl (by decide) rfl (fun ls hl => ?_)
  refine lv_iload_n hx hb dX3_thingsIn_4 rfl (lv_at hl 0 rfl) ?_
  refine lv_aload_n hx hb dX3_thingsIn_5 rfl (lv_at hl 2 rfl) ?_
  refine va_get (D := (dC, dI)) (ci := 5) (v := .int 0) (C := RX3) (T := TX3) (N := 12) hx hb hts zi_X3_thingsIn_X3 hown hK hR0 0 rfl rfl 5 (by decide) (hts (.fieldLink RX3 54 "LockRooms$Room" "thingCount" "I") (by decide +kernel)) (fun _ h9 => h9) rfl dX3_thingsIn_6 ?_
  refine lv_icmp_ge (tgt := 37) hx hb dX3_thingsIn_9 (by decide) (fun _ => ?_) (fun h => absurd h (by decide))
  refine lv_iload_n hx hb dX3_thingsIn_37 rfl (lv_at hl 1 rfl) ?_
  refine W.widen (k := 0) (n := 0) (Nat.le_of_ble_eq_true rfl) (Nat.le_of_ble_eq_true rfl) ?_
  exact W.iret hx hb hr (fun t ht hW => ⟨⟨0, (), rfl, rfl, trivial⟩, hS.F ht⟩) hS.2.2 dX3_thingsIn_38
set_option maxHeartbeats 4000000 in
set_option maxRecDepth 100000 in
theorem cz_RopenLocks (l : Launch) (dC : Nat → ClassId) (dI : Nat → Nat → Nat) (ed sz : Nat) (rm : Nat) (lk : Nat) (th : Nat) (pl : Nat) (gm : Nat) (y6 : Int32) (y8 : Int32) (y9 : Int32) (y10 : Int32) (y11 : Int32) : Met l yX3_openLocks wsX3_openLocks ({ frames := 0, cells := 0, slots := 0, locals := 0 } : Jvm.Room) (va_Pc [.ref rm] (zB dC dI ed sz [(rm, .inr (5, [.ref lk, .ref th, .ref pl, .ref gm, .int 0, .int 0, .int y6, .int (-1), .int y8, .int y9, .int y10, .int y11]))] [] [])) (va_Qi (fun (r : Int32) (_ : Unit) => r = 0) (fun (_ : Unit) (_ : State) => True) (va_A [] sz)) 0 0 (va_A [] sz) := by
  refine Met.ofW (cc := cX3_openLocks) (maxL := 3) (ret := (some .int)) (by decide) rfl ?_
  intro p e s m args below meth c s₁ B hml hv
  obtain ⟨rfl, hsz, hR0, hP, hK, hD0, hN, hH, hX0⟩ := hv
  have hx := B.exec
  have hb := B.bytes
  have hr := B.returns
  have hts := atoms_spec (ws := wsX3_openLocks) B.pre
  have hown : s.vm.findClass RX3 = some m.cls := findClass_of_methodNamed B.named
  have hlocks := B.notSynchronized
  subst hsz
  have hD := hD0.self (sz := s.heap.size)
  have hAr := zx_A hX0 hR0
  generalize hAe : va_A [] s.heap.size = A at hD hAr hH ⊢
  have hA : ∀ q : Nat, s.heap.size ≤ q → A q := fun q h => by rw [← hAe]; exact Or.inr h
  have hS : va_S A s.heap s.heap [] := va_S.rf
  have hl := lv_entry ([.ref rm]) (n := 3) (Nat.le_of_ble_eq_true rfl)
  rw [lg_entry_eq]
  generalize (lg_sl ([.ref rm]) ++ List.replicate (3 - (lg_sl ([.ref rm])).length) Slot.unset).toArray = ls at hl ⊢
  have hl : lv_has ls 3 [(0, .ref rm)] := hl
  refine lv_iconst (v := 0) hx hb dX3_openLocks_0 (by decide) ?_
  refine lv_istore_n (lv' := [(1, .int 0), (0, .ref rm)]) hx hb dX3_openLocks_1 rfl hl (by decide) rfl (fun ls hl => ?_)
  refine lv_iconst (v := 0) hx hb dX3_openLocks_2 (by decide) ?_
  refine lv_istore_n (lv' := [(2, .int 0), (1, .int 0), (0, .ref rm)]) hx hb dX3_openLocks_3 rfl hl (by decide) rfl (fun ls hl => ?_)
  refine lv_iload_n hx hb dX3_openLocks_4 rfl (lv_at hl 0 rfl) ?_
  refine lv_aload_n hx hb dX3_openLocks_5 rfl (lv_at hl 2 rfl) ?_
  refine va_get (D := (dC, dI)) (ci := 5) (v := .int 0) (C := RX3) (T := TX3) (N := 12) hx hb hts zi_X3_openLocks_X3 hown hK hR0 0 rfl rfl 4 (by decide) (hts (.fieldLink RX3 47 "LockRooms$Room" "lockCount" "I") (by decide +kernel)) (fun _ h9 => h9) rfl dX3_openLocks_6 ?_
  refine lv_icmp_ge (tgt := 36) hx hb dX3_openLocks_9 (by decide) (fun _ => ?_) (fun h => absurd h (by decide))
  refine lv_iload_n hx hb dX3_openLocks_36 rfl (lv_at hl 1 rfl) ?_
  refine W.widen (k := 0) (n := 0) (Nat.le_of_ble_eq_true rfl) (Nat.le_of_ble_eq_true rfl) ?_
  exact W.iret hx hb hr (fun t ht hW => ⟨⟨0, (), rfl, rfl, trivial⟩, hS.F ht⟩) hS.2.2 dX3_openLocks_37
set_option maxRecDepth 20000 in
theorem zi_X3_isExitOpen_X3 : ∀ w ∈ u_ws RX3 TX3 12, w ∈ wsX3_isExitOpen := by decide +kernel
set_option maxHeartbeats 4000000 in
set_option maxRecDepth 100000 in
theorem cz_RisExitOpen (l : Launch) (dC : Nat → ClassId) (dI : Nat → Nat → Nat) (ed sz : Nat) (rm : Nat) (lk : Nat) (th : Nat) (pl : Nat) (gm : Nat) (y6 : Int32) (y8 : Int32) (y9 : Int32) (y10 : Int32) (y11 : Int32) : Met l yX3_isExitOpen wsX3_isExitOpen ({ frames := 1, cells := 0, slots := 0, locals := 22 } : Jvm.Room) (va_Pc [.ref rm] (zB dC dI ed sz [(rm, .inr (5, [.ref lk, .ref th, .ref pl, .ref gm, .int 0, .int 0, .int y6, .int (-1), .int y8, .int y9, .int y10, .int y11]))] [] [])) (va_Qi (fun (r : Int32) (_ : Unit) => r = 0) (fun (_ : Unit) (_ : State) => True) (va_A [] sz)) 0 0 (va_A [] sz) := by
  refine Met.ofW (cc := cX3_isExitOpen) (maxL := 1) (ret := (some .boolean)) (by decide) rfl ?_
  intro p e s m args below meth c s₁ B hml hv
  obtain ⟨rfl, hsz, hR0, hP, hK, hD0, hN, hH, hX0⟩ := hv
  have hx := B.exec
  have hb := B.bytes
  have hr := B.returns
  have hts := atoms_spec (ws := wsX3_isExitOpen) B.pre
  have hown : s.vm.findClass RX3 = some m.cls := findClass_of_methodNamed B.named
  have hlocks := B.notSynchronized
  subst hsz
  have hD := hD0.self (sz := s.heap.size)
  have hAr := zx_A hX0 hR0
  generalize hAe : va_A [] s.heap.size = A at hD hAr hH ⊢
  have hA : ∀ q : Nat, s.heap.size ≤ q → A q := fun q h => by rw [← hAe]; exact Or.inr h
  have hS : va_S A s.heap s.heap [] := va_S.rf
  have hl := lv_entry ([.ref rm]) (n := 1) (Nat.le_of_ble_eq_true rfl)
  rw [lg_entry_eq]
  generalize (lg_sl ([.ref rm]) ++ List.replicate (1 - (lg_sl ([.ref rm])).length) Slot.unset).toArray = ls at hl ⊢
  have hl : lv_has ls 1 [(0, .ref rm)] := hl
  refine lv_aload_n hx hb dX3_isExitOpen_0 rfl (lv_at hl 0 rfl) ?_
  have hPr := (hR0).sub (ws' := [(rm, .inr (5, [.ref lk, .ref th, .ref pl, .ref gm, .int 0, .int 0, .int y6, .int (-1), .int y8, .int y9, .int y10, .int y11]))]) [0] rfl
  have hPc := hP.sub (ws' := []) [] rfl
  have hDc := hD.sub (ws' := []) [] (by decide) rfl
  have hKc := hK.sub (tys' := []) [] rfl
  have hFc := va_free (wc := []) hD hS hA [] rfl
  refine va_calli (va_runV (As := []) (rest := []) ⟨hx, hb, hml, hown, hts⟩ (cz_RopenLocks l dC dI ed s.heap.size rm lk th pl gm y6 y8 y9 y10 y11) (cwV 0 hts gX3_isExitOpen_X3_openLocks rfl rfl rfl (by decide +kernel) ⟨Nat.le_of_ble_eq_true rfl, Nat.le_of_ble_eq_true rfl⟩) ⟨zb_blind, va_recv hK hR0 (ci := 5) (q0 := 0) rfl rfl, fun U hU hW => ⟨rfl, zb_mk hU hW hPr hPc hKc hDc hN hH hS hFc zx_e⟩⟩ rfl rfl hl.1 rfl (lv_room (Nat.le_of_ble_eq_true rfl)) dX3_isExitOpen_1 ⟨Nat.le_of_ble_eq_true rfl, Nat.le_of_ble_eq_true rfl⟩) hS (fun q _ h => hFc q h) hFc (fun r2 u t H1 locs ht hvm hw hB hz1 hk1 hS => ?_)
  obtain rfl : r2 = 0 := hw
  have hP := zo_K hP hk1
  refine lv_aload_n hx hb dX3_isExitOpen_4 rfl (lv_at hl 0 rfl) ?_
  refine va_get (D := (dC, dI)) (ci := 5) (v := .int (-1)) (C := RX3) (T := TX3) (N := 12) hx hb hts zi_X3_isExitOpen_X3 hown hK (zo_R hR0 hS hAr) 0 rfl rfl 7 (by decide) (hts (.fieldLink RX3 36 "LockRooms$Room" "exit" "I") (by decide +kernel)) (fun _ h9 => h9) rfl dX3_isExitOpen_5 ?_
  have hPr := (zo_nil : va_P (dC, dI) vwCl [] H1)
  have hPc := hP.sub (ws' := []) [] rfl
  have hDc := hD.sub (ws' := []) [] (by decide) rfl
  have hKc := hK.sub (tys' := []) [] rfl
  have hFc := va_free (wc := []) hD hS hA [] rfl
  refine va_calli (va_runSN (As := [.int 0, .int (-1)]) (rest := []) ⟨hx, hb, hml, hown, hts⟩ (cz_isIn_n1 l dC dI ed H1.size 0) ⟨(va_cnB 2 hts gX3_isExitOpen_X6_isIn_n111 rfl rfl rfl (hN.2.1 ("LockRooms$Room", 111, yX6_isIn, "LockRooms") (List.mem_of_getElem? (i := 5) rfl)) (hts (.initialized RX6) (by decide +kernel)) (by decide +kernel) ⟨Nat.le_of_ble_eq_true rfl, Nat.le_of_ble_eq_true rfl⟩), (hts (.static yX6_isIn) (by decide +kernel)), trivial⟩ ⟨zb_blind, fun U hU hW => ⟨rfl, zb_mk hU hW hPr hPc hKc hDc hN hH hS hFc zx_e⟩⟩ rfl rfl hl.1 rfl (lv_room (Nat.le_of_ble_eq_true rfl)) dX3_isExitOpen_8 ⟨Nat.le_of_ble_eq_true rfl, Nat.le_of_ble_eq_true rfl⟩) hS (fun q _ h => hFc q h) hFc (fun r4 u t H3 locs ht hvm hw hB hz1 hk1 hS => ?_)
  obtain rfl : r4 = 0 := hw
  have hP := zo_K hP hk1
  refine W.widen (k := 0) (n := 0) (Nat.le_of_ble_eq_true rfl) (Nat.le_of_ble_eq_true rfl) ?_
  exact W.zret hx hb hr (by decide) (fun t ht hW => ⟨⟨0, (), rfl, rfl, trivial⟩, hS.F ht⟩) hS.2.2 dX3_isExitOpen_11
set_option maxRecDepth 20000 in
theorem zi_X3_findWork_X3 : ∀ w ∈ u_ws RX3 TX3 12, w ∈ wsX3_findWork := by decide +kernel
set_option maxHeartbeats 4000000 in
set_option maxRecDepth 100000 in
theorem cz_RfindWork (l : Launch) (dC : Nat → ClassId) (dI : Nat → Nat → Nat) (ed sz : Nat) (rm : Nat) (lk : Nat) (th : Nat) (pl : Nat) (gm : Nat) (y6 : Int32) (y8 : Int32) (y9 : Int32) (y10 : Int32) (y11 : Int32) : Met l yX3_findWork wsX3_findWork ({ frames := 1, cells := 0, slots := 0, locals := 23 } : Jvm.Room) (va_Pc [.ref rm] (zB dC dI ed sz [(rm, .inr (5, [.ref lk, .ref th, .ref pl, .ref gm, .int 0, .int 0, .int y6, .int (-1), .int y8, .int y9, .int y10, .int y11]))] [] [])) (va_Qi (fun (r : Int32) (_ : Unit) => r = (-1)) (fun (_ : Unit) (_ : State) => True) (va_A [] sz)) 0 0 (va_A [] sz) := by
  refine Met.ofW (cc := cX3_findWork) (maxL := 3) (ret := (some .int)) (by decide) rfl ?_
  intro p e s m args below meth c s₁ B hml hv
  obtain ⟨rfl, hsz, hR0, hP, hK, hD0, hN, hH, hX0⟩ := hv
  have hx := B.exec
  have hb := B.bytes
  have hr := B.returns
  have hts := atoms_spec (ws := wsX3_findWork) B.pre
  have hown : s.vm.findClass RX3 = some m.cls := findClass_of_methodNamed B.named
  have hlocks := B.notSynchronized
  subst hsz
  have hD := hD0.self (sz := s.heap.size)
  have hAr := zx_A hX0 hR0
  generalize hAe : va_A [] s.heap.size = A at hD hAr hH ⊢
  have hA : ∀ q : Nat, s.heap.size ≤ q → A q := fun q h => by rw [← hAe]; exact Or.inr h
  have hS : va_S A s.heap s.heap [] := va_S.rf
  have hl := lv_entry ([.ref rm]) (n := 3) (Nat.le_of_ble_eq_true rfl)
  rw [lg_entry_eq]
  generalize (lg_sl ([.ref rm]) ++ List.replicate (3 - (lg_sl ([.ref rm])).length) Slot.unset).toArray = ls at hl ⊢
  have hl : lv_has ls 3 [(0, .ref rm)] := hl
  refine lv_aload_n hx hb dX3_findWork_0 rfl (lv_at hl 0 rfl) ?_
  refine lv_iconst (v := 1) hx hb dX3_findWork_1 (by decide) ?_
  have hPr := (hR0).sub (ws' := [(rm, .inr (5, [.ref lk, .ref th, .ref pl, .ref gm, .int 0, .int 0, .int y6, .int (-1), .int y8, .int y9, .int y10, .int y11]))]) [0] rfl
  have hPc := hP.sub (ws' := []) [] rfl
  have hDc := hD.sub (ws' := []) [] (by decide) rfl
  have hKc := hK.sub (tys' := []) [] rfl
  have hFc := va_free (wc := []) hD hS hA [] rfl
  refine va_calli (va_runV (As := [.int 1]) (rest := []) ⟨hx, hb, hml, hown, hts⟩ (cz_RthingsIn l dC dI ed s.heap.size rm lk th pl gm y6 y8 y9 y10 y11 1) (cwV 1 hts gX3_findWork_X3_thingsIn rfl rfl rfl (by decide +kernel) ⟨Nat.le_of_ble_eq_true rfl, Nat.le_of_ble_eq_true rfl⟩) ⟨zb_blind, va_recv hK hR0 (ci := 5) (q0 := 0) rfl rfl, fun U hU hW => ⟨rfl, zb_mk hU hW hPr hPc hKc hDc hN hH hS hFc zx_e⟩⟩ rfl rfl hl.1 rfl (lv_room (Nat.le_of_ble_eq_true rfl)) dX3_findWork_2 ⟨Nat.le_of_ble_eq_true rfl, Nat.le_of_ble_eq_true rfl⟩) hS (fun q _ h => hFc q h) hFc (fun r2 u t H1 locs ht hvm hw hB hz1 hk1 hS => ?_)
  obtain rfl : r2 = 0 := hw
  have hP := zo_K hP hk1
  refine lv_istore_n (lv' := [(1, .int 0), (0, .ref rm)]) hx hb dX3_findWork_5 rfl hl (by decide) rfl (fun ls hl => ?_)
  refine lv_iconst (v := 0) hx hb dX3_findWork_6 (by decide) ?_
  refine lv_istore_n (lv' := [(2, .int 0), (1, .int 0), (0, .ref rm)]) hx hb dX3_findWork_7 rfl hl (by decide) rfl (fun ls hl => ?_)
  refine lv_iload_n hx hb dX3_findWork_8 rfl (lv_at hl 0 rfl) ?_
  refine lv_aload_n hx hb dX3_findWork_9 rfl (lv_at hl 2 rfl) ?_
  refine va_get (D := (dC, dI)) (ci := 5) (v := .int 0) (C := RX3) (T := TX3) (N := 12) hx hb hts zi_X3_findWork_X3 hown hK (zo_R hR0 hS hAr) 0 rfl rfl 4 (by decide) (hts (.fieldLink RX3 47 "LockRooms$Room" "lockCount" "I") (by decide +kernel)) (fun _ h9 => h9) rfl dX3_findWork_10 ?_
  refine lv_icmp_ge (tgt := 50) hx hb dX3_findWork_13 (by decide) (fun _ => ?_) (fun h => absurd h (by decide))
  refine lv_iconst (v := (-1)) hx hb dX3_findWork_50 (by decide) ?_
  refine W.widen (k := 0) (n := 0) (Nat.le_of_ble_eq_true rfl) (Nat.le_of_ble_eq_true rfl) ?_
  exact W.iret hx hb hr (fun t ht hW => ⟨⟨(-1), (), rfl, rfl, trivial⟩, hS.F ht⟩) hS.2.2 dX3_findWork_51
set_option maxRecDepth 20000 in
theorem zi_X3_findSearch_X3 : ∀ w ∈ u_ws RX3 TX3 12, w ∈ wsX3_findSearch := by decide +kernel
set_option maxHeartbeats 4000000 in
set_option maxRecDepth 100000 in
theorem cz_RfindSearch (l : Launch) (dC : Nat → ClassId) (dI : Nat → Nat → Nat) (ed sz : Nat) (rm : Nat) (lk : Nat) (th : Nat) (pl : Nat) (gm : Nat) (y6 : Int32) (y8 : Int32) (y9 : Int32) (y10 : Int32) (y11 : Int32) : Met l yX3_findSearch wsX3_findSearch ({ frames := 1, cells := 0, slots := 0, locals := 22 } : Jvm.Room) (va_Pc [.ref rm] (zB dC dI ed sz [(rm, .inr (5, [.ref lk, .ref th, .ref pl, .ref gm, .int 0, .int 0, .int y6, .int (-1), .int y8, .int y9, .int y10, .int y11]))] [] [])) (va_Qi (fun (r : Int32) (_ : Unit) => r = (-1)) (fun (_ : Unit) (_ : State) => True) (va_A [] sz)) 0 0 (va_A [] sz) := by
  refine Met.ofW (cc := cX3_findSearch) (maxL := 3) (ret := (some .int)) (by decide) rfl ?_
  intro p e s m args below meth c s₁ B hml hv
  obtain ⟨rfl, hsz, hR0, hP, hK, hD0, hN, hH, hX0⟩ := hv
  have hx := B.exec
  have hb := B.bytes
  have hr := B.returns
  have hts := atoms_spec (ws := wsX3_findSearch) B.pre
  have hown : s.vm.findClass RX3 = some m.cls := findClass_of_methodNamed B.named
  have hlocks := B.notSynchronized
  subst hsz
  have hD := hD0.self (sz := s.heap.size)
  have hAr := zx_A hX0 hR0
  generalize hAe : va_A [] s.heap.size = A at hD hAr hH ⊢
  have hA : ∀ q : Nat, s.heap.size ≤ q → A q := fun q h => by rw [← hAe]; exact Or.inr h
  have hS : va_S A s.heap s.heap [] := va_S.rf
  have hl := lv_entry ([.ref rm]) (n := 3) (Nat.le_of_ble_eq_true rfl)
  rw [lg_entry_eq]
  generalize (lg_sl ([.ref rm]) ++ List.replicate (3 - (lg_sl ([.ref rm])).length) Slot.unset).toArray = ls at hl ⊢
  have hl : lv_has ls 3 [(0, .ref rm)] := hl
  refine lv_aload_n hx hb dX3_findSearch_0 rfl (lv_at hl 0 rfl) ?_
  have hPr := (hR0).sub (ws' := [(rm, .inr (5, [.ref lk, .ref th, .ref pl, .ref gm, .int 0, .int 0, .int y6, .int (-1), .int y8, .int y9, .int y10, .int y11]))]) [0] rfl
  have hPc := hP.sub (ws' := []) [] rfl
  have hDc := hD.sub (ws' := []) [] (by decide) rfl
  have hKc := hK.sub (tys' := []) [] rfl
  have hFc := va_free (wc := []) hD hS hA [] rfl
  refine va_calli (va_runV (As := []) (rest := []) ⟨hx, hb, hml, hown, hts⟩ (cz_RopenLocks l dC dI ed s.heap.size rm lk th pl gm y6 y8 y9 y10 y11) (cwV 0 hts gX3_findSearch_X3_openLocks rfl rfl rfl (by decide +kernel) ⟨Nat.le_of_ble_eq_true rfl, Nat.le_of_ble_eq_true rfl⟩) ⟨zb_blind, va_recv hK hR0 (ci := 5) (q0 := 0) rfl rfl, fun U hU hW => ⟨rfl, zb_mk hU hW hPr hPc hKc hDc hN hH hS hFc zx_e⟩⟩ rfl rfl hl.1 rfl (lv_room (Nat.le_of_ble_eq_true rfl)) dX3_findSearch_1 ⟨Nat.le_of_ble_eq_true rfl, Nat.le_of_ble_eq_true rfl⟩) hS (fun q _ h => hFc q h) hFc (fun r2 u t H1 locs ht hvm hw hB hz1 hk1 hS => ?_)
  obtain rfl : r2 = 0 := hw
  have hP := zo_K hP hk1
  refine lv_istore_n (lv' := [(1, .int 0), (0, .ref rm)]) hx hb dX3_findSearch_4 rfl hl (by decide) rfl (fun ls hl => ?_)
  refine lv_iconst (v := 0) hx hb dX3_findSearch_5 (by decide) ?_
  refine lv_istore_n (lv' := [(2, .int 0), (1, .int 0), (0, .ref rm)]) hx hb dX3_findSearch_6 rfl hl (by decide) rfl (fun ls hl => ?_)
  refine lv_iload_n hx hb dX3_findSearch_7 rfl (lv_at hl 0 rfl) ?_
  refine lv_aload_n hx hb dX3_findSearch_8 rfl (lv_at hl 2 rfl) ?_
  refine va_get (D := (dC, dI)) (ci := 5) (v := .int 0) (C := RX3) (T := TX3) (N := 12) hx hb hts zi_X3_findSearch_X3 hown hK (zo_R hR0 hS hAr) 0 rfl rfl 5 (by decide) (hts (.fieldLink RX3 54 "LockRooms$Room" "thingCount" "I") (by decide +kernel)) (fun _ h9 => h9) rfl dX3_findSearch_9 ?_
  refine lv_icmp_ge (tgt := 48) hx hb dX3_findSearch_12 (by decide) (fun _ => ?_) (fun h => absurd h (by decide))
  refine lv_iconst (v := (-1)) hx hb dX3_findSearch_48 (by decide) ?_
  refine W.widen (k := 0) (n := 0) (Nat.le_of_ble_eq_true rfl) (Nat.le_of_ble_eq_true rfl) ?_
  exact W.iret hx hb hr (fun t ht hW => ⟨⟨(-1), (), rfl, rfl, trivial⟩, hS.F ht⟩) hS.2.2 dX3_findSearch_49
set_option maxHeartbeats 4000000 in
set_option maxRecDepth 100000 in
theorem cz_RisWithin (l : Launch) (dC : Nat → ClassId) (dI : Nat → Nat → Nat) (ed sz : Nat) : Met l yX6_isWithin wsX6_isWithin ({ frames := 0, cells := 0, slots := 0, locals := 0 } : Jvm.Room) (va_Pc [.int 1, .int 1, .int 9] (zB dC dI ed sz [] [] [])) (va_Qi (fun (r : Int32) (_ : Unit) => r = 1) (fun (_ : Unit) (_ : State) => True) (va_A [] sz)) 0 0 (va_A [] sz) := by
  refine Met.ofW (cc := cX6_isWithin) (maxL := 3) (ret := (some .boolean)) (by decide) rfl ?_
  intro p e s m args below meth c s₁ B hml hv
  obtain ⟨rfl, hsz, hR0, hP, hK, hD0, hN, hH, hX0⟩ := hv
  have hx := B.exec
  have hb := B.bytes
  have hr := B.returns
  have hts := atoms_spec (ws := wsX6_isWithin) B.pre
  have hown : s.vm.findClass RX6 = some m.cls := findClass_of_methodNamed B.named
  have hlocks := B.notSynchronized
  subst hsz
  have hD := hD0.self (sz := s.heap.size)
  have hAr := zx_A hX0 hR0
  generalize hAe : va_A [] s.heap.size = A at hD hAr hH ⊢
  have hA : ∀ q : Nat, s.heap.size ≤ q → A q := fun q h => by rw [← hAe]; exact Or.inr h
  have hS : va_S A s.heap s.heap [] := va_S.rf
  have hl := lv_entry ([.int 1, .int 1, .int 9]) (n := 3) (Nat.le_of_ble_eq_true rfl)
  rw [lg_entry_eq]
  generalize (lg_sl ([.int 1, .int 1, .int 9]) ++ List.replicate (3 - (lg_sl ([.int 1, .int 1, .int 9])).length) Slot.unset).toArray = ls at hl ⊢
  have hl : lv_has ls 3 [(0, .int 1), (1, .int 1), (2, .int 9)] := hl
  refine lv_iload_n hx hb dX6_isWithin_0 rfl (lv_at hl 0 rfl) ?_
  refine lv_iload_n hx hb dX6_isWithin_1 rfl (lv_at hl 1 rfl) ?_
  refine lv_icmp_lt (tgt := 14) hx hb dX6_isWithin_2 (by decide) (fun h => absurd h (by decide)) (fun _ => ?_)
  refine lv_iload_n hx hb dX6_isWithin_5 rfl (lv_at hl 0 rfl) ?_
  refine lv_iload_n hx hb dX6_isWithin_6 rfl (lv_at hl 2 rfl) ?_
  refine lv_icmp_gt (tgt := 14) hx hb dX6_isWithin_7 (by decide) (fun h => absurd h (by decide)) (fun _ => ?_)
  refine lv_iconst (v := 1) hx hb dX6_isWithin_10 (by decide) ?_
  refine lv_goto (tgt := 15) hx hb dX6_isWithin_11 (by decide) ?_
  refine W.widen (k := 0) (n := 0) (Nat.le_of_ble_eq_true rfl) (Nat.le_of_ble_eq_true rfl) ?_
  exact W.zret hx hb hr (by decide) (fun t ht hW => ⟨⟨1, (), rfl, rfl, trivial⟩, hS.F ht⟩) hS.2.2 dX6_isWithin_15
set_option maxHeartbeats 4000000 in
set_option maxRecDepth 100000 in
theorem cz_Rrest (l : Launch) (dC : Nat → ClassId) (dI : Nat → Nat → Nat) (ed sz : Nat) (p0 : Nat) (q0 : Int32) (q1 : Int32) (q2 : Int32) (q3 : Int32) : Met l yX2_rest wsX2_rest ({ frames := 0, cells := 0, slots := 0, locals := 0 } : Jvm.Room) (va_Pc [.ref p0] (zB dC dI ed sz [] [(p0, .inr (4, [.int q0, .int q1, .int q2, .int q3]))] [])) (va_Qv (fun (_ : Unit) => True) (fun (_ : Unit) (t : State) => va_P (dC, dI) vwCl [(p0, .inr (4, [.int q0, .int (-1), .int (-1), .int q3]))] t.heap ∧ va_D (va_A [(p0, .inr (4, [.int q0, .int q1, .int q2, .int q3]))] sz) [(p0, .inr (4, [.int q0, .int (-1), .int (-1), .int q3]))] ∧ va_K (dC, dI) vwCl [] t) (va_A [(p0, .inr (4, [.int q0, .int q1, .int q2, .int q3]))] sz)) 0 0 (va_A [(p0, .inr (4, [.int q0, .int q1, .int q2, .int q3]))] sz) := by
  refine Met.ofW (cc := cX2_rest) (maxL := 1) (ret := none) (by decide) rfl ?_
  intro p e s m args below meth c s₁ B hml hv
  obtain ⟨rfl, hsz, hR0, hP, hK, hD0, hN, hH, hX0⟩ := hv
  have hx := B.exec
  have hb := B.bytes
  have hr := B.returns
  have hts := atoms_spec (ws := wsX2_rest) B.pre
  have hown : s.vm.findClass RX2 = some m.cls := findClass_of_methodNamed B.named
  have hlocks := B.notSynchronized
  subst hsz
  have hD := hD0.self (sz := s.heap.size)
  have hAr := zx_A hX0 hR0
  generalize hAe : va_A [(p0, .inr (4, [.int q0, .int q1, .int q2, .int q3]))] s.heap.size = A at hD hAr hH ⊢
  have hA : ∀ q : Nat, s.heap.size ≤ q → A q := fun q h => by rw [← hAe]; exact Or.inr h
  have hS : va_S A s.heap s.heap [] := va_S.rf
  have hl := lv_entry ([.ref p0]) (n := 1) (Nat.le_of_ble_eq_true rfl)
  rw [lg_entry_eq]
  generalize (lg_sl ([.ref p0]) ++ List.replicate (1 - (lg_sl ([.ref p0])).length) Slot.unset).toArray = ls at hl ⊢
  have hl : lv_has ls 1 [(0, .ref p0)] := hl
  refine lv_aload_n hx hb dX2_rest_0 rfl (lv_at hl 0 rfl) ?_
  refine lv_iconst (v := (-1)) hx hb dX2_rest_1 (by decide) ?_
  refine va_put (D := (dC, dI)) (ci := 4) (v := .int (-1)) (ty := .int) (C := RX2) (T := TX2) (N := 4) hx hb hts zi_X2_rest_X2 tyX2 tyX2_ok nmX2 hown hK hP hD hS 0 rfl rfl 1 (by decide) (hts (.fieldLink RX2 21 "LockRooms$Player" "atLock" "I") (by decide +kernel)) (fun _ h9 => h9) rfl (by decide +kernel) rfl rfl (Nat.le_of_ble_eq_true rfl) dX2_rest_2 (fun H1 locs hP hD hS => ?_)
  have hP : va_P (dC, dI) vwCl [(p0, .inr (4, [.int q0, .int (-1), .int q2, .int q3]))] H1 := hP
  have hD : va_D A [(p0, .inr (4, [.int q0, .int (-1), .int q2, .int q3]))] := hD
  refine lv_aload_n hx hb dX2_rest_5 rfl (lv_at hl 0 rfl) ?_
  refine lv_iconst (v := (-1)) hx hb dX2_rest_6 (by decide) ?_
  refine va_put (D := (dC, dI)) (ci := 4) (v := .int (-1)) (ty := .int) (C := RX2) (T := TX2) (N := 4) hx hb hts zi_X2_rest_X2 tyX2 tyX2_ok nmX2 hown hK hP hD hS 0 rfl rfl 2 (by decide) (hts (.fieldLink RX2 24 "LockRooms$Player" "atThing" "I") (by decide +kernel)) (fun _ h9 => h9) rfl (by decide +kernel) rfl rfl (Nat.le_of_ble_eq_true rfl) dX2_rest_7 (fun H2 locs hP hD hS => ?_)
  have hP : va_P (dC, dI) vwCl [(p0, .inr (4, [.int q0, .int (-1), .int (-1), .int q3]))] H2 := hP
  have hD : va_D A [(p0, .inr (4, [.int q0, .int (-1), .int (-1), .int q3]))] := hD
  refine W.widen (k := 0) (n := 0) (Nat.le_of_ble_eq_true rfl) (Nat.le_of_ble_eq_true rfl) ?_
  have hP9 := hP.sub (ws' := [(p0, .inr (4, [.int q0, .int (-1), .int (-1), .int q3]))]) [0] rfl
  have hD9 := hD.sub (ws' := [(p0, .inr (4, [.int q0, .int (-1), .int (-1), .int q3]))]) [0] (by decide) rfl
  have hK9 := hK.sub (tys' := []) [] rfl
  exact W.vret hx hb hr (fun t ht hW => ⟨⟨(), rfl, trivial, ⟨by rw [ht]; exact hP9, hD9, va_K.moved hW.alike hK9⟩⟩, hS.F ht⟩) hS.2.2 dX2_rest_10
set_option maxHeartbeats 4000000 in
set_option maxRecDepth 100000 in
theorem cz_Rcome (l : Launch) (dC : Nat → ClassId) (dI : Nat → Nat → Nat) (ed sz : Nat) (p0 : Nat) : Met l yX2_come wsX2_come ({ frames := 1, cells := 0, slots := 0, locals := 20 } : Jvm.Room) (va_Pc [.ref p0, .int 1] (zB dC dI ed sz [] [(p0, .inr (4, [.int 0, .int 0, .int 0, .int 0]))] [])) (va_Qv (fun (_ : Unit) => True) (fun (_ : Unit) (t : State) => va_P (dC, dI) vwCl [(p0, .inr (4, [.int 1, .int (-1), .int (-1), .int 0]))] t.heap ∧ va_D (va_A [(p0, .inr (4, [.int 0, .int 0, .int 0, .int 0]))] sz) [(p0, .inr (4, [.int 1, .int (-1), .int (-1), .int 0]))] ∧ va_K (dC, dI) vwCl [] t) (va_A [(p0, .inr (4, [.int 0, .int 0, .int 0, .int 0]))] sz)) 0 0 (va_A [(p0, .inr (4, [.int 0, .int 0, .int 0, .int 0]))] sz) := by
  refine Met.ofW (cc := cX2_come) (maxL := 2) (ret := none) (by decide) rfl ?_
  intro p e s m args below meth c s₁ B hml hv
  obtain ⟨rfl, hsz, hR0, hP, hK, hD0, hN, hH, hX0⟩ := hv
  have hx := B.exec
  have hb := B.bytes
  have hr := B.returns
  have hts := atoms_spec (ws := wsX2_come) B.pre
  have hown : s.vm.findClass RX2 = some m.cls := findClass_of_methodNamed B.named
  have hlocks := B.notSynchronized
  subst hsz
  have hD := hD0.self (sz := s.heap.size)
  have hAr := zx_A hX0 hR0
  generalize hAe : va_A [(p0, .inr (4, [.int 0, .int 0, .int 0, .int 0]))] s.heap.size = A at hD hAr hH ⊢
  have hA : ∀ q : Nat, s.heap.size ≤ q → A q := fun q h => by rw [← hAe]; exact Or.inr h
  have hS : va_S A s.heap s.heap [] := va_S.rf
  have hl := lv_entry ([.ref p0, .int 1]) (n := 2) (Nat.le_of_ble_eq_true rfl)
  rw [lg_entry_eq]
  generalize (lg_sl ([.ref p0, .int 1]) ++ List.replicate (2 - (lg_sl ([.ref p0, .int 1])).length) Slot.unset).toArray = ls at hl ⊢
  have hl : lv_has ls 2 [(0, .ref p0), (1, .int 1)] := hl
  refine lv_aload_n hx hb dX2_come_0 rfl (lv_at hl 0 rfl) ?_
  refine lv_iload_n hx hb dX2_come_1 rfl (lv_at hl 1 rfl) ?_
  refine va_put (D := (dC, dI)) (ci := 4) (v := .int 1) (ty := .int) (C := RX2) (T := TX2) (N := 4) hx hb hts zi_X2_come_X2 tyX2 tyX2_ok nmX2 hown hK hP hD hS 0 rfl rfl 0 (by decide) (hts (.fieldLink RX2 9 "LockRooms$Player" "skill" "I") (by decide +kernel)) (fun _ h9 => h9) rfl (by decide +kernel) rfl rfl (Nat.le_of_ble_eq_true rfl) dX2_come_2 (fun H1 locs hP hD hS => ?_)
  have hP : va_P (dC, dI) vwCl [(p0, .inr (4, [.int 1, .int 0, .int 0, .int 0]))] H1 := hP
  have hD : va_D A [(p0, .inr (4, [.int 1, .int 0, .int 0, .int 0]))] := hD
  refine lv_aload_n hx hb dX2_come_5 rfl (lv_at hl 0 rfl) ?_
  refine lv_iconst (v := 0) hx hb dX2_come_6 (by decide) ?_
  refine va_put (D := (dC, dI)) (ci := 4) (v := .int 0) (ty := .int) (C := RX2) (T := TX2) (N := 4) hx hb hts zi_X2_come_X2 tyX2 tyX2_ok nmX2 hown hK hP hD hS 0 rfl rfl 3 (by decide) (hts (.fieldLink RX2 15 "LockRooms$Player" "idled" "I") (by decide +kernel)) (fun _ h9 => h9) rfl (by decide +kernel) rfl rfl (Nat.le_of_ble_eq_true rfl) dX2_come_7 (fun H2 locs hP hD hS => ?_)
  have hP : va_P (dC, dI) vwCl [(p0, .inr (4, [.int 1, .int 0, .int 0, .int 0]))] H2 := hP
  have hD : va_D A [(p0, .inr (4, [.int 1, .int 0, .int 0, .int 0]))] := hD
  refine lv_aload_n hx hb dX2_come_10 rfl (lv_at hl 0 rfl) ?_
  have hPr := (zo_nil : va_P (dC, dI) vwCl [] H2)
  have hPc := hP.sub (ws' := [(p0, .inr (4, [.int 1, .int 0, .int 0, .int 0]))]) [0] rfl
  have hDc := hD.sub (ws' := [(p0, .inr (4, [.int 1, .int 0, .int 0, .int 0]))]) [0] (by decide) rfl
  have hKc := hK.sub (tys' := []) [] rfl
  have hFc := va_free (wc := [(p0, .inr (4, [.int 1, .int 0, .int 0, .int 0]))]) hD hS hA [0] rfl
  refine va_callv (va_runV (As := []) (rest := []) ⟨hx, hb, hml, hown, hts⟩ (cz_Rrest l dC dI ed H2.size p0 1 0 0 0) (cwV 0 hts gX2_come_X2_rest rfl rfl rfl (by decide +kernel) ⟨Nat.le_of_ble_eq_true rfl, Nat.le_of_ble_eq_true rfl⟩) ⟨zb_blind, va_recv hK hP (ci := 4) (q0 := 0) rfl rfl, fun U hU hW => ⟨rfl, zb_mk hU hW hPr hPc hKc hDc hN hH hS hFc zx_nil⟩⟩ rfl rfl hl.1 rfl (lv_room (Nat.le_of_ble_eq_true rfl)) dX2_come_11 ⟨Nat.le_of_ble_eq_true rfl, Nat.le_of_ble_eq_true rfl⟩) hS (fun q _ h => hFc q h) hFc (fun u t H3 locs ht hvm hw hB hz1 hk1 hS => ?_)
  obtain ⟨hP1, hD1, hK1⟩ := hB
  rw [ht] at hP1
  obtain ⟨hP, hD⟩ := va_join (wr := []) (w1 := [(p0, .inr (4, [.int 1, .int (-1), .int (-1), .int 0]))]) hP hD [0] [] rfl rfl (by decide) (by decide) hk1 hFc hP1 hD1
  have hP : va_P (dC, dI) vwCl [(p0, .inr (4, [.int 1, .int (-1), .int (-1), .int 0]))] H3 := hP
  have hD : va_D A [(p0, .inr (4, [.int 1, .int (-1), .int (-1), .int 0]))] := hD
  refine W.widen (k := 0) (n := 0) (Nat.le_of_ble_eq_true rfl) (Nat.le_of_ble_eq_true rfl) ?_
  have hP9 := hP.sub (ws' := [(p0, .inr (4, [.int 1, .int (-1), .int (-1), .int 0]))]) [0] rfl
  have hD9 := hD.sub (ws' := [(p0, .inr (4, [.int 1, .int (-1), .int (-1), .int 0]))]) [0] (by decide) rfl
  have hK9 := hK.sub (tys' := []) [] rfl
  exact W.vret hx hb hr (fun t ht hW => ⟨⟨(), rfl, trivial, ⟨by rw [ht]; exact hP9, hD9, va_K.moved hW.alike hK9⟩⟩, hS.F ht⟩) hS.2.2 dX2_come_14
set_option maxHeartbeats 4000000 in
set_option maxRecDepth 100000 in
theorem cz_RaddPlayer (l : Launch) (dC : Nat → ClassId) (dI : Nat → Nat → Nat) (ed sz : Nat) (rm : Nat) (lk : Nat) (th : Nat) (pl : Nat) (gm : Nat) (cP : ClassId) (fp : Nat → Option Nat) (p0 : Nat) (hkp : fp 0 = some p0) : Met l yX3_addPlayer wsX3_addPlayer ({ frames := 2, cells := 0, slots := 0, locals := 41 } : Jvm.Room) (va_Pc [.ref rm, .int 1] (zB dC dI ed sz [(pl, .inl (cP, 6, .inr (.inr (.inr (.inr fp)))))] [(rm, .inr (5, [.ref lk, .ref th, .ref pl, .ref gm, .int 0, .int 0, .int 0, .int (-1), .int 1, .int 0, .int 0, .int 0])), (p0, .inr (4, [.int 0, .int 0, .int 0, .int 0]))] [(cP, .object "LockRooms$Player")])) (va_Qi (fun (r : Int32) (_ : Unit) => r = 0) (fun (_ : Unit) (t : State) => va_P (dC, dI) vwCl [(rm, .inr (5, [.ref lk, .ref th, .ref pl, .ref gm, .int 0, .int 0, .int 1, .int (-1), .int 1, .int 0, .int 0, .int 0])), (p0, .inr (4, [.int 1, .int (-1), .int (-1), .int 0]))] t.heap ∧ va_D (va_A [(rm, .inr (5, [.ref lk, .ref th, .ref pl, .ref gm, .int 0, .int 0, .int 0, .int (-1), .int 1, .int 0, .int 0, .int 0])), (p0, .inr (4, [.int 0, .int 0, .int 0, .int 0]))] sz) [(rm, .inr (5, [.ref lk, .ref th, .ref pl, .ref gm, .int 0, .int 0, .int 1, .int (-1), .int 1, .int 0, .int 0, .int 0])), (p0, .inr (4, [.int 1, .int (-1), .int (-1), .int 0]))] ∧ va_K (dC, dI) vwCl [] t) (va_A [(rm, .inr (5, [.ref lk, .ref th, .ref pl, .ref gm, .int 0, .int 0, .int 0, .int (-1), .int 1, .int 0, .int 0, .int 0])), (p0, .inr (4, [.int 0, .int 0, .int 0, .int 0]))] sz)) 0 0 (va_A [(rm, .inr (5, [.ref lk, .ref th, .ref pl, .ref gm, .int 0, .int 0, .int 0, .int (-1), .int 1, .int 0, .int 0, .int 0])), (p0, .inr (4, [.int 0, .int 0, .int 0, .int 0]))] sz) := by
  refine Met.ofW (cc := cX3_addPlayer) (maxL := 3) (ret := (some .int)) (by decide) rfl ?_
  intro p e s m args below meth c s₁ B hml hv
  obtain ⟨rfl, hsz, hR0, hP, hK, hD0, hN, hH, hX0⟩ := hv
  have hx := B.exec
  have hb := B.bytes
  have hr := B.returns
  have hts := atoms_spec (ws := wsX3_addPlayer) B.pre
  have hown : s.vm.findClass RX3 = some m.cls := findClass_of_methodNamed B.named
  have hlocks := B.notSynchronized
  subst hsz
  have hD := hD0.self (sz := s.heap.size)
  have hAr := zx_A hX0 hR0
  generalize hAe : va_A [(rm, .inr (5, [.ref lk, .ref th, .ref pl, .ref gm, .int 0, .int 0, .int 0, .int (-1), .int 1, .int 0, .int 0, .int 0])), (p0, .inr (4, [.int 0, .int 0, .int 0, .int 0]))] s.heap.size = A at hD hAr hH ⊢
  have hA : ∀ q : Nat, s.heap.size ≤ q → A q := fun q h => by rw [← hAe]; exact Or.inr h
  have hS : va_S A s.heap s.heap [] := va_S.rf
  have hl := lv_entry ([.ref rm, .int 1]) (n := 3) (Nat.le_of_ble_eq_true rfl)
  rw [lg_entry_eq]
  generalize (lg_sl ([.ref rm, .int 1]) ++ List.replicate (3 - (lg_sl ([.ref rm, .int 1])).length) Slot.unset).toArray = ls at hl ⊢
  have hl : lv_has ls 3 [(0, .ref rm), (1, .int 1)] := hl
  refine lv_aload_n hx hb dX3_addPlayer_0 rfl (lv_at hl 0 rfl) ?_
  refine va_get (D := (dC, dI)) (ci := 5) (v := .int 0) (C := RX3) (T := TX3) (N := 12) hx hb hts zi_X3_addPlayer_X3 hown hK hP 0 rfl rfl 6 (by decide) (hts (.fieldLink RX3 60 "LockRooms$Room" "playerCount" "I") (by decide +kernel)) (fun _ h9 => h9) rfl dX3_addPlayer_1 ?_
  refine lv_istore_n (lv' := [(2, .int 0), (0, .ref rm), (1, .int 1)]) hx hb dX3_addPlayer_4 rfl hl (by decide) rfl (fun ls hl => ?_)
  refine lv_iload_n hx hb dX3_addPlayer_5 rfl (lv_at hl 0 rfl) ?_
  refine lv_bipush (v := 6) hx hb dX3_addPlayer_6 (by decide) ?_
  refine lv_icmp_lt (tgt := 13) hx hb dX3_addPlayer_8 (by decide) (fun _ => ?_) (fun h => absurd h (by decide))
  refine lv_aload_n hx hb dX3_addPlayer_13 rfl (lv_at hl 1 rfl) ?_
  refine va_get (D := (dC, dI)) (ci := 5) (v := .ref pl) (C := RX3) (T := TX3) (N := 12) hx hb hts zi_X3_addPlayer_X3 hown hK hP 0 rfl rfl 2 (by decide) (hts (.fieldLink RX3 25 "LockRooms$Room" "players" "[LLockRooms$Player;") (by decide +kernel)) (fun _ h9 => h9) rfl dX3_addPlayer_14 ?_
  refine lv_iload_n hx hb dX3_addPlayer_17 rfl (lv_at hl 0 rfl) ?_
  refine va_aldq hx hb hK hR0 0 0 rfl rfl (by unfold vp_in; decide) dX3_addPlayer_18 ?_
  refine zo_q (v := .ref p0) (by rw [show Int32.toNatClampNeg 0 = 0 from by decide, hkp]; rfl) ?_
  refine lv_iload_n hx hb dX3_addPlayer_19 rfl (lv_at hl 2 rfl) ?_
  have hPr := (zo_nil : va_P (dC, dI) vwCl [] s.heap)
  have hPc := hP.sub (ws' := [(p0, .inr (4, [.int 0, .int 0, .int 0, .int 0]))]) [1] rfl
  have hDc := hD.sub (ws' := [(p0, .inr (4, [.int 0, .int 0, .int 0, .int 0]))]) [1] (by decide) rfl
  have hKc := hK.sub (tys' := []) [] rfl
  have hFc := va_free (wc := [(p0, .inr (4, [.int 0, .int 0, .int 0, .int 0]))]) hD hS hA [1] rfl
  refine va_callv (va_runV (As := [.int 1]) (rest := []) ⟨hx, hb, hml, hown, hts⟩ (cz_Rcome l dC dI ed s.heap.size p0) (cwV 1 hts gX3_addPlayer_X2_come rfl rfl rfl (by decide +kernel) ⟨Nat.le_of_ble_eq_true rfl, Nat.le_of_ble_eq_true rfl⟩) ⟨zb_blind, va_recv hK hP (ci := 4) (q0 := 1) rfl rfl, fun U hU hW => ⟨rfl, zb_mk hU hW hPr hPc hKc hDc hN hH hS hFc zx_nil⟩⟩ rfl rfl hl.1 rfl (lv_room (Nat.le_of_ble_eq_true rfl)) dX3_addPlayer_20 ⟨Nat.le_of_ble_eq_true rfl, Nat.le_of_ble_eq_true rfl⟩) hS (fun q _ h => hFc q h) hFc (fun u t H1 locs ht hvm hw hB hz1 hk1 hS => ?_)
  obtain ⟨hP1, hD1, hK1⟩ := hB
  rw [ht] at hP1
  obtain ⟨hP, hD⟩ := va_join (wr := [(rm, .inr (5, [.ref lk, .ref th, .ref pl, .ref gm, .int 0, .int 0, .int 0, .int (-1), .int 1, .int 0, .int 0, .int 0]))]) (w1 := [(p0, .inr (4, [.int 1, .int (-1), .int (-1), .int 0]))]) hP hD [1] [0] rfl rfl (by decide) (by decide) hk1 hFc hP1 hD1
  have hP : va_P (dC, dI) vwCl [(rm, .inr (5, [.ref lk, .ref th, .ref pl, .ref gm, .int 0, .int 0, .int 0, .int (-1), .int 1, .int 0, .int 0, .int 0])), (p0, .inr (4, [.int 1, .int (-1), .int (-1), .int 0]))] H1 := hP
  have hD : va_D A [(rm, .inr (5, [.ref lk, .ref th, .ref pl, .ref gm, .int 0, .int 0, .int 0, .int (-1), .int 1, .int 0, .int 0, .int 0])), (p0, .inr (4, [.int 1, .int (-1), .int (-1), .int 0]))] := hD
  refine lv_aload_n hx hb dX3_addPlayer_23 rfl (lv_at hl 1 rfl) ?_
  refine lv_dup hx hb dX3_addPlayer_24 rfl ?_
  refine va_get (D := (dC, dI)) (ci := 5) (v := .int 0) (C := RX3) (T := TX3) (N := 12) hx hb hts zi_X3_addPlayer_X3 hown hK hP 0 rfl rfl 6 (by decide) (hts (.fieldLink RX3 60 "LockRooms$Room" "playerCount" "I") (by decide +kernel)) (fun _ h9 => h9) rfl dX3_addPlayer_25 ?_
  refine lv_iconst (v := 1) hx hb dX3_addPlayer_28 (by decide) ?_
  refine lv_iadd hx hb dX3_addPlayer_29 ?_
  refine zo_i (v := 1) (by decide) ?_
  refine va_put (D := (dC, dI)) (ci := 5) (v := .int 1) (ty := .int) (C := RX3) (T := TX3) (N := 12) hx hb hts zi_X3_addPlayer_X3 tyX3 tyX3_ok nmX3 hown hK hP hD hS 0 rfl rfl 6 (by decide) (hts (.fieldLink RX3 60 "LockRooms$Room" "playerCount" "I") (by decide +kernel)) (fun _ h9 => h9) rfl (by decide +kernel) rfl rfl (Nat.le_of_ble_eq_true rfl) dX3_addPlayer_30 (fun H4 locs hP hD hS => ?_)
  have hP : va_P (dC, dI) vwCl [(rm, .inr (5, [.ref lk, .ref th, .ref pl, .ref gm, .int 0, .int 0, .int 1, .int (-1), .int 1, .int 0, .int 0, .int 0])), (p0, .inr (4, [.int 1, .int (-1), .int (-1), .int 0]))] H4 := hP
  have hD : va_D A [(rm, .inr (5, [.ref lk, .ref th, .ref pl, .ref gm, .int 0, .int 0, .int 1, .int (-1), .int 1, .int 0, .int 0, .int 0])), (p0, .inr (4, [.int 1, .int (-1), .int (-1), .int 0]))] := hD
  refine lv_iload_n hx hb dX3_addPlayer_33 rfl (lv_at hl 0 rfl) ?_
  refine W.widen (k := 0) (n := 0) (Nat.le_of_ble_eq_true rfl) (Nat.le_of_ble_eq_true rfl) ?_
  have hP9 := hP.sub (ws' := [(rm, .inr (5, [.ref lk, .ref th, .ref pl, .ref gm, .int 0, .int 0, .int 1, .int (-1), .int 1, .int 0, .int 0, .int 0])), (p0, .inr (4, [.int 1, .int (-1), .int (-1), .int 0]))]) [0, 1] rfl
  have hD9 := hD.sub (ws' := [(rm, .inr (5, [.ref lk, .ref th, .ref pl, .ref gm, .int 0, .int 0, .int 1, .int (-1), .int 1, .int 0, .int 0, .int 0])), (p0, .inr (4, [.int 1, .int (-1), .int (-1), .int 0]))]) [0, 1] (by decide) rfl
  have hK9 := hK.sub (tys' := []) [] rfl
  exact W.iret hx hb hr (fun t ht hW => ⟨⟨0, (), rfl, rfl, ⟨by rw [ht]; exact hP9, hD9, va_K.moved hW.alike hK9⟩⟩, hS.F ht⟩) hS.2.2 dX3_addPlayer_34
set_option maxHeartbeats 4000000 in
set_option maxRecDepth 100000 in
theorem cz_RX6_player (l : Launch) (dC : Nat → ClassId) (dI : Nat → Nat → Nat) (ed sz : Nat) (x : Nat) (rm : Nat) (tr : Nat) (st : Nat) (lk : Nat) (th : Nat) (pl : Nat) (gm : Nat) (cP : ClassId) (fp : Nat → Option Nat) (p0 : Nat) (hkp : fp 0 = some p0) : Met l yX6_player wsX6_player ({ frames := 3, cells := 0, slots := 0, locals := 63 } : Jvm.Room) (va_Pc [.ref x, .int 1] (zB dC dI ed sz [(x, .inr (8, [.ref rm, .ref tr, .ref st])), (gm, .inr (2, [.int 0, .int 0, .int 0, .int 0, .int 0, .int (-1), .long 0])), (pl, .inl (cP, 6, .inr (.inr (.inr (.inr fp)))))] [(rm, .inr (5, [.ref lk, .ref th, .ref pl, .ref gm, .int 0, .int 0, .int 0, .int (-1), .int 1, .int 0, .int 0, .int 0])), (p0, .inr (4, [.int 0, .int 0, .int 0, .int 0]))] [(cP, .object "LockRooms$Player")])) (va_Qi (fun (r : Int32) (_ : Unit) => r = 0) (fun (_ : Unit) (t : State) => va_P (dC, dI) vwCl [(rm, .inr (5, [.ref lk, .ref th, .ref pl, .ref gm, .int 0, .int 0, .int 1, .int (-1), .int 1, .int 0, .int 0, .int 0])), (p0, .inr (4, [.int 1, .int (-1), .int (-1), .int 0]))] t.heap ∧ va_D (va_A [(rm, .inr (5, [.ref lk, .ref th, .ref pl, .ref gm, .int 0, .int 0, .int 0, .int (-1), .int 1, .int 0, .int 0, .int 0])), (p0, .inr (4, [.int 0, .int 0, .int 0, .int 0]))] sz) [(rm, .inr (5, [.ref lk, .ref th, .ref pl, .ref gm, .int 0, .int 0, .int 1, .int (-1), .int 1, .int 0, .int 0, .int 0])), (p0, .inr (4, [.int 1, .int (-1), .int (-1), .int 0]))] ∧ va_K (dC, dI) vwCl [] t) (va_A [(rm, .inr (5, [.ref lk, .ref th, .ref pl, .ref gm, .int 0, .int 0, .int 0, .int (-1), .int 1, .int 0, .int 0, .int 0])), (p0, .inr (4, [.int 0, .int 0, .int 0, .int 0]))] sz)) 0 0 (va_A [(rm, .inr (5, [.ref lk, .ref th, .ref pl, .ref gm, .int 0, .int 0, .int 0, .int (-1), .int 1, .int 0, .int 0, .int 0])), (p0, .inr (4, [.int 0, .int 0, .int 0, .int 0]))] sz) := by
  refine Met.ofW (cc := cX6_player) (maxL := 2) (ret := (some .int)) (by decide) rfl ?_
  intro p e s m args below meth c s₁ B hml hv
  obtain ⟨rfl, hsz, hR0, hP, hK, hD0, hN, hH, hX0⟩ := hv
  have hx := B.exec
  have hb := B.bytes
  have hr := B.returns
  have hts := atoms_spec (ws := wsX6_player) B.pre
  have hown : s.vm.findClass RX6 = some m.cls := findClass_of_methodNamed B.named
  have hlocks := B.notSynchronized
  subst hsz
  have hD := hD0.self (sz := s.heap.size)
  have hAr := zx_A hX0 hR0
  generalize hAe : va_A [(rm, .inr (5, [.ref lk, .ref th, .ref pl, .ref gm, .int 0, .int 0, .int 0, .int (-1), .int 1, .int 0, .int 0, .int 0])), (p0, .inr (4, [.int 0, .int 0, .int 0, .int 0]))] s.heap.size = A at hD hAr hH ⊢
  have hA : ∀ q : Nat, s.heap.size ≤ q → A q := fun q h => by rw [← hAe]; exact Or.inr h
  have hS : va_S A s.heap s.heap [] := va_S.rf
  have hl := lv_entry ([.ref x, .int 1]) (n := 2) (Nat.le_of_ble_eq_true rfl)
  rw [lg_entry_eq]
  generalize (lg_sl ([.ref x, .int 1]) ++ List.replicate (2 - (lg_sl ([.ref x, .int 1])).length) Slot.unset).toArray = ls at hl ⊢
  have hl : lv_has ls 2 [(0, .ref x), (1, .int 1)] := hl
  refine lv_iload_n hx hb dX6_player_0 rfl (lv_at hl 1 rfl) ?_
  refine lv_iconst (v := 1) hx hb dX6_player_1 (by decide) ?_
  refine lv_bipush (v := 9) hx hb dX6_player_2 (by decide) ?_
  have hPr := (zo_nil : va_P (dC, dI) vwCl [] s.heap)
  have hPc := hP.sub (ws' := []) [] rfl
  have hDc := hD.sub (ws' := []) [] (by decide) rfl
  have hKc := hK.sub (tys' := []) [] rfl
  have hFc := va_free (wc := []) hD hS hA [] rfl
  refine va_calli (va_runS (As := [.int 1, .int 1, .int 9]) (rest := []) ⟨hx, hb, hml, hown, hts⟩ (cz_RisWithin l dC dI ed s.heap.size ) (va_cwS 3 hts gX6_player_X6_isWithin rfl rfl rfl (by decide +kernel) ⟨Nat.le_of_ble_eq_true rfl, Nat.le_of_ble_eq_true rfl⟩) ⟨zb_blind, fun U hU hW => ⟨rfl, zb_mk hU hW hPr hPc hKc hDc hN hH hS hFc zx_e⟩⟩ rfl rfl hl.1 rfl (lv_room (Nat.le_of_ble_eq_true rfl)) dX6_player_4 ⟨Nat.le_of_ble_eq_true rfl, Nat.le_of_ble_eq_true rfl⟩) hS (fun q _ h => hFc q h) hFc (fun r2 u t H1 locs ht hvm hw hB hz1 hk1 hS => ?_)
  obtain rfl : r2 = 1 := hw
  have hP := zo_K hP hk1
  refine lv_if_ne (tgt := 20) hx hb dX6_player_7 (by decide) (fun _ => ?_) (fun h => absurd h (by decide))
  refine lv_aload_n hx hb dX6_player_20 rfl (lv_at hl 0 rfl) ?_
  refine va_get (D := (dC, dI)) (ci := 8) (v := .ref rm) (C := RX6) (T := TX6) (N := 3) hx hb hts zi_X6_player_X6 hown hK (zo_R hR0 hS hAr) 0 rfl rfl 0 (by decide) (hts (.fieldLink RX6 12 "LockRooms" "room" "LLockRooms$Room;") (by decide +kernel)) (fun _ h9 => h9) rfl dX6_player_21 ?_
  refine va_get (D := (dC, dI)) (ci := 5) (v := .int 0) (C := RX3) (T := TX3) (N := 12) hx hb hts zi_X6_player_X3 hown hK hP 0 rfl rfl 6 (by decide) (hts (.fieldLink RX6 82 "LockRooms$Room" "playerCount" "I") (by decide +kernel)) (fun _ h9 => h9) rfl dX6_player_24 ?_
  refine lv_bipush (v := 6) hx hb dX6_player_27 (by decide) ?_
  refine lv_icmp_ge (tgt := 45) hx hb dX6_player_29 (by decide) (fun h => absurd h (by decide)) (fun _ => ?_)
  refine lv_aload_n hx hb dX6_player_32 rfl (lv_at hl 0 rfl) ?_
  refine va_get (D := (dC, dI)) (ci := 8) (v := .ref rm) (C := RX6) (T := TX6) (N := 3) hx hb hts zi_X6_player_X6 hown hK (zo_R hR0 hS hAr) 0 rfl rfl 0 (by decide) (hts (.fieldLink RX6 12 "LockRooms" "room" "LLockRooms$Room;") (by decide +kernel)) (fun _ h9 => h9) rfl dX6_player_33 ?_
  refine va_get (D := (dC, dI)) (ci := 5) (v := .ref gm) (C := RX3) (T := TX3) (N := 12) hx hb hts zi_X6_player_X3 hown hK hP 0 rfl rfl 3 (by decide) (hts (.fieldLink RX6 41 "LockRooms$Room" "games" "LLockRooms$Games;") (by decide +kernel)) (fun _ h9 => h9) rfl dX6_player_36 ?_
  refine va_get (D := (dC, dI)) (ci := 2) (v := .int 0) (C := RX0) (T := TX0) (N := 7) hx hb hts zi_X6_player_X0 hown hK (zo_R hR0 hS hAr) 1 rfl rfl 0 (by decide) (hts (.fieldLink RX6 45 "LockRooms$Games" "isRunning" "Z") (by decide +kernel)) (fun _ h9 => h9) rfl dX6_player_39 ?_
  refine lv_if_eq (tgt := 55) hx hb dX6_player_42 (by decide) (fun _ => ?_) (fun h => absurd h (by decide))
  refine lv_aload_n hx hb dX6_player_55 rfl (lv_at hl 0 rfl) ?_
  refine va_get (D := (dC, dI)) (ci := 8) (v := .ref rm) (C := RX6) (T := TX6) (N := 3) hx hb hts zi_X6_player_X6 hown hK (zo_R hR0 hS hAr) 0 rfl rfl 0 (by decide) (hts (.fieldLink RX6 12 "LockRooms" "room" "LLockRooms$Room;") (by decide +kernel)) (fun _ h9 => h9) rfl dX6_player_56 ?_
  refine lv_iload_n hx hb dX6_player_59 rfl (lv_at hl 1 rfl) ?_
  have hPr := ((zo_R hR0 hS hAr)).sub (ws' := [(pl, .inl (cP, 6, .inr (.inr (.inr (.inr fp)))))]) [2] rfl
  have hPc := hP.sub (ws' := [(rm, .inr (5, [.ref lk, .ref th, .ref pl, .ref gm, .int 0, .int 0, .int 0, .int (-1), .int 1, .int 0, .int 0, .int 0])), (p0, .inr (4, [.int 0, .int 0, .int 0, .int 0]))]) [0, 1] rfl
  have hDc := hD.sub (ws' := [(rm, .inr (5, [.ref lk, .ref th, .ref pl, .ref gm, .int 0, .int 0, .int 0, .int (-1), .int 1, .int 0, .int 0, .int 0])), (p0, .inr (4, [.int 0, .int 0, .int 0, .int 0]))]) [0, 1] (by decide) rfl
  have hKc := hK.sub (tys' := [(cP, .object "LockRooms$Player")]) [0] rfl
  have hFc := va_free (wc := [(rm, .inr (5, [.ref lk, .ref th, .ref pl, .ref gm, .int 0, .int 0, .int 0, .int (-1), .int 1, .int 0, .int 0, .int 0])), (p0, .inr (4, [.int 0, .int 0, .int 0, .int 0]))]) hD hS hA [0, 1] rfl
  refine va_calli (va_runV (As := [.int 1]) (rest := []) ⟨hx, hb, hml, hown, hts⟩ (cz_RaddPlayer l dC dI ed H1.size rm lk th pl gm cP fp p0 hkp) (cwV 1 hts gX6_player_X3_addPlayer rfl rfl rfl (by decide +kernel) ⟨Nat.le_of_ble_eq_true rfl, Nat.le_of_ble_eq_true rfl⟩) ⟨zb_blind, va_recv hK hP (ci := 5) (q0 := 0) rfl rfl, fun U hU hW => ⟨rfl, zb_mk hU hW hPr hPc hKc hDc hN hH hS hFc (zx_cons (zx_r (hAr _ (List.mem_of_getElem? (i := 2) rfl)) hDc) zx_nil)⟩⟩ rfl rfl hl.1 rfl (lv_room (Nat.le_of_ble_eq_true rfl)) dX6_player_60 ⟨Nat.le_of_ble_eq_true rfl, Nat.le_of_ble_eq_true rfl⟩) hS (fun q _ h => hFc q h) hFc (fun r4 u t H3 locs ht hvm hw hB hz1 hk1 hS => ?_)
  obtain rfl : r4 = 0 := hw
  obtain ⟨hP1, hD1, hK1⟩ := hB
  rw [ht] at hP1
  obtain ⟨hP, hD⟩ := va_join (wr := []) (w1 := [(rm, .inr (5, [.ref lk, .ref th, .ref pl, .ref gm, .int 0, .int 0, .int 1, .int (-1), .int 1, .int 0, .int 0, .int 0])), (p0, .inr (4, [.int 1, .int (-1), .int (-1), .int 0]))]) hP hD [0, 1] [] rfl rfl (by decide) (by decide) hk1 hFc hP1 hD1
  have hP : va_P (dC, dI) vwCl [(rm, .inr (5, [.ref lk, .ref th, .ref pl, .ref gm, .int 0, .int 0, .int 1, .int (-1), .int 1, .int 0, .int 0, .int 0])), (p0, .inr (4, [.int 1, .int (-1), .int (-1), .int 0]))] H3 := hP
  have hD : va_D A [(rm, .inr (5, [.ref lk, .ref th, .ref pl, .ref gm, .int 0, .int 0, .int 1, .int (-1), .int 1, .int 0, .int 0, .int 0])), (p0, .inr (4, [.int 1, .int (-1), .int (-1), .int 0]))] := hD
  refine W.widen (k := 0) (n := 0) (Nat.le_of_ble_eq_true rfl) (Nat.le_of_ble_eq_true rfl) ?_
  have hP9 := hP.sub (ws' := [(rm, .inr (5, [.ref lk, .ref th, .ref pl, .ref gm, .int 0, .int 0, .int 1, .int (-1), .int 1, .int 0, .int 0, .int 0])), (p0, .inr (4, [.int 1, .int (-1), .int (-1), .int 0]))]) [0, 1] rfl
  have hD9 := hD.sub (ws' := [(rm, .inr (5, [.ref lk, .ref th, .ref pl, .ref gm, .int 0, .int 0, .int 1, .int (-1), .int 1, .int 0, .int 0, .int 0])), (p0, .inr (4, [.int 1, .int (-1), .int (-1), .int 0]))]) [0, 1] (by decide) rfl
  have hK9 := hK.sub (tys' := []) [] rfl
  exact W.iret hx hb hr (fun t ht hW => ⟨⟨0, (), rfl, rfl, ⟨by rw [ht]; exact hP9, hD9, va_K.moved hW.alike hK9⟩⟩, hS.F ht⟩) hS.2.2 dX6_player_63
set_option maxRecDepth 20000 in
theorem zi_X0_start_X0 : ∀ w ∈ u_ws RX0 TX0 7, w ∈ wsX0_start := by decide +kernel
set_option maxHeartbeats 4000000 in
set_option maxRecDepth 100000 in
theorem cz_Rstart (l : Launch) (dC : Nat → ClassId) (dI : Nat → Nat → Nat) (ed sz : Nat) (gm : Nat) : Met l yX0_start wsX0_start ({ frames := 0, cells := 0, slots := 0, locals := 0 } : Jvm.Room) (va_Pc [.ref gm] (zB dC dI ed sz [] [(gm, .inr (2, [.int 0, .int 0, .int 0, .int 0, .int 0, .int (-1), .long 0]))] [])) (va_Qv (fun (_ : Unit) => True) (fun (_ : Unit) (t : State) => va_P (dC, dI) vwCl [(gm, .inr (2, [.int 1, .int 0, .int 0, .int 0, .int 0, .int (-1), .long 0]))] t.heap ∧ va_D (va_A [(gm, .inr (2, [.int 0, .int 0, .int 0, .int 0, .int 0, .int (-1), .long 0]))] sz) [(gm, .inr (2, [.int 1, .int 0, .int 0, .int 0, .int 0, .int (-1), .long 0]))] ∧ va_K (dC, dI) vwCl [] t) (va_A [(gm, .inr (2, [.int 0, .int 0, .int 0, .int 0, .int 0, .int (-1), .long 0]))] sz)) 0 0 (va_A [(gm, .inr (2, [.int 0, .int 0, .int 0, .int 0, .int 0, .int (-1), .long 0]))] sz) := by
  refine Met.ofW (cc := cX0_start) (maxL := 1) (ret := none) (by decide) rfl ?_
  intro p e s m args below meth c s₁ B hml hv
  obtain ⟨rfl, hsz, hR0, hP, hK, hD0, hN, hH, hX0⟩ := hv
  have hx := B.exec
  have hb := B.bytes
  have hr := B.returns
  have hts := atoms_spec (ws := wsX0_start) B.pre
  have hown : s.vm.findClass RX0 = some m.cls := findClass_of_methodNamed B.named
  have hlocks := B.notSynchronized
  subst hsz
  have hD := hD0.self (sz := s.heap.size)
  have hAr := zx_A hX0 hR0
  generalize hAe : va_A [(gm, .inr (2, [.int 0, .int 0, .int 0, .int 0, .int 0, .int (-1), .long 0]))] s.heap.size = A at hD hAr hH ⊢
  have hA : ∀ q : Nat, s.heap.size ≤ q → A q := fun q h => by rw [← hAe]; exact Or.inr h
  have hS : va_S A s.heap s.heap [] := va_S.rf
  have hl := lv_entry ([.ref gm]) (n := 1) (Nat.le_of_ble_eq_true rfl)
  rw [lg_entry_eq]
  generalize (lg_sl ([.ref gm]) ++ List.replicate (1 - (lg_sl ([.ref gm])).length) Slot.unset).toArray = ls at hl ⊢
  have hl : lv_has ls 1 [(0, .ref gm)] := hl
  refine lv_aload_n hx hb dX0_start_0 rfl (lv_at hl 0 rfl) ?_
  refine lv_iconst (v := 1) hx hb dX0_start_1 (by decide) ?_
  refine va_put (D := (dC, dI)) (ci := 2) (v := .int 1) (ty := .boolean) (C := RX0) (T := TX0) (N := 7) hx hb hts zi_X0_start_X0 tyX0 tyX0_ok nmX0 hown hK hP hD hS 0 rfl rfl 0 (by decide) (hts (.fieldLink RX0 15 "LockRooms$Games" "isRunning" "Z") (by decide +kernel)) (fun _ h9 => h9) rfl (by decide +kernel) (by decide) (by decide) (Nat.le_of_ble_eq_true rfl) dX0_start_2 (fun H1 locs hP hD hS => ?_)
  have hP : va_P (dC, dI) vwCl [(gm, .inr (2, [.int 1, .int 0, .int 0, .int 0, .int 0, .int (-1), .long 0]))] H1 := hP
  have hD : va_D A [(gm, .inr (2, [.int 1, .int 0, .int 0, .int 0, .int 0, .int (-1), .long 0]))] := hD
  refine lv_aload_n hx hb dX0_start_5 rfl (lv_at hl 0 rfl) ?_
  refine lv_iconst (v := 0) hx hb dX0_start_6 (by decide) ?_
  refine va_put (D := (dC, dI)) (ci := 2) (v := .int 0) (ty := .int) (C := RX0) (T := TX0) (N := 7) hx hb hts zi_X0_start_X0 tyX0 tyX0_ok nmX0 hown hK hP hD hS 0 rfl rfl 1 (by decide) (hts (.fieldLink RX0 19 "LockRooms$Games" "time" "I") (by decide +kernel)) (fun _ h9 => h9) rfl (by decide +kernel) rfl rfl (Nat.le_of_ble_eq_true rfl) dX0_start_7 (fun H2 locs hP hD hS => ?_)
  have hP : va_P (dC, dI) vwCl [(gm, .inr (2, [.int 1, .int 0, .int 0, .int 0, .int 0, .int (-1), .long 0]))] H2 := hP
  have hD : va_D A [(gm, .inr (2, [.int 1, .int 0, .int 0, .int 0, .int 0, .int (-1), .long 0]))] := hD
  refine lv_aload_n hx hb dX0_start_10 rfl (lv_at hl 0 rfl) ?_
  refine lv_iconst (v := 0) hx hb dX0_start_11 (by decide) ?_
  refine va_put (D := (dC, dI)) (ci := 2) (v := .int 0) (ty := .int) (C := RX0) (T := TX0) (N := 7) hx hb hts zi_X0_start_X0 tyX0 tyX0_ok nmX0 hown hK hP hD hS 0 rfl rfl 2 (by decide) (hts (.fieldLink RX0 22 "LockRooms$Games" "hints" "I") (by decide +kernel)) (fun _ h9 => h9) rfl (by decide +kernel) rfl rfl (Nat.le_of_ble_eq_true rfl) dX0_start_12 (fun H3 locs hP hD hS => ?_)
  have hP : va_P (dC, dI) vwCl [(gm, .inr (2, [.int 1, .int 0, .int 0, .int 0, .int 0, .int (-1), .long 0]))] H3 := hP
  have hD : va_D A [(gm, .inr (2, [.int 1, .int 0, .int 0, .int 0, .int 0, .int (-1), .long 0]))] := hD
  refine W.widen (k := 0) (n := 0) (Nat.le_of_ble_eq_true rfl) (Nat.le_of_ble_eq_true rfl) ?_
  have hP9 := hP.sub (ws' := [(gm, .inr (2, [.int 1, .int 0, .int 0, .int 0, .int 0, .int (-1), .long 0]))]) [0] rfl
  have hD9 := hD.sub (ws' := [(gm, .inr (2, [.int 1, .int 0, .int 0, .int 0, .int 0, .int (-1), .long 0]))]) [0] (by decide) rfl
  have hK9 := hK.sub (tys' := []) [] rfl
  exact W.vret hx hb hr (fun t ht hW => ⟨⟨(), rfl, trivial, ⟨by rw [ht]; exact hP9, hD9, va_K.moved hW.alike hK9⟩⟩, hS.F ht⟩) hS.2.2 dX0_start_15
set_option maxRecDepth 20000 in
theorem zi_X3_startGame_X3 : ∀ w ∈ u_ws RX3 TX3 12, w ∈ wsX3_startGame := by decide +kernel
set_option maxHeartbeats 4000000 in
set_option maxRecDepth 100000 in
theorem cz_RstartGame (l : Launch) (dC : Nat → ClassId) (dI : Nat → Nat → Nat) (ed sz : Nat) (rm : Nat) (lk : Nat) (th : Nat) (pl : Nat) (gm : Nat) : Met l yX3_startGame wsX3_startGame ({ frames := 1, cells := 0, slots := 0, locals := 20 } : Jvm.Room) (va_Pc [.ref rm] (zB dC dI ed sz [] [(rm, .inr (5, [.ref lk, .ref th, .ref pl, .ref gm, .int 0, .int 0, .int 1, .int (-1), .int 1, .int 0, .int 0, .int 0])), (gm, .inr (2, [.int 0, .int 0, .int 0, .int 0, .int 0, .int (-1), .long 0]))] [])) (va_Qv (fun (_ : Unit) => True) (fun (_ : Unit) (t : State) => va_P (dC, dI) vwCl [(rm, .inr (5, [.ref lk, .ref th, .ref pl, .ref gm, .int 0, .int 0, .int 1, .int (-1), .int 1, .int 0, .int 18, .int 0])), (gm, .inr (2, [.int 1, .int 0, .int 0, .int 0, .int 0, .int (-1), .long 0]))] t.heap ∧ va_D (va_A [(rm, .inr (5, [.ref lk, .ref th, .ref pl, .ref gm, .int 0, .int 0, .int 1, .int (-1), .int 1, .int 0, .int 0, .int 0])), (gm, .inr (2, [.int 0, .int 0, .int 0, .int 0, .int 0, .int (-1), .long 0]))] sz) [(rm, .inr (5, [.ref lk, .ref th, .ref pl, .ref gm, .int 0, .int 0, .int 1, .int (-1), .int 1, .int 0, .int 18, .int 0])), (gm, .inr (2, [.int 1, .int 0, .int 0, .int 0, .int 0, .int (-1), .long 0]))] ∧ va_K (dC, dI) vwCl [] t) (va_A [(rm, .inr (5, [.ref lk, .ref th, .ref pl, .ref gm, .int 0, .int 0, .int 1, .int (-1), .int 1, .int 0, .int 0, .int 0])), (gm, .inr (2, [.int 0, .int 0, .int 0, .int 0, .int 0, .int (-1), .long 0]))] sz)) 0 0 (va_A [(rm, .inr (5, [.ref lk, .ref th, .ref pl, .ref gm, .int 0, .int 0, .int 1, .int (-1), .int 1, .int 0, .int 0, .int 0])), (gm, .inr (2, [.int 0, .int 0, .int 0, .int 0, .int 0, .int (-1), .long 0]))] sz) := by
  refine Met.ofW (cc := cX3_startGame) (maxL := 1) (ret := none) (by decide) rfl ?_
  intro p e s m args below meth c s₁ B hml hv
  obtain ⟨rfl, hsz, hR0, hP, hK, hD0, hN, hH, hX0⟩ := hv
  have hx := B.exec
  have hb := B.bytes
  have hr := B.returns
  have hts := atoms_spec (ws := wsX3_startGame) B.pre
  have hown : s.vm.findClass RX3 = some m.cls := findClass_of_methodNamed B.named
  have hlocks := B.notSynchronized
  subst hsz
  have hD := hD0.self (sz := s.heap.size)
  have hAr := zx_A hX0 hR0
  generalize hAe : va_A [(rm, .inr (5, [.ref lk, .ref th, .ref pl, .ref gm, .int 0, .int 0, .int 1, .int (-1), .int 1, .int 0, .int 0, .int 0])), (gm, .inr (2, [.int 0, .int 0, .int 0, .int 0, .int 0, .int (-1), .long 0]))] s.heap.size = A at hD hAr hH ⊢
  have hA : ∀ q : Nat, s.heap.size ≤ q → A q := fun q h => by rw [← hAe]; exact Or.inr h
  have hS : va_S A s.heap s.heap [] := va_S.rf
  have hl := lv_entry ([.ref rm]) (n := 1) (Nat.le_of_ble_eq_true rfl)
  rw [lg_entry_eq]
  generalize (lg_sl ([.ref rm]) ++ List.replicate (1 - (lg_sl ([.ref rm])).length) Slot.unset).toArray = ls at hl ⊢
  have hl : lv_has ls 1 [(0, .ref rm)] := hl
  refine lv_aload_n hx hb dX3_startGame_0 rfl (lv_at hl 0 rfl) ?_
  refine va_get (D := (dC, dI)) (ci := 5) (v := .ref gm) (C := RX3) (T := TX3) (N := 12) hx hb hts zi_X3_startGame_X3 hown hK hP 0 rfl rfl 3 (by decide) (hts (.fieldLink RX3 32 "LockRooms$Room" "games" "LLockRooms$Games;") (by decide +kernel)) (fun _ h9 => h9) rfl dX3_startGame_1 ?_
  have hPr := (zo_nil : va_P (dC, dI) vwCl [] s.heap)
  have hPc := hP.sub (ws' := [(gm, .inr (2, [.int 0, .int 0, .int 0, .int 0, .int 0, .int (-1), .long 0]))]) [1] rfl
  have hDc := hD.sub (ws' := [(gm, .inr (2, [.int 0, .int 0, .int 0, .int 0, .int 0, .int (-1), .long 0]))]) [1] (by decide) rfl
  have hKc := hK.sub (tys' := []) [] rfl
  have hFc := va_free (wc := [(gm, .inr (2, [.int 0, .int 0, .int 0, .int 0, .int 0, .int (-1), .long 0]))]) hD hS hA [1] rfl
  refine va_callv (va_runV (As := []) (rest := []) ⟨hx, hb, hml, hown, hts⟩ (cz_Rstart l dC dI ed s.heap.size gm) (cwV 0 hts gX3_startGame_X0_start rfl rfl rfl (by decide +kernel) ⟨Nat.le_of_ble_eq_true rfl, Nat.le_of_ble_eq_true rfl⟩) ⟨zb_blind, va_recv hK hP (ci := 2) (q0 := 1) rfl rfl, fun U hU hW => ⟨rfl, zb_mk hU hW hPr hPc hKc hDc hN hH hS hFc zx_nil⟩⟩ rfl rfl hl.1 rfl (lv_room (Nat.le_of_ble_eq_true rfl)) dX3_startGame_4 ⟨Nat.le_of_ble_eq_true rfl, Nat.le_of_ble_eq_true rfl⟩) hS (fun q _ h => hFc q h) hFc (fun u t H1 locs ht hvm hw hB hz1 hk1 hS => ?_)
  obtain ⟨hP1, hD1, hK1⟩ := hB
  rw [ht] at hP1
  obtain ⟨hP, hD⟩ := va_join (wr := [(rm, .inr (5, [.ref lk, .ref th, .ref pl, .ref gm, .int 0, .int 0, .int 1, .int (-1), .int 1, .int 0, .int 0, .int 0]))]) (w1 := [(gm, .inr (2, [.int 1, .int 0, .int 0, .int 0, .int 0, .int (-1), .long 0]))]) hP hD [1] [0] rfl rfl (by decide) (by decide) hk1 hFc hP1 hD1
  have hP : va_P (dC, dI) vwCl [(rm, .inr (5, [.ref lk, .ref th, .ref pl, .ref gm, .int 0, .int 0, .int 1, .int (-1), .int 1, .int 0, .int 0, .int 0])), (gm, .inr (2, [.int 1, .int 0, .int 0, .int 0, .int 0, .int (-1), .long 0]))] H1 := hP
  have hD : va_D A [(rm, .inr (5, [.ref lk, .ref th, .ref pl, .ref gm, .int 0, .int 0, .int 1, .int (-1), .int 1, .int 0, .int 0, .int 0])), (gm, .inr (2, [.int 1, .int 0, .int 0, .int 0, .int 0, .int (-1), .long 0]))] := hD
  refine lv_aload_n hx hb dX3_startGame_7 rfl (lv_at hl 0 rfl) ?_
  refine lv_dup hx hb dX3_startGame_8 rfl ?_
  refine va_get (D := (dC, dI)) (ci := 5) (v := .int 0) (C := RX3) (T := TX3) (N := 12) hx hb hts zi_X3_startGame_X3 hown hK hP 0 rfl rfl 10 (by decide) (hts (.fieldLink RX3 72 "LockRooms$Room" "coins" "I") (by decide +kernel)) (fun _ h9 => h9) rfl dX3_startGame_9 ?_
  refine lv_bipush (v := 18) hx hb dX3_startGame_12 (by decide) ?_
  refine lv_aload_n hx hb dX3_startGame_14 rfl (lv_at hl 0 rfl) ?_
  refine va_get (D := (dC, dI)) (ci := 5) (v := .int 1) (C := RX3) (T := TX3) (N := 12) hx hb hts zi_X3_startGame_X3 hown hK hP 0 rfl rfl 6 (by decide) (hts (.fieldLink RX3 60 "LockRooms$Room" "playerCount" "I") (by decide +kernel)) (fun _ h9 => h9) rfl dX3_startGame_15 ?_
  refine lv_imul hx hb dX3_startGame_18 ?_
  refine zo_i (v := 18) (by decide) ?_
  refine lv_iadd hx hb dX3_startGame_19 ?_
  refine zo_i (v := 18) (by decide) ?_
  refine va_put (D := (dC, dI)) (ci := 5) (v := .int 18) (ty := .int) (C := RX3) (T := TX3) (N := 12) hx hb hts zi_X3_startGame_X3 tyX3 tyX3_ok nmX3 hown hK hP hD hS 0 rfl rfl 10 (by decide) (hts (.fieldLink RX3 72 "LockRooms$Room" "coins" "I") (by decide +kernel)) (fun _ h9 => h9) rfl (by decide +kernel) rfl rfl (Nat.le_of_ble_eq_true rfl) dX3_startGame_20 (fun H4 locs hP hD hS => ?_)
  have hP : va_P (dC, dI) vwCl [(rm, .inr (5, [.ref lk, .ref th, .ref pl, .ref gm, .int 0, .int 0, .int 1, .int (-1), .int 1, .int 0, .int 18, .int 0])), (gm, .inr (2, [.int 1, .int 0, .int 0, .int 0, .int 0, .int (-1), .long 0]))] H4 := hP
  have hD : va_D A [(rm, .inr (5, [.ref lk, .ref th, .ref pl, .ref gm, .int 0, .int 0, .int 1, .int (-1), .int 1, .int 0, .int 18, .int 0])), (gm, .inr (2, [.int 1, .int 0, .int 0, .int 0, .int 0, .int (-1), .long 0]))] := hD
  refine W.widen (k := 0) (n := 0) (Nat.le_of_ble_eq_true rfl) (Nat.le_of_ble_eq_true rfl) ?_
  have hP9 := hP.sub (ws' := [(rm, .inr (5, [.ref lk, .ref th, .ref pl, .ref gm, .int 0, .int 0, .int 1, .int (-1), .int 1, .int 0, .int 18, .int 0])), (gm, .inr (2, [.int 1, .int 0, .int 0, .int 0, .int 0, .int (-1), .long 0]))]) [0, 1] rfl
  have hD9 := hD.sub (ws' := [(rm, .inr (5, [.ref lk, .ref th, .ref pl, .ref gm, .int 0, .int 0, .int 1, .int (-1), .int 1, .int 0, .int 18, .int 0])), (gm, .inr (2, [.int 1, .int 0, .int 0, .int 0, .int 0, .int (-1), .long 0]))]) [0, 1] (by decide) rfl
  have hK9 := hK.sub (tys' := []) [] rfl
  exact W.vret hx hb hr (fun t ht hW => ⟨⟨(), rfl, trivial, ⟨by rw [ht]; exact hP9, hD9, va_K.moved hW.alike hK9⟩⟩, hS.F ht⟩) hS.2.2 dX3_startGame_23
set_option maxHeartbeats 4000000 in
set_option maxRecDepth 100000 in
theorem cz_RX6_begin (l : Launch) (dC : Nat → ClassId) (dI : Nat → Nat → Nat) (ed sz : Nat) (x : Nat) (rm : Nat) (tr : Nat) (st : Nat) (lk : Nat) (th : Nat) (pl : Nat) (gm : Nat) : Met l yX6_begin wsX6_begin ({ frames := 2, cells := 0, slots := 0, locals := 42 } : Jvm.Room) (va_Pc [.ref x] (zB dC dI ed sz [(x, .inr (8, [.ref rm, .ref tr, .ref st]))] [(rm, .inr (5, [.ref lk, .ref th, .ref pl, .ref gm, .int 0, .int 0, .int 1, .int (-1), .int 1, .int 0, .int 0, .int 0])), (gm, .inr (2, [.int 0, .int 0, .int 0, .int 0, .int 0, .int (-1), .long 0]))] [])) (va_Qi (fun (r : Int32) (_ : Unit) => r = 1) (fun (_ : Unit) (t : State) => va_P (dC, dI) vwCl [(rm, .inr (5, [.ref lk, .ref th, .ref pl, .ref gm, .int 0, .int 0, .int 1, .int (-1), .int 1, .int 0, .int 18, .int 0])), (gm, .inr (2, [.int 1, .int 0, .int 0, .int 0, .int 0, .int (-1), .long 0]))] t.heap ∧ va_D (va_A [(rm, .inr (5, [.ref lk, .ref th, .ref pl, .ref gm, .int 0, .int 0, .int 1, .int (-1), .int 1, .int 0, .int 0, .int 0])), (gm, .inr (2, [.int 0, .int 0, .int 0, .int 0, .int 0, .int (-1), .long 0]))] sz) [(rm, .inr (5, [.ref lk, .ref th, .ref pl, .ref gm, .int 0, .int 0, .int 1, .int (-1), .int 1, .int 0, .int 18, .int 0])), (gm, .inr (2, [.int 1, .int 0, .int 0, .int 0, .int 0, .int (-1), .long 0]))] ∧ va_K (dC, dI) vwCl [] t) (va_A [(rm, .inr (5, [.ref lk, .ref th, .ref pl, .ref gm, .int 0, .int 0, .int 1, .int (-1), .int 1, .int 0, .int 0, .int 0])), (gm, .inr (2, [.int 0, .int 0, .int 0, .int 0, .int 0, .int (-1), .long 0]))] sz)) 0 0 (va_A [(rm, .inr (5, [.ref lk, .ref th, .ref pl, .ref gm, .int 0, .int 0, .int 1, .int (-1), .int 1, .int 0, .int 0, .int 0])), (gm, .inr (2, [.int 0, .int 0, .int 0, .int 0, .int 0, .int (-1), .long 0]))] sz) := by
  refine Met.ofW (cc := cX6_begin) (maxL := 1) (ret := (some .int)) (by decide) rfl ?_
  intro p e s m args below meth c s₁ B hml hv
  obtain ⟨rfl, hsz, hR0, hP, hK, hD0, hN, hH, hX0⟩ := hv
  have hx := B.exec
  have hb := B.bytes
  have hr := B.returns
  have hts := atoms_spec (ws := wsX6_begin) B.pre
  have hown : s.vm.findClass RX6 = some m.cls := findClass_of_methodNamed B.named
  have hlocks := B.notSynchronized
  subst hsz
  have hD := hD0.self (sz := s.heap.size)
  have hAr := zx_A hX0 hR0
  generalize hAe : va_A [(rm, .inr (5, [.ref lk, .ref th, .ref pl, .ref gm, .int 0, .int 0, .int 1, .int (-1), .int 1, .int 0, .int 0, .int 0])), (gm, .inr (2, [.int 0, .int 0, .int 0, .int 0, .int 0, .int (-1), .long 0]))] s.heap.size = A at hD hAr hH ⊢
  have hA : ∀ q : Nat, s.heap.size ≤ q → A q := fun q h => by rw [← hAe]; exact Or.inr h
  have hS : va_S A s.heap s.heap [] := va_S.rf
  have hl := lv_entry ([.ref x]) (n := 1) (Nat.le_of_ble_eq_true rfl)
  rw [lg_entry_eq]
  generalize (lg_sl ([.ref x]) ++ List.replicate (1 - (lg_sl ([.ref x])).length) Slot.unset).toArray = ls at hl ⊢
  have hl : lv_has ls 1 [(0, .ref x)] := hl
  refine lv_aload_n hx hb dX6_begin_0 rfl (lv_at hl 0 rfl) ?_
  refine va_get (D := (dC, dI)) (ci := 8) (v := .ref rm) (C := RX6) (T := TX6) (N := 3) hx hb hts zi_X6_begin_X6 hown hK hR0 0 rfl rfl 0 (by decide) (hts (.fieldLink RX6 12 "LockRooms" "room" "LLockRooms$Room;") (by decide +kernel)) (fun _ h9 => h9) rfl dX6_begin_1 ?_
  refine va_get (D := (dC, dI)) (ci := 5) (v := .ref gm) (C := RX3) (T := TX3) (N := 12) hx hb hts zi_X6_begin_X3 hown hK hP 0 rfl rfl 3 (by decide) (hts (.fieldLink RX6 41 "LockRooms$Room" "games" "LLockRooms$Games;") (by decide +kernel)) (fun _ h9 => h9) rfl dX6_begin_4 ?_
  refine va_get (D := (dC, dI)) (ci := 2) (v := .int 0) (C := RX0) (T := TX0) (N := 7) hx hb hts zi_X6_begin_X0 hown hK hP 1 rfl rfl 0 (by decide) (hts (.fieldLink RX6 45 "LockRooms$Games" "isRunning" "Z") (by decide +kernel)) (fun _ h9 => h9) rfl dX6_begin_7 ?_
  refine lv_if_ne (tgt := 33) hx hb dX6_begin_10 (by decide) (fun h => absurd h (by decide)) (fun _ => ?_)
  refine lv_aload_n hx hb dX6_begin_13 rfl (lv_at hl 0 rfl) ?_
  refine va_get (D := (dC, dI)) (ci := 8) (v := .ref rm) (C := RX6) (T := TX6) (N := 3) hx hb hts zi_X6_begin_X6 hown hK hR0 0 rfl rfl 0 (by decide) (hts (.fieldLink RX6 12 "LockRooms" "room" "LLockRooms$Room;") (by decide +kernel)) (fun _ h9 => h9) rfl dX6_begin_14 ?_
  refine va_get (D := (dC, dI)) (ci := 5) (v := .int 1) (C := RX3) (T := TX3) (N := 12) hx hb hts zi_X6_begin_X3 hown hK hP 0 rfl rfl 6 (by decide) (hts (.fieldLink RX6 82 "LockRooms$Room" "playerCount" "I") (by decide +kernel)) (fun _ h9 => h9) rfl dX6_begin_17 ?_
  refine lv_if_eq (tgt := 33) hx hb dX6_begin_20 (by decide) (fun h => absurd h (by decide)) (fun _ => ?_)
  refine lv_aload_n hx hb dX6_begin_23 rfl (lv_at hl 0 rfl) ?_
  refine va_get (D := (dC, dI)) (ci := 8) (v := .ref rm) (C := RX6) (T := TX6) (N := 3) hx hb hts zi_X6_begin_X6 hown hK hR0 0 rfl rfl 0 (by decide) (hts (.fieldLink RX6 12 "LockRooms" "room" "LLockRooms$Room;") (by decide +kernel)) (fun _ h9 => h9) rfl dX6_begin_24 ?_
  have hPr := (hP).sub (ws' := [(rm, .inr (5, [.ref lk, .ref th, .ref pl, .ref gm, .int 0, .int 0, .int 1, .int (-1), .int 1, .int 0, .int 0, .int 0]))]) [0] rfl
  have hPc := hP.sub (ws' := []) [] rfl
  have hDc := hD.sub (ws' := []) [] (by decide) rfl
  have hKc := hK.sub (tys' := []) [] rfl
  have hFc := va_free (wc := []) hD hS hA [] rfl
  refine va_calli (va_runV (As := []) (rest := []) ⟨hx, hb, hml, hown, hts⟩ (cz_RisExitOpen l dC dI ed s.heap.size rm lk th pl gm 1 1 0 0 0) (cwV 0 hts gX6_begin_X3_isExitOpen rfl rfl rfl (by decide +kernel) ⟨Nat.le_of_ble_eq_true rfl, Nat.le_of_ble_eq_true rfl⟩) ⟨zb_blind, va_recv hK hP (ci := 5) (q0 := 0) rfl rfl, fun U hU hW => ⟨rfl, zb_mk hU hW hPr hPc hKc hDc hN hH hS hFc zx_e⟩⟩ rfl rfl hl.1 rfl (lv_room (Nat.le_of_ble_eq_true rfl)) dX6_begin_27 ⟨Nat.le_of_ble_eq_true rfl, Nat.le_of_ble_eq_true rfl⟩) hS (fun q _ h => hFc q h) hFc (fun r2 u t H1 locs ht hvm hw hB hz1 hk1 hS => ?_)
  obtain rfl : r2 = 0 := hw
  have hP := zo_K hP hk1
  refine lv_if_eq (tgt := 43) hx hb dX6_begin_30 (by decide) (fun _ => ?_) (fun h => absurd h (by decide))
  refine lv_aload_n hx hb dX6_begin_43 rfl (lv_at hl 0 rfl) ?_
  refine va_get (D := (dC, dI)) (ci := 8) (v := .ref rm) (C := RX6) (T := TX6) (N := 3) hx hb hts zi_X6_begin_X6 hown hK (zo_R hR0 hS hAr) 0 rfl rfl 0 (by decide) (hts (.fieldLink RX6 12 "LockRooms" "room" "LLockRooms$Room;") (by decide +kernel)) (fun _ h9 => h9) rfl dX6_begin_44 ?_
  have hPr := (zo_nil : va_P (dC, dI) vwCl [] H1)
  have hPc := hP.sub (ws' := [(rm, .inr (5, [.ref lk, .ref th, .ref pl, .ref gm, .int 0, .int 0, .int 1, .int (-1), .int 1, .int 0, .int 0, .int 0])), (gm, .inr (2, [.int 0, .int 0, .int 0, .int 0, .int 0, .int (-1), .long 0]))]) [0, 1] rfl
  have hDc := hD.sub (ws' := [(rm, .inr (5, [.ref lk, .ref th, .ref pl, .ref gm, .int 0, .int 0, .int 1, .int (-1), .int 1, .int 0, .int 0, .int 0])), (gm, .inr (2, [.int 0, .int 0, .int 0, .int 0, .int 0, .int (-1), .long 0]))]) [0, 1] (by decide) rfl
  have hKc := hK.sub (tys' := []) [] rfl
  have hFc := va_free (wc := [(rm, .inr (5, [.ref lk, .ref th, .ref pl, .ref gm, .int 0, .int 0, .int 1, .int (-1), .int 1, .int 0, .int 0, .int 0])), (gm, .inr (2, [.int 0, .int 0, .int 0, .int 0, .int 0, .int (-1), .long 0]))]) hD hS hA [0, 1] rfl
  refine va_callv (va_runV (As := []) (rest := []) ⟨hx, hb, hml, hown, hts⟩ (cz_RstartGame l dC dI ed H1.size rm lk th pl gm) (cwV 0 hts gX6_begin_X3_startGame rfl rfl rfl (by decide +kernel) ⟨Nat.le_of_ble_eq_true rfl, Nat.le_of_ble_eq_true rfl⟩) ⟨zb_blind, va_recv hK hP (ci := 5) (q0 := 0) rfl rfl, fun U hU hW => ⟨rfl, zb_mk hU hW hPr hPc hKc hDc hN hH hS hFc zx_nil⟩⟩ rfl rfl hl.1 rfl (lv_room (Nat.le_of_ble_eq_true rfl)) dX6_begin_47 ⟨Nat.le_of_ble_eq_true rfl, Nat.le_of_ble_eq_true rfl⟩) hS (fun q _ h => hFc q h) hFc (fun u t H3 locs ht hvm hw hB hz1 hk1 hS => ?_)
  obtain ⟨hP1, hD1, hK1⟩ := hB
  rw [ht] at hP1
  obtain ⟨hP, hD⟩ := va_join (wr := []) (w1 := [(rm, .inr (5, [.ref lk, .ref th, .ref pl, .ref gm, .int 0, .int 0, .int 1, .int (-1), .int 1, .int 0, .int 18, .int 0])), (gm, .inr (2, [.int 1, .int 0, .int 0, .int 0, .int 0, .int (-1), .long 0]))]) hP hD [0, 1] [] rfl rfl (by decide) (by decide) hk1 hFc hP1 hD1
  have hP : va_P (dC, dI) vwCl [(rm, .inr (5, [.ref lk, .ref th, .ref pl, .ref gm, .int 0, .int 0, .int 1, .int (-1), .int 1, .int 0, .int 18, .int 0])), (gm, .inr (2, [.int 1, .int 0, .int 0, .int 0, .int 0, .int (-1), .long 0]))] H3 := hP
  have hD : va_D A [(rm, .inr (5, [.ref lk, .ref th, .ref pl, .ref gm, .int 0, .int 0, .int 1, .int (-1), .int 1, .int 0, .int 18, .int 0])), (gm, .inr (2, [.int 1, .int 0, .int 0, .int 0, .int 0, .int (-1), .long 0]))] := hD
  refine lv_aload_n hx hb dX6_begin_50 rfl (lv_at hl 0 rfl) ?_
  refine va_get (D := (dC, dI)) (ci := 8) (v := .ref rm) (C := RX6) (T := TX6) (N := 3) hx hb hts zi_X6_begin_X6 hown hK (zo_R hR0 hS hAr) 0 rfl rfl 0 (by decide) (hts (.fieldLink RX6 12 "LockRooms" "room" "LLockRooms$Room;") (by decide +kernel)) (fun _ h9 => h9) rfl dX6_begin_51 ?_
  refine va_get (D := (dC, dI)) (ci := 5) (v := .int 1) (C := RX3) (T := TX3) (N := 12) hx hb hts zi_X6_begin_X3 hown hK hP 0 rfl rfl 6 (by decide) (hts (.fieldLink RX6 82 "LockRooms$Room" "playerCount" "I") (by decide +kernel)) (fun _ h9 => h9) rfl dX6_begin_54 ?_
  refine W.widen (k := 0) (n := 0) (Nat.le_of_ble_eq_true rfl) (Nat.le_of_ble_eq_true rfl) ?_
  have hP9 := hP.sub (ws' := [(rm, .inr (5, [.ref lk, .ref th, .ref pl, .ref gm, .int 0, .int 0, .int 1, .int (-1), .int 1, .int 0, .int 18, .int 0])), (gm, .inr (2, [.int 1, .int 0, .int 0, .int 0, .int 0, .int (-1), .long 0]))]) [0, 1] rfl
  have hD9 := hD.sub (ws' := [(rm, .inr (5, [.ref lk, .ref th, .ref pl, .ref gm, .int 0, .int 0, .int 1, .int (-1), .int 1, .int 0, .int 18, .int 0])), (gm, .inr (2, [.int 1, .int 0, .int 0, .int 0, .int 0, .int (-1), .long 0]))]) [0, 1] (by decide) rfl
  have hK9 := hK.sub (tys' := []) [] rfl
  exact W.iret hx hb hr (fun t ht hW => ⟨⟨1, (), rfl, rfl, ⟨by rw [ht]; exact hP9, hD9, va_K.moved hW.alike hK9⟩⟩, hS.F ht⟩) hS.2.2 dX6_begin_57
set_option maxRecDepth 20000 in
theorem zi_X2_copyFrom_X2 : ∀ w ∈ u_ws RX2 TX2 4, w ∈ wsX2_copyFrom := by decide +kernel
set_option maxHeartbeats 4000000 in
set_option maxRecDepth 100000 in
theorem cz_R2copyFrom (l : Launch) (dC : Nat → ClassId) (dI : Nat → Nat → Nat) (ed sz : Nat) (tp0 : Nat) (p0 : Nat) (z0 : Int32) (z1 : Int32) (z2 : Int32) (z3 : Int32) : Met l yX2_copyFrom wsX2_copyFrom ({ frames := 0, cells := 0, slots := 0, locals := 0 } : Jvm.Room) (va_Pc [.ref tp0, .ref p0] (zB dC dI ed sz [(p0, .inr (4, [.int 1, .int (-1), .int (-1), .int 0]))] [(tp0, .inr (4, [.int z0, .int z1, .int z2, .int z3]))] [])) (va_Qv (fun (_ : Unit) => True) (fun (_ : Unit) (t : State) => va_P (dC, dI) vwCl [(tp0, .inr (4, [.int 1, .int (-1), .int (-1), .int 0]))] t.heap ∧ va_D (va_A [(tp0, .inr (4, [.int z0, .int z1, .int z2, .int z3]))] sz) [(tp0, .inr (4, [.int 1, .int (-1), .int (-1), .int 0]))] ∧ va_K (dC, dI) vwCl [] t) (va_A [(tp0, .inr (4, [.int z0, .int z1, .int z2, .int z3]))] sz)) 0 0 (va_A [(tp0, .inr (4, [.int z0, .int z1, .int z2, .int z3]))] sz) := by
  refine Met.ofW (cc := cX2_copyFrom) (maxL := 2) (ret := none) (by decide) rfl ?_
  intro p e s m args below meth c s₁ B hml hv
  obtain ⟨rfl, hsz, hR0, hP, hK, hD0, hN, hH, hX0⟩ := hv
  have hx := B.exec
  have hb := B.bytes
  have hr := B.returns
  have hts := atoms_spec (ws := wsX2_copyFrom) B.pre
  have hown : s.vm.findClass RX2 = some m.cls := findClass_of_methodNamed B.named
  have hlocks := B.notSynchronized
  subst hsz
  have hD := hD0.self (sz := s.heap.size)
  have hAr := zx_A hX0 hR0
  generalize hAe : va_A [(tp0, .inr (4, [.int z0, .int z1, .int z2, .int z3]))] s.heap.size = A at hD hAr hH ⊢
  have hA : ∀ q : Nat, s.heap.size ≤ q → A q := fun q h => by rw [← hAe]; exact Or.inr h
  have hS : va_S A s.heap s.heap [] := va_S.rf
  have hl := lv_entry ([.ref tp0, .ref p0]) (n := 2) (Nat.le_of_ble_eq_true rfl)
  rw [lg_entry_eq]
  generalize (lg_sl ([.ref tp0, .ref p0]) ++ List.replicate (2 - (lg_sl ([.ref tp0, .ref p0])).length) Slot.unset).toArray = ls at hl ⊢
  have hl : lv_has ls 2 [(0, .ref tp0), (1, .ref p0)] := hl
  refine lv_aload_n hx hb dX2_copyFrom_0 rfl (lv_at hl 0 rfl) ?_
  refine lv_aload_n hx hb dX2_copyFrom_1 rfl (lv_at hl 1 rfl) ?_
  refine va_get (D := (dC, dI)) (ci := 4) (v := .int 1) (C := RX2) (T := TX2) (N := 4) hx hb hts zi_X2_copyFrom_X2 hown hK hR0 0 rfl rfl 0 (by decide) (hts (.fieldLink RX2 9 "LockRooms$Player" "skill" "I") (by decide +kernel)) (fun _ h9 => h9) rfl dX2_copyFrom_2 ?_
  refine va_put (D := (dC, dI)) (ci := 4) (v := .int 1) (ty := .int) (C := RX2) (T := TX2) (N := 4) hx hb hts zi_X2_copyFrom_X2 tyX2 tyX2_ok nmX2 hown hK hP hD hS 0 rfl rfl 0 (by decide) (hts (.fieldLink RX2 9 "LockRooms$Player" "skill" "I") (by decide +kernel)) (fun _ h9 => h9) rfl (by decide +kernel) rfl rfl (Nat.le_of_ble_eq_true rfl) dX2_copyFrom_5 (fun H1 locs hP hD hS => ?_)
  have hP : va_P (dC, dI) vwCl [(tp0, .inr (4, [.int 1, .int z1, .int z2, .int z3]))] H1 := hP
  have hD : va_D A [(tp0, .inr (4, [.int 1, .int z1, .int z2, .int z3]))] := hD
  refine lv_aload_n hx hb dX2_copyFrom_8 rfl (lv_at hl 0 rfl) ?_
  refine lv_aload_n hx hb dX2_copyFrom_9 rfl (lv_at hl 1 rfl) ?_
  refine va_get (D := (dC, dI)) (ci := 4) (v := .int (-1)) (C := RX2) (T := TX2) (N := 4) hx hb hts zi_X2_copyFrom_X2 hown hK (zo_R hR0 hS hAr) 0 rfl rfl 1 (by decide) (hts (.fieldLink RX2 21 "LockRooms$Player" "atLock" "I") (by decide +kernel)) (fun _ h9 => h9) rfl dX2_copyFrom_10 ?_
  refine va_put (D := (dC, dI)) (ci := 4) (v := .int (-1)) (ty := .int) (C := RX2) (T := TX2) (N := 4) hx hb hts zi_X2_copyFrom_X2 tyX2 tyX2_ok nmX2 hown hK hP hD hS 0 rfl rfl 1 (by decide) (hts (.fieldLink RX2 21 "LockRooms$Player" "atLock" "I") (by decide +kernel)) (fun _ h9 => h9) rfl (by decide +kernel) rfl rfl (Nat.le_of_ble_eq_true rfl) dX2_copyFrom_13 (fun H2 locs hP hD hS => ?_)
  have hP : va_P (dC, dI) vwCl [(tp0, .inr (4, [.int 1, .int (-1), .int z2, .int z3]))] H2 := hP
  have hD : va_D A [(tp0, .inr (4, [.int 1, .int (-1), .int z2, .int z3]))] := hD
  refine lv_aload_n hx hb dX2_copyFrom_16 rfl (lv_at hl 0 rfl) ?_
  refine lv_aload_n hx hb dX2_copyFrom_17 rfl (lv_at hl 1 rfl) ?_
  refine va_get (D := (dC, dI)) (ci := 4) (v := .int (-1)) (C := RX2) (T := TX2) (N := 4) hx hb hts zi_X2_copyFrom_X2 hown hK (zo_R hR0 hS hAr) 0 rfl rfl 2 (by decide) (hts (.fieldLink RX2 24 "LockRooms$Player" "atThing" "I") (by decide +kernel)) (fun _ h9 => h9) rfl dX2_copyFrom_18 ?_
  refine va_put (D := (dC, dI)) (ci := 4) (v := .int (-1)) (ty := .int) (C := RX2) (T := TX2) (N := 4) hx hb hts zi_X2_copyFrom_X2 tyX2 tyX2_ok nmX2 hown hK hP hD hS 0 rfl rfl 2 (by decide) (hts (.fieldLink RX2 24 "LockRooms$Player" "atThing" "I") (by decide +kernel)) (fun _ h9 => h9) rfl (by decide +kernel) rfl rfl (Nat.le_of_ble_eq_true rfl) dX2_copyFrom_21 (fun H3 locs hP hD hS => ?_)
  have hP : va_P (dC, dI) vwCl [(tp0, .inr (4, [.int 1, .int (-1), .int (-1), .int z3]))] H3 := hP
  have hD : va_D A [(tp0, .inr (4, [.int 1, .int (-1), .int (-1), .int z3]))] := hD
  refine lv_aload_n hx hb dX2_copyFrom_24 rfl (lv_at hl 0 rfl) ?_
  refine lv_aload_n hx hb dX2_copyFrom_25 rfl (lv_at hl 1 rfl) ?_
  refine va_get (D := (dC, dI)) (ci := 4) (v := .int 0) (C := RX2) (T := TX2) (N := 4) hx hb hts zi_X2_copyFrom_X2 hown hK (zo_R hR0 hS hAr) 0 rfl rfl 3 (by decide) (hts (.fieldLink RX2 15 "LockRooms$Player" "idled" "I") (by decide +kernel)) (fun _ h9 => h9) rfl dX2_copyFrom_26 ?_
  refine va_put (D := (dC, dI)) (ci := 4) (v := .int 0) (ty := .int) (C := RX2) (T := TX2) (N := 4) hx hb hts zi_X2_copyFrom_X2 tyX2 tyX2_ok nmX2 hown hK hP hD hS 0 rfl rfl 3 (by decide) (hts (.fieldLink RX2 15 "LockRooms$Player" "idled" "I") (by decide +kernel)) (fun _ h9 => h9) rfl (by decide +kernel) rfl rfl (Nat.le_of_ble_eq_true rfl) dX2_copyFrom_29 (fun H4 locs hP hD hS => ?_)
  have hP : va_P (dC, dI) vwCl [(tp0, .inr (4, [.int 1, .int (-1), .int (-1), .int 0]))] H4 := hP
  have hD : va_D A [(tp0, .inr (4, [.int 1, .int (-1), .int (-1), .int 0]))] := hD
  refine W.widen (k := 0) (n := 0) (Nat.le_of_ble_eq_true rfl) (Nat.le_of_ble_eq_true rfl) ?_
  have hP9 := hP.sub (ws' := [(tp0, .inr (4, [.int 1, .int (-1), .int (-1), .int 0]))]) [0] rfl
  have hD9 := hD.sub (ws' := [(tp0, .inr (4, [.int 1, .int (-1), .int (-1), .int 0]))]) [0] (by decide) rfl
  have hK9 := hK.sub (tys' := []) [] rfl
  exact W.vret hx hb hr (fun t ht hW => ⟨⟨(), rfl, trivial, ⟨by rw [ht]; exact hP9, hD9, va_K.moved hW.alike hK9⟩⟩, hS.F ht⟩) hS.2.2 dX2_copyFrom_32
set_option maxRecDepth 20000 in
theorem zi_X0_copyFrom_X0 : ∀ w ∈ u_ws RX0 TX0 7, w ∈ wsX0_copyFrom := by decide +kernel
set_option maxHeartbeats 4000000 in
set_option maxRecDepth 100000 in
theorem cz_R0copyFrom (l : Launch) (dC : Nat → ClassId) (dI : Nat → Nat → Nat) (ed sz : Nat) (tgm : Nat) (gm : Nat) (z0 : Int32) (z1 : Int32) (z2 : Int32) (z3 : Int32) (z4 : Int32) (z5 : Int32) (z6 : Int64) : Met l yX0_copyFrom wsX0_copyFrom ({ frames := 0, cells := 0, slots := 0, locals := 0 } : Jvm.Room) (va_Pc [.ref tgm, .ref gm] (zB dC dI ed sz [(gm, .inr (2, [.int 1, .int 0, .int 0, .int 0, .int 0, .int (-1), .long 0]))] [(tgm, .inr (2, [.int z0, .int z1, .int z2, .int z3, .int z4, .int z5, .long z6]))] [])) (va_Qv (fun (_ : Unit) => True) (fun (_ : Unit) (t : State) => va_P (dC, dI) vwCl [(tgm, .inr (2, [.int 1, .int 0, .int 0, .int 0, .int 0, .int (-1), .long 0]))] t.heap ∧ va_D (va_A [(tgm, .inr (2, [.int z0, .int z1, .int z2, .int z3, .int z4, .int z5, .long z6]))] sz) [(tgm, .inr (2, [.int 1, .int 0, .int 0, .int 0, .int 0, .int (-1), .long 0]))] ∧ va_K (dC, dI) vwCl [] t) (va_A [(tgm, .inr (2, [.int z0, .int z1, .int z2, .int z3, .int z4, .int z5, .long z6]))] sz)) 0 0 (va_A [(tgm, .inr (2, [.int z0, .int z1, .int z2, .int z3, .int z4, .int z5, .long z6]))] sz) := by
  refine Met.ofW (cc := cX0_copyFrom) (maxL := 2) (ret := none) (by decide) rfl ?_
  intro p e s m args below meth c s₁ B hml hv
  obtain ⟨rfl, hsz, hR0, hP, hK, hD0, hN, hH, hX0⟩ := hv
  have hx := B.exec
  have hb := B.bytes
  have hr := B.returns
  have hts := atoms_spec (ws := wsX0_copyFrom) B.pre
  have hown : s.vm.findClass RX0 = some m.cls := findClass_of_methodNamed B.named
  have hlocks := B.notSynchronized
  subst hsz
  have hD := hD0.self (sz := s.heap.size)
  have hAr := zx_A hX0 hR0
  generalize hAe : va_A [(tgm, .inr (2, [.int z0, .int z1, .int z2, .int z3, .int z4, .int z5, .long z6]))] s.heap.size = A at hD hAr hH ⊢
  have hA : ∀ q : Nat, s.heap.size ≤ q → A q := fun q h => by rw [← hAe]; exact Or.inr h
  have hS : va_S A s.heap s.heap [] := va_S.rf
  have hl := lv_entry ([.ref tgm, .ref gm]) (n := 2) (Nat.le_of_ble_eq_true rfl)
  rw [lg_entry_eq]
  generalize (lg_sl ([.ref tgm, .ref gm]) ++ List.replicate (2 - (lg_sl ([.ref tgm, .ref gm])).length) Slot.unset).toArray = ls at hl ⊢
  have hl : lv_has ls 2 [(0, .ref tgm), (1, .ref gm)] := hl
  refine lv_aload_n hx hb dX0_copyFrom_0 rfl (lv_at hl 0 rfl) ?_
  refine lv_aload_n hx hb dX0_copyFrom_1 rfl (lv_at hl 1 rfl) ?_
  refine va_get (D := (dC, dI)) (ci := 2) (v := .int 1) (C := RX0) (T := TX0) (N := 7) hx hb hts zi_X0_copyFrom_X0 hown hK hR0 0 rfl rfl 0 (by decide) (hts (.fieldLink RX0 15 "LockRooms$Games" "isRunning" "Z") (by decide +kernel)) (fun _ h9 => h9) rfl dX0_copyFrom_2 ?_
  refine va_put (D := (dC, dI)) (ci := 2) (v := .int 1) (ty := .boolean) (C := RX0) (T := TX0) (N := 7) hx hb hts zi_X0_copyFrom_X0 tyX0 tyX0_ok nmX0 hown hK hP hD hS 0 rfl rfl 0 (by decide) (hts (.fieldLink RX0 15 "LockRooms$Games" "isRunning" "Z") (by decide +kernel)) (fun _ h9 => h9) rfl (by decide +kernel) (by decide) (by decide) (Nat.le_of_ble_eq_true rfl) dX0_copyFrom_5 (fun H1 locs hP hD hS => ?_)
  have hP : va_P (dC, dI) vwCl [(tgm, .inr (2, [.int 1, .int z1, .int z2, .int z3, .int z4, .int z5, .long z6]))] H1 := hP
  have hD : va_D A [(tgm, .inr (2, [.int 1, .int z1, .int z2, .int z3, .int z4, .int z5, .long z6]))] := hD
  refine lv_aload_n hx hb dX0_copyFrom_8 rfl (lv_at hl 0 rfl) ?_
  refine lv_aload_n hx hb dX0_copyFrom_9 rfl (lv_at hl 1 rfl) ?_
  refine va_get (D := (dC, dI)) (ci := 2) (v := .int 0) (C := RX0) (T := TX0) (N := 7) hx hb hts zi_X0_copyFrom_X0 hown hK (zo_R hR0 hS hAr) 0 rfl rfl 1 (by decide) (hts (.fieldLink RX0 19 "LockRooms$Games" "time" "I") (by decide +kernel)) (fun _ h9 => h9) rfl dX0_copyFrom_10 ?_
  refine va_put (D := (dC, dI)) (ci := 2) (v := .int 0) (ty := .int) (C := RX0) (T := TX0) (N := 7) hx hb hts zi_X0_copyFrom_X0 tyX0 tyX0_ok nmX0 hown hK hP hD hS 0 rfl rfl 1 (by decide) (hts (.fieldLink RX0 19 "LockRooms$Games" "time" "I") (by decide +kernel)) (fun _ h9 => h9) rfl (by decide +kernel) rfl rfl (Nat.le_of_ble_eq_true rfl) dX0_copyFrom_13 (fun H2 locs hP hD hS => ?_)
  have hP : va_P (dC, dI) vwCl [(tgm, .inr (2, [.int 1, .int 0, .int z2, .int z3, .int z4, .int z5, .long z6]))] H2 := hP
  have hD : va_D A [(tgm, .inr (2, [.int 1, .int 0, .int z2, .int z3, .int z4, .int z5, .long z6]))] := hD
  refine lv_aload_n hx hb dX0_copyFrom_16 rfl (lv_at hl 0 rfl) ?_
  refine lv_aload_n hx hb dX0_copyFrom_17 rfl (lv_at hl 1 rfl) ?_
  refine va_get (D := (dC, dI)) (ci := 2) (v := .int 0) (C := RX0) (T := TX0) (N := 7) hx hb hts zi_X0_copyFrom_X0 hown hK (zo_R hR0 hS hAr) 0 rfl rfl 2 (by decide) (hts (.fieldLink RX0 22 "LockRooms$Games" "hints" "I") (by decide +kernel)) (fun _ h9 => h9) rfl dX0_copyFrom_18 ?_
  refine va_put (D := (dC, dI)) (ci := 2) (v := .int 0) (ty := .int) (C := RX0) (T := TX0) (N := 7) hx hb hts zi_X0_copyFrom_X0 tyX0 tyX0_ok nmX0 hown hK hP hD hS 0 rfl rfl 2 (by decide) (hts (.fieldLink RX0 22 "LockRooms$Games" "hints" "I") (by decide +kernel)) (fun _ h9 => h9) rfl (by decide +kernel) rfl rfl (Nat.le_of_ble_eq_true rfl) dX0_copyFrom_21 (fun H3 locs hP hD hS => ?_)
  have hP : va_P (dC, dI) vwCl [(tgm, .inr (2, [.int 1, .int 0, .int 0, .int z3, .int z4, .int z5, .long z6]))] H3 := hP
  have hD : va_D A [(tgm, .inr (2, [.int 1, .int 0, .int 0, .int z3, .int z4, .int z5, .long z6]))] := hD
  refine lv_aload_n hx hb dX0_copyFrom_24 rfl (lv_at hl 0 rfl) ?_
  refine lv_aload_n hx hb dX0_copyFrom_25 rfl (lv_at hl 1 rfl) ?_
  refine va_get (D := (dC, dI)) (ci := 2) (v := .int 0) (C := RX0) (T := TX0) (N := 7) hx hb hts zi_X0_copyFrom_X0 hown hK (zo_R hR0 hS hAr) 0 rfl rfl 3 (by decide) (hts (.fieldLink RX0 25 "LockRooms$Games" "solved" "I") (by decide +kernel)) (fun _ h9 => h9) rfl dX0_copyFrom_26 ?_
  refine va_put (D := (dC, dI)) (ci := 2) (v := .int 0) (ty := .int) (C := RX0) (T := TX0) (N := 7) hx hb hts zi_X0_copyFrom_X0 tyX0 tyX0_ok nmX0 hown hK hP hD hS 0 rfl rfl 3 (by decide) (hts (.fieldLink RX0 25 "LockRooms$Games" "solved" "I") (by decide +kernel)) (fun _ h9 => h9) rfl (by decide +kernel) rfl rfl (Nat.le_of_ble_eq_true rfl) dX0_copyFrom_29 (fun H4 locs hP hD hS => ?_)
  have hP : va_P (dC, dI) vwCl [(tgm, .inr (2, [.int 1, .int 0, .int 0, .int 0, .int z4, .int z5, .long z6]))] H4 := hP
  have hD : va_D A [(tgm, .inr (2, [.int 1, .int 0, .int 0, .int 0, .int z4, .int z5, .long z6]))] := hD
  refine lv_aload_n hx hb dX0_copyFrom_32 rfl (lv_at hl 0 rfl) ?_
  refine lv_aload_n hx hb dX0_copyFrom_33 rfl (lv_at hl 1 rfl) ?_
  refine va_get (D := (dC, dI)) (ci := 2) (v := .int 0) (C := RX0) (T := TX0) (N := 7) hx hb hts zi_X0_copyFrom_X0 hown hK (zo_R hR0 hS hAr) 0 rfl rfl 4 (by decide) (hts (.fieldLink RX0 28 "LockRooms$Games" "lost" "I") (by decide +kernel)) (fun _ h9 => h9) rfl dX0_copyFrom_34 ?_
  refine va_put (D := (dC, dI)) (ci := 2) (v := .int 0) (ty := .int) (C := RX0) (T := TX0) (N := 7) hx hb hts zi_X0_copyFrom_X0 tyX0 tyX0_ok nmX0 hown hK hP hD hS 0 rfl rfl 4 (by decide) (hts (.fieldLink RX0 28 "LockRooms$Games" "lost" "I") (by decide +kernel)) (fun _ h9 => h9) rfl (by decide +kernel) rfl rfl (Nat.le_of_ble_eq_true rfl) dX0_copyFrom_37 (fun H5 locs hP hD hS => ?_)
  have hP : va_P (dC, dI) vwCl [(tgm, .inr (2, [.int 1, .int 0, .int 0, .int 0, .int 0, .int z5, .long z6]))] H5 := hP
  have hD : va_D A [(tgm, .inr (2, [.int 1, .int 0, .int 0, .int 0, .int 0, .int z5, .long z6]))] := hD
  refine lv_aload_n hx hb dX0_copyFrom_40 rfl (lv_at hl 0 rfl) ?_
  refine lv_aload_n hx hb dX0_copyFrom_41 rfl (lv_at hl 1 rfl) ?_
  refine va_get (D := (dC, dI)) (ci := 2) (v := .int (-1)) (C := RX0) (T := TX0) (N := 7) hx hb hts zi_X0_copyFrom_X0 hown hK (zo_R hR0 hS hAr) 0 rfl rfl 5 (by decide) (hts (.fieldLink RX0 9 "LockRooms$Games" "record" "I") (by decide +kernel)) (fun _ h9 => h9) rfl dX0_copyFrom_42 ?_
  refine va_put (D := (dC, dI)) (ci := 2) (v := .int (-1)) (ty := .int) (C := RX0) (T := TX0) (N := 7) hx hb hts zi_X0_copyFrom_X0 tyX0 tyX0_ok nmX0 hown hK hP hD hS 0 rfl rfl 5 (by decide) (hts (.fieldLink RX0 9 "LockRooms$Games" "record" "I") (by decide +kernel)) (fun _ h9 => h9) rfl (by decide +kernel) rfl rfl (Nat.le_of_ble_eq_true rfl) dX0_copyFrom_45 (fun H6 locs hP hD hS => ?_)
  have hP : va_P (dC, dI) vwCl [(tgm, .inr (2, [.int 1, .int 0, .int 0, .int 0, .int 0, .int (-1), .long z6]))] H6 := hP
  have hD : va_D A [(tgm, .inr (2, [.int 1, .int 0, .int 0, .int 0, .int 0, .int (-1), .long z6]))] := hD
  refine lv_aload_n hx hb dX0_copyFrom_48 rfl (lv_at hl 0 rfl) ?_
  refine lv_aload_n hx hb dX0_copyFrom_49 rfl (lv_at hl 1 rfl) ?_
  refine va_get (D := (dC, dI)) (ci := 2) (v := .long 0) (C := RX0) (T := TX0) (N := 7) hx hb hts zi_X0_copyFrom_X0 hown hK (zo_R hR0 hS hAr) 0 rfl rfl 6 (by decide) (hts (.fieldLink RX0 31 "LockRooms$Games" "sumOfScores" "J") (by decide +kernel)) (fun _ h9 => h9) rfl dX0_copyFrom_50 ?_
  refine va_put (D := (dC, dI)) (ci := 2) (v := .long 0) (ty := .long) (C := RX0) (T := TX0) (N := 7) hx hb hts zi_X0_copyFrom_X0 tyX0 tyX0_ok nmX0 hown hK hP hD hS 0 rfl rfl 6 (by decide) (hts (.fieldLink RX0 31 "LockRooms$Games" "sumOfScores" "J") (by decide +kernel)) (fun _ h9 => h9) rfl (by decide +kernel) rfl rfl (Nat.le_of_ble_eq_true rfl) dX0_copyFrom_53 (fun H7 locs hP hD hS => ?_)
  have hP : va_P (dC, dI) vwCl [(tgm, .inr (2, [.int 1, .int 0, .int 0, .int 0, .int 0, .int (-1), .long 0]))] H7 := hP
  have hD : va_D A [(tgm, .inr (2, [.int 1, .int 0, .int 0, .int 0, .int 0, .int (-1), .long 0]))] := hD
  refine W.widen (k := 0) (n := 0) (Nat.le_of_ble_eq_true rfl) (Nat.le_of_ble_eq_true rfl) ?_
  have hP9 := hP.sub (ws' := [(tgm, .inr (2, [.int 1, .int 0, .int 0, .int 0, .int 0, .int (-1), .long 0]))]) [0] rfl
  have hD9 := hD.sub (ws' := [(tgm, .inr (2, [.int 1, .int 0, .int 0, .int 0, .int 0, .int (-1), .long 0]))]) [0] (by decide) rfl
  have hK9 := hK.sub (tys' := []) [] rfl
  exact W.vret hx hb hr (fun t ht hW => ⟨⟨(), rfl, trivial, ⟨by rw [ht]; exact hP9, hD9, va_K.moved hW.alike hK9⟩⟩, hS.F ht⟩) hS.2.2 dX0_copyFrom_56
set_option maxRecDepth 20000 in
theorem zi_X3_copyFrom_X3 : ∀ w ∈ u_ws RX3 TX3 12, w ∈ wsX3_copyFrom := by decide +kernel
set_option maxHeartbeats 4000000 in
set_option maxRecDepth 100000 in
theorem cz_R3copyFrom (l : Launch) (dC : Nat → ClassId) (dI : Nat → Nat → Nat) (ed sz : Nat) (tr : Nat) (tlk : Nat) (tth : Nat) (tpl : Nat) (tgm : Nat) (tcP : ClassId) (tfp : Nat → Option Nat) (tp0 : Nat) (rm : Nat) (lk : Nat) (th : Nat) (pl : Nat) (gm : Nat) (cP : ClassId) (fp : Nat → Option Nat) (p0 : Nat) (a4 : Int32) (a5 : Int32) (a6 : Int32) (a7 : Int32) (a8 : Int32) (a9 : Int32) (a10 : Int32) (a11 : Int32) (b0 : Int32) (b1 : Int32) (b2 : Int32) (b3 : Int32) (b4 : Int32) (b5 : Int32) (b6 : Int64) (d0 : Int32) (d1 : Int32) (d2 : Int32) (d3 : Int32) (hkp : fp 0 = some p0) (hkt : tfp 0 = some tp0) : Met l yX3_copyFrom wsX3_copyFrom ({ frames := 1, cells := 0, slots := 0, locals := 21 } : Jvm.Room) (va_Pc [.ref tr, .ref rm] (zB dC dI ed sz [(rm, .inr (5, [.ref lk, .ref th, .ref pl, .ref gm, .int 0, .int 0, .int 1, .int (-1), .int 1, .int 0, .int 18, .int 0])), (gm, .inr (2, [.int 1, .int 0, .int 0, .int 0, .int 0, .int (-1), .long 0])), (p0, .inr (4, [.int 1, .int (-1), .int (-1), .int 0])), (pl, .inl (cP, 6, .inr (.inr (.inr (.inr fp))))), (tpl, .inl (tcP, 6, .inr (.inr (.inr (.inr tfp)))))] [(tr, .inr (5, [.ref tlk, .ref tth, .ref tpl, .ref tgm, .int a4, .int a5, .int a6, .int a7, .int a8, .int a9, .int a10, .int a11])), (tgm, .inr (2, [.int b0, .int b1, .int b2, .int b3, .int b4, .int b5, .long b6])), (tp0, .inr (4, [.int d0, .int d1, .int d2, .int d3]))] [(cP, .object "LockRooms$Player"), (tcP, .object "LockRooms$Player")])) (va_Qv (fun (_ : Unit) => True) (fun (_ : Unit) (t : State) => va_P (dC, dI) vwCl [(tr, .inr (5, [.ref tlk, .ref tth, .ref tpl, .ref tgm, .int 0, .int 0, .int 1, .int (-1), .int 1, .int 0, .int 18, .int 0])), (tgm, .inr (2, [.int 1, .int 0, .int 0, .int 0, .int 0, .int (-1), .long 0])), (tp0, .inr (4, [.int 1, .int (-1), .int (-1), .int 0]))] t.heap ∧ va_D (va_A [(tr, .inr (5, [.ref tlk, .ref tth, .ref tpl, .ref tgm, .int a4, .int a5, .int a6, .int a7, .int a8, .int a9, .int a10, .int a11])), (tgm, .inr (2, [.int b0, .int b1, .int b2, .int b3, .int b4, .int b5, .long b6])), (tp0, .inr (4, [.int d0, .int d1, .int d2, .int d3]))] sz) [(tr, .inr (5, [.ref tlk, .ref tth, .ref tpl, .ref tgm, .int 0, .int 0, .int 1, .int (-1), .int 1, .int 0, .int 18, .int 0])), (tgm, .inr (2, [.int 1, .int 0, .int 0, .int 0, .int 0, .int (-1), .long 0])), (tp0, .inr (4, [.int 1, .int (-1), .int (-1), .int 0]))] ∧ va_K (dC, dI) vwCl [] t) (va_A [(tr, .inr (5, [.ref tlk, .ref tth, .ref tpl, .ref tgm, .int a4, .int a5, .int a6, .int a7, .int a8, .int a9, .int a10, .int a11])), (tgm, .inr (2, [.int b0, .int b1, .int b2, .int b3, .int b4, .int b5, .long b6])), (tp0, .inr (4, [.int d0, .int d1, .int d2, .int d3]))] sz)) 0 0 (va_A [(tr, .inr (5, [.ref tlk, .ref tth, .ref tpl, .ref tgm, .int a4, .int a5, .int a6, .int a7, .int a8, .int a9, .int a10, .int a11])), (tgm, .inr (2, [.int b0, .int b1, .int b2, .int b3, .int b4, .int b5, .long b6])), (tp0, .inr (4, [.int d0, .int d1, .int d2, .int d3]))] sz) := by
  refine Met.ofW (cc := cX3_copyFrom) (maxL := 3) (ret := none) (by decide) rfl ?_
  intro p e s m args below meth c s₁ B hml hv
  obtain ⟨rfl, hsz, hR0, hP, hK, hD0, hN, hH, hX0⟩ := hv
  have hx := B.exec
  have hb := B.bytes
  have hr := B.returns
  have hts := atoms_spec (ws := wsX3_copyFrom) B.pre
  have hown : s.vm.findClass RX3 = some m.cls := findClass_of_methodNamed B.named
  have hlocks := B.notSynchronized
  subst hsz
  have hD := hD0.self (sz := s.heap.size)
  have hAr := zx_A hX0 hR0
  generalize hAe : va_A [(tr, .inr (5, [.ref tlk, .ref tth, .ref tpl, .ref tgm, .int a4, .int a5, .int a6, .int a7, .int a8, .int a9, .int a10, .int a11])), (tgm, .inr (2, [.int b0, .int b1, .int b2, .int b3, .int b4, .int b5, .long b6])), (tp0, .inr (4, [.int d0, .int d1, .int d2, .int d3]))] s.heap.size = A at hD hAr hH ⊢
  have hA : ∀ q : Nat, s.heap.size ≤ q → A q := fun q h => by rw [← hAe]; exact Or.inr h
  have hS : va_S A s.heap s.heap [] := va_S.rf
  have hl := lv_entry ([.ref tr, .ref rm]) (n := 3) (Nat.le_of_ble_eq_true rfl)
  rw [lg_entry_eq]
  generalize (lg_sl ([.ref tr, .ref rm]) ++ List.replicate (3 - (lg_sl ([.ref tr, .ref rm])).length) Slot.unset).toArray = ls at hl ⊢
  have hl : lv_has ls 3 [(0, .ref tr), (1, .ref rm)] := hl
  refine lv_iconst (v := 0) hx hb dX3_copyFrom_0 (by decide) ?_
  refine lv_istore_n (lv' := [(2, .int 0), (0, .ref tr), (1, .ref rm)]) hx hb dX3_copyFrom_1 rfl hl (by decide) rfl (fun ls hl => ?_)
  refine lv_iload_n hx hb dX3_copyFrom_2 rfl (lv_at hl 0 rfl) ?_
  refine lv_aload_n hx hb dX3_copyFrom_3 rfl (lv_at hl 2 rfl) ?_
  refine va_get (D := (dC, dI)) (ci := 5) (v := .int 0) (C := RX3) (T := TX3) (N := 12) hx hb hts zi_X3_copyFrom_X3 hown hK hR0 0 rfl rfl 4 (by decide) (hts (.fieldLink RX3 47 "LockRooms$Room" "lockCount" "I") (by decide +kernel)) (fun _ h9 => h9) rfl dX3_copyFrom_4 ?_
  refine lv_icmp_ge (tgt := 31) hx hb dX3_copyFrom_7 (by decide) (fun _ => ?_) (fun h => absurd h (by decide))
  refine lv_iconst (v := 0) hx hb dX3_copyFrom_31 (by decide) ?_
  refine lv_istore_n (lv' := [(2, .int 0), (0, .ref tr), (1, .ref rm)]) hx hb dX3_copyFrom_32 rfl hl (by decide) rfl (fun ls hl => ?_)
  refine lv_iload_n hx hb dX3_copyFrom_33 rfl (lv_at hl 0 rfl) ?_
  refine lv_aload_n hx hb dX3_copyFrom_34 rfl (lv_at hl 2 rfl) ?_
  refine va_get (D := (dC, dI)) (ci := 5) (v := .int 0) (C := RX3) (T := TX3) (N := 12) hx hb hts zi_X3_copyFrom_X3 hown hK hR0 0 rfl rfl 5 (by decide) (hts (.fieldLink RX3 54 "LockRooms$Room" "thingCount" "I") (by decide +kernel)) (fun _ h9 => h9) rfl dX3_copyFrom_35 ?_
  refine lv_icmp_ge (tgt := 62) hx hb dX3_copyFrom_38 (by decide) (fun _ => ?_) (fun h => absurd h (by decide))
  refine lv_iconst (v := 0) hx hb dX3_copyFrom_62 (by decide) ?_
  refine lv_istore_n (lv' := [(2, .int 0), (0, .ref tr), (1, .ref rm)]) hx hb dX3_copyFrom_63 rfl hl (by decide) rfl (fun ls hl => ?_)
  refine lv_iload_n hx hb dX3_copyFrom_64 rfl (lv_at hl 0 rfl) ?_
  refine lv_aload_n hx hb dX3_copyFrom_65 rfl (lv_at hl 2 rfl) ?_
  refine va_get (D := (dC, dI)) (ci := 5) (v := .int 1) (C := RX3) (T := TX3) (N := 12) hx hb hts zi_X3_copyFrom_X3 hown hK hR0 0 rfl rfl 6 (by decide) (hts (.fieldLink RX3 60 "LockRooms$Room" "playerCount" "I") (by decide +kernel)) (fun _ h9 => h9) rfl dX3_copyFrom_66 ?_
  refine lv_icmp_ge (tgt := 93) hx hb dX3_copyFrom_69 (by decide) (fun h => absurd h (by decide)) (fun _ => ?_)
  refine lv_aload_n hx hb dX3_copyFrom_72 rfl (lv_at hl 1 rfl) ?_
  refine va_get (D := (dC, dI)) (ci := 5) (v := .ref tpl) (C := RX3) (T := TX3) (N := 12) hx hb hts zi_X3_copyFrom_X3 hown hK hP 0 rfl rfl 2 (by decide) (hts (.fieldLink RX3 25 "LockRooms$Room" "players" "[LLockRooms$Player;") (by decide +kernel)) (fun _ h9 => h9) rfl dX3_copyFrom_73 ?_
  refine lv_iload_n hx hb dX3_copyFrom_76 rfl (lv_at hl 0 rfl) ?_
  refine va_aldq hx hb hK hR0 4 1 rfl rfl (by unfold vp_in; decide) dX3_copyFrom_77 ?_
  refine zo_q (v := .ref tp0) (by rw [show Int32.toNatClampNeg 0 = 0 from by decide, hkt]; rfl) ?_
  refine lv_aload_n hx hb dX3_copyFrom_78 rfl (lv_at hl 2 rfl) ?_
  refine va_get (D := (dC, dI)) (ci := 5) (v := .ref pl) (C := RX3) (T := TX3) (N := 12) hx hb hts zi_X3_copyFrom_X3 hown hK hR0 0 rfl rfl 2 (by decide) (hts (.fieldLink RX3 25 "LockRooms$Room" "players" "[LLockRooms$Player;") (by decide +kernel)) (fun _ h9 => h9) rfl dX3_copyFrom_79 ?_
  refine lv_iload_n hx hb dX3_copyFrom_82 rfl (lv_at hl 0 rfl) ?_
  refine va_aldq hx hb hK hR0 3 0 rfl rfl (by unfold vp_in; decide) dX3_copyFrom_83 ?_
  refine zo_q (v := .ref p0) (by rw [show Int32.toNatClampNeg 0 = 0 from by decide, hkp]; rfl) ?_
  have hPr := (hR0).sub (ws' := [(p0, .inr (4, [.int 1, .int (-1), .int (-1), .int 0]))]) [2] rfl
  have hPc := hP.sub (ws' := [(tp0, .inr (4, [.int d0, .int d1, .int d2, .int d3]))]) [2] rfl
  have hDc := hD.sub (ws' := [(tp0, .inr (4, [.int d0, .int d1, .int d2, .int d3]))]) [2] (by decide) rfl
  have hKc := hK.sub (tys' := []) [] rfl
  have hFc := va_free (wc := [(tp0, .inr (4, [.int d0, .int d1, .int d2, .int d3]))]) hD hS hA [2] rfl
  refine va_callv (va_runV (As := [.ref p0]) (rest := []) ⟨hx, hb, hml, hown, hts⟩ (cz_R2copyFrom l dC dI ed s.heap.size tp0 p0 d0 d1 d2 d3) (cwV 1 hts gX3_copyFrom_X2_copyFrom rfl rfl rfl (by decide +kernel) ⟨Nat.le_of_ble_eq_true rfl, Nat.le_of_ble_eq_true rfl⟩) ⟨zb_blind, va_recv hK hP (ci := 4) (q0 := 2) rfl rfl, fun U hU hW => ⟨rfl, zb_mk hU hW hPr hPc hKc hDc hN hH hS hFc (zx_cons (zx_r (hAr _ (List.mem_of_getElem? (i := 2) rfl)) hDc) zx_nil)⟩⟩ rfl rfl hl.1 rfl (lv_room (Nat.le_of_ble_eq_true rfl)) dX3_copyFrom_84 ⟨Nat.le_of_ble_eq_true rfl, Nat.le_of_ble_eq_true rfl⟩) hS (fun q _ h => hFc q h) hFc (fun u t H1 locs ht hvm hw hB hz1 hk1 hS => ?_)
  obtain ⟨hP1, hD1, hK1⟩ := hB
  rw [ht] at hP1
  obtain ⟨hP, hD⟩ := va_join (wr := [(tr, .inr (5, [.ref tlk, .ref tth, .ref tpl, .ref tgm, .int a4, .int a5, .int a6, .int a7, .int a8, .int a9, .int a10, .int a11])), (tgm, .inr (2, [.int b0, .int b1, .int b2, .int b3, .int b4, .int b5, .long b6]))]) (w1 := [(tp0, .inr (4, [.int 1, .int (-1), .int (-1), .int 0]))]) hP hD [2] [0, 1] rfl rfl (by decide) (by decide) hk1 hFc hP1 hD1
  have hP : va_P (dC, dI) vwCl [(tr, .inr (5, [.ref tlk, .ref tth, .ref tpl, .ref tgm, .int a4, .int a5, .int a6, .int a7, .int a8, .int a9, .int a10, .int a11])), (tgm, .inr (2, [.int b0, .int b1, .int b2, .int b3, .int b4, .int b5, .long b6])), (tp0, .inr (4, [.int 1, .int (-1), .int (-1), .int 0]))] H1 := hP
  have hD : va_D A [(tr, .inr (5, [.ref tlk, .ref tth, .ref tpl, .ref tgm, .int a4, .int a5, .int a6, .int a7, .int a8, .int a9, .int a10, .int a11])), (tgm, .inr (2, [.int b0, .int b1, .int b2, .int b3, .int b4, .int b5, .long b6])), (tp0, .inr (4, [.int 1, .int (-1), .int (-1), .int 0]))] := hD
  refine lv_iinc (v := 1) (lv' := [(2, .int 1), (0, .ref tr), (1, .ref rm)]) hx hb dX3_copyFrom_87 hl (k := 0) rfl (by decide) (by decide) rfl (fun ls hl => ?_)
  refine lv_goto (tgt := 64) hx hb dX3_copyFrom_90 (by decide) ?_
  refine lv_iload_n hx hb dX3_copyFrom_64 rfl (lv_at hl 0 rfl) ?_
  refine lv_aload_n hx hb dX3_copyFrom_65 rfl (lv_at hl 2 rfl) ?_
  refine va_get (D := (dC, dI)) (ci := 5) (v := .int 1) (C := RX3) (T := TX3) (N := 12) hx hb hts zi_X3_copyFrom_X3 hown hK (zo_R hR0 hS hAr) 0 rfl rfl 6 (by decide) (hts (.fieldLink RX3 60 "LockRooms$Room" "playerCount" "I") (by decide +kernel)) (fun _ h9 => h9) rfl dX3_copyFrom_66 ?_
  refine lv_icmp_ge (tgt := 93) hx hb dX3_copyFrom_69 (by decide) (fun _ => ?_) (fun h => absurd h (by decide))
  refine lv_aload_n hx hb dX3_copyFrom_93 rfl (lv_at hl 1 rfl) ?_
  refine va_get (D := (dC, dI)) (ci := 5) (v := .ref tgm) (C := RX3) (T := TX3) (N := 12) hx hb hts zi_X3_copyFrom_X3 hown hK hP 0 rfl rfl 3 (by decide) (hts (.fieldLink RX3 32 "LockRooms$Room" "games" "LLockRooms$Games;") (by decide +kernel)) (fun _ h9 => h9) rfl dX3_copyFrom_94 ?_
  refine lv_aload_n hx hb dX3_copyFrom_97 rfl (lv_at hl 2 rfl) ?_
  refine va_get (D := (dC, dI)) (ci := 5) (v := .ref gm) (C := RX3) (T := TX3) (N := 12) hx hb hts zi_X3_copyFrom_X3 hown hK (zo_R hR0 hS hAr) 0 rfl rfl 3 (by decide) (hts (.fieldLink RX3 32 "LockRooms$Room" "games" "LLockRooms$Games;") (by decide +kernel)) (fun _ h9 => h9) rfl dX3_copyFrom_98 ?_
  have hPr := ((zo_R hR0 hS hAr)).sub (ws' := [(gm, .inr (2, [.int 1, .int 0, .int 0, .int 0, .int 0, .int (-1), .long 0]))]) [1] rfl
  have hPc := hP.sub (ws' := [(tgm, .inr (2, [.int b0, .int b1, .int b2, .int b3, .int b4, .int b5, .long b6]))]) [1] rfl
  have hDc := hD.sub (ws' := [(tgm, .inr (2, [.int b0, .int b1, .int b2, .int b3, .int b4, .int b5, .long b6]))]) [1] (by decide) rfl
  have hKc := hK.sub (tys' := []) [] rfl
  have hFc := va_free (wc := [(tgm, .inr (2, [.int b0, .int b1, .int b2, .int b3, .int b4, .int b5, .long b6]))]) hD hS hA [1] rfl
  refine va_callv (va_runV (As := [.ref gm]) (rest := []) ⟨hx, hb, hml, hown, hts⟩ (cz_R0copyFrom l dC dI ed H1.size tgm gm b0 b1 b2 b3 b4 b5 b6) (cwV 1 hts gX3_copyFrom_X0_copyFrom rfl rfl rfl (by decide +kernel) ⟨Nat.le_of_ble_eq_true rfl, Nat.le_of_ble_eq_true rfl⟩) ⟨zb_blind, va_recv hK hP (ci := 2) (q0 := 1) rfl rfl, fun U hU hW => ⟨rfl, zb_mk hU hW hPr hPc hKc hDc hN hH hS hFc (zx_cons (zx_r (hAr _ (List.mem_of_getElem? (i := 1) rfl)) hDc) zx_nil)⟩⟩ rfl rfl hl.1 rfl (lv_room (Nat.le_of_ble_eq_true rfl)) dX3_copyFrom_101 ⟨Nat.le_of_ble_eq_true rfl, Nat.le_of_ble_eq_true rfl⟩) hS (fun q _ h => hFc q h) hFc (fun u t H4 locs ht hvm hw hB hz1 hk1 hS => ?_)
  obtain ⟨hP1, hD1, hK1⟩ := hB
  rw [ht] at hP1
  obtain ⟨hP, hD⟩ := va_join (wr := [(tr, .inr (5, [.ref tlk, .ref tth, .ref tpl, .ref tgm, .int a4, .int a5, .int a6, .int a7, .int a8, .int a9, .int a10, .int a11])), (tp0, .inr (4, [.int 1, .int (-1), .int (-1), .int 0]))]) (w1 := [(tgm, .inr (2, [.int 1, .int 0, .int 0, .int 0, .int 0, .int (-1), .long 0]))]) hP hD [1] [0, 2] rfl rfl (by decide) (by decide) hk1 hFc hP1 hD1
  have hP : va_P (dC, dI) vwCl [(tr, .inr (5, [.ref tlk, .ref tth, .ref tpl, .ref tgm, .int a4, .int a5, .int a6, .int a7, .int a8, .int a9, .int a10, .int a11])), (tp0, .inr (4, [.int 1, .int (-1), .int (-1), .int 0])), (tgm, .inr (2, [.int 1, .int 0, .int 0, .int 0, .int 0, .int (-1), .long 0]))] H4 := hP
  have hD : va_D A [(tr, .inr (5, [.ref tlk, .ref tth, .ref tpl, .ref tgm, .int a4, .int a5, .int a6, .int a7, .int a8, .int a9, .int a10, .int a11])), (tp0, .inr (4, [.int 1, .int (-1), .int (-1), .int 0])), (tgm, .inr (2, [.int 1, .int 0, .int 0, .int 0, .int 0, .int (-1), .long 0]))] := hD
  refine lv_aload_n hx hb dX3_copyFrom_104 rfl (lv_at hl 1 rfl) ?_
  refine lv_aload_n hx hb dX3_copyFrom_105 rfl (lv_at hl 2 rfl) ?_
  refine va_get (D := (dC, dI)) (ci := 5) (v := .int 0) (C := RX3) (T := TX3) (N := 12) hx hb hts zi_X3_copyFrom_X3 hown hK (zo_R hR0 hS hAr) 0 rfl rfl 4 (by decide) (hts (.fieldLink RX3 47 "LockRooms$Room" "lockCount" "I") (by decide +kernel)) (fun _ h9 => h9) rfl dX3_copyFrom_106 ?_
  refine va_put (D := (dC, dI)) (ci := 5) (v := .int 0) (ty := .int) (C := RX3) (T := TX3) (N := 12) hx hb hts zi_X3_copyFrom_X3 tyX3 tyX3_ok nmX3 hown hK hP hD hS 0 rfl rfl 4 (by decide) (hts (.fieldLink RX3 47 "LockRooms$Room" "lockCount" "I") (by decide +kernel)) (fun _ h9 => h9) rfl (by decide +kernel) rfl rfl (Nat.le_of_ble_eq_true rfl) dX3_copyFrom_109 (fun H7 locs hP hD hS => ?_)
  have hP : va_P (dC, dI) vwCl [(tr, .inr (5, [.ref tlk, .ref tth, .ref tpl, .ref tgm, .int 0, .int a5, .int a6, .int a7, .int a8, .int a9, .int a10, .int a11])), (tp0, .inr (4, [.int 1, .int (-1), .int (-1), .int 0])), (tgm, .inr (2, [.int 1, .int 0, .int 0, .int 0, .int 0, .int (-1), .long 0]))] H7 := hP
  have hD : va_D A [(tr, .inr (5, [.ref tlk, .ref tth, .ref tpl, .ref tgm, .int 0, .int a5, .int a6, .int a7, .int a8, .int a9, .int a10, .int a11])), (tp0, .inr (4, [.int 1, .int (-1), .int (-1), .int 0])), (tgm, .inr (2, [.int 1, .int 0, .int 0, .int 0, .int 0, .int (-1), .long 0]))] := hD
  refine lv_aload_n hx hb dX3_copyFrom_112 rfl (lv_at hl 1 rfl) ?_
  refine lv_aload_n hx hb dX3_copyFrom_113 rfl (lv_at hl 2 rfl) ?_
  refine va_get (D := (dC, dI)) (ci := 5) (v := .int 0) (C := RX3) (T := TX3) (N := 12) hx hb hts zi_X3_copyFrom_X3 hown hK (zo_R hR0 hS hAr) 0 rfl rfl 5 (by decide) (hts (.fieldLink RX3 54 "LockRooms$Room" "thingCount" "I") (by decide +kernel)) (fun _ h9 => h9) rfl dX3_copyFrom_114 ?_
  refine va_put (D := (dC, dI)) (ci := 5) (v := .int 0) (ty := .int) (C := RX3) (T := TX3) (N := 12) hx hb hts zi_X3_copyFrom_X3 tyX3 tyX3_ok nmX3 hown hK hP hD hS 0 rfl rfl 5 (by decide) (hts (.fieldLink RX3 54 "LockRooms$Room" "thingCount" "I") (by decide +kernel)) (fun _ h9 => h9) rfl (by decide +kernel) rfl rfl (Nat.le_of_ble_eq_true rfl) dX3_copyFrom_117 (fun H8 locs hP hD hS => ?_)
  have hP : va_P (dC, dI) vwCl [(tr, .inr (5, [.ref tlk, .ref tth, .ref tpl, .ref tgm, .int 0, .int 0, .int a6, .int a7, .int a8, .int a9, .int a10, .int a11])), (tp0, .inr (4, [.int 1, .int (-1), .int (-1), .int 0])), (tgm, .inr (2, [.int 1, .int 0, .int 0, .int 0, .int 0, .int (-1), .long 0]))] H8 := hP
  have hD : va_D A [(tr, .inr (5, [.ref tlk, .ref tth, .ref tpl, .ref tgm, .int 0, .int 0, .int a6, .int a7, .int a8, .int a9, .int a10, .int a11])), (tp0, .inr (4, [.int 1, .int (-1), .int (-1), .int 0])), (tgm, .inr (2, [.int 1, .int 0, .int 0, .int 0, .int 0, .int (-1), .long 0]))] := hD
  refine lv_aload_n hx hb dX3_copyFrom_120 rfl (lv_at hl 1 rfl) ?_
  refine lv_aload_n hx hb dX3_copyFrom_121 rfl (lv_at hl 2 rfl) ?_
  refine va_get (D := (dC, dI)) (ci := 5) (v := .int 1) (C := RX3) (T := TX3) (N := 12) hx hb hts zi_X3_copyFrom_X3 hown hK (zo_R hR0 hS hAr) 0 rfl rfl 6 (by decide) (hts (.fieldLink RX3 60 "LockRooms$Room" "playerCount" "I") (by decide +kernel)) (fun _ h9 => h9) rfl dX3_copyFrom_122 ?_
  refine va_put (D := (dC, dI)) (ci := 5) (v := .int 1) (ty := .int) (C := RX3) (T := TX3) (N := 12) hx hb hts zi_X3_copyFrom_X3 tyX3 tyX3_ok nmX3 hown hK hP hD hS 0 rfl rfl 6 (by decide) (hts (.fieldLink RX3 60 "LockRooms$Room" "playerCount" "I") (by decide +kernel)) (fun _ h9 => h9) rfl (by decide +kernel) rfl rfl (Nat.le_of_ble_eq_true rfl) dX3_copyFrom_125 (fun H9 locs hP hD hS => ?_)
  have hP : va_P (dC, dI) vwCl [(tr, .inr (5, [.ref tlk, .ref tth, .ref tpl, .ref tgm, .int 0, .int 0, .int 1, .int a7, .int a8, .int a9, .int a10, .int a11])), (tp0, .inr (4, [.int 1, .int (-1), .int (-1), .int 0])), (tgm, .inr (2, [.int 1, .int 0, .int 0, .int 0, .int 0, .int (-1), .long 0]))] H9 := hP
  have hD : va_D A [(tr, .inr (5, [.ref tlk, .ref tth, .ref tpl, .ref tgm, .int 0, .int 0, .int 1, .int a7, .int a8, .int a9, .int a10, .int a11])), (tp0, .inr (4, [.int 1, .int (-1), .int (-1), .int 0])), (tgm, .inr (2, [.int 1, .int 0, .int 0, .int 0, .int 0, .int (-1), .long 0]))] := hD
  refine lv_aload_n hx hb dX3_copyFrom_128 rfl (lv_at hl 1 rfl) ?_
  refine lv_aload_n hx hb dX3_copyFrom_129 rfl (lv_at hl 2 rfl) ?_
  refine va_get (D := (dC, dI)) (ci := 5) (v := .int (-1)) (C := RX3) (T := TX3) (N := 12) hx hb hts zi_X3_copyFrom_X3 hown hK (zo_R hR0 hS hAr) 0 rfl rfl 7 (by decide) (hts (.fieldLink RX3 36 "LockRooms$Room" "exit" "I") (by decide +kernel)) (fun _ h9 => h9) rfl dX3_copyFrom_130 ?_
  refine va_put (D := (dC, dI)) (ci := 5) (v := .int (-1)) (ty := .int) (C := RX3) (T := TX3) (N := 12) hx hb hts zi_X3_copyFrom_X3 tyX3 tyX3_ok nmX3 hown hK hP hD hS 0 rfl rfl 7 (by decide) (hts (.fieldLink RX3 36 "LockRooms$Room" "exit" "I") (by decide +kernel)) (fun _ h9 => h9) rfl (by decide +kernel) rfl rfl (Nat.le_of_ble_eq_true rfl) dX3_copyFrom_133 (fun H10 locs hP hD hS => ?_)
  have hP : va_P (dC, dI) vwCl [(tr, .inr (5, [.ref tlk, .ref tth, .ref tpl, .ref tgm, .int 0, .int 0, .int 1, .int (-1), .int a8, .int a9, .int a10, .int a11])), (tp0, .inr (4, [.int 1, .int (-1), .int (-1), .int 0])), (tgm, .inr (2, [.int 1, .int 0, .int 0, .int 0, .int 0, .int (-1), .long 0]))] H10 := hP
  have hD : va_D A [(tr, .inr (5, [.ref tlk, .ref tth, .ref tpl, .ref tgm, .int 0, .int 0, .int 1, .int (-1), .int a8, .int a9, .int a10, .int a11])), (tp0, .inr (4, [.int 1, .int (-1), .int (-1), .int 0])), (tgm, .inr (2, [.int 1, .int 0, .int 0, .int 0, .int 0, .int (-1), .long 0]))] := hD
  refine lv_aload_n hx hb dX3_copyFrom_136 rfl (lv_at hl 1 rfl) ?_
  refine lv_aload_n hx hb dX3_copyFrom_137 rfl (lv_at hl 2 rfl) ?_
  refine va_get (D := (dC, dI)) (ci := 5) (v := .int 1) (C := RX3) (T := TX3) (N := 12) hx hb hts zi_X3_copyFrom_X3 hown hK (zo_R hR0 hS hAr) 0 rfl rfl 8 (by decide) (hts (.fieldLink RX3 40 "LockRooms$Room" "hasPower" "Z") (by decide +kernel)) (fun _ h9 => h9) rfl dX3_copyFrom_138 ?_
  refine va_put (D := (dC, dI)) (ci := 5) (v := .int 1) (ty := .boolean) (C := RX3) (T := TX3) (N := 12) hx hb hts zi_X3_copyFrom_X3 tyX3 tyX3_ok nmX3 hown hK hP hD hS 0 rfl rfl 8 (by decide) (hts (.fieldLink RX3 40 "LockRooms$Room" "hasPower" "Z") (by decide +kernel)) (fun _ h9 => h9) rfl (by decide +kernel) (by decide) (by decide) (Nat.le_of_ble_eq_true rfl) dX3_copyFrom_141 (fun H11 locs hP hD hS => ?_)
  have hP : va_P (dC, dI) vwCl [(tr, .inr (5, [.ref tlk, .ref tth, .ref tpl, .ref tgm, .int 0, .int 0, .int 1, .int (-1), .int 1, .int a9, .int a10, .int a11])), (tp0, .inr (4, [.int 1, .int (-1), .int (-1), .int 0])), (tgm, .inr (2, [.int 1, .int 0, .int 0, .int 0, .int 0, .int (-1), .long 0]))] H11 := hP
  have hD : va_D A [(tr, .inr (5, [.ref tlk, .ref tth, .ref tpl, .ref tgm, .int 0, .int 0, .int 1, .int (-1), .int 1, .int a9, .int a10, .int a11])), (tp0, .inr (4, [.int 1, .int (-1), .int (-1), .int 0])), (tgm, .inr (2, [.int 1, .int 0, .int 0, .int 0, .int 0, .int (-1), .long 0]))] := hD
  refine lv_aload_n hx hb dX3_copyFrom_144 rfl (lv_at hl 1 rfl) ?_
  refine lv_aload_n hx hb dX3_copyFrom_145 rfl (lv_at hl 2 rfl) ?_
  refine va_get (D := (dC, dI)) (ci := 5) (v := .int 0) (C := RX3) (T := TX3) (N := 12) hx hb hts zi_X3_copyFrom_X3 hown hK (zo_R hR0 hS hAr) 0 rfl rfl 9 (by decide) (hts (.fieldLink RX3 69 "LockRooms$Room" "now" "I") (by decide +kernel)) (fun _ h9 => h9) rfl dX3_copyFrom_146 ?_
  refine va_put (D := (dC, dI)) (ci := 5) (v := .int 0) (ty := .int) (C := RX3) (T := TX3) (N := 12) hx hb hts zi_X3_copyFrom_X3 tyX3 tyX3_ok nmX3 hown hK hP hD hS 0 rfl rfl 9 (by decide) (hts (.fieldLink RX3 69 "LockRooms$Room" "now" "I") (by decide +kernel)) (fun _ h9 => h9) rfl (by decide +kernel) rfl rfl (Nat.le_of_ble_eq_true rfl) dX3_copyFrom_149 (fun H12 locs hP hD hS => ?_)
  have hP : va_P (dC, dI) vwCl [(tr, .inr (5, [.ref tlk, .ref tth, .ref tpl, .ref tgm, .int 0, .int 0, .int 1, .int (-1), .int 1, .int 0, .int a10, .int a11])), (tp0, .inr (4, [.int 1, .int (-1), .int (-1), .int 0])), (tgm, .inr (2, [.int 1, .int 0, .int 0, .int 0, .int 0, .int (-1), .long 0]))] H12 := hP
  have hD : va_D A [(tr, .inr (5, [.ref tlk, .ref tth, .ref tpl, .ref tgm, .int 0, .int 0, .int 1, .int (-1), .int 1, .int 0, .int a10, .int a11])), (tp0, .inr (4, [.int 1, .int (-1), .int (-1), .int 0])), (tgm, .inr (2, [.int 1, .int 0, .int 0, .int 0, .int 0, .int (-1), .long 0]))] := hD
  refine lv_aload_n hx hb dX3_copyFrom_152 rfl (lv_at hl 1 rfl) ?_
  refine lv_aload_n hx hb dX3_copyFrom_153 rfl (lv_at hl 2 rfl) ?_
  refine va_get (D := (dC, dI)) (ci := 5) (v := .int 18) (C := RX3) (T := TX3) (N := 12) hx hb hts zi_X3_copyFrom_X3 hown hK (zo_R hR0 hS hAr) 0 rfl rfl 10 (by decide) (hts (.fieldLink RX3 72 "LockRooms$Room" "coins" "I") (by decide +kernel)) (fun _ h9 => h9) rfl dX3_copyFrom_154 ?_
  refine va_put (D := (dC, dI)) (ci := 5) (v := .int 18) (ty := .int) (C := RX3) (T := TX3) (N := 12) hx hb hts zi_X3_copyFrom_X3 tyX3 tyX3_ok nmX3 hown hK hP hD hS 0 rfl rfl 10 (by decide) (hts (.fieldLink RX3 72 "LockRooms$Room" "coins" "I") (by decide +kernel)) (fun _ h9 => h9) rfl (by decide +kernel) rfl rfl (Nat.le_of_ble_eq_true rfl) dX3_copyFrom_157 (fun H13 locs hP hD hS => ?_)
  have hP : va_P (dC, dI) vwCl [(tr, .inr (5, [.ref tlk, .ref tth, .ref tpl, .ref tgm, .int 0, .int 0, .int 1, .int (-1), .int 1, .int 0, .int 18, .int a11])), (tp0, .inr (4, [.int 1, .int (-1), .int (-1), .int 0])), (tgm, .inr (2, [.int 1, .int 0, .int 0, .int 0, .int 0, .int (-1), .long 0]))] H13 := hP
  have hD : va_D A [(tr, .inr (5, [.ref tlk, .ref tth, .ref tpl, .ref tgm, .int 0, .int 0, .int 1, .int (-1), .int 1, .int 0, .int 18, .int a11])), (tp0, .inr (4, [.int 1, .int (-1), .int (-1), .int 0])), (tgm, .inr (2, [.int 1, .int 0, .int 0, .int 0, .int 0, .int (-1), .long 0]))] := hD
  refine lv_aload_n hx hb dX3_copyFrom_160 rfl (lv_at hl 1 rfl) ?_
  refine lv_aload_n hx hb dX3_copyFrom_161 rfl (lv_at hl 2 rfl) ?_
  refine va_get (D := (dC, dI)) (ci := 5) (v := .int 0) (C := RX3) (T := TX3) (N := 12) hx hb hts zi_X3_copyFrom_X3 hown hK (zo_R hR0 hS hAr) 0 rfl rfl 11 (by decide) (hts (.fieldLink RX3 75 "LockRooms$Room" "idledEver" "I") (by decide +kernel)) (fun _ h9 => h9) rfl dX3_copyFrom_162 ?_
  refine va_put (D := (dC, dI)) (ci := 5) (v := .int 0) (ty := .int) (C := RX3) (T := TX3) (N := 12) hx hb hts zi_X3_copyFrom_X3 tyX3 tyX3_ok nmX3 hown hK hP hD hS 0 rfl rfl 11 (by decide) (hts (.fieldLink RX3 75 "LockRooms$Room" "idledEver" "I") (by decide +kernel)) (fun _ h9 => h9) rfl (by decide +kernel) rfl rfl (Nat.le_of_ble_eq_true rfl) dX3_copyFrom_165 (fun H14 locs hP hD hS => ?_)
  have hP : va_P (dC, dI) vwCl [(tr, .inr (5, [.ref tlk, .ref tth, .ref tpl, .ref tgm, .int 0, .int 0, .int 1, .int (-1), .int 1, .int 0, .int 18, .int 0])), (tp0, .inr (4, [.int 1, .int (-1), .int (-1), .int 0])), (tgm, .inr (2, [.int 1, .int 0, .int 0, .int 0, .int 0, .int (-1), .long 0]))] H14 := hP
  have hD : va_D A [(tr, .inr (5, [.ref tlk, .ref tth, .ref tpl, .ref tgm, .int 0, .int 0, .int 1, .int (-1), .int 1, .int 0, .int 18, .int 0])), (tp0, .inr (4, [.int 1, .int (-1), .int (-1), .int 0])), (tgm, .inr (2, [.int 1, .int 0, .int 0, .int 0, .int 0, .int (-1), .long 0]))] := hD
  refine W.widen (k := 0) (n := 0) (Nat.le_of_ble_eq_true rfl) (Nat.le_of_ble_eq_true rfl) ?_
  have hP9 := hP.sub (ws' := [(tr, .inr (5, [.ref tlk, .ref tth, .ref tpl, .ref tgm, .int 0, .int 0, .int 1, .int (-1), .int 1, .int 0, .int 18, .int 0])), (tgm, .inr (2, [.int 1, .int 0, .int 0, .int 0, .int 0, .int (-1), .long 0])), (tp0, .inr (4, [.int 1, .int (-1), .int (-1), .int 0]))]) [0, 2, 1] rfl
  have hD9 := hD.sub (ws' := [(tr, .inr (5, [.ref tlk, .ref tth, .ref tpl, .ref tgm, .int 0, .int 0, .int 1, .int (-1), .int 1, .int 0, .int 18, .int 0])), (tgm, .inr (2, [.int 1, .int 0, .int 0, .int 0, .int 0, .int (-1), .long 0])), (tp0, .inr (4, [.int 1, .int (-1), .int (-1), .int 0]))]) [0, 2, 1] (by decide) rfl
  have hK9 := hK.sub (tys' := []) [] rfl
  exact W.vret hx hb hr (fun t ht hW => ⟨⟨(), rfl, trivial, ⟨by rw [ht]; exact hP9, hD9, va_K.moved hW.alike hK9⟩⟩, hS.F ht⟩) hS.2.2 dX3_copyFrom_168

def zMk (x : Int32) : Int32 := if (¬ x < 0 ∧ ¬ 18 < x) then 0 else 1
def zMv (x : Int32) : Int32 := if (¬ x < 0 ∧ ¬ 18 < x) then zm x else 0
def zLk (x0 x1 x2 : Int32) : Int32 := if zL x0 x1 x2 then 0 else 1
def zTk (x0 x1 : Int32) : Int32 := if x0 = -1 then (if (¬ x1 < 0 ∧ ¬ 9 < x1) then 0 else 2) else 1
def zPk (x : Int32) : Int32 := if (¬ x < 1 ∧ ¬ 9 < x) then 0 else 1
def zQk (x : Int32) : Int32 := if (¬ x < 1 ∧ ¬ 90 < x) then 0 else 1

set_option maxRecDepth 20000 in
theorem zi_X8_manyNow_X8 : ∀ w ∈ u_ws RX8 TX8 4, w ∈ wsX8_manyNow := by decide +kernel
set_option maxRecDepth 20000 in
theorem zi_X8_manyNow_X7 : ∀ w ∈ u_ws RX7 TX7 14, w ∈ wsX8_manyNow := by decide +kernel
set_option maxHeartbeats 4000000 in
set_option maxRecDepth 100000 in
theorem cz_manyNow (l : Launch) (dC : Nat → ClassId) (dI : Nat → Nat → Nat) (ed sz : Nat) (mo : Nat) (mr : Nat) (ll : Nat) (lt : Nat) (lp : Nat) (x9 : Int32) (s9 : Int64) (x0 : Int32) (hr18 : (¬ x0 < 0 ∧ ¬ 18 < x0)) : Met l yX8_manyNow wsX8_manyNow ({ frames := 2, cells := 1, slots := 19, locals := 43 } : Jvm.Room) (va_Pc [.ref mo, .int x0] (zB dC dI ed sz [(mo, .inr (10, [.int x9, .ref mr, .int 1, .long s9])), (mr, .inr (9, [.ref ll, .ref lt, .ref lp, .int (-1), .int 0, .int 0, .int 0, .int 0, .int 0, .int 0, .int (-1), .int 0, .int 0, .int 0])), (ll, .inr (1, [.int 0, .ref ed, .int 0])), (lt, .inr (1, [.int 0, .ref ed, .int 0])), (lp, .inr (1, [.int 0, .ref ed, .int 0]))] [] [])) (va_Qi (fun (r : Int32) (_ : Unit) => r = zm x0) (fun (_ : Unit) (_ : State) => True) (va_A [] sz)) 1 19 (va_A [] sz) := by
  refine Met.ofW (cc := cX8_manyNow) (maxL := 3) (ret := (some .int)) (by decide) rfl ?_
  intro p e s m args below meth c s₁ B hml hv
  obtain ⟨rfl, hsz, hR0, hP, hK, hD0, hN, hH, hX0⟩ := hv
  have hx := B.exec
  have hb := B.bytes
  have hr := B.returns
  have hts := atoms_spec (ws := wsX8_manyNow) B.pre
  have hown : s.vm.findClass RX8 = some m.cls := findClass_of_methodNamed B.named
  have hlocks := B.notSynchronized
  subst hsz
  have hD := hD0.self (sz := s.heap.size)
  have hAr := zx_A hX0 hR0
  generalize hAe : va_A [] s.heap.size = A at hD hAr hH ⊢
  have hA : ∀ q : Nat, s.heap.size ≤ q → A q := fun q h => by rw [← hAe]; exact Or.inr h
  have hS : va_S A s.heap s.heap [] := va_S.rf
  have hl := lv_entry ([.ref mo, .int x0]) (n := 3) (Nat.le_of_ble_eq_true rfl)
  rw [lg_entry_eq]
  generalize (lg_sl ([.ref mo, .int x0]) ++ List.replicate (3 - (lg_sl ([.ref mo, .int x0])).length) Slot.unset).toArray = ls at hl ⊢
  have hl : lv_has ls 3 [(0, .ref mo), (1, .int x0)] := hl
  refine lv_bipush (v := 19) hx hb dX8_manyNow_0 (by decide) ?_
  refine va_newa (atype := .int) (a0 := (19, .inl (fun _ => 0))) hx hb (hts (.arrayClass .int) (by decide +kernel)) rfl hK hP hD hS hA (fun cA => rfl) (by decide) (N' := 19) (by decide) (by decide) (Nat.le_of_ble_eq_true rfl) (Nat.le_of_ble_eq_true rfl) dX8_manyNow_2 (fun q1 cA3 H2 hK hP hD hS => ?_)
  have hP : va_P (dC, dI) vwCl [(q1, .inl (cA3, 19, .inl (fun _ => 0)))] H2 := hP
  have hD : va_D A [(q1, .inl (cA3, 19, .inl (fun _ => 0)))] := hD
  refine lv_dup hx hb dX8_manyNow_4 rfl ?_
  refine lv_iconst (v := 0) hx hb dX8_manyNow_5 (by decide) ?_
  refine lv_aload_n hx hb dX8_manyNow_6 rfl (lv_at hl 0 rfl) ?_
  refine va_get (D := (dC, dI)) (ci := 10) (v := .ref mr) (C := RX8) (T := TX8) (N := 4) hx hb hts zi_X8_manyNow_X8 hown hK (zo_R hR0 hS hAr) 0 rfl rfl 1 (by decide) (hts (.fieldLink RX8 10 "LockRoomsModel" "room" "LLockRoomsModel$Room;") (by decide +kernel)) (fun _ h9 => h9) rfl dX8_manyNow_7 ?_
  refine va_getN (D := (dC, dI)) (ci := 9) (v := .int 0) (C := RX7) (T := TX7) (N := 14) hx hb hts zi_X8_manyNow_X7 hown hK (zo_R hR0 hS hAr) 1 rfl rfl 4 (by decide) (va_Nw.use rfl (hN.1 ("LockRoomsModel", 78, "LockRoomsModel$Room", "now", "I", "LockRoomsModel") (List.mem_of_getElem? (i := 5) rfl))) (fun _ h9 => h9) rfl dX8_manyNow_10 ?_
  refine va_iast hx hb hK hP hD hS 0 0 rfl rfl (by unfold vp_in; decide) dX8_manyNow_13 (fun H5 locs hP hD hS => ?_)
  obtain ⟨f6, ef6⟩ : ∃ z : Nat → Int32, z = upd (fun _ => 0) 0 0 := ⟨_, rfl⟩
  have k7 : f6 0 = 0 := by rw [ef6]; exact pk_us
  have hP : va_P (dC, dI) vwCl [(q1, .inl (cA3, 19, .inl f6))] H5 := by rw [ef6]; exact hP
  have hD : va_D A [(q1, .inl (cA3, 19, .inl f6))] := by rw [ef6]; exact hD
  refine lv_dup hx hb dX8_manyNow_14 rfl ?_
  refine lv_iconst (v := 1) hx hb dX8_manyNow_15 (by decide) ?_
  refine lv_aload_n hx hb dX8_manyNow_16 rfl (lv_at hl 0 rfl) ?_
  refine va_get (D := (dC, dI)) (ci := 10) (v := .ref mr) (C := RX8) (T := TX8) (N := 4) hx hb hts zi_X8_manyNow_X8 hown hK (zo_R hR0 hS hAr) 0 rfl rfl 1 (by decide) (hts (.fieldLink RX8 10 "LockRoomsModel" "room" "LLockRoomsModel$Room;") (by decide +kernel)) (fun _ h9 => h9) rfl dX8_manyNow_17 ?_
  refine va_getN (D := (dC, dI)) (ci := 9) (v := .ref ll) (C := RX7) (T := TX7) (N := 14) hx hb hts zi_X8_manyNow_X7 hown hK (zo_R hR0 hS hAr) 1 rfl rfl 0 (by decide) (va_Nw.use rfl (hN.1 ("LockRoomsModel", 24, "LockRoomsModel$Room", "locks", "Ljava/util/ArrayList;", "LockRoomsModel") (List.mem_of_getElem? (i := 1) rfl))) (fun _ h9 => h9) rfl dX8_manyNow_20 ?_
  have hPr := ((zo_R hR0 hS hAr)).sub (ws' := [(ll, .inr (1, [.int 0, .ref ed, .int 0]))]) [2] rfl
  have hPc := hP.sub (ws' := []) [] rfl
  have hDc := hD.sub (ws' := []) [] (by decide) rfl
  have hKc := hK.sub (tys' := []) [] rfl
  have hFc := va_free (wc := []) hD hS hA [] rfl
  refine va_calli (va_runV (As := []) (rest := [.int 1, .ref q1, .ref q1]) ⟨hx, hb, hml, hown, hts⟩ (cz_size0 l dC dI ed H5.size ll) (cwV 0 hts gX8_manyNow_Jx4a65c_size_8abf5 rfl rfl rfl (by decide +kernel) ⟨Nat.le_of_ble_eq_true rfl, Nat.le_of_ble_eq_true rfl⟩) ⟨zb_blind, va_recv hK (zo_R hR0 hS hAr) (ci := 1) (q0 := 2) rfl rfl, fun U hU hW => ⟨rfl, zb_mk hU hW hPr hPc hKc hDc hN hH hS hFc zx_e⟩⟩ rfl rfl hl.1 rfl (lv_room (Nat.le_of_ble_eq_true rfl)) dX8_manyNow_23 ⟨Nat.le_of_ble_eq_true rfl, Nat.le_of_ble_eq_true rfl⟩) hS (fun q _ h => hFc q h) hFc (fun r9 u t H8 locs ht hvm hw hB hz1 hk1 hS => ?_)
  obtain rfl : r9 = 0 := hw
  have hP := zo_K hP hk1
  refine va_iast hx hb hK hP hD hS 0 0 rfl rfl (by unfold vp_in; decide) dX8_manyNow_26 (fun H10 locs hP hD hS => ?_)
  obtain ⟨f11, ef11⟩ : ∃ z : Nat → Int32, z = upd f6 1 0 := ⟨_, rfl⟩
  have k12 : f11 0 = 0 := by rw [ef11]; exact (pk_un (by decide)).trans (k7)
  have k13 : f11 1 = 0 := by rw [ef11]; exact pk_us
  have hP : va_P (dC, dI) vwCl [(q1, .inl (cA3, 19, .inl f11))] H10 := by rw [ef11]; exact hP
  have hD : va_D A [(q1, .inl (cA3, 19, .inl f11))] := by rw [ef11]; exact hD
  refine lv_dup hx hb dX8_manyNow_27 rfl ?_
  refine lv_iconst (v := 2) hx hb dX8_manyNow_28 (by decide) ?_
  refine lv_aload_n hx hb dX8_manyNow_29 rfl (lv_at hl 0 rfl) ?_
  refine va_get (D := (dC, dI)) (ci := 10) (v := .ref mr) (C := RX8) (T := TX8) (N := 4) hx hb hts zi_X8_manyNow_X8 hown hK (zo_R hR0 hS hAr) 0 rfl rfl 1 (by decide) (hts (.fieldLink RX8 10 "LockRoomsModel" "room" "LLockRoomsModel$Room;") (by decide +kernel)) (fun _ h9 => h9) rfl dX8_manyNow_30 ?_
  refine va_getN (D := (dC, dI)) (ci := 9) (v := .ref lt) (C := RX7) (T := TX7) (N := 14) hx hb hts zi_X8_manyNow_X7 hown hK (zo_R hR0 hS hAr) 1 rfl rfl 1 (by decide) (va_Nw.use rfl (hN.1 ("LockRoomsModel", 38, "LockRoomsModel$Room", "things", "Ljava/util/ArrayList;", "LockRoomsModel") (List.mem_of_getElem? (i := 2) rfl))) (fun _ h9 => h9) rfl dX8_manyNow_33 ?_
  have hPr := ((zo_R hR0 hS hAr)).sub (ws' := [(lt, .inr (1, [.int 0, .ref ed, .int 0]))]) [3] rfl
  have hPc := hP.sub (ws' := []) [] rfl
  have hDc := hD.sub (ws' := []) [] (by decide) rfl
  have hKc := hK.sub (tys' := []) [] rfl
  have hFc := va_free (wc := []) hD hS hA [] rfl
  refine va_calli (va_runV (As := []) (rest := [.int 2, .ref q1, .ref q1]) ⟨hx, hb, hml, hown, hts⟩ (cz_size0 l dC dI ed H10.size lt) (cwV 0 hts gX8_manyNow_Jx4a65c_size_8abf5 rfl rfl rfl (by decide +kernel) ⟨Nat.le_of_ble_eq_true rfl, Nat.le_of_ble_eq_true rfl⟩) ⟨zb_blind, va_recv hK (zo_R hR0 hS hAr) (ci := 1) (q0 := 3) rfl rfl, fun U hU hW => ⟨rfl, zb_mk hU hW hPr hPc hKc hDc hN hH hS hFc zx_e⟩⟩ rfl rfl hl.1 rfl (lv_room (Nat.le_of_ble_eq_true rfl)) dX8_manyNow_36 ⟨Nat.le_of_ble_eq_true rfl, Nat.le_of_ble_eq_true rfl⟩) hS (fun q _ h => hFc q h) hFc (fun r15 u t H14 locs ht hvm hw hB hz1 hk1 hS => ?_)
  obtain rfl : r15 = 0 := hw
  have hP := zo_K hP hk1
  refine va_iast hx hb hK hP hD hS 0 0 rfl rfl (by unfold vp_in; decide) dX8_manyNow_39 (fun H16 locs hP hD hS => ?_)
  obtain ⟨f17, ef17⟩ : ∃ z : Nat → Int32, z = upd f11 2 0 := ⟨_, rfl⟩
  have k18 : f17 0 = 0 := by rw [ef17]; exact (pk_un (by decide)).trans (k12)
  have k19 : f17 1 = 0 := by rw [ef17]; exact (pk_un (by decide)).trans (k13)
  have k20 : f17 2 = 0 := by rw [ef17]; exact pk_us
  have hP : va_P (dC, dI) vwCl [(q1, .inl (cA3, 19, .inl f17))] H16 := by rw [ef17]; exact hP
  have hD : va_D A [(q1, .inl (cA3, 19, .inl f17))] := by rw [ef17]; exact hD
  refine lv_dup hx hb dX8_manyNow_40 rfl ?_
  refine lv_iconst (v := 3) hx hb dX8_manyNow_41 (by decide) ?_
  refine lv_aload_n hx hb dX8_manyNow_42 rfl (lv_at hl 0 rfl) ?_
  refine va_get (D := (dC, dI)) (ci := 10) (v := .ref mr) (C := RX8) (T := TX8) (N := 4) hx hb hts zi_X8_manyNow_X8 hown hK (zo_R hR0 hS hAr) 0 rfl rfl 1 (by decide) (hts (.fieldLink RX8 10 "LockRoomsModel" "room" "LLockRoomsModel$Room;") (by decide +kernel)) (fun _ h9 => h9) rfl dX8_manyNow_43 ?_
  refine va_getN (D := (dC, dI)) (ci := 9) (v := .ref lp) (C := RX7) (T := TX7) (N := 14) hx hb hts zi_X8_manyNow_X7 hown hK (zo_R hR0 hS hAr) 1 rfl rfl 2 (by decide) (va_Nw.use rfl (hN.1 ("LockRoomsModel", 59, "LockRoomsModel$Room", "players", "Ljava/util/ArrayList;", "LockRoomsModel") (List.mem_of_getElem? (i := 3) rfl))) (fun _ h9 => h9) rfl dX8_manyNow_46 ?_
  have hPr := ((zo_R hR0 hS hAr)).sub (ws' := [(lp, .inr (1, [.int 0, .ref ed, .int 0]))]) [4] rfl
  have hPc := hP.sub (ws' := []) [] rfl
  have hDc := hD.sub (ws' := []) [] (by decide) rfl
  have hKc := hK.sub (tys' := []) [] rfl
  have hFc := va_free (wc := []) hD hS hA [] rfl
  refine va_calli (va_runV (As := []) (rest := [.int 3, .ref q1, .ref q1]) ⟨hx, hb, hml, hown, hts⟩ (cz_size0 l dC dI ed H16.size lp) (cwV 0 hts gX8_manyNow_Jx4a65c_size_8abf5 rfl rfl rfl (by decide +kernel) ⟨Nat.le_of_ble_eq_true rfl, Nat.le_of_ble_eq_true rfl⟩) ⟨zb_blind, va_recv hK (zo_R hR0 hS hAr) (ci := 1) (q0 := 4) rfl rfl, fun U hU hW => ⟨rfl, zb_mk hU hW hPr hPc hKc hDc hN hH hS hFc zx_e⟩⟩ rfl rfl hl.1 rfl (lv_room (Nat.le_of_ble_eq_true rfl)) dX8_manyNow_49 ⟨Nat.le_of_ble_eq_true rfl, Nat.le_of_ble_eq_true rfl⟩) hS (fun q _ h => hFc q h) hFc (fun r22 u t H21 locs ht hvm hw hB hz1 hk1 hS => ?_)
  obtain rfl : r22 = 0 := hw
  have hP := zo_K hP hk1
  refine va_iast hx hb hK hP hD hS 0 0 rfl rfl (by unfold vp_in; decide) dX8_manyNow_52 (fun H23 locs hP hD hS => ?_)
  obtain ⟨f24, ef24⟩ : ∃ z : Nat → Int32, z = upd f17 3 0 := ⟨_, rfl⟩
  have k25 : f24 0 = 0 := by rw [ef24]; exact (pk_un (by decide)).trans (k18)
  have k26 : f24 1 = 0 := by rw [ef24]; exact (pk_un (by decide)).trans (k19)
  have k27 : f24 2 = 0 := by rw [ef24]; exact (pk_un (by decide)).trans (k20)
  have k28 : f24 3 = 0 := by rw [ef24]; exact pk_us
  have hP : va_P (dC, dI) vwCl [(q1, .inl (cA3, 19, .inl f24))] H23 := by rw [ef24]; exact hP
  have hD : va_D A [(q1, .inl (cA3, 19, .inl f24))] := by rw [ef24]; exact hD
  refine lv_dup hx hb dX8_manyNow_53 rfl ?_
  refine lv_iconst (v := 4) hx hb dX8_manyNow_54 (by decide) ?_
  refine lv_aload_n hx hb dX8_manyNow_55 rfl (lv_at hl 0 rfl) ?_
  refine va_get (D := (dC, dI)) (ci := 10) (v := .ref mr) (C := RX8) (T := TX8) (N := 4) hx hb hts zi_X8_manyNow_X8 hown hK (zo_R hR0 hS hAr) 0 rfl rfl 1 (by decide) (hts (.fieldLink RX8 10 "LockRoomsModel" "room" "LLockRoomsModel$Room;") (by decide +kernel)) (fun _ h9 => h9) rfl dX8_manyNow_56 ?_
  refine va_getN (D := (dC, dI)) (ci := 9) (v := .int 0) (C := RX7) (T := TX7) (N := 14) hx hb hts zi_X8_manyNow_X7 hown hK (zo_R hR0 hS hAr) 1 rfl rfl 5 (by decide) (va_Nw.use rfl (hN.1 ("LockRoomsModel", 45, "LockRoomsModel$Room", "isRunning", "Z", "LockRoomsModel") (List.mem_of_getElem? (i := 6) rfl))) (fun _ h9 => h9) rfl dX8_manyNow_59 ?_
  refine lv_if_eq (tgt := 69) hx hb dX8_manyNow_62 (by decide) (fun _ => ?_) (fun h => absurd h (by decide))
  refine lv_iconst (v := 0) hx hb dX8_manyNow_69 (by decide) ?_
  refine va_iast hx hb hK hP hD hS 0 0 rfl rfl (by unfold vp_in; decide) dX8_manyNow_70 (fun H29 locs hP hD hS => ?_)
  obtain ⟨f30, ef30⟩ : ∃ z : Nat → Int32, z = upd f24 4 0 := ⟨_, rfl⟩
  have k31 : f30 0 = 0 := by rw [ef30]; exact (pk_un (by decide)).trans (k25)
  have k32 : f30 1 = 0 := by rw [ef30]; exact (pk_un (by decide)).trans (k26)
  have k33 : f30 2 = 0 := by rw [ef30]; exact (pk_un (by decide)).trans (k27)
  have k34 : f30 3 = 0 := by rw [ef30]; exact (pk_un (by decide)).trans (k28)
  have k35 : f30 4 = 0 := by rw [ef30]; exact pk_us
  have hP : va_P (dC, dI) vwCl [(q1, .inl (cA3, 19, .inl f30))] H29 := by rw [ef30]; exact hP
  have hD : va_D A [(q1, .inl (cA3, 19, .inl f30))] := by rw [ef30]; exact hD
  refine lv_dup hx hb dX8_manyNow_71 rfl ?_
  refine lv_iconst (v := 5) hx hb dX8_manyNow_72 (by decide) ?_
  refine lv_aload_n hx hb dX8_manyNow_73 rfl (lv_at hl 0 rfl) ?_
  refine va_get (D := (dC, dI)) (ci := 10) (v := .ref mr) (C := RX8) (T := TX8) (N := 4) hx hb hts zi_X8_manyNow_X8 hown hK (zo_R hR0 hS hAr) 0 rfl rfl 1 (by decide) (hts (.fieldLink RX8 10 "LockRoomsModel" "room" "LLockRoomsModel$Room;") (by decide +kernel)) (fun _ h9 => h9) rfl dX8_manyNow_74 ?_
  refine va_getN (D := (dC, dI)) (ci := 9) (v := .int 0) (C := RX7) (T := TX7) (N := 14) hx hb hts zi_X8_manyNow_X7 hown hK (zo_R hR0 hS hAr) 1 rfl rfl 6 (by decide) (va_Nw.use rfl (hN.1 ("LockRoomsModel", 69, "LockRoomsModel$Room", "time", "I", "LockRoomsModel") (List.mem_of_getElem? (i := 7) rfl))) (fun _ h9 => h9) rfl dX8_manyNow_77 ?_
  refine va_iast hx hb hK hP hD hS 0 0 rfl rfl (by unfold vp_in; decide) dX8_manyNow_80 (fun H36 locs hP hD hS => ?_)
  obtain ⟨f37, ef37⟩ : ∃ z : Nat → Int32, z = upd f30 5 0 := ⟨_, rfl⟩
  have k38 : f37 0 = 0 := by rw [ef37]; exact (pk_un (by decide)).trans (k31)
  have k39 : f37 1 = 0 := by rw [ef37]; exact (pk_un (by decide)).trans (k32)
  have k40 : f37 2 = 0 := by rw [ef37]; exact (pk_un (by decide)).trans (k33)
  have k41 : f37 3 = 0 := by rw [ef37]; exact (pk_un (by decide)).trans (k34)
  have k42 : f37 4 = 0 := by rw [ef37]; exact (pk_un (by decide)).trans (k35)
  have k43 : f37 5 = 0 := by rw [ef37]; exact pk_us
  have hP : va_P (dC, dI) vwCl [(q1, .inl (cA3, 19, .inl f37))] H36 := by rw [ef37]; exact hP
  have hD : va_D A [(q1, .inl (cA3, 19, .inl f37))] := by rw [ef37]; exact hD
  refine lv_dup hx hb dX8_manyNow_81 rfl ?_
  refine lv_bipush (v := 6) hx hb dX8_manyNow_82 (by decide) ?_
  refine lv_aload_n hx hb dX8_manyNow_84 rfl (lv_at hl 0 rfl) ?_
  refine va_get (D := (dC, dI)) (ci := 10) (v := .ref mr) (C := RX8) (T := TX8) (N := 4) hx hb hts zi_X8_manyNow_X8 hown hK (zo_R hR0 hS hAr) 0 rfl rfl 1 (by decide) (hts (.fieldLink RX8 10 "LockRoomsModel" "room" "LLockRoomsModel$Room;") (by decide +kernel)) (fun _ h9 => h9) rfl dX8_manyNow_85 ?_
  refine va_getN (D := (dC, dI)) (ci := 9) (v := .int 0) (C := RX7) (T := TX7) (N := 14) hx hb hts zi_X8_manyNow_X7 hown hK (zo_R hR0 hS hAr) 1 rfl rfl 8 (by decide) (va_Nw.use rfl (hN.1 ("LockRoomsModel", 122, "LockRoomsModel$Room", "solved", "I", "LockRoomsModel") (List.mem_of_getElem? (i := 9) rfl))) (fun _ h9 => h9) rfl dX8_manyNow_88 ?_
  refine va_iast hx hb hK hP hD hS 0 0 rfl rfl (by unfold vp_in; decide) dX8_manyNow_91 (fun H44 locs hP hD hS => ?_)
  obtain ⟨f45, ef45⟩ : ∃ z : Nat → Int32, z = upd f37 6 0 := ⟨_, rfl⟩
  have k46 : f45 0 = 0 := by rw [ef45]; exact (pk_un (by decide)).trans (k38)
  have k47 : f45 1 = 0 := by rw [ef45]; exact (pk_un (by decide)).trans (k39)
  have k48 : f45 2 = 0 := by rw [ef45]; exact (pk_un (by decide)).trans (k40)
  have k49 : f45 3 = 0 := by rw [ef45]; exact (pk_un (by decide)).trans (k41)
  have k50 : f45 4 = 0 := by rw [ef45]; exact (pk_un (by decide)).trans (k42)
  have k51 : f45 5 = 0 := by rw [ef45]; exact (pk_un (by decide)).trans (k43)
  have k52 : f45 6 = 0 := by rw [ef45]; exact pk_us
  have hP : va_P (dC, dI) vwCl [(q1, .inl (cA3, 19, .inl f45))] H44 := by rw [ef45]; exact hP
  have hD : va_D A [(q1, .inl (cA3, 19, .inl f45))] := by rw [ef45]; exact hD
  refine lv_dup hx hb dX8_manyNow_92 rfl ?_
  refine lv_bipush (v := 7) hx hb dX8_manyNow_93 (by decide) ?_
  refine lv_aload_n hx hb dX8_manyNow_95 rfl (lv_at hl 0 rfl) ?_
  refine va_get (D := (dC, dI)) (ci := 10) (v := .ref mr) (C := RX8) (T := TX8) (N := 4) hx hb hts zi_X8_manyNow_X8 hown hK (zo_R hR0 hS hAr) 0 rfl rfl 1 (by decide) (hts (.fieldLink RX8 10 "LockRoomsModel" "room" "LLockRoomsModel$Room;") (by decide +kernel)) (fun _ h9 => h9) rfl dX8_manyNow_96 ?_
  refine va_getN (D := (dC, dI)) (ci := 9) (v := .int 0) (C := RX7) (T := TX7) (N := 14) hx hb hts zi_X8_manyNow_X7 hown hK (zo_R hR0 hS hAr) 1 rfl rfl 9 (by decide) (va_Nw.use rfl (hN.1 ("LockRoomsModel", 125, "LockRoomsModel$Room", "lost", "I", "LockRoomsModel") (List.mem_of_getElem? (i := 10) rfl))) (fun _ h9 => h9) rfl dX8_manyNow_99 ?_
  refine va_iast hx hb hK hP hD hS 0 0 rfl rfl (by unfold vp_in; decide) dX8_manyNow_102 (fun H53 locs hP hD hS => ?_)
  obtain ⟨f54, ef54⟩ : ∃ z : Nat → Int32, z = upd f45 7 0 := ⟨_, rfl⟩
  have k55 : f54 0 = 0 := by rw [ef54]; exact (pk_un (by decide)).trans (k46)
  have k56 : f54 1 = 0 := by rw [ef54]; exact (pk_un (by decide)).trans (k47)
  have k57 : f54 2 = 0 := by rw [ef54]; exact (pk_un (by decide)).trans (k48)
  have k58 : f54 3 = 0 := by rw [ef54]; exact (pk_un (by decide)).trans (k49)
  have k59 : f54 4 = 0 := by rw [ef54]; exact (pk_un (by decide)).trans (k50)
  have k60 : f54 5 = 0 := by rw [ef54]; exact (pk_un (by decide)).trans (k51)
  have k61 : f54 6 = 0 := by rw [ef54]; exact (pk_un (by decide)).trans (k52)
  have k62 : f54 7 = 0 := by rw [ef54]; exact pk_us
  have hP : va_P (dC, dI) vwCl [(q1, .inl (cA3, 19, .inl f54))] H53 := by rw [ef54]; exact hP
  have hD : va_D A [(q1, .inl (cA3, 19, .inl f54))] := by rw [ef54]; exact hD
  refine lv_dup hx hb dX8_manyNow_103 rfl ?_
  refine lv_bipush (v := 8) hx hb dX8_manyNow_104 (by decide) ?_
  refine lv_aload_n hx hb dX8_manyNow_106 rfl (lv_at hl 0 rfl) ?_
  refine va_get (D := (dC, dI)) (ci := 10) (v := .ref mr) (C := RX8) (T := TX8) (N := 4) hx hb hts zi_X8_manyNow_X8 hown hK (zo_R hR0 hS hAr) 0 rfl rfl 1 (by decide) (hts (.fieldLink RX8 10 "LockRoomsModel" "room" "LLockRoomsModel$Room;") (by decide +kernel)) (fun _ h9 => h9) rfl dX8_manyNow_107 ?_
  refine va_getN (D := (dC, dI)) (ci := 9) (v := .int (-1)) (C := RX7) (T := TX7) (N := 14) hx hb hts zi_X8_manyNow_X7 hown hK (zo_R hR0 hS hAr) 1 rfl rfl 10 (by decide) (va_Nw.use rfl (hN.1 ("LockRoomsModel", 128, "LockRoomsModel$Room", "record", "I", "LockRoomsModel") (List.mem_of_getElem? (i := 11) rfl))) (fun _ h9 => h9) rfl dX8_manyNow_110 ?_
  refine va_iast hx hb hK hP hD hS 0 0 rfl rfl (by unfold vp_in; decide) dX8_manyNow_113 (fun H63 locs hP hD hS => ?_)
  obtain ⟨f64, ef64⟩ : ∃ z : Nat → Int32, z = upd f54 8 (-1) := ⟨_, rfl⟩
  have k65 : f64 0 = 0 := by rw [ef64]; exact (pk_un (by decide)).trans (k55)
  have k66 : f64 1 = 0 := by rw [ef64]; exact (pk_un (by decide)).trans (k56)
  have k67 : f64 2 = 0 := by rw [ef64]; exact (pk_un (by decide)).trans (k57)
  have k68 : f64 3 = 0 := by rw [ef64]; exact (pk_un (by decide)).trans (k58)
  have k69 : f64 4 = 0 := by rw [ef64]; exact (pk_un (by decide)).trans (k59)
  have k70 : f64 5 = 0 := by rw [ef64]; exact (pk_un (by decide)).trans (k60)
  have k71 : f64 6 = 0 := by rw [ef64]; exact (pk_un (by decide)).trans (k61)
  have k72 : f64 7 = 0 := by rw [ef64]; exact (pk_un (by decide)).trans (k62)
  have k73 : f64 8 = (-1) := by rw [ef64]; exact pk_us
  have hP : va_P (dC, dI) vwCl [(q1, .inl (cA3, 19, .inl f64))] H63 := by rw [ef64]; exact hP
  have hD : va_D A [(q1, .inl (cA3, 19, .inl f64))] := by rw [ef64]; exact hD
  refine lv_dup hx hb dX8_manyNow_114 rfl ?_
  refine lv_bipush (v := 9) hx hb dX8_manyNow_115 (by decide) ?_
  refine lv_aload_n hx hb dX8_manyNow_117 rfl (lv_at hl 0 rfl) ?_
  refine va_get (D := (dC, dI)) (ci := 10) (v := .ref mr) (C := RX8) (T := TX8) (N := 4) hx hb hts zi_X8_manyNow_X8 hown hK (zo_R hR0 hS hAr) 0 rfl rfl 1 (by decide) (hts (.fieldLink RX8 10 "LockRoomsModel" "room" "LLockRoomsModel$Room;") (by decide +kernel)) (fun _ h9 => h9) rfl dX8_manyNow_118 ?_
  refine va_getN (D := (dC, dI)) (ci := 9) (v := .int 0) (C := RX7) (T := TX7) (N := 14) hx hb hts zi_X8_manyNow_X7 hown hK (zo_R hR0 hS hAr) 1 rfl rfl 11 (by decide) (va_Nw.use rfl (hN.1 ("LockRoomsModel", 75, "LockRoomsModel$Room", "coins", "I", "LockRoomsModel") (List.mem_of_getElem? (i := 12) rfl))) (fun _ h9 => h9) rfl dX8_manyNow_121 ?_
  refine va_iast hx hb hK hP hD hS 0 0 rfl rfl (by unfold vp_in; decide) dX8_manyNow_124 (fun H74 locs hP hD hS => ?_)
  obtain ⟨f75, ef75⟩ : ∃ z : Nat → Int32, z = upd f64 9 0 := ⟨_, rfl⟩
  have k76 : f75 0 = 0 := by rw [ef75]; exact (pk_un (by decide)).trans (k65)
  have k77 : f75 1 = 0 := by rw [ef75]; exact (pk_un (by decide)).trans (k66)
  have k78 : f75 2 = 0 := by rw [ef75]; exact (pk_un (by decide)).trans (k67)
  have k79 : f75 3 = 0 := by rw [ef75]; exact (pk_un (by decide)).trans (k68)
  have k80 : f75 4 = 0 := by rw [ef75]; exact (pk_un (by decide)).trans (k69)
  have k81 : f75 5 = 0 := by rw [ef75]; exact (pk_un (by decide)).trans (k70)
  have k82 : f75 6 = 0 := by rw [ef75]; exact (pk_un (by decide)).trans (k71)
  have k83 : f75 7 = 0 := by rw [ef75]; exact (pk_un (by decide)).trans (k72)
  have k84 : f75 8 = (-1) := by rw [ef75]; exact (pk_un (by decide)).trans (k73)
  have k85 : f75 9 = 0 := by rw [ef75]; exact pk_us
  have hP : va_P (dC, dI) vwCl [(q1, .inl (cA3, 19, .inl f75))] H74 := by rw [ef75]; exact hP
  have hD : va_D A [(q1, .inl (cA3, 19, .inl f75))] := by rw [ef75]; exact hD
  refine lv_dup hx hb dX8_manyNow_125 rfl ?_
  refine lv_bipush (v := 10) hx hb dX8_manyNow_126 (by decide) ?_
  refine lv_aload_n hx hb dX8_manyNow_128 rfl (lv_at hl 0 rfl) ?_
  refine va_get (D := (dC, dI)) (ci := 10) (v := .ref mr) (C := RX8) (T := TX8) (N := 4) hx hb hts zi_X8_manyNow_X8 hown hK (zo_R hR0 hS hAr) 0 rfl rfl 1 (by decide) (hts (.fieldLink RX8 10 "LockRoomsModel" "room" "LLockRoomsModel$Room;") (by decide +kernel)) (fun _ h9 => h9) rfl dX8_manyNow_129 ?_
  refine va_getN (D := (dC, dI)) (ci := 9) (v := .int 0) (C := RX7) (T := TX7) (N := 14) hx hb hts zi_X8_manyNow_X7 hown hK (zo_R hR0 hS hAr) 1 rfl rfl 7 (by decide) (va_Nw.use rfl (hN.1 ("LockRoomsModel", 72, "LockRoomsModel$Room", "hints", "I", "LockRoomsModel") (List.mem_of_getElem? (i := 8) rfl))) (fun _ h9 => h9) rfl dX8_manyNow_132 ?_
  refine va_iast hx hb hK hP hD hS 0 0 rfl rfl (by unfold vp_in; decide) dX8_manyNow_135 (fun H86 locs hP hD hS => ?_)
  obtain ⟨f87, ef87⟩ : ∃ z : Nat → Int32, z = upd f75 10 0 := ⟨_, rfl⟩
  have k88 : f87 0 = 0 := by rw [ef87]; exact (pk_un (by decide)).trans (k76)
  have k89 : f87 1 = 0 := by rw [ef87]; exact (pk_un (by decide)).trans (k77)
  have k90 : f87 2 = 0 := by rw [ef87]; exact (pk_un (by decide)).trans (k78)
  have k91 : f87 3 = 0 := by rw [ef87]; exact (pk_un (by decide)).trans (k79)
  have k92 : f87 4 = 0 := by rw [ef87]; exact (pk_un (by decide)).trans (k80)
  have k93 : f87 5 = 0 := by rw [ef87]; exact (pk_un (by decide)).trans (k81)
  have k94 : f87 6 = 0 := by rw [ef87]; exact (pk_un (by decide)).trans (k82)
  have k95 : f87 7 = 0 := by rw [ef87]; exact (pk_un (by decide)).trans (k83)
  have k96 : f87 8 = (-1) := by rw [ef87]; exact (pk_un (by decide)).trans (k84)
  have k97 : f87 9 = 0 := by rw [ef87]; exact (pk_un (by decide)).trans (k85)
  have k98 : f87 10 = 0 := by rw [ef87]; exact pk_us
  have hP : va_P (dC, dI) vwCl [(q1, .inl (cA3, 19, .inl f87))] H86 := by rw [ef87]; exact hP
  have hD : va_D A [(q1, .inl (cA3, 19, .inl f87))] := by rw [ef87]; exact hD
  refine lv_dup hx hb dX8_manyNow_136 rfl ?_
  refine lv_bipush (v := 11) hx hb dX8_manyNow_137 (by decide) ?_
  refine lv_aload_n hx hb dX8_manyNow_139 rfl (lv_at hl 0 rfl) ?_
  refine va_get (D := (dC, dI)) (ci := 10) (v := .ref mr) (C := RX8) (T := TX8) (N := 4) hx hb hts zi_X8_manyNow_X8 hown hK (zo_R hR0 hS hAr) 0 rfl rfl 1 (by decide) (hts (.fieldLink RX8 10 "LockRoomsModel" "room" "LLockRoomsModel$Room;") (by decide +kernel)) (fun _ h9 => h9) rfl dX8_manyNow_140 ?_
  refine va_getN (D := (dC, dI)) (ci := 9) (v := .int (-1)) (C := RX7) (T := TX7) (N := 14) hx hb hts zi_X8_manyNow_X7 hown hK (zo_R hR0 hS hAr) 1 rfl rfl 3 (by decide) (va_Nw.use rfl (hN.1 ("LockRoomsModel", 52, "LockRoomsModel$Room", "exit", "I", "LockRoomsModel") (List.mem_of_getElem? (i := 4) rfl))) (fun _ h9 => h9) rfl dX8_manyNow_143 ?_
  refine va_iast hx hb hK hP hD hS 0 0 rfl rfl (by unfold vp_in; decide) dX8_manyNow_146 (fun H99 locs hP hD hS => ?_)
  obtain ⟨f100, ef100⟩ : ∃ z : Nat → Int32, z = upd f87 11 (-1) := ⟨_, rfl⟩
  have k101 : f100 0 = 0 := by rw [ef100]; exact (pk_un (by decide)).trans (k88)
  have k102 : f100 1 = 0 := by rw [ef100]; exact (pk_un (by decide)).trans (k89)
  have k103 : f100 2 = 0 := by rw [ef100]; exact (pk_un (by decide)).trans (k90)
  have k104 : f100 3 = 0 := by rw [ef100]; exact (pk_un (by decide)).trans (k91)
  have k105 : f100 4 = 0 := by rw [ef100]; exact (pk_un (by decide)).trans (k92)
  have k106 : f100 5 = 0 := by rw [ef100]; exact (pk_un (by decide)).trans (k93)
  have k107 : f100 6 = 0 := by rw [ef100]; exact (pk_un (by decide)).trans (k94)
  have k108 : f100 7 = 0 := by rw [ef100]; exact (pk_un (by decide)).trans (k95)
  have k109 : f100 8 = (-1) := by rw [ef100]; exact (pk_un (by decide)).trans (k96)
  have k110 : f100 9 = 0 := by rw [ef100]; exact (pk_un (by decide)).trans (k97)
  have k111 : f100 10 = 0 := by rw [ef100]; exact (pk_un (by decide)).trans (k98)
  have k112 : f100 11 = (-1) := by rw [ef100]; exact pk_us
  have hP : va_P (dC, dI) vwCl [(q1, .inl (cA3, 19, .inl f100))] H99 := by rw [ef100]; exact hP
  have hD : va_D A [(q1, .inl (cA3, 19, .inl f100))] := by rw [ef100]; exact hD
  refine lv_dup hx hb dX8_manyNow_147 rfl ?_
  refine lv_bipush (v := 12) hx hb dX8_manyNow_148 (by decide) ?_
  refine lv_aload_n hx hb dX8_manyNow_150 rfl (lv_at hl 0 rfl) ?_
  refine va_get (D := (dC, dI)) (ci := 10) (v := .ref mr) (C := RX8) (T := TX8) (N := 4) hx hb hts zi_X8_manyNow_X8 hown hK (zo_R hR0 hS hAr) 0 rfl rfl 1 (by decide) (hts (.fieldLink RX8 10 "LockRoomsModel" "room" "LLockRoomsModel$Room;") (by decide +kernel)) (fun _ h9 => h9) rfl dX8_manyNow_151 ?_
  have hPr := ((zo_R hR0 hS hAr)).sub (ws' := [(mr, .inr (9, [.ref ll, .ref lt, .ref lp, .int (-1), .int 0, .int 0, .int 0, .int 0, .int 0, .int 0, .int (-1), .int 0, .int 0, .int 0])), (ll, .inr (1, [.int 0, .ref ed, .int 0])), (lt, .inr (1, [.int 0, .ref ed, .int 0])), (lp, .inr (1, [.int 0, .ref ed, .int 0]))]) [1, 2, 3, 4] rfl
  have hPc := hP.sub (ws' := []) [] rfl
  have hDc := hD.sub (ws' := []) [] (by decide) rfl
  have hKc := hK.sub (tys' := []) [] rfl
  have hFc := va_free (wc := []) hD hS hA [] rfl
  refine va_calli (va_runV (As := []) (rest := [.int 12, .ref q1, .ref q1]) ⟨hx, hb, hml, hown, hts⟩ (cz_opened l dC dI ed H99.size mr ll lt lp) (cwV 0 hts gX8_manyNow_X7_opened rfl rfl rfl (by decide +kernel) ⟨Nat.le_of_ble_eq_true rfl, Nat.le_of_ble_eq_true rfl⟩) ⟨zb_blind, va_recv hK (zo_R hR0 hS hAr) (ci := 9) (q0 := 1) rfl rfl, fun U hU hW => ⟨rfl, zb_mk hU hW hPr hPc hKc hDc hN hH hS hFc zx_e⟩⟩ rfl rfl hl.1 rfl (lv_room (Nat.le_of_ble_eq_true rfl)) dX8_manyNow_154 ⟨Nat.le_of_ble_eq_true rfl, Nat.le_of_ble_eq_true rfl⟩) hS (fun q _ h => hFc q h) hFc (fun r114 u t H113 locs ht hvm hw hB hz1 hk1 hS => ?_)
  obtain rfl : r114 = 0 := hw
  have hP := zo_K hP hk1
  refine va_iast hx hb hK hP hD hS 0 0 rfl rfl (by unfold vp_in; decide) dX8_manyNow_157 (fun H115 locs hP hD hS => ?_)
  obtain ⟨f116, ef116⟩ : ∃ z : Nat → Int32, z = upd f100 12 0 := ⟨_, rfl⟩
  have k117 : f116 0 = 0 := by rw [ef116]; exact (pk_un (by decide)).trans (k101)
  have k118 : f116 1 = 0 := by rw [ef116]; exact (pk_un (by decide)).trans (k102)
  have k119 : f116 2 = 0 := by rw [ef116]; exact (pk_un (by decide)).trans (k103)
  have k120 : f116 3 = 0 := by rw [ef116]; exact (pk_un (by decide)).trans (k104)
  have k121 : f116 4 = 0 := by rw [ef116]; exact (pk_un (by decide)).trans (k105)
  have k122 : f116 5 = 0 := by rw [ef116]; exact (pk_un (by decide)).trans (k106)
  have k123 : f116 6 = 0 := by rw [ef116]; exact (pk_un (by decide)).trans (k107)
  have k124 : f116 7 = 0 := by rw [ef116]; exact (pk_un (by decide)).trans (k108)
  have k125 : f116 8 = (-1) := by rw [ef116]; exact (pk_un (by decide)).trans (k109)
  have k126 : f116 9 = 0 := by rw [ef116]; exact (pk_un (by decide)).trans (k110)
  have k127 : f116 10 = 0 := by rw [ef116]; exact (pk_un (by decide)).trans (k111)
  have k128 : f116 11 = (-1) := by rw [ef116]; exact (pk_un (by decide)).trans (k112)
  have k129 : f116 12 = 0 := by rw [ef116]; exact pk_us
  have hP : va_P (dC, dI) vwCl [(q1, .inl (cA3, 19, .inl f116))] H115 := by rw [ef116]; exact hP
  have hD : va_D A [(q1, .inl (cA3, 19, .inl f116))] := by rw [ef116]; exact hD
  refine lv_dup hx hb dX8_manyNow_158 rfl ?_
  refine lv_bipush (v := 13) hx hb dX8_manyNow_159 (by decide) ?_
  refine lv_aload_n hx hb dX8_manyNow_161 rfl (lv_at hl 0 rfl) ?_
  refine va_get (D := (dC, dI)) (ci := 10) (v := .ref mr) (C := RX8) (T := TX8) (N := 4) hx hb hts zi_X8_manyNow_X8 hown hK (zo_R hR0 hS hAr) 0 rfl rfl 1 (by decide) (hts (.fieldLink RX8 10 "LockRoomsModel" "room" "LLockRoomsModel$Room;") (by decide +kernel)) (fun _ h9 => h9) rfl dX8_manyNow_162 ?_
  have hPr := ((zo_R hR0 hS hAr)).sub (ws' := [(mr, .inr (9, [.ref ll, .ref lt, .ref lp, .int (-1), .int 0, .int 0, .int 0, .int 0, .int 0, .int 0, .int (-1), .int 0, .int 0, .int 0])), (ll, .inr (1, [.int 0, .ref ed, .int 0])), (lt, .inr (1, [.int 0, .ref ed, .int 0])), (lp, .inr (1, [.int 0, .ref ed, .int 0]))]) [1, 2, 3, 4] rfl
  have hPc := hP.sub (ws' := []) [] rfl
  have hDc := hD.sub (ws' := []) [] (by decide) rfl
  have hKc := hK.sub (tys' := []) [] rfl
  have hFc := va_free (wc := []) hD hS hA [] rfl
  refine va_calli (va_runV (As := []) (rest := [.int 13, .ref q1, .ref q1]) ⟨hx, hb, hml, hown, hts⟩ (cz_ready l dC dI ed H115.size mr ll lt lp) (cwV 0 hts gX8_manyNow_X7_ready rfl rfl rfl (by decide +kernel) ⟨Nat.le_of_ble_eq_true rfl, Nat.le_of_ble_eq_true rfl⟩) ⟨zb_blind, va_recv hK (zo_R hR0 hS hAr) (ci := 9) (q0 := 1) rfl rfl, fun U hU hW => ⟨rfl, zb_mk hU hW hPr hPc hKc hDc hN hH hS hFc zx_e⟩⟩ rfl rfl hl.1 rfl (lv_room (Nat.le_of_ble_eq_true rfl)) dX8_manyNow_165 ⟨Nat.le_of_ble_eq_true rfl, Nat.le_of_ble_eq_true rfl⟩) hS (fun q _ h => hFc q h) hFc (fun r131 u t H130 locs ht hvm hw hB hz1 hk1 hS => ?_)
  obtain rfl : r131 = 0 := hw
  have hP := zo_K hP hk1
  refine va_iast hx hb hK hP hD hS 0 0 rfl rfl (by unfold vp_in; decide) dX8_manyNow_168 (fun H132 locs hP hD hS => ?_)
  obtain ⟨f133, ef133⟩ : ∃ z : Nat → Int32, z = upd f116 13 0 := ⟨_, rfl⟩
  have k134 : f133 0 = 0 := by rw [ef133]; exact (pk_un (by decide)).trans (k117)
  have k135 : f133 1 = 0 := by rw [ef133]; exact (pk_un (by decide)).trans (k118)
  have k136 : f133 2 = 0 := by rw [ef133]; exact (pk_un (by decide)).trans (k119)
  have k137 : f133 3 = 0 := by rw [ef133]; exact (pk_un (by decide)).trans (k120)
  have k138 : f133 4 = 0 := by rw [ef133]; exact (pk_un (by decide)).trans (k121)
  have k139 : f133 5 = 0 := by rw [ef133]; exact (pk_un (by decide)).trans (k122)
  have k140 : f133 6 = 0 := by rw [ef133]; exact (pk_un (by decide)).trans (k123)
  have k141 : f133 7 = 0 := by rw [ef133]; exact (pk_un (by decide)).trans (k124)
  have k142 : f133 8 = (-1) := by rw [ef133]; exact (pk_un (by decide)).trans (k125)
  have k143 : f133 9 = 0 := by rw [ef133]; exact (pk_un (by decide)).trans (k126)
  have k144 : f133 10 = 0 := by rw [ef133]; exact (pk_un (by decide)).trans (k127)
  have k145 : f133 11 = (-1) := by rw [ef133]; exact (pk_un (by decide)).trans (k128)
  have k146 : f133 12 = 0 := by rw [ef133]; exact (pk_un (by decide)).trans (k129)
  have k147 : f133 13 = 0 := by rw [ef133]; exact pk_us
  have hP : va_P (dC, dI) vwCl [(q1, .inl (cA3, 19, .inl f133))] H132 := by rw [ef133]; exact hP
  have hD : va_D A [(q1, .inl (cA3, 19, .inl f133))] := by rw [ef133]; exact hD
  refine lv_dup hx hb dX8_manyNow_169 rfl ?_
  refine lv_bipush (v := 14) hx hb dX8_manyNow_170 (by decide) ?_
  refine lv_aload_n hx hb dX8_manyNow_172 rfl (lv_at hl 0 rfl) ?_
  refine va_get (D := (dC, dI)) (ci := 10) (v := .ref mr) (C := RX8) (T := TX8) (N := 4) hx hb hts zi_X8_manyNow_X8 hown hK (zo_R hR0 hS hAr) 0 rfl rfl 1 (by decide) (hts (.fieldLink RX8 10 "LockRoomsModel" "room" "LLockRoomsModel$Room;") (by decide +kernel)) (fun _ h9 => h9) rfl dX8_manyNow_173 ?_
  refine lv_iconst (v := 1) hx hb dX8_manyNow_176 (by decide) ?_
  have hPr := ((zo_R hR0 hS hAr)).sub (ws' := [(mr, .inr (9, [.ref ll, .ref lt, .ref lp, .int (-1), .int 0, .int 0, .int 0, .int 0, .int 0, .int 0, .int (-1), .int 0, .int 0, .int 0])), (ll, .inr (1, [.int 0, .ref ed, .int 0])), (lt, .inr (1, [.int 0, .ref ed, .int 0])), (lp, .inr (1, [.int 0, .ref ed, .int 0]))]) [1, 2, 3, 4] rfl
  have hPc := hP.sub (ws' := []) [] rfl
  have hDc := hD.sub (ws' := []) [] (by decide) rfl
  have hKc := hK.sub (tys' := []) [] rfl
  have hFc := va_free (wc := []) hD hS hA [] rfl
  refine va_calli (va_runV (As := [.int 1]) (rest := [.int 14, .ref q1, .ref q1]) ⟨hx, hb, hml, hown, hts⟩ (cz_inState l dC dI ed H132.size mr ll lt lp 1) (cwV 1 hts gX8_manyNow_X7_inState rfl rfl rfl (by decide +kernel) ⟨Nat.le_of_ble_eq_true rfl, Nat.le_of_ble_eq_true rfl⟩) ⟨zb_blind, va_recv hK (zo_R hR0 hS hAr) (ci := 9) (q0 := 1) rfl rfl, fun U hU hW => ⟨rfl, zb_mk hU hW hPr hPc hKc hDc hN hH hS hFc zx_e⟩⟩ rfl rfl hl.1 rfl (lv_room (Nat.le_of_ble_eq_true rfl)) dX8_manyNow_177 ⟨Nat.le_of_ble_eq_true rfl, Nat.le_of_ble_eq_true rfl⟩) hS (fun q _ h => hFc q h) hFc (fun r149 u t H148 locs ht hvm hw hB hz1 hk1 hS => ?_)
  obtain rfl : r149 = 0 := hw
  have hP := zo_K hP hk1
  refine va_iast hx hb hK hP hD hS 0 0 rfl rfl (by unfold vp_in; decide) dX8_manyNow_180 (fun H150 locs hP hD hS => ?_)
  obtain ⟨f151, ef151⟩ : ∃ z : Nat → Int32, z = upd f133 14 0 := ⟨_, rfl⟩
  have k152 : f151 0 = 0 := by rw [ef151]; exact (pk_un (by decide)).trans (k134)
  have k153 : f151 1 = 0 := by rw [ef151]; exact (pk_un (by decide)).trans (k135)
  have k154 : f151 2 = 0 := by rw [ef151]; exact (pk_un (by decide)).trans (k136)
  have k155 : f151 3 = 0 := by rw [ef151]; exact (pk_un (by decide)).trans (k137)
  have k156 : f151 4 = 0 := by rw [ef151]; exact (pk_un (by decide)).trans (k138)
  have k157 : f151 5 = 0 := by rw [ef151]; exact (pk_un (by decide)).trans (k139)
  have k158 : f151 6 = 0 := by rw [ef151]; exact (pk_un (by decide)).trans (k140)
  have k159 : f151 7 = 0 := by rw [ef151]; exact (pk_un (by decide)).trans (k141)
  have k160 : f151 8 = (-1) := by rw [ef151]; exact (pk_un (by decide)).trans (k142)
  have k161 : f151 9 = 0 := by rw [ef151]; exact (pk_un (by decide)).trans (k143)
  have k162 : f151 10 = 0 := by rw [ef151]; exact (pk_un (by decide)).trans (k144)
  have k163 : f151 11 = (-1) := by rw [ef151]; exact (pk_un (by decide)).trans (k145)
  have k164 : f151 12 = 0 := by rw [ef151]; exact (pk_un (by decide)).trans (k146)
  have k165 : f151 13 = 0 := by rw [ef151]; exact (pk_un (by decide)).trans (k147)
  have k166 : f151 14 = 0 := by rw [ef151]; exact pk_us
  have hP : va_P (dC, dI) vwCl [(q1, .inl (cA3, 19, .inl f151))] H150 := by rw [ef151]; exact hP
  have hD : va_D A [(q1, .inl (cA3, 19, .inl f151))] := by rw [ef151]; exact hD
  refine lv_dup hx hb dX8_manyNow_181 rfl ?_
  refine lv_bipush (v := 15) hx hb dX8_manyNow_182 (by decide) ?_
  refine lv_aload_n hx hb dX8_manyNow_184 rfl (lv_at hl 0 rfl) ?_
  refine va_get (D := (dC, dI)) (ci := 10) (v := .ref mr) (C := RX8) (T := TX8) (N := 4) hx hb hts zi_X8_manyNow_X8 hown hK (zo_R hR0 hS hAr) 0 rfl rfl 1 (by decide) (hts (.fieldLink RX8 10 "LockRoomsModel" "room" "LLockRoomsModel$Room;") (by decide +kernel)) (fun _ h9 => h9) rfl dX8_manyNow_185 ?_
  refine lv_iconst (v := 2) hx hb dX8_manyNow_188 (by decide) ?_
  have hPr := ((zo_R hR0 hS hAr)).sub (ws' := [(mr, .inr (9, [.ref ll, .ref lt, .ref lp, .int (-1), .int 0, .int 0, .int 0, .int 0, .int 0, .int 0, .int (-1), .int 0, .int 0, .int 0])), (ll, .inr (1, [.int 0, .ref ed, .int 0])), (lt, .inr (1, [.int 0, .ref ed, .int 0])), (lp, .inr (1, [.int 0, .ref ed, .int 0]))]) [1, 2, 3, 4] rfl
  have hPc := hP.sub (ws' := []) [] rfl
  have hDc := hD.sub (ws' := []) [] (by decide) rfl
  have hKc := hK.sub (tys' := []) [] rfl
  have hFc := va_free (wc := []) hD hS hA [] rfl
  refine va_calli (va_runV (As := [.int 2]) (rest := [.int 15, .ref q1, .ref q1]) ⟨hx, hb, hml, hown, hts⟩ (cz_inState l dC dI ed H150.size mr ll lt lp 2) (cwV 1 hts gX8_manyNow_X7_inState rfl rfl rfl (by decide +kernel) ⟨Nat.le_of_ble_eq_true rfl, Nat.le_of_ble_eq_true rfl⟩) ⟨zb_blind, va_recv hK (zo_R hR0 hS hAr) (ci := 9) (q0 := 1) rfl rfl, fun U hU hW => ⟨rfl, zb_mk hU hW hPr hPc hKc hDc hN hH hS hFc zx_e⟩⟩ rfl rfl hl.1 rfl (lv_room (Nat.le_of_ble_eq_true rfl)) dX8_manyNow_189 ⟨Nat.le_of_ble_eq_true rfl, Nat.le_of_ble_eq_true rfl⟩) hS (fun q _ h => hFc q h) hFc (fun r168 u t H167 locs ht hvm hw hB hz1 hk1 hS => ?_)
  obtain rfl : r168 = 0 := hw
  have hP := zo_K hP hk1
  refine va_iast hx hb hK hP hD hS 0 0 rfl rfl (by unfold vp_in; decide) dX8_manyNow_192 (fun H169 locs hP hD hS => ?_)
  obtain ⟨f170, ef170⟩ : ∃ z : Nat → Int32, z = upd f151 15 0 := ⟨_, rfl⟩
  have k171 : f170 0 = 0 := by rw [ef170]; exact (pk_un (by decide)).trans (k152)
  have k172 : f170 1 = 0 := by rw [ef170]; exact (pk_un (by decide)).trans (k153)
  have k173 : f170 2 = 0 := by rw [ef170]; exact (pk_un (by decide)).trans (k154)
  have k174 : f170 3 = 0 := by rw [ef170]; exact (pk_un (by decide)).trans (k155)
  have k175 : f170 4 = 0 := by rw [ef170]; exact (pk_un (by decide)).trans (k156)
  have k176 : f170 5 = 0 := by rw [ef170]; exact (pk_un (by decide)).trans (k157)
  have k177 : f170 6 = 0 := by rw [ef170]; exact (pk_un (by decide)).trans (k158)
  have k178 : f170 7 = 0 := by rw [ef170]; exact (pk_un (by decide)).trans (k159)
  have k179 : f170 8 = (-1) := by rw [ef170]; exact (pk_un (by decide)).trans (k160)
  have k180 : f170 9 = 0 := by rw [ef170]; exact (pk_un (by decide)).trans (k161)
  have k181 : f170 10 = 0 := by rw [ef170]; exact (pk_un (by decide)).trans (k162)
  have k182 : f170 11 = (-1) := by rw [ef170]; exact (pk_un (by decide)).trans (k163)
  have k183 : f170 12 = 0 := by rw [ef170]; exact (pk_un (by decide)).trans (k164)
  have k184 : f170 13 = 0 := by rw [ef170]; exact (pk_un (by decide)).trans (k165)
  have k185 : f170 14 = 0 := by rw [ef170]; exact (pk_un (by decide)).trans (k166)
  have k186 : f170 15 = 0 := by rw [ef170]; exact pk_us
  have hP : va_P (dC, dI) vwCl [(q1, .inl (cA3, 19, .inl f170))] H169 := by rw [ef170]; exact hP
  have hD : va_D A [(q1, .inl (cA3, 19, .inl f170))] := by rw [ef170]; exact hD
  refine lv_dup hx hb dX8_manyNow_193 rfl ?_
  refine lv_bipush (v := 16) hx hb dX8_manyNow_194 (by decide) ?_
  refine lv_aload_n hx hb dX8_manyNow_196 rfl (lv_at hl 0 rfl) ?_
  refine va_get (D := (dC, dI)) (ci := 10) (v := .ref mr) (C := RX8) (T := TX8) (N := 4) hx hb hts zi_X8_manyNow_X8 hown hK (zo_R hR0 hS hAr) 0 rfl rfl 1 (by decide) (hts (.fieldLink RX8 10 "LockRoomsModel" "room" "LLockRoomsModel$Room;") (by decide +kernel)) (fun _ h9 => h9) rfl dX8_manyNow_197 ?_
  refine lv_iconst (v := 3) hx hb dX8_manyNow_200 (by decide) ?_
  have hPr := ((zo_R hR0 hS hAr)).sub (ws' := [(mr, .inr (9, [.ref ll, .ref lt, .ref lp, .int (-1), .int 0, .int 0, .int 0, .int 0, .int 0, .int 0, .int (-1), .int 0, .int 0, .int 0])), (ll, .inr (1, [.int 0, .ref ed, .int 0])), (lt, .inr (1, [.int 0, .ref ed, .int 0])), (lp, .inr (1, [.int 0, .ref ed, .int 0]))]) [1, 2, 3, 4] rfl
  have hPc := hP.sub (ws' := []) [] rfl
  have hDc := hD.sub (ws' := []) [] (by decide) rfl
  have hKc := hK.sub (tys' := []) [] rfl
  have hFc := va_free (wc := []) hD hS hA [] rfl
  refine va_calli (va_runV (As := [.int 3]) (rest := [.int 16, .ref q1, .ref q1]) ⟨hx, hb, hml, hown, hts⟩ (cz_inState l dC dI ed H169.size mr ll lt lp 3) (cwV 1 hts gX8_manyNow_X7_inState rfl rfl rfl (by decide +kernel) ⟨Nat.le_of_ble_eq_true rfl, Nat.le_of_ble_eq_true rfl⟩) ⟨zb_blind, va_recv hK (zo_R hR0 hS hAr) (ci := 9) (q0 := 1) rfl rfl, fun U hU hW => ⟨rfl, zb_mk hU hW hPr hPc hKc hDc hN hH hS hFc zx_e⟩⟩ rfl rfl hl.1 rfl (lv_room (Nat.le_of_ble_eq_true rfl)) dX8_manyNow_201 ⟨Nat.le_of_ble_eq_true rfl, Nat.le_of_ble_eq_true rfl⟩) hS (fun q _ h => hFc q h) hFc (fun r188 u t H187 locs ht hvm hw hB hz1 hk1 hS => ?_)
  obtain rfl : r188 = 0 := hw
  have hP := zo_K hP hk1
  refine va_iast hx hb hK hP hD hS 0 0 rfl rfl (by unfold vp_in; decide) dX8_manyNow_204 (fun H189 locs hP hD hS => ?_)
  obtain ⟨f190, ef190⟩ : ∃ z : Nat → Int32, z = upd f170 16 0 := ⟨_, rfl⟩
  have k191 : f190 0 = 0 := by rw [ef190]; exact (pk_un (by decide)).trans (k171)
  have k192 : f190 1 = 0 := by rw [ef190]; exact (pk_un (by decide)).trans (k172)
  have k193 : f190 2 = 0 := by rw [ef190]; exact (pk_un (by decide)).trans (k173)
  have k194 : f190 3 = 0 := by rw [ef190]; exact (pk_un (by decide)).trans (k174)
  have k195 : f190 4 = 0 := by rw [ef190]; exact (pk_un (by decide)).trans (k175)
  have k196 : f190 5 = 0 := by rw [ef190]; exact (pk_un (by decide)).trans (k176)
  have k197 : f190 6 = 0 := by rw [ef190]; exact (pk_un (by decide)).trans (k177)
  have k198 : f190 7 = 0 := by rw [ef190]; exact (pk_un (by decide)).trans (k178)
  have k199 : f190 8 = (-1) := by rw [ef190]; exact (pk_un (by decide)).trans (k179)
  have k200 : f190 9 = 0 := by rw [ef190]; exact (pk_un (by decide)).trans (k180)
  have k201 : f190 10 = 0 := by rw [ef190]; exact (pk_un (by decide)).trans (k181)
  have k202 : f190 11 = (-1) := by rw [ef190]; exact (pk_un (by decide)).trans (k182)
  have k203 : f190 12 = 0 := by rw [ef190]; exact (pk_un (by decide)).trans (k183)
  have k204 : f190 13 = 0 := by rw [ef190]; exact (pk_un (by decide)).trans (k184)
  have k205 : f190 14 = 0 := by rw [ef190]; exact (pk_un (by decide)).trans (k185)
  have k206 : f190 15 = 0 := by rw [ef190]; exact (pk_un (by decide)).trans (k186)
  have k207 : f190 16 = 0 := by rw [ef190]; exact pk_us
  have hP : va_P (dC, dI) vwCl [(q1, .inl (cA3, 19, .inl f190))] H189 := by rw [ef190]; exact hP
  have hD : va_D A [(q1, .inl (cA3, 19, .inl f190))] := by rw [ef190]; exact hD
  refine lv_dup hx hb dX8_manyNow_205 rfl ?_
  refine lv_bipush (v := 17) hx hb dX8_manyNow_206 (by decide) ?_
  refine lv_aload_n hx hb dX8_manyNow_208 rfl (lv_at hl 0 rfl) ?_
  refine va_get (D := (dC, dI)) (ci := 10) (v := .int 1) (C := RX8) (T := TX8) (N := 4) hx hb hts zi_X8_manyNow_X8 hown hK (zo_R hR0 hS hAr) 0 rfl rfl 2 (by decide) (hts (.fieldLink RX8 16 "LockRoomsModel" "hasPower" "Z") (by decide +kernel)) (fun _ h9 => h9) rfl dX8_manyNow_209 ?_
  refine lv_if_eq (tgt := 219) hx hb dX8_manyNow_212 (by decide) (fun h => absurd h (by decide)) (fun _ => ?_)
  refine lv_iconst (v := 1) hx hb dX8_manyNow_215 (by decide) ?_
  refine lv_goto (tgt := 220) hx hb dX8_manyNow_216 (by decide) ?_
  refine va_iast hx hb hK hP hD hS 0 0 rfl rfl (by unfold vp_in; decide) dX8_manyNow_220 (fun H208 locs hP hD hS => ?_)
  obtain ⟨f209, ef209⟩ : ∃ z : Nat → Int32, z = upd f190 17 1 := ⟨_, rfl⟩
  have k210 : f209 0 = 0 := by rw [ef209]; exact (pk_un (by decide)).trans (k191)
  have k211 : f209 1 = 0 := by rw [ef209]; exact (pk_un (by decide)).trans (k192)
  have k212 : f209 2 = 0 := by rw [ef209]; exact (pk_un (by decide)).trans (k193)
  have k213 : f209 3 = 0 := by rw [ef209]; exact (pk_un (by decide)).trans (k194)
  have k214 : f209 4 = 0 := by rw [ef209]; exact (pk_un (by decide)).trans (k195)
  have k215 : f209 5 = 0 := by rw [ef209]; exact (pk_un (by decide)).trans (k196)
  have k216 : f209 6 = 0 := by rw [ef209]; exact (pk_un (by decide)).trans (k197)
  have k217 : f209 7 = 0 := by rw [ef209]; exact (pk_un (by decide)).trans (k198)
  have k218 : f209 8 = (-1) := by rw [ef209]; exact (pk_un (by decide)).trans (k199)
  have k219 : f209 9 = 0 := by rw [ef209]; exact (pk_un (by decide)).trans (k200)
  have k220 : f209 10 = 0 := by rw [ef209]; exact (pk_un (by decide)).trans (k201)
  have k221 : f209 11 = (-1) := by rw [ef209]; exact (pk_un (by decide)).trans (k202)
  have k222 : f209 12 = 0 := by rw [ef209]; exact (pk_un (by decide)).trans (k203)
  have k223 : f209 13 = 0 := by rw [ef209]; exact (pk_un (by decide)).trans (k204)
  have k224 : f209 14 = 0 := by rw [ef209]; exact (pk_un (by decide)).trans (k205)
  have k225 : f209 15 = 0 := by rw [ef209]; exact (pk_un (by decide)).trans (k206)
  have k226 : f209 16 = 0 := by rw [ef209]; exact (pk_un (by decide)).trans (k207)
  have k227 : f209 17 = 1 := by rw [ef209]; exact pk_us
  have hP : va_P (dC, dI) vwCl [(q1, .inl (cA3, 19, .inl f209))] H208 := by rw [ef209]; exact hP
  have hD : va_D A [(q1, .inl (cA3, 19, .inl f209))] := by rw [ef209]; exact hD
  refine lv_dup hx hb dX8_manyNow_221 rfl ?_
  refine lv_bipush (v := 18) hx hb dX8_manyNow_222 (by decide) ?_
  refine lv_aload_n hx hb dX8_manyNow_224 rfl (lv_at hl 0 rfl) ?_
  refine va_get (D := (dC, dI)) (ci := 10) (v := .ref mr) (C := RX8) (T := TX8) (N := 4) hx hb hts zi_X8_manyNow_X8 hown hK (zo_R hR0 hS hAr) 0 rfl rfl 1 (by decide) (hts (.fieldLink RX8 10 "LockRoomsModel" "room" "LLockRoomsModel$Room;") (by decide +kernel)) (fun _ h9 => h9) rfl dX8_manyNow_225 ?_
  refine va_getN (D := (dC, dI)) (ci := 9) (v := .int 0) (C := RX7) (T := TX7) (N := 14) hx hb hts zi_X8_manyNow_X7 hown hK (zo_R hR0 hS hAr) 1 rfl rfl 12 (by decide) (va_Nw.use rfl (hN.1 ("LockRoomsModel", 137, "LockRoomsModel$Room", "idled", "I", "LockRoomsModel") (List.mem_of_getElem? (i := 13) rfl))) (fun _ h9 => h9) rfl dX8_manyNow_228 ?_
  refine va_iast hx hb hK hP hD hS 0 0 rfl rfl (by unfold vp_in; decide) dX8_manyNow_231 (fun H228 locs hP hD hS => ?_)
  obtain ⟨f229, ef229⟩ : ∃ z : Nat → Int32, z = upd f209 18 0 := ⟨_, rfl⟩
  have k230 : f229 0 = 0 := by rw [ef229]; exact (pk_un (by decide)).trans (k210)
  have k231 : f229 1 = 0 := by rw [ef229]; exact (pk_un (by decide)).trans (k211)
  have k232 : f229 2 = 0 := by rw [ef229]; exact (pk_un (by decide)).trans (k212)
  have k233 : f229 3 = 0 := by rw [ef229]; exact (pk_un (by decide)).trans (k213)
  have k234 : f229 4 = 0 := by rw [ef229]; exact (pk_un (by decide)).trans (k214)
  have k235 : f229 5 = 0 := by rw [ef229]; exact (pk_un (by decide)).trans (k215)
  have k236 : f229 6 = 0 := by rw [ef229]; exact (pk_un (by decide)).trans (k216)
  have k237 : f229 7 = 0 := by rw [ef229]; exact (pk_un (by decide)).trans (k217)
  have k238 : f229 8 = (-1) := by rw [ef229]; exact (pk_un (by decide)).trans (k218)
  have k239 : f229 9 = 0 := by rw [ef229]; exact (pk_un (by decide)).trans (k219)
  have k240 : f229 10 = 0 := by rw [ef229]; exact (pk_un (by decide)).trans (k220)
  have k241 : f229 11 = (-1) := by rw [ef229]; exact (pk_un (by decide)).trans (k221)
  have k242 : f229 12 = 0 := by rw [ef229]; exact (pk_un (by decide)).trans (k222)
  have k243 : f229 13 = 0 := by rw [ef229]; exact (pk_un (by decide)).trans (k223)
  have k244 : f229 14 = 0 := by rw [ef229]; exact (pk_un (by decide)).trans (k224)
  have k245 : f229 15 = 0 := by rw [ef229]; exact (pk_un (by decide)).trans (k225)
  have k246 : f229 16 = 0 := by rw [ef229]; exact (pk_un (by decide)).trans (k226)
  have k247 : f229 17 = 1 := by rw [ef229]; exact (pk_un (by decide)).trans (k227)
  have k248 : f229 18 = 0 := by rw [ef229]; exact pk_us
  have hP : va_P (dC, dI) vwCl [(q1, .inl (cA3, 19, .inl f229))] H228 := by rw [ef229]; exact hP
  have hD : va_D A [(q1, .inl (cA3, 19, .inl f229))] := by rw [ef229]; exact hD
  refine lv_astore_n (lv' := [(2, .ref q1), (0, .ref mo), (1, .int x0)]) hx hb dX8_manyNow_232 rfl hl (by decide) rfl (fun ls hl => ?_)
  refine lv_aload_n hx hb dX8_manyNow_233 rfl (lv_at hl 0 rfl) ?_
  refine lv_iload_n hx hb dX8_manyNow_234 rfl (lv_at hl 2 rfl) ?_
  rcases zm_19 hr18 with rfl | rfl | rfl | rfl | rfl | rfl | rfl | rfl | rfl | rfl | rfl | rfl | rfl | rfl | rfl | rfl | rfl | rfl | rfl
  · skip
    refine va_iald hx hb hK hP 0 0 rfl rfl (by unfold vp_in; decide) dX8_manyNow_235 ?_
    refine zo_i (v := 0) (by rw [show Int32.toNatClampNeg 0 = 0 from by decide]; exact k230) ?_
    refine W.widen (k := 1) (n := 19) (Nat.le_of_ble_eq_true rfl) (Nat.le_of_ble_eq_true rfl) ?_
    exact W.iret hx hb hr (fun t ht hW => ⟨⟨0, (), rfl, (by decide), trivial⟩, hS.F ht⟩) hS.2.2 dX8_manyNow_236
  · skip
    refine va_iald hx hb hK hP 0 0 rfl rfl (by unfold vp_in; decide) dX8_manyNow_235 ?_
    refine zo_i (v := 0) (by rw [show Int32.toNatClampNeg 1 = 1 from by decide]; exact k231) ?_
    refine W.widen (k := 1) (n := 19) (Nat.le_of_ble_eq_true rfl) (Nat.le_of_ble_eq_true rfl) ?_
    exact W.iret hx hb hr (fun t ht hW => ⟨⟨0, (), rfl, (by decide), trivial⟩, hS.F ht⟩) hS.2.2 dX8_manyNow_236
  · skip
    refine va_iald hx hb hK hP 0 0 rfl rfl (by unfold vp_in; decide) dX8_manyNow_235 ?_
    refine zo_i (v := 0) (by rw [show Int32.toNatClampNeg 2 = 2 from by decide]; exact k232) ?_
    refine W.widen (k := 1) (n := 19) (Nat.le_of_ble_eq_true rfl) (Nat.le_of_ble_eq_true rfl) ?_
    exact W.iret hx hb hr (fun t ht hW => ⟨⟨0, (), rfl, (by decide), trivial⟩, hS.F ht⟩) hS.2.2 dX8_manyNow_236
  · skip
    refine va_iald hx hb hK hP 0 0 rfl rfl (by unfold vp_in; decide) dX8_manyNow_235 ?_
    refine zo_i (v := 0) (by rw [show Int32.toNatClampNeg 3 = 3 from by decide]; exact k233) ?_
    refine W.widen (k := 1) (n := 19) (Nat.le_of_ble_eq_true rfl) (Nat.le_of_ble_eq_true rfl) ?_
    exact W.iret hx hb hr (fun t ht hW => ⟨⟨0, (), rfl, (by decide), trivial⟩, hS.F ht⟩) hS.2.2 dX8_manyNow_236
  · skip
    refine va_iald hx hb hK hP 0 0 rfl rfl (by unfold vp_in; decide) dX8_manyNow_235 ?_
    refine zo_i (v := 0) (by rw [show Int32.toNatClampNeg 4 = 4 from by decide]; exact k234) ?_
    refine W.widen (k := 1) (n := 19) (Nat.le_of_ble_eq_true rfl) (Nat.le_of_ble_eq_true rfl) ?_
    exact W.iret hx hb hr (fun t ht hW => ⟨⟨0, (), rfl, (by decide), trivial⟩, hS.F ht⟩) hS.2.2 dX8_manyNow_236
  · skip
    refine va_iald hx hb hK hP 0 0 rfl rfl (by unfold vp_in; decide) dX8_manyNow_235 ?_
    refine zo_i (v := 0) (by rw [show Int32.toNatClampNeg 5 = 5 from by decide]; exact k235) ?_
    refine W.widen (k := 1) (n := 19) (Nat.le_of_ble_eq_true rfl) (Nat.le_of_ble_eq_true rfl) ?_
    exact W.iret hx hb hr (fun t ht hW => ⟨⟨0, (), rfl, (by decide), trivial⟩, hS.F ht⟩) hS.2.2 dX8_manyNow_236
  · skip
    refine va_iald hx hb hK hP 0 0 rfl rfl (by unfold vp_in; decide) dX8_manyNow_235 ?_
    refine zo_i (v := 0) (by rw [show Int32.toNatClampNeg 6 = 6 from by decide]; exact k236) ?_
    refine W.widen (k := 1) (n := 19) (Nat.le_of_ble_eq_true rfl) (Nat.le_of_ble_eq_true rfl) ?_
    exact W.iret hx hb hr (fun t ht hW => ⟨⟨0, (), rfl, (by decide), trivial⟩, hS.F ht⟩) hS.2.2 dX8_manyNow_236
  · skip
    refine va_iald hx hb hK hP 0 0 rfl rfl (by unfold vp_in; decide) dX8_manyNow_235 ?_
    refine zo_i (v := 0) (by rw [show Int32.toNatClampNeg 7 = 7 from by decide]; exact k237) ?_
    refine W.widen (k := 1) (n := 19) (Nat.le_of_ble_eq_true rfl) (Nat.le_of_ble_eq_true rfl) ?_
    exact W.iret hx hb hr (fun t ht hW => ⟨⟨0, (), rfl, (by decide), trivial⟩, hS.F ht⟩) hS.2.2 dX8_manyNow_236
  · skip
    refine va_iald hx hb hK hP 0 0 rfl rfl (by unfold vp_in; decide) dX8_manyNow_235 ?_
    refine zo_i (v := (-1)) (by rw [show Int32.toNatClampNeg 8 = 8 from by decide]; exact k238) ?_
    refine W.widen (k := 1) (n := 19) (Nat.le_of_ble_eq_true rfl) (Nat.le_of_ble_eq_true rfl) ?_
    exact W.iret hx hb hr (fun t ht hW => ⟨⟨(-1), (), rfl, (by decide), trivial⟩, hS.F ht⟩) hS.2.2 dX8_manyNow_236
  · skip
    refine va_iald hx hb hK hP 0 0 rfl rfl (by unfold vp_in; decide) dX8_manyNow_235 ?_
    refine zo_i (v := 0) (by rw [show Int32.toNatClampNeg 9 = 9 from by decide]; exact k239) ?_
    refine W.widen (k := 1) (n := 19) (Nat.le_of_ble_eq_true rfl) (Nat.le_of_ble_eq_true rfl) ?_
    exact W.iret hx hb hr (fun t ht hW => ⟨⟨0, (), rfl, (by decide), trivial⟩, hS.F ht⟩) hS.2.2 dX8_manyNow_236
  · skip
    refine va_iald hx hb hK hP 0 0 rfl rfl (by unfold vp_in; decide) dX8_manyNow_235 ?_
    refine zo_i (v := 0) (by rw [show Int32.toNatClampNeg 10 = 10 from by decide]; exact k240) ?_
    refine W.widen (k := 1) (n := 19) (Nat.le_of_ble_eq_true rfl) (Nat.le_of_ble_eq_true rfl) ?_
    exact W.iret hx hb hr (fun t ht hW => ⟨⟨0, (), rfl, (by decide), trivial⟩, hS.F ht⟩) hS.2.2 dX8_manyNow_236
  · skip
    refine va_iald hx hb hK hP 0 0 rfl rfl (by unfold vp_in; decide) dX8_manyNow_235 ?_
    refine zo_i (v := (-1)) (by rw [show Int32.toNatClampNeg 11 = 11 from by decide]; exact k241) ?_
    refine W.widen (k := 1) (n := 19) (Nat.le_of_ble_eq_true rfl) (Nat.le_of_ble_eq_true rfl) ?_
    exact W.iret hx hb hr (fun t ht hW => ⟨⟨(-1), (), rfl, (by decide), trivial⟩, hS.F ht⟩) hS.2.2 dX8_manyNow_236
  · skip
    refine va_iald hx hb hK hP 0 0 rfl rfl (by unfold vp_in; decide) dX8_manyNow_235 ?_
    refine zo_i (v := 0) (by rw [show Int32.toNatClampNeg 12 = 12 from by decide]; exact k242) ?_
    refine W.widen (k := 1) (n := 19) (Nat.le_of_ble_eq_true rfl) (Nat.le_of_ble_eq_true rfl) ?_
    exact W.iret hx hb hr (fun t ht hW => ⟨⟨0, (), rfl, (by decide), trivial⟩, hS.F ht⟩) hS.2.2 dX8_manyNow_236
  · skip
    refine va_iald hx hb hK hP 0 0 rfl rfl (by unfold vp_in; decide) dX8_manyNow_235 ?_
    refine zo_i (v := 0) (by rw [show Int32.toNatClampNeg 13 = 13 from by decide]; exact k243) ?_
    refine W.widen (k := 1) (n := 19) (Nat.le_of_ble_eq_true rfl) (Nat.le_of_ble_eq_true rfl) ?_
    exact W.iret hx hb hr (fun t ht hW => ⟨⟨0, (), rfl, (by decide), trivial⟩, hS.F ht⟩) hS.2.2 dX8_manyNow_236
  · skip
    refine va_iald hx hb hK hP 0 0 rfl rfl (by unfold vp_in; decide) dX8_manyNow_235 ?_
    refine zo_i (v := 0) (by rw [show Int32.toNatClampNeg 14 = 14 from by decide]; exact k244) ?_
    refine W.widen (k := 1) (n := 19) (Nat.le_of_ble_eq_true rfl) (Nat.le_of_ble_eq_true rfl) ?_
    exact W.iret hx hb hr (fun t ht hW => ⟨⟨0, (), rfl, (by decide), trivial⟩, hS.F ht⟩) hS.2.2 dX8_manyNow_236
  · skip
    refine va_iald hx hb hK hP 0 0 rfl rfl (by unfold vp_in; decide) dX8_manyNow_235 ?_
    refine zo_i (v := 0) (by rw [show Int32.toNatClampNeg 15 = 15 from by decide]; exact k245) ?_
    refine W.widen (k := 1) (n := 19) (Nat.le_of_ble_eq_true rfl) (Nat.le_of_ble_eq_true rfl) ?_
    exact W.iret hx hb hr (fun t ht hW => ⟨⟨0, (), rfl, (by decide), trivial⟩, hS.F ht⟩) hS.2.2 dX8_manyNow_236
  · skip
    refine va_iald hx hb hK hP 0 0 rfl rfl (by unfold vp_in; decide) dX8_manyNow_235 ?_
    refine zo_i (v := 0) (by rw [show Int32.toNatClampNeg 16 = 16 from by decide]; exact k246) ?_
    refine W.widen (k := 1) (n := 19) (Nat.le_of_ble_eq_true rfl) (Nat.le_of_ble_eq_true rfl) ?_
    exact W.iret hx hb hr (fun t ht hW => ⟨⟨0, (), rfl, (by decide), trivial⟩, hS.F ht⟩) hS.2.2 dX8_manyNow_236
  · skip
    refine va_iald hx hb hK hP 0 0 rfl rfl (by unfold vp_in; decide) dX8_manyNow_235 ?_
    refine zo_i (v := 1) (by rw [show Int32.toNatClampNeg 17 = 17 from by decide]; exact k247) ?_
    refine W.widen (k := 1) (n := 19) (Nat.le_of_ble_eq_true rfl) (Nat.le_of_ble_eq_true rfl) ?_
    exact W.iret hx hb hr (fun t ht hW => ⟨⟨1, (), rfl, (by decide), trivial⟩, hS.F ht⟩) hS.2.2 dX8_manyNow_236
  · skip
    refine va_iald hx hb hK hP 0 0 rfl rfl (by unfold vp_in; decide) dX8_manyNow_235 ?_
    refine zo_i (v := 0) (by rw [show Int32.toNatClampNeg 18 = 18 from by decide]; exact k248) ?_
    refine W.widen (k := 1) (n := 19) (Nat.le_of_ble_eq_true rfl) (Nat.le_of_ble_eq_true rfl) ?_
    exact W.iret hx hb hr (fun t ht hW => ⟨⟨0, (), rfl, (by decide), trivial⟩, hS.F ht⟩) hS.2.2 dX8_manyNow_236

set_option maxRecDepth 20000 in
theorem zi_X8_many_X8 : ∀ w ∈ u_ws RX8 TX8 4, w ∈ wsX8_many := by decide +kernel
set_option maxHeartbeats 4000000 in
set_option maxRecDepth 100000 in
theorem cz_X8_many (l : Launch) (dC : Nat → ClassId) (dI : Nat → Nat → Nat) (ed sz : Nat) (mo : Nat) (mr : Nat) (ll : Nat) (lt : Nat) (lp : Nat) (x9 : Int32) (s9 : Int64) (x0 : Int32) : Met l yX8_many wsX8_many ({ frames := 3, cells := 1, slots := 19, locals := 65 } : Jvm.Room) (va_Pc [.ref mo, .int x0] (zB dC dI ed sz [(mr, .inr (9, [.ref ll, .ref lt, .ref lp, .int (-1), .int 0, .int 0, .int 0, .int 0, .int 0, .int 0, .int (-1), .int 0, .int 0, .int 0])), (ll, .inr (1, [.int 0, .ref ed, .int 0])), (lt, .inr (1, [.int 0, .ref ed, .int 0])), (lp, .inr (1, [.int 0, .ref ed, .int 0]))] [(mo, .inr (10, [.int x9, .ref mr, .int 1, .long s9]))] [])) (va_Qi (fun (r : Int32) (_ : Unit) => r = zMv x0) (fun (_ : Unit) (t : State) => va_P (dC, dI) vwCl [(mo, .inr (10, [.int (zMk x0), .ref mr, .int 1, .long s9]))] t.heap ∧ va_D (va_A [(mo, .inr (10, [.int x9, .ref mr, .int 1, .long s9]))] sz) [(mo, .inr (10, [.int (zMk x0), .ref mr, .int 1, .long s9]))] ∧ va_K (dC, dI) vwCl [] t) (va_A [(mo, .inr (10, [.int x9, .ref mr, .int 1, .long s9]))] sz)) 1 19 (va_A [(mo, .inr (10, [.int x9, .ref mr, .int 1, .long s9]))] sz) := by
  refine Met.ofW (cc := cX8_many) (maxL := 2) (ret := (some .int)) (by decide) rfl ?_
  intro p e s m args below meth c s₁ B hml hv
  obtain ⟨rfl, hsz, hR0, hP, hK, hD0, hN, hH, hX0⟩ := hv
  have hx := B.exec
  have hb := B.bytes
  have hr := B.returns
  have hts := atoms_spec (ws := wsX8_many) B.pre
  have hown : s.vm.findClass RX8 = some m.cls := findClass_of_methodNamed B.named
  have hlocks := B.notSynchronized
  subst hsz
  have hD := hD0.self (sz := s.heap.size)
  have hAr := zx_A hX0 hR0
  generalize hAe : va_A [(mo, .inr (10, [.int x9, .ref mr, .int 1, .long s9]))] s.heap.size = A at hD hAr hH ⊢
  have hA : ∀ q : Nat, s.heap.size ≤ q → A q := fun q h => by rw [← hAe]; exact Or.inr h
  have hS : va_S A s.heap s.heap [] := va_S.rf
  have hl := lv_entry ([.ref mo, .int x0]) (n := 2) (Nat.le_of_ble_eq_true rfl)
  rw [lg_entry_eq]
  generalize (lg_sl ([.ref mo, .int x0]) ++ List.replicate (2 - (lg_sl ([.ref mo, .int x0])).length) Slot.unset).toArray = ls at hl ⊢
  have hl : lv_has ls 2 [(0, .ref mo), (1, .int x0)] := hl
  refine lv_aload_n hx hb dX8_many_0 rfl (lv_at hl 0 rfl) ?_
  refine lv_iconst (v := 0) hx hb dX8_many_1 (by decide) ?_
  refine va_put (D := (dC, dI)) (ci := 10) (v := .int 0) (ty := .int) (C := RX8) (T := TX8) (N := 4) hx hb hts zi_X8_many_X8 tyX8 tyX8_ok nmX8 hown hK hP hD hS 0 rfl rfl 0 (by decide) (hts (.fieldLink RX8 20 "LockRoomsModel" "thrown" "I") (by decide +kernel)) (fun _ h9 => h9) rfl (by decide +kernel) rfl rfl (Nat.le_of_ble_eq_true rfl) dX8_many_2 (fun H1 locs hP hD hS => ?_)
  have hP : va_P (dC, dI) vwCl [(mo, .inr (10, [.int 0, .ref mr, .int 1, .long s9]))] H1 := hP
  have hD : va_D A [(mo, .inr (10, [.int 0, .ref mr, .int 1, .long s9]))] := hD
  refine lv_iload_n hx hb dX8_many_5 rfl (lv_at hl 1 rfl) ?_
  refine lv_iconst (v := 0) hx hb dX8_many_6 (by decide) ?_
  refine lv_bipush (v := 18) hx hb dX8_many_7 (by decide) ?_
  have hPr := (zo_nil : va_P (dC, dI) vwCl [] H1)
  have hPc := hP.sub (ws' := []) [] rfl
  have hDc := hD.sub (ws' := []) [] (by decide) rfl
  have hKc := hK.sub (tys' := []) [] rfl
  have hFc := va_free (wc := []) hD hS hA [] rfl
  refine va_calli (va_runS (As := [.int x0, .int 0, .int 18]) (rest := []) ⟨hx, hb, hml, hown, hts⟩ (cz_X8_is l dC dI ed H1.size x0 0 18) (va_cwS 3 hts gX8_many_X8_is rfl rfl rfl (by decide +kernel) ⟨Nat.le_of_ble_eq_true rfl, Nat.le_of_ble_eq_true rfl⟩) ⟨zb_blind, fun U hU hW => ⟨rfl, zb_mk hU hW hPr hPc hKc hDc hN hH hS hFc zx_e⟩⟩ rfl rfl hl.1 rfl (lv_room (Nat.le_of_ble_eq_true rfl)) dX8_many_9 ⟨Nat.le_of_ble_eq_true rfl, Nat.le_of_ble_eq_true rfl⟩) hS (fun q _ h => hFc q h) hFc (fun r3 u t H2 locs ht hvm hw hB hz1 hk1 hS => ?_)
  have hP := zo_K hP hk1
  by_cases c4 : (¬ x0 < 0 ∧ ¬ 18 < x0)
  · obtain rfl : r3 = 1 := hw.trans (if_pos c4)
    refine lv_if_eq (tgt := 23) hx hb dX8_many_12 (by decide) (fun h => absurd h (by decide)) (fun _ => ?_)
    refine lv_aload_n hx hb dX8_many_15 rfl (lv_at hl 0 rfl) ?_
    refine lv_iload_n hx hb dX8_many_16 rfl (lv_at hl 1 rfl) ?_
    have hPr := (show va_P (dC, dI) vwCl [(mo, .inr (10, [.int 0, .ref mr, .int 1, .long s9])), (mr, .inr (9, [.ref ll, .ref lt, .ref lp, .int (-1), .int 0, .int 0, .int 0, .int 0, .int 0, .int 0, .int (-1), .int 0, .int 0, .int 0])), (ll, .inr (1, [.int 0, .ref ed, .int 0])), (lt, .inr (1, [.int 0, .ref ed, .int 0])), (lp, .inr (1, [.int 0, .ref ed, .int 0]))] H2 from (zo_cons ((hP) 0 _ rfl) (zo_cons (((zo_R hR0 hS hAr)) 0 _ rfl) (zo_cons (((zo_R hR0 hS hAr)) 1 _ rfl) (zo_cons (((zo_R hR0 hS hAr)) 2 _ rfl) (zo_cons (((zo_R hR0 hS hAr)) 3 _ rfl) (zo_nil : va_P (dC, dI) vwCl [] H2)))))))
    have hPc := hP.sub (ws' := []) [] rfl
    have hDc := hD.sub (ws' := []) [] (by decide) rfl
    have hKc := hK.sub (tys' := []) [] rfl
    have hFc := va_free (wc := []) hD hS hA [] rfl
    refine va_calli (va_runV (As := [.int x0]) (rest := []) ⟨hx, hb, hml, hown, hts⟩ (cz_manyNow l dC dI ed H2.size mo mr ll lt lp 0 s9 x0 c4) (cwV 1 hts gX8_many_X8_manyNow rfl rfl rfl (by decide +kernel) ⟨Nat.le_of_ble_eq_true rfl, Nat.le_of_ble_eq_true rfl⟩) ⟨zb_blind, va_recv hK hP (ci := 10) (q0 := 0) rfl rfl, fun U hU hW => ⟨rfl, zb_mk hU hW hPr hPc hKc hDc hN hH hS hFc zx_e⟩⟩ rfl rfl hl.1 rfl (lv_room (Nat.le_of_ble_eq_true rfl)) dX8_many_17 ⟨Nat.le_of_ble_eq_true rfl, Nat.le_of_ble_eq_true rfl⟩) hS (fun q _ h => hFc q h) hFc (fun r6 u t H5 locs ht hvm hw hB hz1 hk1 hS => ?_)
    obtain rfl : r6 = (zm x0) := hw
    have hP := zo_K hP hk1
    refine lv_goto (tgt := 28) hx hb dX8_many_20 (by decide) ?_
    refine W.widen (k := 1) (n := 19) (Nat.le_of_ble_eq_true rfl) (Nat.le_of_ble_eq_true rfl) ?_
    have hP9 := hP.sub (ws' := [(mo, .inr (10, [.int 0, .ref mr, .int 1, .long s9]))]) [0] rfl
    have hD9 := hD.sub (ws' := [(mo, .inr (10, [.int 0, .ref mr, .int 1, .long s9]))]) [0] (by decide) rfl
    have hK9 := hK.sub (tys' := []) [] rfl
    have e90 : zMk x0 = 0 := if_pos c4
    exact W.iret hx hb hr (fun t ht hW => ⟨⟨(zm x0), (), rfl, (if_pos c4).symm, ⟨by rw [ht, e90]; exact hP9, by rw [e90]; exact hD9, va_K.moved hW.alike hK9⟩⟩, hS.F ht⟩) hS.2.2 dX8_many_28
  · obtain rfl : r3 = 0 := hw.trans (if_neg c4)
    refine lv_if_eq (tgt := 23) hx hb dX8_many_12 (by decide) (fun _ => ?_) (fun h => absurd h (by decide))
    refine lv_aload_n hx hb dX8_many_23 rfl (lv_at hl 0 rfl) ?_
    refine lv_iconst (v := 1) hx hb dX8_many_24 (by decide) ?_
    have hPr := ((zo_R hR0 hS hAr)).sub (ws' := [(mr, .inr (9, [.ref ll, .ref lt, .ref lp, .int (-1), .int 0, .int 0, .int 0, .int 0, .int 0, .int 0, .int (-1), .int 0, .int 0, .int 0])), (ll, .inr (1, [.int 0, .ref ed, .int 0])), (lt, .inr (1, [.int 0, .ref ed, .int 0])), (lp, .inr (1, [.int 0, .ref ed, .int 0]))]) [0, 1, 2, 3] rfl
    have hPc := hP.sub (ws' := [(mo, .inr (10, [.int 0, .ref mr, .int 1, .long s9]))]) [0] rfl
    have hDc := hD.sub (ws' := [(mo, .inr (10, [.int 0, .ref mr, .int 1, .long s9]))]) [0] (by decide) rfl
    have hKc := hK.sub (tys' := []) [] rfl
    have hFc := va_free (wc := [(mo, .inr (10, [.int 0, .ref mr, .int 1, .long s9]))]) hD hS hA [0] rfl
    refine va_calli (va_runV (As := [.int 1]) (rest := []) ⟨hx, hb, hml, hown, hts⟩ (cz_refuse l dC dI ed H2.size mo mr ll lt lp 0 s9 1) (cwV 1 hts gX8_many_X8_refuse rfl rfl rfl (by decide +kernel) ⟨Nat.le_of_ble_eq_true rfl, Nat.le_of_ble_eq_true rfl⟩) ⟨zb_blind, va_recv hK hP (ci := 10) (q0 := 0) rfl rfl, fun U hU hW => ⟨rfl, zb_mk hU hW hPr hPc hKc hDc hN hH hS hFc (zx_cons (zx_r (hAr _ (List.mem_of_getElem? (i := 0) rfl)) hDc) (zx_cons (zx_r (hAr _ (List.mem_of_getElem? (i := 1) rfl)) hDc) (zx_cons (zx_r (hAr _ (List.mem_of_getElem? (i := 2) rfl)) hDc) (zx_cons (zx_r (hAr _ (List.mem_of_getElem? (i := 3) rfl)) hDc) zx_nil))))⟩⟩ rfl rfl hl.1 rfl (lv_room (Nat.le_of_ble_eq_true rfl)) dX8_many_25 ⟨Nat.le_of_ble_eq_true rfl, Nat.le_of_ble_eq_true rfl⟩) hS (fun q _ h => hFc q h) hFc (fun r8 u t H7 locs ht hvm hw hB hz1 hk1 hS => ?_)
    obtain rfl : r8 = 0 := hw
    obtain ⟨hP1, hD1, hK1⟩ := hB
    rw [ht] at hP1
    obtain ⟨hP, hD⟩ := va_join (wr := []) (w1 := [(mo, .inr (10, [.int 1, .ref mr, .int 1, .long s9]))]) hP hD [0] [] rfl rfl (by decide) (by decide) hk1 hFc hP1 hD1
    have hP : va_P (dC, dI) vwCl [(mo, .inr (10, [.int 1, .ref mr, .int 1, .long s9]))] H7 := hP
    have hD : va_D A [(mo, .inr (10, [.int 1, .ref mr, .int 1, .long s9]))] := hD
    refine W.widen (k := 1) (n := 19) (Nat.le_of_ble_eq_true rfl) (Nat.le_of_ble_eq_true rfl) ?_
    have hP9 := hP.sub (ws' := [(mo, .inr (10, [.int 1, .ref mr, .int 1, .long s9]))]) [0] rfl
    have hD9 := hD.sub (ws' := [(mo, .inr (10, [.int 1, .ref mr, .int 1, .long s9]))]) [0] (by decide) rfl
    have hK9 := hK.sub (tys' := []) [] rfl
    have e90 : zMk x0 = 1 := if_neg c4
    exact W.iret hx hb hr (fun t ht hW => ⟨⟨0, (), rfl, (if_neg c4).symm, ⟨by rw [ht, e90]; exact hP9, by rw [e90]; exact hD9, va_K.moved hW.alike hK9⟩⟩, hS.F ht⟩) hS.2.2 dX8_many_28

set_option maxRecDepth 20000 in
theorem zi_X8_pass_X8 : ∀ w ∈ u_ws RX8 TX8 4, w ∈ wsX8_pass := by decide +kernel
set_option maxRecDepth 20000 in
theorem zi_X8_pass_X7 : ∀ w ∈ u_ws RX7 TX7 14, w ∈ wsX8_pass := by decide +kernel
set_option maxHeartbeats 4000000 in
set_option maxRecDepth 100000 in
theorem cz_X8_pass (l : Launch) (dC : Nat → ClassId) (dI : Nat → Nat → Nat) (ed sz : Nat) (mo : Nat) (mr : Nat) (ll : Nat) (lt : Nat) (lp : Nat) (x9 : Int32) (s9 : Int64) (x0 : Int32) : Met l yX8_pass wsX8_pass ({ frames := 1, cells := 0, slots := 0, locals := 22 } : Jvm.Room) (va_Pc [.ref mo, .int x0] (zB dC dI ed sz [(ll, .inr (1, [.int 0, .ref ed, .int 0])), (lt, .inr (1, [.int 0, .ref ed, .int 0])), (lp, .inr (1, [.int 0, .ref ed, .int 0]))] [(mo, .inr (10, [.int x9, .ref mr, .int 1, .long s9])), (mr, .inr (9, [.ref ll, .ref lt, .ref lp, .int (-1), .int 0, .int 0, .int 0, .int 0, .int 0, .int 0, .int (-1), .int 0, .int 0, .int 0]))] [])) (va_Qi (fun (r : Int32) (_ : Unit) => r = 0) (fun (_ : Unit) (t : State) => va_P (dC, dI) vwCl [(mo, .inr (10, [.int (zQk x0), .ref mr, .int 1, .long s9]))] t.heap ∧ va_D (va_A [(mo, .inr (10, [.int x9, .ref mr, .int 1, .long s9])), (mr, .inr (9, [.ref ll, .ref lt, .ref lp, .int (-1), .int 0, .int 0, .int 0, .int 0, .int 0, .int 0, .int (-1), .int 0, .int 0, .int 0]))] sz) [(mo, .inr (10, [.int (zQk x0), .ref mr, .int 1, .long s9]))] ∧ va_K (dC, dI) vwCl [] t) (va_A [(mo, .inr (10, [.int x9, .ref mr, .int 1, .long s9])), (mr, .inr (9, [.ref ll, .ref lt, .ref lp, .int (-1), .int 0, .int 0, .int 0, .int 0, .int 0, .int 0, .int (-1), .int 0, .int 0, .int 0]))] sz)) 0 0 (va_A [(mo, .inr (10, [.int x9, .ref mr, .int 1, .long s9])), (mr, .inr (9, [.ref ll, .ref lt, .ref lp, .int (-1), .int 0, .int 0, .int 0, .int 0, .int 0, .int 0, .int (-1), .int 0, .int 0, .int 0]))] sz) := by
  refine Met.ofW (cc := cX8_pass) (maxL := 4) (ret := (some .int)) (by decide) rfl ?_
  intro p e s m args below meth c s₁ B hml hv
  obtain ⟨rfl, hsz, hR0, hP, hK, hD0, hN, hH, hX0⟩ := hv
  have hx := B.exec
  have hb := B.bytes
  have hr := B.returns
  have hts := atoms_spec (ws := wsX8_pass) B.pre
  have hown : s.vm.findClass RX8 = some m.cls := findClass_of_methodNamed B.named
  have hlocks := B.notSynchronized
  subst hsz
  have hD := hD0.self (sz := s.heap.size)
  have hAr := zx_A hX0 hR0
  generalize hAe : va_A [(mo, .inr (10, [.int x9, .ref mr, .int 1, .long s9])), (mr, .inr (9, [.ref ll, .ref lt, .ref lp, .int (-1), .int 0, .int 0, .int 0, .int 0, .int 0, .int 0, .int (-1), .int 0, .int 0, .int 0]))] s.heap.size = A at hD hAr hH ⊢
  have hA : ∀ q : Nat, s.heap.size ≤ q → A q := fun q h => by rw [← hAe]; exact Or.inr h
  have hS : va_S A s.heap s.heap [] := va_S.rf
  have hl := lv_entry ([.ref mo, .int x0]) (n := 4) (Nat.le_of_ble_eq_true rfl)
  rw [lg_entry_eq]
  generalize (lg_sl ([.ref mo, .int x0]) ++ List.replicate (4 - (lg_sl ([.ref mo, .int x0])).length) Slot.unset).toArray = ls at hl ⊢
  have hl : lv_has ls 4 [(0, .ref mo), (1, .int x0)] := hl
  refine lv_aload_n hx hb dX8_pass_0 rfl (lv_at hl 0 rfl) ?_
  refine lv_iconst (v := 0) hx hb dX8_pass_1 (by decide) ?_
  refine va_put (D := (dC, dI)) (ci := 10) (v := .int 0) (ty := .int) (C := RX8) (T := TX8) (N := 4) hx hb hts zi_X8_pass_X8 tyX8 tyX8_ok nmX8 hown hK hP hD hS 0 rfl rfl 0 (by decide) (hts (.fieldLink RX8 20 "LockRoomsModel" "thrown" "I") (by decide +kernel)) (fun _ h9 => h9) rfl (by decide +kernel) rfl rfl (Nat.le_of_ble_eq_true rfl) dX8_pass_2 (fun H1 locs hP hD hS => ?_)
  have hP : va_P (dC, dI) vwCl [(mo, .inr (10, [.int 0, .ref mr, .int 1, .long s9])), (mr, .inr (9, [.ref ll, .ref lt, .ref lp, .int (-1), .int 0, .int 0, .int 0, .int 0, .int 0, .int 0, .int (-1), .int 0, .int 0, .int 0]))] H1 := hP
  have hD : va_D A [(mo, .inr (10, [.int 0, .ref mr, .int 1, .long s9])), (mr, .inr (9, [.ref ll, .ref lt, .ref lp, .int (-1), .int 0, .int 0, .int 0, .int 0, .int 0, .int 0, .int (-1), .int 0, .int 0, .int 0]))] := hD
  refine lv_iload_n hx hb dX8_pass_5 rfl (lv_at hl 1 rfl) ?_
  refine lv_iconst (v := 1) hx hb dX8_pass_6 (by decide) ?_
  refine lv_bipush (v := 90) hx hb dX8_pass_7 (by decide) ?_
  have hPr := (zo_nil : va_P (dC, dI) vwCl [] H1)
  have hPc := hP.sub (ws' := []) [] rfl
  have hDc := hD.sub (ws' := []) [] (by decide) rfl
  have hKc := hK.sub (tys' := []) [] rfl
  have hFc := va_free (wc := []) hD hS hA [] rfl
  refine va_calli (va_runS (As := [.int x0, .int 1, .int 90]) (rest := []) ⟨hx, hb, hml, hown, hts⟩ (cz_X8_is l dC dI ed H1.size x0 1 90) (va_cwS 3 hts gX8_pass_X8_is rfl rfl rfl (by decide +kernel) ⟨Nat.le_of_ble_eq_true rfl, Nat.le_of_ble_eq_true rfl⟩) ⟨zb_blind, fun U hU hW => ⟨rfl, zb_mk hU hW hPr hPc hKc hDc hN hH hS hFc zx_e⟩⟩ rfl rfl hl.1 rfl (lv_room (Nat.le_of_ble_eq_true rfl)) dX8_pass_9 ⟨Nat.le_of_ble_eq_true rfl, Nat.le_of_ble_eq_true rfl⟩) hS (fun q _ h => hFc q h) hFc (fun r3 u t H2 locs ht hvm hw hB hz1 hk1 hS => ?_)
  have hP := zo_K hP hk1
  by_cases c4 : (¬ x0 < 1 ∧ ¬ 90 < x0)
  · obtain rfl : r3 = 1 := hw.trans (if_pos c4)
    refine lv_if_ne (tgt := 21) hx hb dX8_pass_12 (by decide) (fun _ => ?_) (fun h => absurd h (by decide))
    refine lv_aload_n hx hb dX8_pass_21 rfl (lv_at hl 0 rfl) ?_
    refine va_get (D := (dC, dI)) (ci := 10) (v := .ref mr) (C := RX8) (T := TX8) (N := 4) hx hb hts zi_X8_pass_X8 hown hK hP 0 rfl rfl 1 (by decide) (hts (.fieldLink RX8 10 "LockRoomsModel" "room" "LLockRoomsModel$Room;") (by decide +kernel)) (fun _ h9 => h9) rfl dX8_pass_22 ?_
    refine va_getN (D := (dC, dI)) (ci := 9) (v := .int 0) (C := RX7) (T := TX7) (N := 14) hx hb hts zi_X8_pass_X7 hown hK hP 1 rfl rfl 4 (by decide) (va_Nw.use rfl (hN.1 ("LockRoomsModel", 78, "LockRoomsModel$Room", "now", "I", "LockRoomsModel") (List.mem_of_getElem? (i := 5) rfl))) (fun _ h9 => h9) rfl dX8_pass_25 ?_
    refine lv_iload_n hx hb dX8_pass_28 rfl (lv_at hl 1 rfl) ?_
    refine lv_iadd hx hb dX8_pass_29 ?_
    refine lv_sipush (v := 9999) hx hb dX8_pass_30 (by decide) ?_
    refine lv_icmp_le (tgt := 42) hx hb dX8_pass_33 (by decide) (fun _ => ?_) (fun h => absurd (zp_le c4) h)
    refine lv_iconst (v := 0) hx hb dX8_pass_42 (by decide) ?_
    refine lv_istore_n (lv' := [(2, .int 0), (0, .ref mo), (1, .int x0)]) hx hb dX8_pass_43 rfl hl (by decide) rfl (fun ls hl => ?_)
    refine lv_iconst (v := 0) hx hb dX8_pass_44 (by decide) ?_
    refine lv_istore_n (lv' := [(3, .int 0), (2, .int 0), (0, .ref mo), (1, .int x0)]) hx hb dX8_pass_45 rfl hl (by decide) rfl (fun ls hl => ?_)
    obtain ⟨N, hN90, rfl⟩ := zp_90 c4
    refine zo_loop (fun (i : Nat) (H : Heap) (locs : List Loc) (ls : Array Slot) => va_P (dC, dI) vwCl [(mo, .inr (10, [.int 0, .ref mr, .int 1, .long s9])), (mr, .inr (9, [.ref ll, .ref lt, .ref lp, .int (-1), .int (nI i), .int 0, .int 0, .int 0, .int 0, .int 0, .int (-1), .int 0, .int 0, .int 0]))] H ∧ va_D A [(mo, .inr (10, [.int 0, .ref mr, .int 1, .long s9])), (mr, .inr (9, [.ref ll, .ref lt, .ref lp, .int (-1), .int (nI i), .int 0, .int 0, .int 0, .int 0, .int 0, .int (-1), .int 0, .int 0, .int 0]))] ∧ va_S A s.heap H locs ∧ lv_has ls 4 [(3, .int (nI i)), (2, .int 0), (0, .ref mo), (1, .int (nI N))]) N ⟨hP, hD, hS, lv_sub hl [0, 1, 2, 3] rfl⟩ (fun i hi ih H locs ls hI => ?_) (fun H locs ls hI => ?_)
    · obtain ⟨hP, hD, hS, hl⟩ := hI
      refine lv_iload_n hx hb dX8_pass_46 rfl (lv_at hl 0 rfl) ?_
      refine lv_iload_n hx hb dX8_pass_47 rfl (lv_at hl 3 rfl) ?_
      refine lv_icmp_ge (tgt := 67) hx hb dX8_pass_48 (by decide) (fun h => absurd h (nI_ge hi (by omega))) (fun _ => ?_)
      refine lv_iload_n hx hb dX8_pass_51 rfl (lv_at hl 1 rfl) ?_
      refine lv_aload_n hx hb dX8_pass_52 rfl (lv_at hl 2 rfl) ?_
      refine va_get (D := (dC, dI)) (ci := 10) (v := .ref mr) (C := RX8) (T := TX8) (N := 4) hx hb hts zi_X8_pass_X8 hown hK hP 0 rfl rfl 1 (by decide) (hts (.fieldLink RX8 10 "LockRoomsModel" "room" "LLockRoomsModel$Room;") (by decide +kernel)) (fun _ h9 => h9) rfl dX8_pass_53 ?_
      have hPr := (zo_nil : va_P (dC, dI) vwCl [] H)
      have hPc := hP.sub (ws' := [(mr, .inr (9, [.ref ll, .ref lt, .ref lp, .int (-1), .int (nI i), .int 0, .int 0, .int 0, .int 0, .int 0, .int (-1), .int 0, .int 0, .int 0]))]) [1] rfl
      have hDc := hD.sub (ws' := [(mr, .inr (9, [.ref ll, .ref lt, .ref lp, .int (-1), .int (nI i), .int 0, .int 0, .int 0, .int 0, .int 0, .int (-1), .int 0, .int 0, .int 0]))]) [1] (by decide) rfl
      have hKc := hK.sub (tys' := []) [] rfl
      have hFc := va_free (wc := [(mr, .inr (9, [.ref ll, .ref lt, .ref lp, .int (-1), .int (nI i), .int 0, .int 0, .int 0, .int 0, .int 0, .int (-1), .int 0, .int 0, .int 0]))]) hD hS hA [1] rfl
      refine va_calli (va_runV (As := []) (rest := [.int 0]) ⟨hx, hb, hml, hown, hts⟩ (cz_pass7 l dC dI ed H.size mr ll lt lp (nI i)) (cwV 0 hts gX8_pass_X7_pass rfl rfl rfl (by decide +kernel) ⟨Nat.le_of_ble_eq_true rfl, Nat.le_of_ble_eq_true rfl⟩) ⟨zb_blind, va_recv hK hP (ci := 9) (q0 := 1) rfl rfl, fun U hU hW => ⟨rfl, zb_mk hU hW hPr hPc hKc hDc hN hH hS hFc zx_nil⟩⟩ rfl rfl hl.1 rfl (lv_room (Nat.le_of_ble_eq_true rfl)) dX8_pass_56 ⟨Nat.le_of_ble_eq_true rfl, Nat.le_of_ble_eq_true rfl⟩) hS (fun q _ h => hFc q h) hFc (fun r6 u t H5 locs ht hvm hw hB hz1 hk1 hS => ?_)
      obtain rfl : r6 = 0 := hw
      obtain ⟨hP1, hD1, hK1⟩ := hB
      rw [ht] at hP1
      obtain ⟨hP, hD⟩ := va_join (wr := [(mo, .inr (10, [.int 0, .ref mr, .int 1, .long s9]))]) (w1 := [(mr, .inr (9, [.ref ll, .ref lt, .ref lp, .int (-1), .int ((nI i) + 1), .int 0, .int 0, .int 0, .int 0, .int 0, .int (-1), .int 0, .int 0, .int 0]))]) hP hD [1] [0] rfl rfl (by decide) (by decide) hk1 hFc hP1 hD1
      have hP : va_P (dC, dI) vwCl [(mo, .inr (10, [.int 0, .ref mr, .int 1, .long s9])), (mr, .inr (9, [.ref ll, .ref lt, .ref lp, .int (-1), .int ((nI i) + 1), .int 0, .int 0, .int 0, .int 0, .int 0, .int (-1), .int 0, .int 0, .int 0]))] H5 := hP
      have hD : va_D A [(mo, .inr (10, [.int 0, .ref mr, .int 1, .long s9])), (mr, .inr (9, [.ref ll, .ref lt, .ref lp, .int (-1), .int ((nI i) + 1), .int 0, .int 0, .int 0, .int 0, .int 0, .int (-1), .int 0, .int 0, .int 0]))] := hD
      refine lv_iadd hx hb dX8_pass_59 ?_
      refine zo_i (v := 0) (by decide) ?_
      refine lv_istore_n (lv' := [(2, .int 0), (3, .int (nI i)), (0, .ref mo), (1, .int (nI N))]) hx hb dX8_pass_60 rfl hl (by decide) rfl (fun ls hl => ?_)
      refine lv_iinc (v := (nI (i + 1))) (lv' := [(3, .int (nI (i + 1))), (2, .int 0), (0, .ref mo), (1, .int (nI N))]) hx hb dX8_pass_61 hl (k := 1) rfl (nI_1 i) (by decide) rfl (fun ls hl => ?_)
      refine lv_goto (tgt := 46) hx hb dX8_pass_64 (by decide) ?_
      rw [nI_1] at hP hD
      exact ih _ _ _ ⟨hP, hD, hS, lv_sub hl [0, 1, 2, 3] rfl⟩
    · obtain ⟨hP, hD, hS, hl⟩ := hI
      refine lv_iload_n hx hb dX8_pass_46 rfl (lv_at hl 0 rfl) ?_
      refine lv_iload_n hx hb dX8_pass_47 rfl (lv_at hl 3 rfl) ?_
      refine lv_icmp_ge (tgt := 67) hx hb dX8_pass_48 (by decide) (fun _ => ?_) (fun h => absurd (nI_le (Nat.le_refl N) (by omega)) h)
      refine lv_iload_n hx hb dX8_pass_67 rfl (lv_at hl 1 rfl) ?_
      refine W.widen (k := 0) (n := 0) (Nat.le_of_ble_eq_true rfl) (Nat.le_of_ble_eq_true rfl) ?_
      have hP9 := hP.sub (ws' := [(mo, .inr (10, [.int 0, .ref mr, .int 1, .long s9]))]) [0] rfl
      have hD9 := hD.sub (ws' := [(mo, .inr (10, [.int 0, .ref mr, .int 1, .long s9]))]) [0] (by decide) rfl
      have hK9 := hK.sub (tys' := []) [] rfl
      have e90 : zQk (nI N) = 0 := if_pos c4
      exact W.iret hx hb hr (fun t ht hW => ⟨⟨0, (), rfl, rfl, ⟨by rw [ht, e90]; exact hP9, by rw [e90]; exact hD9, va_K.moved hW.alike hK9⟩⟩, hS.F ht⟩) hS.2.2 dX8_pass_68
  · obtain rfl : r3 = 0 := hw.trans (if_neg c4)
    refine lv_if_ne (tgt := 21) hx hb dX8_pass_12 (by decide) (fun h => absurd h (by decide)) (fun _ => ?_)
    refine lv_aload_n hx hb dX8_pass_15 rfl (lv_at hl 0 rfl) ?_
    refine lv_iconst (v := 1) hx hb dX8_pass_16 (by decide) ?_
    have hPr := (show va_P (dC, dI) vwCl [(mr, .inr (9, [.ref ll, .ref lt, .ref lp, .int (-1), .int 0, .int 0, .int 0, .int 0, .int 0, .int 0, .int (-1), .int 0, .int 0, .int 0])), (ll, .inr (1, [.int 0, .ref ed, .int 0])), (lt, .inr (1, [.int 0, .ref ed, .int 0])), (lp, .inr (1, [.int 0, .ref ed, .int 0]))] H2 from (zo_cons ((hP) 1 _ rfl) (zo_cons (((zo_R hR0 hS hAr)) 0 _ rfl) (zo_cons (((zo_R hR0 hS hAr)) 1 _ rfl) (zo_cons (((zo_R hR0 hS hAr)) 2 _ rfl) (zo_nil : va_P (dC, dI) vwCl [] H2))))))
    have hPc := hP.sub (ws' := [(mo, .inr (10, [.int 0, .ref mr, .int 1, .long s9]))]) [0] rfl
    have hDc := hD.sub (ws' := [(mo, .inr (10, [.int 0, .ref mr, .int 1, .long s9]))]) [0] (by decide) rfl
    have hKc := hK.sub (tys' := []) [] rfl
    have hFc := va_free (wc := [(mo, .inr (10, [.int 0, .ref mr, .int 1, .long s9]))]) hD hS hA [0] rfl
    refine va_calli (va_runV (As := [.int 1]) (rest := []) ⟨hx, hb, hml, hown, hts⟩ (cz_refuse l dC dI ed H2.size mo mr ll lt lp 0 s9 1) (cwV 1 hts gX8_pass_X8_refuse rfl rfl rfl (by decide +kernel) ⟨Nat.le_of_ble_eq_true rfl, Nat.le_of_ble_eq_true rfl⟩) ⟨zb_blind, va_recv hK hP (ci := 10) (q0 := 0) rfl rfl, fun U hU hW => ⟨rfl, zb_mk hU hW hPr hPc hKc hDc hN hH hS hFc (zx_cons (zx_o hD 1 [0] rfl rfl (by decide)) (zx_cons (zx_r (hAr _ (List.mem_of_getElem? (i := 0) rfl)) hDc) (zx_cons (zx_r (hAr _ (List.mem_of_getElem? (i := 1) rfl)) hDc) (zx_cons (zx_r (hAr _ (List.mem_of_getElem? (i := 2) rfl)) hDc) zx_nil))))⟩⟩ rfl rfl hl.1 rfl (lv_room (Nat.le_of_ble_eq_true rfl)) dX8_pass_17 ⟨Nat.le_of_ble_eq_true rfl, Nat.le_of_ble_eq_true rfl⟩) hS (fun q _ h => hFc q h) hFc (fun r9 u t H8 locs ht hvm hw hB hz1 hk1 hS => ?_)
    obtain rfl : r9 = 0 := hw
    obtain ⟨hP1, hD1, hK1⟩ := hB
    rw [ht] at hP1
    obtain ⟨hP, hD⟩ := va_join (wr := [(mr, .inr (9, [.ref ll, .ref lt, .ref lp, .int (-1), .int 0, .int 0, .int 0, .int 0, .int 0, .int 0, .int (-1), .int 0, .int 0, .int 0]))]) (w1 := [(mo, .inr (10, [.int 1, .ref mr, .int 1, .long s9]))]) hP hD [0] [1] rfl rfl (by decide) (by decide) hk1 hFc hP1 hD1
    have hP : va_P (dC, dI) vwCl [(mr, .inr (9, [.ref ll, .ref lt, .ref lp, .int (-1), .int 0, .int 0, .int 0, .int 0, .int 0, .int 0, .int (-1), .int 0, .int 0, .int 0])), (mo, .inr (10, [.int 1, .ref mr, .int 1, .long s9]))] H8 := hP
    have hD : va_D A [(mr, .inr (9, [.ref ll, .ref lt, .ref lp, .int (-1), .int 0, .int 0, .int 0, .int 0, .int 0, .int 0, .int (-1), .int 0, .int 0, .int 0])), (mo, .inr (10, [.int 1, .ref mr, .int 1, .long s9]))] := hD
    refine W.widen (k := 0) (n := 0) (Nat.le_of_ble_eq_true rfl) (Nat.le_of_ble_eq_true rfl) ?_
    have hP9 := hP.sub (ws' := [(mo, .inr (10, [.int 1, .ref mr, .int 1, .long s9]))]) [1] rfl
    have hD9 := hD.sub (ws' := [(mo, .inr (10, [.int 1, .ref mr, .int 1, .long s9]))]) [1] (by decide) rfl
    have hK9 := hK.sub (tys' := []) [] rfl
    have e90 : zQk x0 = 1 := if_neg c4
    exact W.iret hx hb hr (fun t ht hW => ⟨⟨0, (), rfl, rfl, ⟨by rw [ht, e90]; exact hP9, by rw [e90]; exact hD9, va_K.moved hW.alike hK9⟩⟩, hS.F ht⟩) hS.2.2 dX8_pass_20

set_option maxRecDepth 20000 in
theorem zi_X8_lock_X8 : ∀ w ∈ u_ws RX8 TX8 4, w ∈ wsX8_lock := by decide +kernel
set_option maxRecDepth 20000 in
theorem zi_X8_lock_X7 : ∀ w ∈ u_ws RX7 TX7 14, w ∈ wsX8_lock := by decide +kernel
set_option maxHeartbeats 4000000 in
set_option maxRecDepth 100000 in
theorem cz_X8_lock (l : Launch) (dC : Nat → ClassId) (dI : Nat → Nat → Nat) (ed sz : Nat) (mo : Nat) (mr : Nat) (ll : Nat) (lt : Nat) (lp : Nat) (x9 : Int32) (s9 : Int64) (x0 : Int32) (x1 : Int32) (x2 : Int32) (x3 : Int32) (x4 : Int32) : Met l yX8_lock wsX8_lock ({ frames := 5, cells := 2, slots := 20, locals := 101 } : Jvm.Room) (va_Pc [.ref mo, .int x0, .int x1, .int x2, .int x3, .int x4] (zB dC dI ed sz [(lt, .inr (1, [.int 0, .ref ed, .int 0])), (lp, .inr (1, [.int 0, .ref ed, .int 0]))] [(mo, .inr (10, [.int x9, .ref mr, .int 1, .long s9])), (mr, .inr (9, [.ref ll, .ref lt, .ref lp, .int (-1), .int 0, .int 0, .int 0, .int 0, .int 0, .int 0, .int (-1), .int 0, .int 0, .int 0])), (ll, .inr (1, [.int 0, .ref ed, .int 0]))] [])) (va_Qi (fun (r : Int32) (_ : Unit) => r = 0) (fun (_ : Unit) (t : State) => va_P (dC, dI) vwCl [(mo, .inr (10, [.int (zLk x0 x1 x2), .ref mr, .int 1, .long s9]))] t.heap ∧ va_D (va_A [(mo, .inr (10, [.int x9, .ref mr, .int 1, .long s9])), (mr, .inr (9, [.ref ll, .ref lt, .ref lp, .int (-1), .int 0, .int 0, .int 0, .int 0, .int 0, .int 0, .int (-1), .int 0, .int 0, .int 0])), (ll, .inr (1, [.int 0, .ref ed, .int 0]))] sz) [(mo, .inr (10, [.int (zLk x0 x1 x2), .ref mr, .int 1, .long s9]))] ∧ va_K (dC, dI) vwCl [] t) (va_A [(mo, .inr (10, [.int x9, .ref mr, .int 1, .long s9])), (mr, .inr (9, [.ref ll, .ref lt, .ref lp, .int (-1), .int 0, .int 0, .int 0, .int 0, .int 0, .int 0, .int (-1), .int 0, .int 0, .int 0])), (ll, .inr (1, [.int 0, .ref ed, .int 0]))] sz)) 2 20 (va_A [(mo, .inr (10, [.int x9, .ref mr, .int 1, .long s9])), (mr, .inr (9, [.ref ll, .ref lt, .ref lp, .int (-1), .int 0, .int 0, .int 0, .int 0, .int 0, .int 0, .int (-1), .int 0, .int 0, .int 0])), (ll, .inr (1, [.int 0, .ref ed, .int 0]))] sz) := by
  refine Met.ofW (cc := cX8_lock) (maxL := 7) (ret := (some .int)) (by decide) rfl ?_
  intro p e s m args below meth c s₁ B hml hv
  obtain ⟨rfl, hsz, hR0, hP, hK, hD0, hN, hH, hX0⟩ := hv
  have hx := B.exec
  have hb := B.bytes
  have hr := B.returns
  have hts := atoms_spec (ws := wsX8_lock) B.pre
  have hown : s.vm.findClass RX8 = some m.cls := findClass_of_methodNamed B.named
  have hlocks := B.notSynchronized
  subst hsz
  have hD := hD0.self (sz := s.heap.size)
  have hAr := zx_A hX0 hR0
  generalize hAe : va_A [(mo, .inr (10, [.int x9, .ref mr, .int 1, .long s9])), (mr, .inr (9, [.ref ll, .ref lt, .ref lp, .int (-1), .int 0, .int 0, .int 0, .int 0, .int 0, .int 0, .int (-1), .int 0, .int 0, .int 0])), (ll, .inr (1, [.int 0, .ref ed, .int 0]))] s.heap.size = A at hD hAr hH ⊢
  have hA : ∀ q : Nat, s.heap.size ≤ q → A q := fun q h => by rw [← hAe]; exact Or.inr h
  have hS : va_S A s.heap s.heap [] := va_S.rf
  have hl := lv_entry ([.ref mo, .int x0, .int x1, .int x2, .int x3, .int x4]) (n := 7) (Nat.le_of_ble_eq_true rfl)
  rw [lg_entry_eq]
  generalize (lg_sl ([.ref mo, .int x0, .int x1, .int x2, .int x3, .int x4]) ++ List.replicate (7 - (lg_sl ([.ref mo, .int x0, .int x1, .int x2, .int x3, .int x4])).length) Slot.unset).toArray = ls at hl ⊢
  have hl : lv_has ls 7 [(0, .ref mo), (1, .int x0), (2, .int x1), (3, .int x2), (4, .int x3), (5, .int x4)] := hl
  refine lv_aload_n hx hb dX8_lock_0 rfl (lv_at hl 0 rfl) ?_
  refine lv_iconst (v := 0) hx hb dX8_lock_1 (by decide) ?_
  refine va_put (D := (dC, dI)) (ci := 10) (v := .int 0) (ty := .int) (C := RX8) (T := TX8) (N := 4) hx hb hts zi_X8_lock_X8 tyX8 tyX8_ok nmX8 hown hK hP hD hS 0 rfl rfl 0 (by decide) (hts (.fieldLink RX8 20 "LockRoomsModel" "thrown" "I") (by decide +kernel)) (fun _ h9 => h9) rfl (by decide +kernel) rfl rfl (Nat.le_of_ble_eq_true rfl) dX8_lock_2 (fun H1 locs hP hD hS => ?_)
  have hP : va_P (dC, dI) vwCl [(mo, .inr (10, [.int 0, .ref mr, .int 1, .long s9])), (mr, .inr (9, [.ref ll, .ref lt, .ref lp, .int (-1), .int 0, .int 0, .int 0, .int 0, .int 0, .int 0, .int (-1), .int 0, .int 0, .int 0])), (ll, .inr (1, [.int 0, .ref ed, .int 0]))] H1 := hP
  have hD : va_D A [(mo, .inr (10, [.int 0, .ref mr, .int 1, .long s9])), (mr, .inr (9, [.ref ll, .ref lt, .ref lp, .int (-1), .int 0, .int 0, .int 0, .int 0, .int 0, .int 0, .int (-1), .int 0, .int 0, .int 0])), (ll, .inr (1, [.int 0, .ref ed, .int 0]))] := hD
  refine lv_iload_n hx hb dX8_lock_5 rfl (lv_at hl 1 rfl) ?_
  refine lv_iconst (v := 0) hx hb dX8_lock_6 (by decide) ?_
  refine lv_sipush (v := 4095) hx hb dX8_lock_7 (by decide) ?_
  have hPr := (zo_nil : va_P (dC, dI) vwCl [] H1)
  have hPc := hP.sub (ws' := []) [] rfl
  have hDc := hD.sub (ws' := []) [] (by decide) rfl
  have hKc := hK.sub (tys' := []) [] rfl
  have hFc := va_free (wc := []) hD hS hA [] rfl
  refine va_calli (va_runS (As := [.int x0, .int 0, .int 4095]) (rest := []) ⟨hx, hb, hml, hown, hts⟩ (cz_X8_is l dC dI ed H1.size x0 0 4095) (va_cwS 3 hts gX8_lock_X8_is rfl rfl rfl (by decide +kernel) ⟨Nat.le_of_ble_eq_true rfl, Nat.le_of_ble_eq_true rfl⟩) ⟨zb_blind, fun U hU hW => ⟨rfl, zb_mk hU hW hPr hPc hKc hDc hN hH hS hFc zx_e⟩⟩ rfl rfl hl.1 rfl (lv_room (Nat.le_of_ble_eq_true rfl)) dX8_lock_10 ⟨Nat.le_of_ble_eq_true rfl, Nat.le_of_ble_eq_true rfl⟩) hS (fun q _ h => hFc q h) hFc (fun r3 u t H2 locs ht hvm hw hB hz1 hk1 hS => ?_)
  have hP := zo_K hP hk1
  by_cases c4 : (¬ x0 < 0 ∧ ¬ 4095 < x0)
  · obtain rfl : r3 = 1 := hw.trans (if_pos c4)
    refine lv_if_eq (tgt := 34) hx hb dX8_lock_13 (by decide) (fun h => absurd h (by decide)) (fun _ => ?_)
    refine lv_iload_n hx hb dX8_lock_16 rfl (lv_at hl 2 rfl) ?_
    refine lv_iload_n hx hb dX8_lock_17 rfl (lv_at hl 1 rfl) ?_
    refine lv_iconst (v := (-1)) hx hb dX8_lock_18 (by decide) ?_
    refine lv_ixor hx hb dX8_lock_19 ?_
    refine lv_iand hx hb dX8_lock_20 ?_
    refine lv_if_ne (tgt := 34) hx hb dX8_lock_21 (by decide) (fun c5 => ?_) (fun c5 => ?_)
    · skip
      refine lv_aload_n hx hb dX8_lock_34 rfl (lv_at hl 0 rfl) ?_
      refine lv_iconst (v := 1) hx hb dX8_lock_35 (by decide) ?_
      have hPr := (show va_P (dC, dI) vwCl [(mr, .inr (9, [.ref ll, .ref lt, .ref lp, .int (-1), .int 0, .int 0, .int 0, .int 0, .int 0, .int 0, .int (-1), .int 0, .int 0, .int 0])), (ll, .inr (1, [.int 0, .ref ed, .int 0])), (lt, .inr (1, [.int 0, .ref ed, .int 0])), (lp, .inr (1, [.int 0, .ref ed, .int 0]))] H2 from (zo_cons ((hP) 1 _ rfl) (zo_cons ((hP) 2 _ rfl) (zo_cons (((zo_R hR0 hS hAr)) 0 _ rfl) (zo_cons (((zo_R hR0 hS hAr)) 1 _ rfl) (zo_nil : va_P (dC, dI) vwCl [] H2))))))
      have hPc := hP.sub (ws' := [(mo, .inr (10, [.int 0, .ref mr, .int 1, .long s9]))]) [0] rfl
      have hDc := hD.sub (ws' := [(mo, .inr (10, [.int 0, .ref mr, .int 1, .long s9]))]) [0] (by decide) rfl
      have hKc := hK.sub (tys' := []) [] rfl
      have hFc := va_free (wc := [(mo, .inr (10, [.int 0, .ref mr, .int 1, .long s9]))]) hD hS hA [0] rfl
      refine va_calli (va_runV (As := [.int 1]) (rest := []) ⟨hx, hb, hml, hown, hts⟩ (cz_refuse l dC dI ed H2.size mo mr ll lt lp 0 s9 1) (cwV 1 hts gX8_lock_X8_refuse rfl rfl rfl (by decide +kernel) ⟨Nat.le_of_ble_eq_true rfl, Nat.le_of_ble_eq_true rfl⟩) ⟨zb_blind, va_recv hK hP (ci := 10) (q0 := 0) rfl rfl, fun U hU hW => ⟨rfl, zb_mk hU hW hPr hPc hKc hDc hN hH hS hFc (zx_cons (zx_o hD 1 [0] rfl rfl (by decide)) (zx_cons (zx_o hD 2 [0] rfl rfl (by decide)) (zx_cons (zx_r (hAr _ (List.mem_of_getElem? (i := 0) rfl)) hDc) (zx_cons (zx_r (hAr _ (List.mem_of_getElem? (i := 1) rfl)) hDc) zx_nil))))⟩⟩ rfl rfl hl.1 rfl (lv_room (Nat.le_of_ble_eq_true rfl)) dX8_lock_36 ⟨Nat.le_of_ble_eq_true rfl, Nat.le_of_ble_eq_true rfl⟩) hS (fun q _ h => hFc q h) hFc (fun r7 u t H6 locs ht hvm hw hB hz1 hk1 hS => ?_)
      obtain rfl : r7 = 0 := hw
      obtain ⟨hP1, hD1, hK1⟩ := hB
      rw [ht] at hP1
      obtain ⟨hP, hD⟩ := va_join (wr := [(mr, .inr (9, [.ref ll, .ref lt, .ref lp, .int (-1), .int 0, .int 0, .int 0, .int 0, .int 0, .int 0, .int (-1), .int 0, .int 0, .int 0])), (ll, .inr (1, [.int 0, .ref ed, .int 0]))]) (w1 := [(mo, .inr (10, [.int 1, .ref mr, .int 1, .long s9]))]) hP hD [0] [1, 2] rfl rfl (by decide) (by decide) hk1 hFc hP1 hD1
      have hP : va_P (dC, dI) vwCl [(mr, .inr (9, [.ref ll, .ref lt, .ref lp, .int (-1), .int 0, .int 0, .int 0, .int 0, .int 0, .int 0, .int (-1), .int 0, .int 0, .int 0])), (ll, .inr (1, [.int 0, .ref ed, .int 0])), (mo, .inr (10, [.int 1, .ref mr, .int 1, .long s9]))] H6 := hP
      have hD : va_D A [(mr, .inr (9, [.ref ll, .ref lt, .ref lp, .int (-1), .int 0, .int 0, .int 0, .int 0, .int 0, .int 0, .int (-1), .int 0, .int 0, .int 0])), (ll, .inr (1, [.int 0, .ref ed, .int 0])), (mo, .inr (10, [.int 1, .ref mr, .int 1, .long s9]))] := hD
      refine W.widen (k := 2) (n := 20) (Nat.le_of_ble_eq_true rfl) (Nat.le_of_ble_eq_true rfl) ?_
      have hP9 := hP.sub (ws' := [(mo, .inr (10, [.int 1, .ref mr, .int 1, .long s9]))]) [2] rfl
      have hD9 := hD.sub (ws' := [(mo, .inr (10, [.int 1, .ref mr, .int 1, .long s9]))]) [2] (by decide) rfl
      have hK9 := hK.sub (tys' := []) [] rfl
      have e90 : zLk x0 x1 x2 = 1 := if_neg (fun z => c5 z.2.1)
      exact W.iret hx hb hr (fun t ht hW => ⟨⟨0, (), rfl, rfl, ⟨by rw [ht, e90]; exact hP9, by rw [e90]; exact hD9, va_K.moved hW.alike hK9⟩⟩, hS.F ht⟩) hS.2.2 dX8_lock_39
    · skip
      refine lv_iload_n hx hb dX8_lock_24 rfl (lv_at hl 3 rfl) ?_
      refine lv_iconst (v := 1) hx hb dX8_lock_25 (by decide) ?_
      refine lv_bipush (v := 60) hx hb dX8_lock_26 (by decide) ?_
      have hPr := (zo_nil : va_P (dC, dI) vwCl [] H2)
      have hPc := hP.sub (ws' := []) [] rfl
      have hDc := hD.sub (ws' := []) [] (by decide) rfl
      have hKc := hK.sub (tys' := []) [] rfl
      have hFc := va_free (wc := []) hD hS hA [] rfl
      refine va_calli (va_runS (As := [.int x2, .int 1, .int 60]) (rest := []) ⟨hx, hb, hml, hown, hts⟩ (cz_X8_is l dC dI ed H2.size x2 1 60) (va_cwS 3 hts gX8_lock_X8_is rfl rfl rfl (by decide +kernel) ⟨Nat.le_of_ble_eq_true rfl, Nat.le_of_ble_eq_true rfl⟩) ⟨zb_blind, fun U hU hW => ⟨rfl, zb_mk hU hW hPr hPc hKc hDc hN hH hS hFc zx_e⟩⟩ rfl rfl hl.1 rfl (lv_room (Nat.le_of_ble_eq_true rfl)) dX8_lock_28 ⟨Nat.le_of_ble_eq_true rfl, Nat.le_of_ble_eq_true rfl⟩) hS (fun q _ h => hFc q h) hFc (fun r10 u t H9 locs ht hvm hw hB hz1 hk1 hS => ?_)
      have hP := zo_K hP hk1
      by_cases c11 : (¬ x2 < 1 ∧ ¬ 60 < x2)
      · obtain rfl : r10 = 1 := hw.trans (if_pos c11)
        refine lv_if_ne (tgt := 40) hx hb dX8_lock_31 (by decide) (fun _ => ?_) (fun h => absurd h (by decide))
        refine lv_aload_n hx hb dX8_lock_40 rfl (lv_at hl 0 rfl) ?_
        refine va_get (D := (dC, dI)) (ci := 10) (v := .ref mr) (C := RX8) (T := TX8) (N := 4) hx hb hts zi_X8_lock_X8 hown hK hP 0 rfl rfl 1 (by decide) (hts (.fieldLink RX8 10 "LockRoomsModel" "room" "LLockRoomsModel$Room;") (by decide +kernel)) (fun _ h9 => h9) rfl dX8_lock_41 ?_
        refine va_getN (D := (dC, dI)) (ci := 9) (v := .ref ll) (C := RX7) (T := TX7) (N := 14) hx hb hts zi_X8_lock_X7 hown hK hP 1 rfl rfl 0 (by decide) (va_Nw.use rfl (hN.1 ("LockRoomsModel", 24, "LockRoomsModel$Room", "locks", "Ljava/util/ArrayList;", "LockRoomsModel") (List.mem_of_getElem? (i := 1) rfl))) (fun _ h9 => h9) rfl dX8_lock_44 ?_
        have hPr := (hP).sub (ws' := [(ll, .inr (1, [.int 0, .ref ed, .int 0]))]) [2] rfl
        have hPc := hP.sub (ws' := []) [] rfl
        have hDc := hD.sub (ws' := []) [] (by decide) rfl
        have hKc := hK.sub (tys' := []) [] rfl
        have hFc := va_free (wc := []) hD hS hA [] rfl
        refine va_calli (va_runV (As := []) (rest := []) ⟨hx, hb, hml, hown, hts⟩ (cz_size0 l dC dI ed H9.size ll) (cwV 0 hts gX8_lock_Jx4a65c_size_8abf5 rfl rfl rfl (by decide +kernel) ⟨Nat.le_of_ble_eq_true rfl, Nat.le_of_ble_eq_true rfl⟩) ⟨zb_blind, va_recv hK hP (ci := 1) (q0 := 2) rfl rfl, fun U hU hW => ⟨rfl, zb_mk hU hW hPr hPc hKc hDc hN hH hS hFc zx_e⟩⟩ rfl rfl hl.1 rfl (lv_room (Nat.le_of_ble_eq_true rfl)) dX8_lock_47 ⟨Nat.le_of_ble_eq_true rfl, Nat.le_of_ble_eq_true rfl⟩) hS (fun q _ h => hFc q h) hFc (fun r13 u t H12 locs ht hvm hw hB hz1 hk1 hS => ?_)
        obtain rfl : r13 = 0 := hw
        have hP := zo_K hP hk1
        refine lv_bipush (v := 10) hx hb dX8_lock_50 (by decide) ?_
        refine lv_icmp_eq (tgt := 65) hx hb dX8_lock_52 (by decide) (fun h => absurd h (by decide)) (fun _ => ?_)
        refine lv_aload_n hx hb dX8_lock_55 rfl (lv_at hl 0 rfl) ?_
        refine va_get (D := (dC, dI)) (ci := 10) (v := .ref mr) (C := RX8) (T := TX8) (N := 4) hx hb hts zi_X8_lock_X8 hown hK hP 0 rfl rfl 1 (by decide) (hts (.fieldLink RX8 10 "LockRoomsModel" "room" "LLockRoomsModel$Room;") (by decide +kernel)) (fun _ h9 => h9) rfl dX8_lock_56 ?_
        refine va_getN (D := (dC, dI)) (ci := 9) (v := .int 0) (C := RX7) (T := TX7) (N := 14) hx hb hts zi_X8_lock_X7 hown hK hP 1 rfl rfl 5 (by decide) (va_Nw.use rfl (hN.1 ("LockRoomsModel", 45, "LockRoomsModel$Room", "isRunning", "Z", "LockRoomsModel") (List.mem_of_getElem? (i := 6) rfl))) (fun _ h9 => h9) rfl dX8_lock_59 ?_
        refine lv_if_eq (tgt := 71) hx hb dX8_lock_62 (by decide) (fun _ => ?_) (fun h => absurd h (by decide))
        refine lv_bipush (v := 10) hx hb dX8_lock_71 (by decide) ?_
        refine va_newa (atype := .int) (a0 := (10, .inl (fun _ => 0))) hx hb (hts (.arrayClass .int) (by decide +kernel)) rfl hK hP hD hS hA (fun cA => rfl) (by decide) (N' := 10) (by decide) (by decide) (Nat.le_of_ble_eq_true rfl) (Nat.le_of_ble_eq_true rfl) dX8_lock_73 (fun q14 cA16 H15 hK hP hD hS => ?_)
        have hP : va_P (dC, dI) vwCl [(mo, .inr (10, [.int 0, .ref mr, .int 1, .long s9])), (mr, .inr (9, [.ref ll, .ref lt, .ref lp, .int (-1), .int 0, .int 0, .int 0, .int 0, .int 0, .int 0, .int (-1), .int 0, .int 0, .int 0])), (ll, .inr (1, [.int 0, .ref ed, .int 0])), (q14, .inl (cA16, 10, .inl (fun _ => 0)))] H15 := hP
        have hD : va_D A [(mo, .inr (10, [.int 0, .ref mr, .int 1, .long s9])), (mr, .inr (9, [.ref ll, .ref lt, .ref lp, .int (-1), .int 0, .int 0, .int 0, .int 0, .int 0, .int 0, .int (-1), .int 0, .int 0, .int 0])), (ll, .inr (1, [.int 0, .ref ed, .int 0])), (q14, .inl (cA16, 10, .inl (fun _ => 0)))] := hD
        refine lv_astore (lv' := [(6, .ref q14), (0, .ref mo), (1, .int x0), (2, .int x1), (3, .int x2), (4, .int x3), (5, .int x4)]) hx hb dX8_lock_75 hl (by decide) rfl (fun ls hl => ?_)
        refine lv_aload hx hb dX8_lock_77 (lv_at hl 0 rfl) ?_
        refine lv_iconst (v := 0) hx hb dX8_lock_79 (by decide) ?_
        refine lv_iload_n hx hb dX8_lock_80 rfl (lv_at hl 2 rfl) ?_
        refine va_iast hx hb hK hP hD hS 3 0 rfl rfl (by unfold vp_in; decide) dX8_lock_81 (fun H18 locs hP hD hS => ?_)
        obtain ⟨f19, ef19⟩ : ∃ z : Nat → Int32, z = upd (fun _ => 0) 0 x0 := ⟨_, rfl⟩
        have k20 : f19 0 = x0 := by rw [ef19]; exact pk_us
        have hP : va_P (dC, dI) vwCl [(mo, .inr (10, [.int 0, .ref mr, .int 1, .long s9])), (mr, .inr (9, [.ref ll, .ref lt, .ref lp, .int (-1), .int 0, .int 0, .int 0, .int 0, .int 0, .int 0, .int (-1), .int 0, .int 0, .int 0])), (ll, .inr (1, [.int 0, .ref ed, .int 0])), (q14, .inl (cA16, 10, .inl f19))] H18 := by rw [ef19]; exact hP
        have hD : va_D A [(mo, .inr (10, [.int 0, .ref mr, .int 1, .long s9])), (mr, .inr (9, [.ref ll, .ref lt, .ref lp, .int (-1), .int 0, .int 0, .int 0, .int 0, .int 0, .int 0, .int (-1), .int 0, .int 0, .int 0])), (ll, .inr (1, [.int 0, .ref ed, .int 0])), (q14, .inl (cA16, 10, .inl f19))] := by rw [ef19]; exact hD
        refine lv_aload hx hb dX8_lock_82 (lv_at hl 0 rfl) ?_
        refine lv_iconst (v := 1) hx hb dX8_lock_84 (by decide) ?_
        refine lv_iload_n hx hb dX8_lock_85 rfl (lv_at hl 3 rfl) ?_
        refine va_iast hx hb hK hP hD hS 3 0 rfl rfl (by unfold vp_in; decide) dX8_lock_86 (fun H21 locs hP hD hS => ?_)
        obtain ⟨f22, ef22⟩ : ∃ z : Nat → Int32, z = upd f19 1 x1 := ⟨_, rfl⟩
        have k23 : f22 0 = x0 := by rw [ef22]; exact (pk_un (by decide)).trans (k20)
        have k24 : f22 1 = x1 := by rw [ef22]; exact pk_us
        have hP : va_P (dC, dI) vwCl [(mo, .inr (10, [.int 0, .ref mr, .int 1, .long s9])), (mr, .inr (9, [.ref ll, .ref lt, .ref lp, .int (-1), .int 0, .int 0, .int 0, .int 0, .int 0, .int 0, .int (-1), .int 0, .int 0, .int 0])), (ll, .inr (1, [.int 0, .ref ed, .int 0])), (q14, .inl (cA16, 10, .inl f22))] H21 := by rw [ef22]; exact hP
        have hD : va_D A [(mo, .inr (10, [.int 0, .ref mr, .int 1, .long s9])), (mr, .inr (9, [.ref ll, .ref lt, .ref lp, .int (-1), .int 0, .int 0, .int 0, .int 0, .int 0, .int 0, .int (-1), .int 0, .int 0, .int 0])), (ll, .inr (1, [.int 0, .ref ed, .int 0])), (q14, .inl (cA16, 10, .inl f22))] := by rw [ef22]; exact hD
        refine lv_aload hx hb dX8_lock_87 (lv_at hl 0 rfl) ?_
        refine lv_iconst (v := 2) hx hb dX8_lock_89 (by decide) ?_
        refine lv_iload_n hx hb dX8_lock_90 rfl (lv_at hl 4 rfl) ?_
        refine va_iast hx hb hK hP hD hS 3 0 rfl rfl (by unfold vp_in; decide) dX8_lock_91 (fun H25 locs hP hD hS => ?_)
        obtain ⟨f26, ef26⟩ : ∃ z : Nat → Int32, z = upd f22 2 x2 := ⟨_, rfl⟩
        have k27 : f26 0 = x0 := by rw [ef26]; exact (pk_un (by decide)).trans (k23)
        have k28 : f26 1 = x1 := by rw [ef26]; exact (pk_un (by decide)).trans (k24)
        have k29 : f26 2 = x2 := by rw [ef26]; exact pk_us
        have hP : va_P (dC, dI) vwCl [(mo, .inr (10, [.int 0, .ref mr, .int 1, .long s9])), (mr, .inr (9, [.ref ll, .ref lt, .ref lp, .int (-1), .int 0, .int 0, .int 0, .int 0, .int 0, .int 0, .int (-1), .int 0, .int 0, .int 0])), (ll, .inr (1, [.int 0, .ref ed, .int 0])), (q14, .inl (cA16, 10, .inl f26))] H25 := by rw [ef26]; exact hP
        have hD : va_D A [(mo, .inr (10, [.int 0, .ref mr, .int 1, .long s9])), (mr, .inr (9, [.ref ll, .ref lt, .ref lp, .int (-1), .int 0, .int 0, .int 0, .int 0, .int 0, .int 0, .int (-1), .int 0, .int 0, .int 0])), (ll, .inr (1, [.int 0, .ref ed, .int 0])), (q14, .inl (cA16, 10, .inl f26))] := by rw [ef26]; exact hD
        refine lv_aload hx hb dX8_lock_92 (lv_at hl 0 rfl) ?_
        refine lv_iconst (v := 3) hx hb dX8_lock_94 (by decide) ?_
        refine lv_iload hx hb dX8_lock_95 (lv_at hl 5 rfl) ?_
        refine lv_if_eq (tgt := 104) hx hb dX8_lock_97 (by decide) (fun c30 => ?_) (fun c30 => ?_)
        · skip
          refine lv_iconst (v := 0) hx hb dX8_lock_104 (by decide) ?_
          refine va_iast hx hb hK hP hD hS 3 0 rfl rfl (by unfold vp_in; decide) dX8_lock_105 (fun H31 locs hP hD hS => ?_)
          obtain ⟨f32, ef32⟩ : ∃ z : Nat → Int32, z = upd f26 3 0 := ⟨_, rfl⟩
          have k33 : f32 0 = x0 := by rw [ef32]; exact (pk_un (by decide)).trans (k27)
          have k34 : f32 1 = x1 := by rw [ef32]; exact (pk_un (by decide)).trans (k28)
          have k35 : f32 2 = x2 := by rw [ef32]; exact (pk_un (by decide)).trans (k29)
          have k36 : f32 3 = 0 := by rw [ef32]; exact pk_us
          have hP : va_P (dC, dI) vwCl [(mo, .inr (10, [.int 0, .ref mr, .int 1, .long s9])), (mr, .inr (9, [.ref ll, .ref lt, .ref lp, .int (-1), .int 0, .int 0, .int 0, .int 0, .int 0, .int 0, .int (-1), .int 0, .int 0, .int 0])), (ll, .inr (1, [.int 0, .ref ed, .int 0])), (q14, .inl (cA16, 10, .inl f32))] H31 := by rw [ef32]; exact hP
          have hD : va_D A [(mo, .inr (10, [.int 0, .ref mr, .int 1, .long s9])), (mr, .inr (9, [.ref ll, .ref lt, .ref lp, .int (-1), .int 0, .int 0, .int 0, .int 0, .int 0, .int 0, .int (-1), .int 0, .int 0, .int 0])), (ll, .inr (1, [.int 0, .ref ed, .int 0])), (q14, .inl (cA16, 10, .inl f32))] := by rw [ef32]; exact hD
          refine lv_aload_n hx hb dX8_lock_106 rfl (lv_at hl 1 rfl) ?_
          refine va_get (D := (dC, dI)) (ci := 10) (v := .ref mr) (C := RX8) (T := TX8) (N := 4) hx hb hts zi_X8_lock_X8 hown hK hP 0 rfl rfl 1 (by decide) (hts (.fieldLink RX8 10 "LockRoomsModel" "room" "LLockRoomsModel$Room;") (by decide +kernel)) (fun _ h9 => h9) rfl dX8_lock_107 ?_
          refine va_getN (D := (dC, dI)) (ci := 9) (v := .ref ll) (C := RX7) (T := TX7) (N := 14) hx hb hts zi_X8_lock_X7 hown hK hP 1 rfl rfl 0 (by decide) (va_Nw.use rfl (hN.1 ("LockRoomsModel", 24, "LockRoomsModel$Room", "locks", "Ljava/util/ArrayList;", "LockRoomsModel") (List.mem_of_getElem? (i := 1) rfl))) (fun _ h9 => h9) rfl dX8_lock_110 ?_
          refine lv_aload hx hb dX8_lock_113 (lv_at hl 0 rfl) ?_
          have hPr := (hP).sub (ws' := [(q14, .inl (cA16, 10, .inl f32))]) [3] rfl
          have hPc := hP.sub (ws' := [(ll, .inr (1, [.int 0, .ref ed, .int 0]))]) [2] rfl
          have hDc := hD.sub (ws' := [(ll, .inr (1, [.int 0, .ref ed, .int 0]))]) [2] (by decide) rfl
          have hKc := hK.sub (tys' := [(cA16, .int)]) [0] rfl
          have hFc := va_free (wc := [(ll, .inr (1, [.int 0, .ref ed, .int 0]))]) hD hS hA [2] rfl
          refine va_calli (va_runV (As := [.ref q14]) (rest := []) ⟨hx, hb, hml, hown, hts⟩ (cz_add l dC dI ed H31.size ll q14 cA16 10 f32) (cwV 1 hts gX8_lock_Jx4a65c_add_9ea2d rfl rfl rfl (by decide +kernel) ⟨Nat.le_of_ble_eq_true rfl, Nat.le_of_ble_eq_true rfl⟩) ⟨zb_blind, va_recv hK hP (ci := 1) (q0 := 2) rfl rfl, fun U hU hW => ⟨rfl, zb_mk hU hW hPr hPc hKc hDc hN hH hS hFc (zx_cons (zx_o hD 3 [2] rfl rfl (by decide)) zx_nil)⟩⟩ rfl rfl hl.1 rfl (lv_room (Nat.le_of_ble_eq_true rfl)) dX8_lock_115 ⟨Nat.le_of_ble_eq_true rfl, Nat.le_of_ble_eq_true rfl⟩) hS (fun q _ h => hFc q h) hFc (fun r38 u t H37 locs ht hvm hw hB hz1 hk1 hS => ?_)
          obtain rfl : r38 = 1 := hw
          obtain ⟨oa_39, hP1, hD1, hK1⟩ := hB
          rw [ht] at hP1
          obtain ⟨hP, hD⟩ := va_join (wr := [(mo, .inr (10, [.int 0, .ref mr, .int 1, .long s9])), (mr, .inr (9, [.ref ll, .ref lt, .ref lp, .int (-1), .int 0, .int 0, .int 0, .int 0, .int 0, .int 0, .int (-1), .int 0, .int 0, .int 0])), (q14, .inl (cA16, 10, .inl f32))]) (w1 := [(ll, .inr (1, [.int 1, .ref oa_39, .int 1]))]) hP hD [2] [0, 1, 3] rfl rfl (by decide) (by decide) hk1 hFc hP1 hD1
          have hP : va_P (dC, dI) vwCl [(mo, .inr (10, [.int 0, .ref mr, .int 1, .long s9])), (mr, .inr (9, [.ref ll, .ref lt, .ref lp, .int (-1), .int 0, .int 0, .int 0, .int 0, .int 0, .int 0, .int (-1), .int 0, .int 0, .int 0])), (q14, .inl (cA16, 10, .inl f32)), (ll, .inr (1, [.int 1, .ref oa_39, .int 1]))] H37 := hP
          have hD : va_D A [(mo, .inr (10, [.int 0, .ref mr, .int 1, .long s9])), (mr, .inr (9, [.ref ll, .ref lt, .ref lp, .int (-1), .int 0, .int 0, .int 0, .int 0, .int 0, .int 0, .int (-1), .int 0, .int 0, .int 0])), (q14, .inl (cA16, 10, .inl f32)), (ll, .inr (1, [.int 1, .ref oa_39, .int 1]))] := hD
          refine lv_pop hx hb dX8_lock_118 rfl ?_
          refine lv_iload hx hb dX8_lock_119 (lv_at hl 6 rfl) ?_
          refine lv_if_eq (tgt := 143) hx hb dX8_lock_121 (by decide) (fun c40 => ?_) (fun c40 => ?_)
          · skip
            refine lv_aload_n hx hb dX8_lock_143 rfl (lv_at hl 1 rfl) ?_
            refine va_get (D := (dC, dI)) (ci := 10) (v := .ref mr) (C := RX8) (T := TX8) (N := 4) hx hb hts zi_X8_lock_X8 hown hK hP 0 rfl rfl 1 (by decide) (hts (.fieldLink RX8 10 "LockRoomsModel" "room" "LLockRoomsModel$Room;") (by decide +kernel)) (fun _ h9 => h9) rfl dX8_lock_144 ?_
            refine va_getN (D := (dC, dI)) (ci := 9) (v := .ref ll) (C := RX7) (T := TX7) (N := 14) hx hb hts zi_X8_lock_X7 hown hK hP 1 rfl rfl 0 (by decide) (va_Nw.use rfl (hN.1 ("LockRoomsModel", 24, "LockRoomsModel$Room", "locks", "Ljava/util/ArrayList;", "LockRoomsModel") (List.mem_of_getElem? (i := 1) rfl))) (fun _ h9 => h9) rfl dX8_lock_147 ?_
            have hPr := (hP).sub (ws' := [(ll, .inr (1, [.int 1, .ref oa_39, .int 1]))]) [3] rfl
            have hPc := hP.sub (ws' := []) [] rfl
            have hDc := hD.sub (ws' := []) [] (by decide) rfl
            have hKc := hK.sub (tys' := []) [] rfl
            have hFc := va_free (wc := []) hD hS hA [] rfl
            refine va_calli (va_runV (As := []) (rest := []) ⟨hx, hb, hml, hown, hts⟩ (cz_size1 l dC dI ed H37.size ll oa_39) (cwV 0 hts gX8_lock_Jx4a65c_size_8abf5 rfl rfl rfl (by decide +kernel) ⟨Nat.le_of_ble_eq_true rfl, Nat.le_of_ble_eq_true rfl⟩) ⟨zb_blind, va_recv hK hP (ci := 1) (q0 := 3) rfl rfl, fun U hU hW => ⟨rfl, zb_mk hU hW hPr hPc hKc hDc hN hH hS hFc zx_e⟩⟩ rfl rfl hl.1 rfl (lv_room (Nat.le_of_ble_eq_true rfl)) dX8_lock_150 ⟨Nat.le_of_ble_eq_true rfl, Nat.le_of_ble_eq_true rfl⟩) hS (fun q _ h => hFc q h) hFc (fun r42 u t H41 locs ht hvm hw hB hz1 hk1 hS => ?_)
            obtain rfl : r42 = 1 := hw
            have hP := zo_K hP hk1
            refine lv_iconst (v := 1) hx hb dX8_lock_153 (by decide) ?_
            refine lv_isub hx hb dX8_lock_154 ?_
            refine zo_i (v := 0) (by decide) ?_
            refine W.widen (k := 2) (n := 20) (Nat.le_of_ble_eq_true rfl) (Nat.le_of_ble_eq_true rfl) ?_
            have hP9 := hP.sub (ws' := [(mo, .inr (10, [.int 0, .ref mr, .int 1, .long s9]))]) [0] rfl
            have hD9 := hD.sub (ws' := [(mo, .inr (10, [.int 0, .ref mr, .int 1, .long s9]))]) [0] (by decide) rfl
            have hK9 := hK.sub (tys' := []) [] rfl
            have e90 : zLk x0 x1 x2 = 0 := if_pos ⟨c4, c5, c11⟩
            exact W.iret hx hb hr (fun t ht hW => ⟨⟨0, (), rfl, rfl, ⟨by rw [ht, e90]; exact hP9, by rw [e90]; exact hD9, va_K.moved hW.alike hK9⟩⟩, hS.F ht⟩) hS.2.2 dX8_lock_155
          · skip
            refine lv_aload_n hx hb dX8_lock_124 rfl (lv_at hl 1 rfl) ?_
            refine va_get (D := (dC, dI)) (ci := 10) (v := .ref mr) (C := RX8) (T := TX8) (N := 4) hx hb hts zi_X8_lock_X8 hown hK hP 0 rfl rfl 1 (by decide) (hts (.fieldLink RX8 10 "LockRoomsModel" "room" "LLockRoomsModel$Room;") (by decide +kernel)) (fun _ h9 => h9) rfl dX8_lock_125 ?_
            refine lv_aload_n hx hb dX8_lock_128 rfl (lv_at hl 1 rfl) ?_
            refine va_get (D := (dC, dI)) (ci := 10) (v := .ref mr) (C := RX8) (T := TX8) (N := 4) hx hb hts zi_X8_lock_X8 hown hK hP 0 rfl rfl 1 (by decide) (hts (.fieldLink RX8 10 "LockRoomsModel" "room" "LLockRoomsModel$Room;") (by decide +kernel)) (fun _ h9 => h9) rfl dX8_lock_129 ?_
            refine va_getN (D := (dC, dI)) (ci := 9) (v := .ref ll) (C := RX7) (T := TX7) (N := 14) hx hb hts zi_X8_lock_X7 hown hK hP 1 rfl rfl 0 (by decide) (va_Nw.use rfl (hN.1 ("LockRoomsModel", 24, "LockRoomsModel$Room", "locks", "Ljava/util/ArrayList;", "LockRoomsModel") (List.mem_of_getElem? (i := 1) rfl))) (fun _ h9 => h9) rfl dX8_lock_132 ?_
            have hPr := (hP).sub (ws' := [(ll, .inr (1, [.int 1, .ref oa_39, .int 1]))]) [3] rfl
            have hPc := hP.sub (ws' := []) [] rfl
            have hDc := hD.sub (ws' := []) [] (by decide) rfl
            have hKc := hK.sub (tys' := []) [] rfl
            have hFc := va_free (wc := []) hD hS hA [] rfl
            refine va_calli (va_runV (As := []) (rest := [.ref mr]) ⟨hx, hb, hml, hown, hts⟩ (cz_size1 l dC dI ed H37.size ll oa_39) (cwV 0 hts gX8_lock_Jx4a65c_size_8abf5 rfl rfl rfl (by decide +kernel) ⟨Nat.le_of_ble_eq_true rfl, Nat.le_of_ble_eq_true rfl⟩) ⟨zb_blind, va_recv hK hP (ci := 1) (q0 := 3) rfl rfl, fun U hU hW => ⟨rfl, zb_mk hU hW hPr hPc hKc hDc hN hH hS hFc zx_e⟩⟩ rfl rfl hl.1 rfl (lv_room (Nat.le_of_ble_eq_true rfl)) dX8_lock_135 ⟨Nat.le_of_ble_eq_true rfl, Nat.le_of_ble_eq_true rfl⟩) hS (fun q _ h => hFc q h) hFc (fun r44 u t H43 locs ht hvm hw hB hz1 hk1 hS => ?_)
            obtain rfl : r44 = 1 := hw
            have hP := zo_K hP hk1
            refine lv_iconst (v := 1) hx hb dX8_lock_138 (by decide) ?_
            refine lv_isub hx hb dX8_lock_139 ?_
            refine zo_i (v := 0) (by decide) ?_
            refine va_putN (D := (dC, dI)) (ci := 9) (v := .int 0) (ty := .int) (C := RX7) (T := TX7) (N := 14) hx hb hts zi_X8_lock_X7 tyX7 tyX7_ok nmX7 hown hK hP hD hS 1 rfl rfl 3 (by decide) (va_Nw.use rfl (hN.1 ("LockRoomsModel", 52, "LockRoomsModel$Room", "exit", "I", "LockRoomsModel") (List.mem_of_getElem? (i := 4) rfl))) (fun _ h9 => h9) rfl (by decide +kernel) rfl rfl (Nat.le_of_ble_eq_true rfl) dX8_lock_140 (fun H45 locs hP hD hS => ?_)
            have hP : va_P (dC, dI) vwCl [(mo, .inr (10, [.int 0, .ref mr, .int 1, .long s9])), (mr, .inr (9, [.ref ll, .ref lt, .ref lp, .int 0, .int 0, .int 0, .int 0, .int 0, .int 0, .int 0, .int (-1), .int 0, .int 0, .int 0])), (q14, .inl (cA16, 10, .inl f32)), (ll, .inr (1, [.int 1, .ref oa_39, .int 1]))] H45 := hP
            have hD : va_D A [(mo, .inr (10, [.int 0, .ref mr, .int 1, .long s9])), (mr, .inr (9, [.ref ll, .ref lt, .ref lp, .int 0, .int 0, .int 0, .int 0, .int 0, .int 0, .int 0, .int (-1), .int 0, .int 0, .int 0])), (q14, .inl (cA16, 10, .inl f32)), (ll, .inr (1, [.int 1, .ref oa_39, .int 1]))] := hD
            refine lv_aload_n hx hb dX8_lock_143 rfl (lv_at hl 1 rfl) ?_
            refine va_get (D := (dC, dI)) (ci := 10) (v := .ref mr) (C := RX8) (T := TX8) (N := 4) hx hb hts zi_X8_lock_X8 hown hK hP 0 rfl rfl 1 (by decide) (hts (.fieldLink RX8 10 "LockRoomsModel" "room" "LLockRoomsModel$Room;") (by decide +kernel)) (fun _ h9 => h9) rfl dX8_lock_144 ?_
            refine va_getN (D := (dC, dI)) (ci := 9) (v := .ref ll) (C := RX7) (T := TX7) (N := 14) hx hb hts zi_X8_lock_X7 hown hK hP 1 rfl rfl 0 (by decide) (va_Nw.use rfl (hN.1 ("LockRoomsModel", 24, "LockRoomsModel$Room", "locks", "Ljava/util/ArrayList;", "LockRoomsModel") (List.mem_of_getElem? (i := 1) rfl))) (fun _ h9 => h9) rfl dX8_lock_147 ?_
            have hPr := (hP).sub (ws' := [(ll, .inr (1, [.int 1, .ref oa_39, .int 1]))]) [3] rfl
            have hPc := hP.sub (ws' := []) [] rfl
            have hDc := hD.sub (ws' := []) [] (by decide) rfl
            have hKc := hK.sub (tys' := []) [] rfl
            have hFc := va_free (wc := []) hD hS hA [] rfl
            refine va_calli (va_runV (As := []) (rest := []) ⟨hx, hb, hml, hown, hts⟩ (cz_size1 l dC dI ed H45.size ll oa_39) (cwV 0 hts gX8_lock_Jx4a65c_size_8abf5 rfl rfl rfl (by decide +kernel) ⟨Nat.le_of_ble_eq_true rfl, Nat.le_of_ble_eq_true rfl⟩) ⟨zb_blind, va_recv hK hP (ci := 1) (q0 := 3) rfl rfl, fun U hU hW => ⟨rfl, zb_mk hU hW hPr hPc hKc hDc hN hH hS hFc zx_e⟩⟩ rfl rfl hl.1 rfl (lv_room (Nat.le_of_ble_eq_true rfl)) dX8_lock_150 ⟨Nat.le_of_ble_eq_true rfl, Nat.le_of_ble_eq_true rfl⟩) hS (fun q _ h => hFc q h) hFc (fun r47 u t H46 locs ht hvm hw hB hz1 hk1 hS => ?_)
            obtain rfl : r47 = 1 := hw
            have hP := zo_K hP hk1
            refine lv_iconst (v := 1) hx hb dX8_lock_153 (by decide) ?_
            refine lv_isub hx hb dX8_lock_154 ?_
            refine zo_i (v := 0) (by decide) ?_
            refine W.widen (k := 2) (n := 20) (Nat.le_of_ble_eq_true rfl) (Nat.le_of_ble_eq_true rfl) ?_
            have hP9 := hP.sub (ws' := [(mo, .inr (10, [.int 0, .ref mr, .int 1, .long s9]))]) [0] rfl
            have hD9 := hD.sub (ws' := [(mo, .inr (10, [.int 0, .ref mr, .int 1, .long s9]))]) [0] (by decide) rfl
            have hK9 := hK.sub (tys' := []) [] rfl
            have e90 : zLk x0 x1 x2 = 0 := if_pos ⟨c4, c5, c11⟩
            exact W.iret hx hb hr (fun t ht hW => ⟨⟨0, (), rfl, rfl, ⟨by rw [ht, e90]; exact hP9, by rw [e90]; exact hD9, va_K.moved hW.alike hK9⟩⟩, hS.F ht⟩) hS.2.2 dX8_lock_155
        · skip
          refine lv_iconst (v := 1) hx hb dX8_lock_100 (by decide) ?_
          refine lv_goto (tgt := 105) hx hb dX8_lock_101 (by decide) ?_
          refine va_iast hx hb hK hP hD hS 3 0 rfl rfl (by unfold vp_in; decide) dX8_lock_105 (fun H48 locs hP hD hS => ?_)
          obtain ⟨f49, ef49⟩ : ∃ z : Nat → Int32, z = upd f26 3 1 := ⟨_, rfl⟩
          have k50 : f49 0 = x0 := by rw [ef49]; exact (pk_un (by decide)).trans (k27)
          have k51 : f49 1 = x1 := by rw [ef49]; exact (pk_un (by decide)).trans (k28)
          have k52 : f49 2 = x2 := by rw [ef49]; exact (pk_un (by decide)).trans (k29)
          have k53 : f49 3 = 1 := by rw [ef49]; exact pk_us
          have hP : va_P (dC, dI) vwCl [(mo, .inr (10, [.int 0, .ref mr, .int 1, .long s9])), (mr, .inr (9, [.ref ll, .ref lt, .ref lp, .int (-1), .int 0, .int 0, .int 0, .int 0, .int 0, .int 0, .int (-1), .int 0, .int 0, .int 0])), (ll, .inr (1, [.int 0, .ref ed, .int 0])), (q14, .inl (cA16, 10, .inl f49))] H48 := by rw [ef49]; exact hP
          have hD : va_D A [(mo, .inr (10, [.int 0, .ref mr, .int 1, .long s9])), (mr, .inr (9, [.ref ll, .ref lt, .ref lp, .int (-1), .int 0, .int 0, .int 0, .int 0, .int 0, .int 0, .int (-1), .int 0, .int 0, .int 0])), (ll, .inr (1, [.int 0, .ref ed, .int 0])), (q14, .inl (cA16, 10, .inl f49))] := by rw [ef49]; exact hD
          refine lv_aload_n hx hb dX8_lock_106 rfl (lv_at hl 1 rfl) ?_
          refine va_get (D := (dC, dI)) (ci := 10) (v := .ref mr) (C := RX8) (T := TX8) (N := 4) hx hb hts zi_X8_lock_X8 hown hK hP 0 rfl rfl 1 (by decide) (hts (.fieldLink RX8 10 "LockRoomsModel" "room" "LLockRoomsModel$Room;") (by decide +kernel)) (fun _ h9 => h9) rfl dX8_lock_107 ?_
          refine va_getN (D := (dC, dI)) (ci := 9) (v := .ref ll) (C := RX7) (T := TX7) (N := 14) hx hb hts zi_X8_lock_X7 hown hK hP 1 rfl rfl 0 (by decide) (va_Nw.use rfl (hN.1 ("LockRoomsModel", 24, "LockRoomsModel$Room", "locks", "Ljava/util/ArrayList;", "LockRoomsModel") (List.mem_of_getElem? (i := 1) rfl))) (fun _ h9 => h9) rfl dX8_lock_110 ?_
          refine lv_aload hx hb dX8_lock_113 (lv_at hl 0 rfl) ?_
          have hPr := (hP).sub (ws' := [(q14, .inl (cA16, 10, .inl f49))]) [3] rfl
          have hPc := hP.sub (ws' := [(ll, .inr (1, [.int 0, .ref ed, .int 0]))]) [2] rfl
          have hDc := hD.sub (ws' := [(ll, .inr (1, [.int 0, .ref ed, .int 0]))]) [2] (by decide) rfl
          have hKc := hK.sub (tys' := [(cA16, .int)]) [0] rfl
          have hFc := va_free (wc := [(ll, .inr (1, [.int 0, .ref ed, .int 0]))]) hD hS hA [2] rfl
          refine va_calli (va_runV (As := [.ref q14]) (rest := []) ⟨hx, hb, hml, hown, hts⟩ (cz_add l dC dI ed H48.size ll q14 cA16 10 f49) (cwV 1 hts gX8_lock_Jx4a65c_add_9ea2d rfl rfl rfl (by decide +kernel) ⟨Nat.le_of_ble_eq_true rfl, Nat.le_of_ble_eq_true rfl⟩) ⟨zb_blind, va_recv hK hP (ci := 1) (q0 := 2) rfl rfl, fun U hU hW => ⟨rfl, zb_mk hU hW hPr hPc hKc hDc hN hH hS hFc (zx_cons (zx_o hD 3 [2] rfl rfl (by decide)) zx_nil)⟩⟩ rfl rfl hl.1 rfl (lv_room (Nat.le_of_ble_eq_true rfl)) dX8_lock_115 ⟨Nat.le_of_ble_eq_true rfl, Nat.le_of_ble_eq_true rfl⟩) hS (fun q _ h => hFc q h) hFc (fun r55 u t H54 locs ht hvm hw hB hz1 hk1 hS => ?_)
          obtain rfl : r55 = 1 := hw
          obtain ⟨oa_56, hP1, hD1, hK1⟩ := hB
          rw [ht] at hP1
          obtain ⟨hP, hD⟩ := va_join (wr := [(mo, .inr (10, [.int 0, .ref mr, .int 1, .long s9])), (mr, .inr (9, [.ref ll, .ref lt, .ref lp, .int (-1), .int 0, .int 0, .int 0, .int 0, .int 0, .int 0, .int (-1), .int 0, .int 0, .int 0])), (q14, .inl (cA16, 10, .inl f49))]) (w1 := [(ll, .inr (1, [.int 1, .ref oa_56, .int 1]))]) hP hD [2] [0, 1, 3] rfl rfl (by decide) (by decide) hk1 hFc hP1 hD1
          have hP : va_P (dC, dI) vwCl [(mo, .inr (10, [.int 0, .ref mr, .int 1, .long s9])), (mr, .inr (9, [.ref ll, .ref lt, .ref lp, .int (-1), .int 0, .int 0, .int 0, .int 0, .int 0, .int 0, .int (-1), .int 0, .int 0, .int 0])), (q14, .inl (cA16, 10, .inl f49)), (ll, .inr (1, [.int 1, .ref oa_56, .int 1]))] H54 := hP
          have hD : va_D A [(mo, .inr (10, [.int 0, .ref mr, .int 1, .long s9])), (mr, .inr (9, [.ref ll, .ref lt, .ref lp, .int (-1), .int 0, .int 0, .int 0, .int 0, .int 0, .int 0, .int (-1), .int 0, .int 0, .int 0])), (q14, .inl (cA16, 10, .inl f49)), (ll, .inr (1, [.int 1, .ref oa_56, .int 1]))] := hD
          refine lv_pop hx hb dX8_lock_118 rfl ?_
          refine lv_iload hx hb dX8_lock_119 (lv_at hl 6 rfl) ?_
          refine lv_if_eq (tgt := 143) hx hb dX8_lock_121 (by decide) (fun c57 => ?_) (fun c57 => ?_)
          · skip
            refine lv_aload_n hx hb dX8_lock_143 rfl (lv_at hl 1 rfl) ?_
            refine va_get (D := (dC, dI)) (ci := 10) (v := .ref mr) (C := RX8) (T := TX8) (N := 4) hx hb hts zi_X8_lock_X8 hown hK hP 0 rfl rfl 1 (by decide) (hts (.fieldLink RX8 10 "LockRoomsModel" "room" "LLockRoomsModel$Room;") (by decide +kernel)) (fun _ h9 => h9) rfl dX8_lock_144 ?_
            refine va_getN (D := (dC, dI)) (ci := 9) (v := .ref ll) (C := RX7) (T := TX7) (N := 14) hx hb hts zi_X8_lock_X7 hown hK hP 1 rfl rfl 0 (by decide) (va_Nw.use rfl (hN.1 ("LockRoomsModel", 24, "LockRoomsModel$Room", "locks", "Ljava/util/ArrayList;", "LockRoomsModel") (List.mem_of_getElem? (i := 1) rfl))) (fun _ h9 => h9) rfl dX8_lock_147 ?_
            have hPr := (hP).sub (ws' := [(ll, .inr (1, [.int 1, .ref oa_56, .int 1]))]) [3] rfl
            have hPc := hP.sub (ws' := []) [] rfl
            have hDc := hD.sub (ws' := []) [] (by decide) rfl
            have hKc := hK.sub (tys' := []) [] rfl
            have hFc := va_free (wc := []) hD hS hA [] rfl
            refine va_calli (va_runV (As := []) (rest := []) ⟨hx, hb, hml, hown, hts⟩ (cz_size1 l dC dI ed H54.size ll oa_56) (cwV 0 hts gX8_lock_Jx4a65c_size_8abf5 rfl rfl rfl (by decide +kernel) ⟨Nat.le_of_ble_eq_true rfl, Nat.le_of_ble_eq_true rfl⟩) ⟨zb_blind, va_recv hK hP (ci := 1) (q0 := 3) rfl rfl, fun U hU hW => ⟨rfl, zb_mk hU hW hPr hPc hKc hDc hN hH hS hFc zx_e⟩⟩ rfl rfl hl.1 rfl (lv_room (Nat.le_of_ble_eq_true rfl)) dX8_lock_150 ⟨Nat.le_of_ble_eq_true rfl, Nat.le_of_ble_eq_true rfl⟩) hS (fun q _ h => hFc q h) hFc (fun r59 u t H58 locs ht hvm hw hB hz1 hk1 hS => ?_)
            obtain rfl : r59 = 1 := hw
            have hP := zo_K hP hk1
            refine lv_iconst (v := 1) hx hb dX8_lock_153 (by decide) ?_
            refine lv_isub hx hb dX8_lock_154 ?_
            refine zo_i (v := 0) (by decide) ?_
            refine W.widen (k := 2) (n := 20) (Nat.le_of_ble_eq_true rfl) (Nat.le_of_ble_eq_true rfl) ?_
            have hP9 := hP.sub (ws' := [(mo, .inr (10, [.int 0, .ref mr, .int 1, .long s9]))]) [0] rfl
            have hD9 := hD.sub (ws' := [(mo, .inr (10, [.int 0, .ref mr, .int 1, .long s9]))]) [0] (by decide) rfl
            have hK9 := hK.sub (tys' := []) [] rfl
            have e90 : zLk x0 x1 x2 = 0 := if_pos ⟨c4, c5, c11⟩
            exact W.iret hx hb hr (fun t ht hW => ⟨⟨0, (), rfl, rfl, ⟨by rw [ht, e90]; exact hP9, by rw [e90]; exact hD9, va_K.moved hW.alike hK9⟩⟩, hS.F ht⟩) hS.2.2 dX8_lock_155
          · skip
            refine lv_aload_n hx hb dX8_lock_124 rfl (lv_at hl 1 rfl) ?_
            refine va_get (D := (dC, dI)) (ci := 10) (v := .ref mr) (C := RX8) (T := TX8) (N := 4) hx hb hts zi_X8_lock_X8 hown hK hP 0 rfl rfl 1 (by decide) (hts (.fieldLink RX8 10 "LockRoomsModel" "room" "LLockRoomsModel$Room;") (by decide +kernel)) (fun _ h9 => h9) rfl dX8_lock_125 ?_
            refine lv_aload_n hx hb dX8_lock_128 rfl (lv_at hl 1 rfl) ?_
            refine va_get (D := (dC, dI)) (ci := 10) (v := .ref mr) (C := RX8) (T := TX8) (N := 4) hx hb hts zi_X8_lock_X8 hown hK hP 0 rfl rfl 1 (by decide) (hts (.fieldLink RX8 10 "LockRoomsModel" "room" "LLockRoomsModel$Room;") (by decide +kernel)) (fun _ h9 => h9) rfl dX8_lock_129 ?_
            refine va_getN (D := (dC, dI)) (ci := 9) (v := .ref ll) (C := RX7) (T := TX7) (N := 14) hx hb hts zi_X8_lock_X7 hown hK hP 1 rfl rfl 0 (by decide) (va_Nw.use rfl (hN.1 ("LockRoomsModel", 24, "LockRoomsModel$Room", "locks", "Ljava/util/ArrayList;", "LockRoomsModel") (List.mem_of_getElem? (i := 1) rfl))) (fun _ h9 => h9) rfl dX8_lock_132 ?_
            have hPr := (hP).sub (ws' := [(ll, .inr (1, [.int 1, .ref oa_56, .int 1]))]) [3] rfl
            have hPc := hP.sub (ws' := []) [] rfl
            have hDc := hD.sub (ws' := []) [] (by decide) rfl
            have hKc := hK.sub (tys' := []) [] rfl
            have hFc := va_free (wc := []) hD hS hA [] rfl
            refine va_calli (va_runV (As := []) (rest := [.ref mr]) ⟨hx, hb, hml, hown, hts⟩ (cz_size1 l dC dI ed H54.size ll oa_56) (cwV 0 hts gX8_lock_Jx4a65c_size_8abf5 rfl rfl rfl (by decide +kernel) ⟨Nat.le_of_ble_eq_true rfl, Nat.le_of_ble_eq_true rfl⟩) ⟨zb_blind, va_recv hK hP (ci := 1) (q0 := 3) rfl rfl, fun U hU hW => ⟨rfl, zb_mk hU hW hPr hPc hKc hDc hN hH hS hFc zx_e⟩⟩ rfl rfl hl.1 rfl (lv_room (Nat.le_of_ble_eq_true rfl)) dX8_lock_135 ⟨Nat.le_of_ble_eq_true rfl, Nat.le_of_ble_eq_true rfl⟩) hS (fun q _ h => hFc q h) hFc (fun r61 u t H60 locs ht hvm hw hB hz1 hk1 hS => ?_)
            obtain rfl : r61 = 1 := hw
            have hP := zo_K hP hk1
            refine lv_iconst (v := 1) hx hb dX8_lock_138 (by decide) ?_
            refine lv_isub hx hb dX8_lock_139 ?_
            refine zo_i (v := 0) (by decide) ?_
            refine va_putN (D := (dC, dI)) (ci := 9) (v := .int 0) (ty := .int) (C := RX7) (T := TX7) (N := 14) hx hb hts zi_X8_lock_X7 tyX7 tyX7_ok nmX7 hown hK hP hD hS 1 rfl rfl 3 (by decide) (va_Nw.use rfl (hN.1 ("LockRoomsModel", 52, "LockRoomsModel$Room", "exit", "I", "LockRoomsModel") (List.mem_of_getElem? (i := 4) rfl))) (fun _ h9 => h9) rfl (by decide +kernel) rfl rfl (Nat.le_of_ble_eq_true rfl) dX8_lock_140 (fun H62 locs hP hD hS => ?_)
            have hP : va_P (dC, dI) vwCl [(mo, .inr (10, [.int 0, .ref mr, .int 1, .long s9])), (mr, .inr (9, [.ref ll, .ref lt, .ref lp, .int 0, .int 0, .int 0, .int 0, .int 0, .int 0, .int 0, .int (-1), .int 0, .int 0, .int 0])), (q14, .inl (cA16, 10, .inl f49)), (ll, .inr (1, [.int 1, .ref oa_56, .int 1]))] H62 := hP
            have hD : va_D A [(mo, .inr (10, [.int 0, .ref mr, .int 1, .long s9])), (mr, .inr (9, [.ref ll, .ref lt, .ref lp, .int 0, .int 0, .int 0, .int 0, .int 0, .int 0, .int 0, .int (-1), .int 0, .int 0, .int 0])), (q14, .inl (cA16, 10, .inl f49)), (ll, .inr (1, [.int 1, .ref oa_56, .int 1]))] := hD
            refine lv_aload_n hx hb dX8_lock_143 rfl (lv_at hl 1 rfl) ?_
            refine va_get (D := (dC, dI)) (ci := 10) (v := .ref mr) (C := RX8) (T := TX8) (N := 4) hx hb hts zi_X8_lock_X8 hown hK hP 0 rfl rfl 1 (by decide) (hts (.fieldLink RX8 10 "LockRoomsModel" "room" "LLockRoomsModel$Room;") (by decide +kernel)) (fun _ h9 => h9) rfl dX8_lock_144 ?_
            refine va_getN (D := (dC, dI)) (ci := 9) (v := .ref ll) (C := RX7) (T := TX7) (N := 14) hx hb hts zi_X8_lock_X7 hown hK hP 1 rfl rfl 0 (by decide) (va_Nw.use rfl (hN.1 ("LockRoomsModel", 24, "LockRoomsModel$Room", "locks", "Ljava/util/ArrayList;", "LockRoomsModel") (List.mem_of_getElem? (i := 1) rfl))) (fun _ h9 => h9) rfl dX8_lock_147 ?_
            have hPr := (hP).sub (ws' := [(ll, .inr (1, [.int 1, .ref oa_56, .int 1]))]) [3] rfl
            have hPc := hP.sub (ws' := []) [] rfl
            have hDc := hD.sub (ws' := []) [] (by decide) rfl
            have hKc := hK.sub (tys' := []) [] rfl
            have hFc := va_free (wc := []) hD hS hA [] rfl
            refine va_calli (va_runV (As := []) (rest := []) ⟨hx, hb, hml, hown, hts⟩ (cz_size1 l dC dI ed H62.size ll oa_56) (cwV 0 hts gX8_lock_Jx4a65c_size_8abf5 rfl rfl rfl (by decide +kernel) ⟨Nat.le_of_ble_eq_true rfl, Nat.le_of_ble_eq_true rfl⟩) ⟨zb_blind, va_recv hK hP (ci := 1) (q0 := 3) rfl rfl, fun U hU hW => ⟨rfl, zb_mk hU hW hPr hPc hKc hDc hN hH hS hFc zx_e⟩⟩ rfl rfl hl.1 rfl (lv_room (Nat.le_of_ble_eq_true rfl)) dX8_lock_150 ⟨Nat.le_of_ble_eq_true rfl, Nat.le_of_ble_eq_true rfl⟩) hS (fun q _ h => hFc q h) hFc (fun r64 u t H63 locs ht hvm hw hB hz1 hk1 hS => ?_)
            obtain rfl : r64 = 1 := hw
            have hP := zo_K hP hk1
            refine lv_iconst (v := 1) hx hb dX8_lock_153 (by decide) ?_
            refine lv_isub hx hb dX8_lock_154 ?_
            refine zo_i (v := 0) (by decide) ?_
            refine W.widen (k := 2) (n := 20) (Nat.le_of_ble_eq_true rfl) (Nat.le_of_ble_eq_true rfl) ?_
            have hP9 := hP.sub (ws' := [(mo, .inr (10, [.int 0, .ref mr, .int 1, .long s9]))]) [0] rfl
            have hD9 := hD.sub (ws' := [(mo, .inr (10, [.int 0, .ref mr, .int 1, .long s9]))]) [0] (by decide) rfl
            have hK9 := hK.sub (tys' := []) [] rfl
            have e90 : zLk x0 x1 x2 = 0 := if_pos ⟨c4, c5, c11⟩
            exact W.iret hx hb hr (fun t ht hW => ⟨⟨0, (), rfl, rfl, ⟨by rw [ht, e90]; exact hP9, by rw [e90]; exact hD9, va_K.moved hW.alike hK9⟩⟩, hS.F ht⟩) hS.2.2 dX8_lock_155
      · obtain rfl : r10 = 0 := hw.trans (if_neg c11)
        refine lv_if_ne (tgt := 40) hx hb dX8_lock_31 (by decide) (fun h => absurd h (by decide)) (fun _ => ?_)
        refine lv_aload_n hx hb dX8_lock_34 rfl (lv_at hl 0 rfl) ?_
        refine lv_iconst (v := 1) hx hb dX8_lock_35 (by decide) ?_
        have hPr := (show va_P (dC, dI) vwCl [(mr, .inr (9, [.ref ll, .ref lt, .ref lp, .int (-1), .int 0, .int 0, .int 0, .int 0, .int 0, .int 0, .int (-1), .int 0, .int 0, .int 0])), (ll, .inr (1, [.int 0, .ref ed, .int 0])), (lt, .inr (1, [.int 0, .ref ed, .int 0])), (lp, .inr (1, [.int 0, .ref ed, .int 0]))] H9 from (zo_cons ((hP) 1 _ rfl) (zo_cons ((hP) 2 _ rfl) (zo_cons (((zo_R hR0 hS hAr)) 0 _ rfl) (zo_cons (((zo_R hR0 hS hAr)) 1 _ rfl) (zo_nil : va_P (dC, dI) vwCl [] H9))))))
        have hPc := hP.sub (ws' := [(mo, .inr (10, [.int 0, .ref mr, .int 1, .long s9]))]) [0] rfl
        have hDc := hD.sub (ws' := [(mo, .inr (10, [.int 0, .ref mr, .int 1, .long s9]))]) [0] (by decide) rfl
        have hKc := hK.sub (tys' := []) [] rfl
        have hFc := va_free (wc := [(mo, .inr (10, [.int 0, .ref mr, .int 1, .long s9]))]) hD hS hA [0] rfl
        refine va_calli (va_runV (As := [.int 1]) (rest := []) ⟨hx, hb, hml, hown, hts⟩ (cz_refuse l dC dI ed H9.size mo mr ll lt lp 0 s9 1) (cwV 1 hts gX8_lock_X8_refuse rfl rfl rfl (by decide +kernel) ⟨Nat.le_of_ble_eq_true rfl, Nat.le_of_ble_eq_true rfl⟩) ⟨zb_blind, va_recv hK hP (ci := 10) (q0 := 0) rfl rfl, fun U hU hW => ⟨rfl, zb_mk hU hW hPr hPc hKc hDc hN hH hS hFc (zx_cons (zx_o hD 1 [0] rfl rfl (by decide)) (zx_cons (zx_o hD 2 [0] rfl rfl (by decide)) (zx_cons (zx_r (hAr _ (List.mem_of_getElem? (i := 0) rfl)) hDc) (zx_cons (zx_r (hAr _ (List.mem_of_getElem? (i := 1) rfl)) hDc) zx_nil))))⟩⟩ rfl rfl hl.1 rfl (lv_room (Nat.le_of_ble_eq_true rfl)) dX8_lock_36 ⟨Nat.le_of_ble_eq_true rfl, Nat.le_of_ble_eq_true rfl⟩) hS (fun q _ h => hFc q h) hFc (fun r66 u t H65 locs ht hvm hw hB hz1 hk1 hS => ?_)
        obtain rfl : r66 = 0 := hw
        obtain ⟨hP1, hD1, hK1⟩ := hB
        rw [ht] at hP1
        obtain ⟨hP, hD⟩ := va_join (wr := [(mr, .inr (9, [.ref ll, .ref lt, .ref lp, .int (-1), .int 0, .int 0, .int 0, .int 0, .int 0, .int 0, .int (-1), .int 0, .int 0, .int 0])), (ll, .inr (1, [.int 0, .ref ed, .int 0]))]) (w1 := [(mo, .inr (10, [.int 1, .ref mr, .int 1, .long s9]))]) hP hD [0] [1, 2] rfl rfl (by decide) (by decide) hk1 hFc hP1 hD1
        have hP : va_P (dC, dI) vwCl [(mr, .inr (9, [.ref ll, .ref lt, .ref lp, .int (-1), .int 0, .int 0, .int 0, .int 0, .int 0, .int 0, .int (-1), .int 0, .int 0, .int 0])), (ll, .inr (1, [.int 0, .ref ed, .int 0])), (mo, .inr (10, [.int 1, .ref mr, .int 1, .long s9]))] H65 := hP
        have hD : va_D A [(mr, .inr (9, [.ref ll, .ref lt, .ref lp, .int (-1), .int 0, .int 0, .int 0, .int 0, .int 0, .int 0, .int (-1), .int 0, .int 0, .int 0])), (ll, .inr (1, [.int 0, .ref ed, .int 0])), (mo, .inr (10, [.int 1, .ref mr, .int 1, .long s9]))] := hD
        refine W.widen (k := 2) (n := 20) (Nat.le_of_ble_eq_true rfl) (Nat.le_of_ble_eq_true rfl) ?_
        have hP9 := hP.sub (ws' := [(mo, .inr (10, [.int 1, .ref mr, .int 1, .long s9]))]) [2] rfl
        have hD9 := hD.sub (ws' := [(mo, .inr (10, [.int 1, .ref mr, .int 1, .long s9]))]) [2] (by decide) rfl
        have hK9 := hK.sub (tys' := []) [] rfl
        have e90 : zLk x0 x1 x2 = 1 := if_neg (fun z => c11 z.2.2)
        exact W.iret hx hb hr (fun t ht hW => ⟨⟨0, (), rfl, rfl, ⟨by rw [ht, e90]; exact hP9, by rw [e90]; exact hD9, va_K.moved hW.alike hK9⟩⟩, hS.F ht⟩) hS.2.2 dX8_lock_39
  · obtain rfl : r3 = 0 := hw.trans (if_neg c4)
    refine lv_if_eq (tgt := 34) hx hb dX8_lock_13 (by decide) (fun _ => ?_) (fun h => absurd h (by decide))
    refine lv_aload_n hx hb dX8_lock_34 rfl (lv_at hl 0 rfl) ?_
    refine lv_iconst (v := 1) hx hb dX8_lock_35 (by decide) ?_
    have hPr := (show va_P (dC, dI) vwCl [(mr, .inr (9, [.ref ll, .ref lt, .ref lp, .int (-1), .int 0, .int 0, .int 0, .int 0, .int 0, .int 0, .int (-1), .int 0, .int 0, .int 0])), (ll, .inr (1, [.int 0, .ref ed, .int 0])), (lt, .inr (1, [.int 0, .ref ed, .int 0])), (lp, .inr (1, [.int 0, .ref ed, .int 0]))] H2 from (zo_cons ((hP) 1 _ rfl) (zo_cons ((hP) 2 _ rfl) (zo_cons (((zo_R hR0 hS hAr)) 0 _ rfl) (zo_cons (((zo_R hR0 hS hAr)) 1 _ rfl) (zo_nil : va_P (dC, dI) vwCl [] H2))))))
    have hPc := hP.sub (ws' := [(mo, .inr (10, [.int 0, .ref mr, .int 1, .long s9]))]) [0] rfl
    have hDc := hD.sub (ws' := [(mo, .inr (10, [.int 0, .ref mr, .int 1, .long s9]))]) [0] (by decide) rfl
    have hKc := hK.sub (tys' := []) [] rfl
    have hFc := va_free (wc := [(mo, .inr (10, [.int 0, .ref mr, .int 1, .long s9]))]) hD hS hA [0] rfl
    refine va_calli (va_runV (As := [.int 1]) (rest := []) ⟨hx, hb, hml, hown, hts⟩ (cz_refuse l dC dI ed H2.size mo mr ll lt lp 0 s9 1) (cwV 1 hts gX8_lock_X8_refuse rfl rfl rfl (by decide +kernel) ⟨Nat.le_of_ble_eq_true rfl, Nat.le_of_ble_eq_true rfl⟩) ⟨zb_blind, va_recv hK hP (ci := 10) (q0 := 0) rfl rfl, fun U hU hW => ⟨rfl, zb_mk hU hW hPr hPc hKc hDc hN hH hS hFc (zx_cons (zx_o hD 1 [0] rfl rfl (by decide)) (zx_cons (zx_o hD 2 [0] rfl rfl (by decide)) (zx_cons (zx_r (hAr _ (List.mem_of_getElem? (i := 0) rfl)) hDc) (zx_cons (zx_r (hAr _ (List.mem_of_getElem? (i := 1) rfl)) hDc) zx_nil))))⟩⟩ rfl rfl hl.1 rfl (lv_room (Nat.le_of_ble_eq_true rfl)) dX8_lock_36 ⟨Nat.le_of_ble_eq_true rfl, Nat.le_of_ble_eq_true rfl⟩) hS (fun q _ h => hFc q h) hFc (fun r69 u t H68 locs ht hvm hw hB hz1 hk1 hS => ?_)
    obtain rfl : r69 = 0 := hw
    obtain ⟨hP1, hD1, hK1⟩ := hB
    rw [ht] at hP1
    obtain ⟨hP, hD⟩ := va_join (wr := [(mr, .inr (9, [.ref ll, .ref lt, .ref lp, .int (-1), .int 0, .int 0, .int 0, .int 0, .int 0, .int 0, .int (-1), .int 0, .int 0, .int 0])), (ll, .inr (1, [.int 0, .ref ed, .int 0]))]) (w1 := [(mo, .inr (10, [.int 1, .ref mr, .int 1, .long s9]))]) hP hD [0] [1, 2] rfl rfl (by decide) (by decide) hk1 hFc hP1 hD1
    have hP : va_P (dC, dI) vwCl [(mr, .inr (9, [.ref ll, .ref lt, .ref lp, .int (-1), .int 0, .int 0, .int 0, .int 0, .int 0, .int 0, .int (-1), .int 0, .int 0, .int 0])), (ll, .inr (1, [.int 0, .ref ed, .int 0])), (mo, .inr (10, [.int 1, .ref mr, .int 1, .long s9]))] H68 := hP
    have hD : va_D A [(mr, .inr (9, [.ref ll, .ref lt, .ref lp, .int (-1), .int 0, .int 0, .int 0, .int 0, .int 0, .int 0, .int (-1), .int 0, .int 0, .int 0])), (ll, .inr (1, [.int 0, .ref ed, .int 0])), (mo, .inr (10, [.int 1, .ref mr, .int 1, .long s9]))] := hD
    refine W.widen (k := 2) (n := 20) (Nat.le_of_ble_eq_true rfl) (Nat.le_of_ble_eq_true rfl) ?_
    have hP9 := hP.sub (ws' := [(mo, .inr (10, [.int 1, .ref mr, .int 1, .long s9]))]) [2] rfl
    have hD9 := hD.sub (ws' := [(mo, .inr (10, [.int 1, .ref mr, .int 1, .long s9]))]) [2] (by decide) rfl
    have hK9 := hK.sub (tys' := []) [] rfl
    have e90 : zLk x0 x1 x2 = 1 := if_neg (fun z => c4 z.1)
    exact W.iret hx hb hr (fun t ht hW => ⟨⟨0, (), rfl, rfl, ⟨by rw [ht, e90]; exact hP9, by rw [e90]; exact hD9, va_K.moved hW.alike hK9⟩⟩, hS.F ht⟩) hS.2.2 dX8_lock_39

set_option maxRecDepth 20000 in
theorem zi_X8_thing_X8 : ∀ w ∈ u_ws RX8 TX8 4, w ∈ wsX8_thing := by decide +kernel
set_option maxRecDepth 20000 in
theorem zi_X8_thing_X7 : ∀ w ∈ u_ws RX7 TX7 14, w ∈ wsX8_thing := by decide +kernel
set_option maxHeartbeats 4000000 in
set_option maxRecDepth 100000 in
theorem cz_X8_thing (l : Launch) (dC : Nat → ClassId) (dI : Nat → Nat → Nat) (ed sz : Nat) (mo : Nat) (mr : Nat) (ll : Nat) (lt : Nat) (lp : Nat) (x9 : Int32) (s9 : Int64) (x0 : Int32) (x1 : Int32) : Met l yX8_thing wsX8_thing ({ frames := 5, cells := 2, slots := 15, locals := 101 } : Jvm.Room) (va_Pc [.ref mo, .int x0, .int x1] (zB dC dI ed sz [(ll, .inr (1, [.int 0, .ref ed, .int 0])), (lp, .inr (1, [.int 0, .ref ed, .int 0]))] [(mo, .inr (10, [.int x9, .ref mr, .int 1, .long s9])), (mr, .inr (9, [.ref ll, .ref lt, .ref lp, .int (-1), .int 0, .int 0, .int 0, .int 0, .int 0, .int 0, .int (-1), .int 0, .int 0, .int 0])), (lt, .inr (1, [.int 0, .ref ed, .int 0]))] [])) (va_Qi (fun (r : Int32) (_ : Unit) => r = 0) (fun (_ : Unit) (t : State) => va_P (dC, dI) vwCl [(mo, .inr (10, [.int (zTk x0 x1), .ref mr, .int 1, .long s9]))] t.heap ∧ va_D (va_A [(mo, .inr (10, [.int x9, .ref mr, .int 1, .long s9])), (mr, .inr (9, [.ref ll, .ref lt, .ref lp, .int (-1), .int 0, .int 0, .int 0, .int 0, .int 0, .int 0, .int (-1), .int 0, .int 0, .int 0])), (lt, .inr (1, [.int 0, .ref ed, .int 0]))] sz) [(mo, .inr (10, [.int (zTk x0 x1), .ref mr, .int 1, .long s9]))] ∧ va_K (dC, dI) vwCl [] t) (va_A [(mo, .inr (10, [.int x9, .ref mr, .int 1, .long s9])), (mr, .inr (9, [.ref ll, .ref lt, .ref lp, .int (-1), .int 0, .int 0, .int 0, .int 0, .int 0, .int 0, .int (-1), .int 0, .int 0, .int 0])), (lt, .inr (1, [.int 0, .ref ed, .int 0]))] sz)) 2 15 (va_A [(mo, .inr (10, [.int x9, .ref mr, .int 1, .long s9])), (mr, .inr (9, [.ref ll, .ref lt, .ref lp, .int (-1), .int 0, .int 0, .int 0, .int 0, .int 0, .int 0, .int (-1), .int 0, .int 0, .int 0])), (lt, .inr (1, [.int 0, .ref ed, .int 0]))] sz) := by
  refine Met.ofW (cc := cX8_thing) (maxL := 4) (ret := (some .int)) (by decide) rfl ?_
  intro p e s m args below meth c s₁ B hml hv
  obtain ⟨rfl, hsz, hR0, hP, hK, hD0, hN, hH, hX0⟩ := hv
  have hx := B.exec
  have hb := B.bytes
  have hr := B.returns
  have hts := atoms_spec (ws := wsX8_thing) B.pre
  have hown : s.vm.findClass RX8 = some m.cls := findClass_of_methodNamed B.named
  have hlocks := B.notSynchronized
  subst hsz
  have hD := hD0.self (sz := s.heap.size)
  have hAr := zx_A hX0 hR0
  generalize hAe : va_A [(mo, .inr (10, [.int x9, .ref mr, .int 1, .long s9])), (mr, .inr (9, [.ref ll, .ref lt, .ref lp, .int (-1), .int 0, .int 0, .int 0, .int 0, .int 0, .int 0, .int (-1), .int 0, .int 0, .int 0])), (lt, .inr (1, [.int 0, .ref ed, .int 0]))] s.heap.size = A at hD hAr hH ⊢
  have hA : ∀ q : Nat, s.heap.size ≤ q → A q := fun q h => by rw [← hAe]; exact Or.inr h
  have hS : va_S A s.heap s.heap [] := va_S.rf
  have hl := lv_entry ([.ref mo, .int x0, .int x1]) (n := 4) (Nat.le_of_ble_eq_true rfl)
  rw [lg_entry_eq]
  generalize (lg_sl ([.ref mo, .int x0, .int x1]) ++ List.replicate (4 - (lg_sl ([.ref mo, .int x0, .int x1])).length) Slot.unset).toArray = ls at hl ⊢
  have hl : lv_has ls 4 [(0, .ref mo), (1, .int x0), (2, .int x1)] := hl
  refine lv_aload_n hx hb dX8_thing_0 rfl (lv_at hl 0 rfl) ?_
  refine lv_iconst (v := 0) hx hb dX8_thing_1 (by decide) ?_
  refine va_put (D := (dC, dI)) (ci := 10) (v := .int 0) (ty := .int) (C := RX8) (T := TX8) (N := 4) hx hb hts zi_X8_thing_X8 tyX8 tyX8_ok nmX8 hown hK hP hD hS 0 rfl rfl 0 (by decide) (hts (.fieldLink RX8 20 "LockRoomsModel" "thrown" "I") (by decide +kernel)) (fun _ h9 => h9) rfl (by decide +kernel) rfl rfl (Nat.le_of_ble_eq_true rfl) dX8_thing_2 (fun H1 locs hP hD hS => ?_)
  have hP : va_P (dC, dI) vwCl [(mo, .inr (10, [.int 0, .ref mr, .int 1, .long s9])), (mr, .inr (9, [.ref ll, .ref lt, .ref lp, .int (-1), .int 0, .int 0, .int 0, .int 0, .int 0, .int 0, .int (-1), .int 0, .int 0, .int 0])), (lt, .inr (1, [.int 0, .ref ed, .int 0]))] H1 := hP
  have hD : va_D A [(mo, .inr (10, [.int 0, .ref mr, .int 1, .long s9])), (mr, .inr (9, [.ref ll, .ref lt, .ref lp, .int (-1), .int 0, .int 0, .int 0, .int 0, .int 0, .int 0, .int (-1), .int 0, .int 0, .int 0])), (lt, .inr (1, [.int 0, .ref ed, .int 0]))] := hD
  refine lv_iload_n hx hb dX8_thing_5 rfl (lv_at hl 1 rfl) ?_
  refine lv_iconst (v := (-1)) hx hb dX8_thing_6 (by decide) ?_
  refine lv_icmp_eq (tgt := 24) hx hb dX8_thing_7 (by decide) (fun c2 => ?_) (fun c2 => ?_)
  · skip
    refine lv_iload_n hx hb dX8_thing_24 rfl (lv_at hl 2 rfl) ?_
    refine lv_iconst (v := 0) hx hb dX8_thing_25 (by decide) ?_
    refine lv_bipush (v := 9) hx hb dX8_thing_26 (by decide) ?_
    have hPr := (zo_nil : va_P (dC, dI) vwCl [] H1)
    have hPc := hP.sub (ws' := []) [] rfl
    have hDc := hD.sub (ws' := []) [] (by decide) rfl
    have hKc := hK.sub (tys' := []) [] rfl
    have hFc := va_free (wc := []) hD hS hA [] rfl
    refine va_calli (va_runS (As := [.int x1, .int 0, .int 9]) (rest := []) ⟨hx, hb, hml, hown, hts⟩ (cz_X8_is l dC dI ed H1.size x1 0 9) (va_cwS 3 hts gX8_thing_X8_is rfl rfl rfl (by decide +kernel) ⟨Nat.le_of_ble_eq_true rfl, Nat.le_of_ble_eq_true rfl⟩) ⟨zb_blind, fun U hU hW => ⟨rfl, zb_mk hU hW hPr hPc hKc hDc hN hH hS hFc zx_e⟩⟩ rfl rfl hl.1 rfl (lv_room (Nat.le_of_ble_eq_true rfl)) dX8_thing_28 ⟨Nat.le_of_ble_eq_true rfl, Nat.le_of_ble_eq_true rfl⟩) hS (fun q _ h => hFc q h) hFc (fun r4 u t H3 locs ht hvm hw hB hz1 hk1 hS => ?_)
    have hP := zo_K hP hk1
    by_cases c5 : (¬ x1 < 0 ∧ ¬ 9 < x1)
    · obtain rfl : r4 = 1 := hw.trans (if_pos c5)
      refine lv_if_ne (tgt := 40) hx hb dX8_thing_31 (by decide) (fun _ => ?_) (fun h => absurd h (by decide))
      refine lv_aload_n hx hb dX8_thing_40 rfl (lv_at hl 0 rfl) ?_
      refine va_get (D := (dC, dI)) (ci := 10) (v := .ref mr) (C := RX8) (T := TX8) (N := 4) hx hb hts zi_X8_thing_X8 hown hK hP 0 rfl rfl 1 (by decide) (hts (.fieldLink RX8 10 "LockRoomsModel" "room" "LLockRoomsModel$Room;") (by decide +kernel)) (fun _ h9 => h9) rfl dX8_thing_41 ?_
      refine va_getN (D := (dC, dI)) (ci := 9) (v := .ref lt) (C := RX7) (T := TX7) (N := 14) hx hb hts zi_X8_thing_X7 hown hK hP 1 rfl rfl 1 (by decide) (va_Nw.use rfl (hN.1 ("LockRoomsModel", 38, "LockRoomsModel$Room", "things", "Ljava/util/ArrayList;", "LockRoomsModel") (List.mem_of_getElem? (i := 2) rfl))) (fun _ h9 => h9) rfl dX8_thing_44 ?_
      have hPr := (hP).sub (ws' := [(lt, .inr (1, [.int 0, .ref ed, .int 0]))]) [2] rfl
      have hPc := hP.sub (ws' := []) [] rfl
      have hDc := hD.sub (ws' := []) [] (by decide) rfl
      have hKc := hK.sub (tys' := []) [] rfl
      have hFc := va_free (wc := []) hD hS hA [] rfl
      refine va_calli (va_runV (As := []) (rest := []) ⟨hx, hb, hml, hown, hts⟩ (cz_size0 l dC dI ed H3.size lt) (cwV 0 hts gX8_thing_Jx4a65c_size_8abf5 rfl rfl rfl (by decide +kernel) ⟨Nat.le_of_ble_eq_true rfl, Nat.le_of_ble_eq_true rfl⟩) ⟨zb_blind, va_recv hK hP (ci := 1) (q0 := 2) rfl rfl, fun U hU hW => ⟨rfl, zb_mk hU hW hPr hPc hKc hDc hN hH hS hFc zx_e⟩⟩ rfl rfl hl.1 rfl (lv_room (Nat.le_of_ble_eq_true rfl)) dX8_thing_47 ⟨Nat.le_of_ble_eq_true rfl, Nat.le_of_ble_eq_true rfl⟩) hS (fun q _ h => hFc q h) hFc (fun r7 u t H6 locs ht hvm hw hB hz1 hk1 hS => ?_)
      obtain rfl : r7 = 0 := hw
      have hP := zo_K hP hk1
      refine lv_bipush (v := 12) hx hb dX8_thing_50 (by decide) ?_
      refine lv_icmp_eq (tgt := 65) hx hb dX8_thing_52 (by decide) (fun h => absurd h (by decide)) (fun _ => ?_)
      refine lv_aload_n hx hb dX8_thing_55 rfl (lv_at hl 0 rfl) ?_
      refine va_get (D := (dC, dI)) (ci := 10) (v := .ref mr) (C := RX8) (T := TX8) (N := 4) hx hb hts zi_X8_thing_X8 hown hK hP 0 rfl rfl 1 (by decide) (hts (.fieldLink RX8 10 "LockRoomsModel" "room" "LLockRoomsModel$Room;") (by decide +kernel)) (fun _ h9 => h9) rfl dX8_thing_56 ?_
      refine va_getN (D := (dC, dI)) (ci := 9) (v := .int 0) (C := RX7) (T := TX7) (N := 14) hx hb hts zi_X8_thing_X7 hown hK hP 1 rfl rfl 5 (by decide) (va_Nw.use rfl (hN.1 ("LockRoomsModel", 45, "LockRoomsModel$Room", "isRunning", "Z", "LockRoomsModel") (List.mem_of_getElem? (i := 6) rfl))) (fun _ h9 => h9) rfl dX8_thing_59 ?_
      refine lv_if_eq (tgt := 71) hx hb dX8_thing_62 (by decide) (fun _ => ?_) (fun h => absurd h (by decide))
      refine lv_iconst (v := 5) hx hb dX8_thing_71 (by decide) ?_
      refine va_newa (atype := .int) (a0 := (5, .inl (fun _ => 0))) hx hb (hts (.arrayClass .int) (by decide +kernel)) rfl hK hP hD hS hA (fun cA => rfl) (by decide) (N' := 5) (by decide) (by decide) (Nat.le_of_ble_eq_true rfl) (Nat.le_of_ble_eq_true rfl) dX8_thing_72 (fun q8 cA10 H9 hK hP hD hS => ?_)
      have hP : va_P (dC, dI) vwCl [(mo, .inr (10, [.int 0, .ref mr, .int 1, .long s9])), (mr, .inr (9, [.ref ll, .ref lt, .ref lp, .int (-1), .int 0, .int 0, .int 0, .int 0, .int 0, .int 0, .int (-1), .int 0, .int 0, .int 0])), (lt, .inr (1, [.int 0, .ref ed, .int 0])), (q8, .inl (cA10, 5, .inl (fun _ => 0)))] H9 := hP
      have hD : va_D A [(mo, .inr (10, [.int 0, .ref mr, .int 1, .long s9])), (mr, .inr (9, [.ref ll, .ref lt, .ref lp, .int (-1), .int 0, .int 0, .int 0, .int 0, .int 0, .int 0, .int (-1), .int 0, .int 0, .int 0])), (lt, .inr (1, [.int 0, .ref ed, .int 0])), (q8, .inl (cA10, 5, .inl (fun _ => 0)))] := hD
      refine lv_astore_n (lv' := [(3, .ref q8), (0, .ref mo), (1, .int x0), (2, .int x1)]) hx hb dX8_thing_74 rfl hl (by decide) rfl (fun ls hl => ?_)
      refine lv_aload_n hx hb dX8_thing_75 rfl (lv_at hl 0 rfl) ?_
      refine lv_iconst (v := 0) hx hb dX8_thing_76 (by decide) ?_
      refine lv_iload_n hx hb dX8_thing_77 rfl (lv_at hl 2 rfl) ?_
      refine va_iast hx hb hK hP hD hS 3 0 rfl rfl (by unfold vp_in; decide) dX8_thing_78 (fun H12 locs hP hD hS => ?_)
      obtain ⟨f13, ef13⟩ : ∃ z : Nat → Int32, z = upd (fun _ => 0) 0 x0 := ⟨_, rfl⟩
      have k14 : f13 0 = x0 := by rw [ef13]; exact pk_us
      have hP : va_P (dC, dI) vwCl [(mo, .inr (10, [.int 0, .ref mr, .int 1, .long s9])), (mr, .inr (9, [.ref ll, .ref lt, .ref lp, .int (-1), .int 0, .int 0, .int 0, .int 0, .int 0, .int 0, .int (-1), .int 0, .int 0, .int 0])), (lt, .inr (1, [.int 0, .ref ed, .int 0])), (q8, .inl (cA10, 5, .inl f13))] H12 := by rw [ef13]; exact hP
      have hD : va_D A [(mo, .inr (10, [.int 0, .ref mr, .int 1, .long s9])), (mr, .inr (9, [.ref ll, .ref lt, .ref lp, .int (-1), .int 0, .int 0, .int 0, .int 0, .int 0, .int 0, .int (-1), .int 0, .int 0, .int 0])), (lt, .inr (1, [.int 0, .ref ed, .int 0])), (q8, .inl (cA10, 5, .inl f13))] := by rw [ef13]; exact hD
      refine lv_aload_n hx hb dX8_thing_79 rfl (lv_at hl 0 rfl) ?_
      refine lv_iconst (v := 1) hx hb dX8_thing_80 (by decide) ?_
      refine lv_iload_n hx hb dX8_thing_81 rfl (lv_at hl 3 rfl) ?_
      refine va_iast hx hb hK hP hD hS 3 0 rfl rfl (by unfold vp_in; decide) dX8_thing_82 (fun H15 locs hP hD hS => ?_)
      obtain ⟨f16, ef16⟩ : ∃ z : Nat → Int32, z = upd f13 1 x1 := ⟨_, rfl⟩
      have k17 : f16 0 = x0 := by rw [ef16]; exact (pk_un (by decide)).trans (k14)
      have k18 : f16 1 = x1 := by rw [ef16]; exact pk_us
      have hP : va_P (dC, dI) vwCl [(mo, .inr (10, [.int 0, .ref mr, .int 1, .long s9])), (mr, .inr (9, [.ref ll, .ref lt, .ref lp, .int (-1), .int 0, .int 0, .int 0, .int 0, .int 0, .int 0, .int (-1), .int 0, .int 0, .int 0])), (lt, .inr (1, [.int 0, .ref ed, .int 0])), (q8, .inl (cA10, 5, .inl f16))] H15 := by rw [ef16]; exact hP
      have hD : va_D A [(mo, .inr (10, [.int 0, .ref mr, .int 1, .long s9])), (mr, .inr (9, [.ref ll, .ref lt, .ref lp, .int (-1), .int 0, .int 0, .int 0, .int 0, .int 0, .int 0, .int (-1), .int 0, .int 0, .int 0])), (lt, .inr (1, [.int 0, .ref ed, .int 0])), (q8, .inl (cA10, 5, .inl f16))] := by rw [ef16]; exact hD
      refine lv_aload_n hx hb dX8_thing_83 rfl (lv_at hl 1 rfl) ?_
      refine va_get (D := (dC, dI)) (ci := 10) (v := .ref mr) (C := RX8) (T := TX8) (N := 4) hx hb hts zi_X8_thing_X8 hown hK hP 0 rfl rfl 1 (by decide) (hts (.fieldLink RX8 10 "LockRoomsModel" "room" "LLockRoomsModel$Room;") (by decide +kernel)) (fun _ h9 => h9) rfl dX8_thing_84 ?_
      refine va_getN (D := (dC, dI)) (ci := 9) (v := .ref lt) (C := RX7) (T := TX7) (N := 14) hx hb hts zi_X8_thing_X7 hown hK hP 1 rfl rfl 1 (by decide) (va_Nw.use rfl (hN.1 ("LockRoomsModel", 38, "LockRoomsModel$Room", "things", "Ljava/util/ArrayList;", "LockRoomsModel") (List.mem_of_getElem? (i := 2) rfl))) (fun _ h9 => h9) rfl dX8_thing_87 ?_
      refine lv_aload_n hx hb dX8_thing_90 rfl (lv_at hl 0 rfl) ?_
      have hPr := (hP).sub (ws' := [(q8, .inl (cA10, 5, .inl f16))]) [3] rfl
      have hPc := hP.sub (ws' := [(lt, .inr (1, [.int 0, .ref ed, .int 0]))]) [2] rfl
      have hDc := hD.sub (ws' := [(lt, .inr (1, [.int 0, .ref ed, .int 0]))]) [2] (by decide) rfl
      have hKc := hK.sub (tys' := [(cA10, .int)]) [0] rfl
      have hFc := va_free (wc := [(lt, .inr (1, [.int 0, .ref ed, .int 0]))]) hD hS hA [2] rfl
      refine va_calli (va_runV (As := [.ref q8]) (rest := []) ⟨hx, hb, hml, hown, hts⟩ (cz_add l dC dI ed H15.size lt q8 cA10 5 f16) (cwV 1 hts gX8_thing_Jx4a65c_add_9ea2d rfl rfl rfl (by decide +kernel) ⟨Nat.le_of_ble_eq_true rfl, Nat.le_of_ble_eq_true rfl⟩) ⟨zb_blind, va_recv hK hP (ci := 1) (q0 := 2) rfl rfl, fun U hU hW => ⟨rfl, zb_mk hU hW hPr hPc hKc hDc hN hH hS hFc (zx_cons (zx_o hD 3 [2] rfl rfl (by decide)) zx_nil)⟩⟩ rfl rfl hl.1 rfl (lv_room (Nat.le_of_ble_eq_true rfl)) dX8_thing_91 ⟨Nat.le_of_ble_eq_true rfl, Nat.le_of_ble_eq_true rfl⟩) hS (fun q _ h => hFc q h) hFc (fun r20 u t H19 locs ht hvm hw hB hz1 hk1 hS => ?_)
      obtain rfl : r20 = 1 := hw
      obtain ⟨oa_21, hP1, hD1, hK1⟩ := hB
      rw [ht] at hP1
      obtain ⟨hP, hD⟩ := va_join (wr := [(mo, .inr (10, [.int 0, .ref mr, .int 1, .long s9])), (mr, .inr (9, [.ref ll, .ref lt, .ref lp, .int (-1), .int 0, .int 0, .int 0, .int 0, .int 0, .int 0, .int (-1), .int 0, .int 0, .int 0])), (q8, .inl (cA10, 5, .inl f16))]) (w1 := [(lt, .inr (1, [.int 1, .ref oa_21, .int 1]))]) hP hD [2] [0, 1, 3] rfl rfl (by decide) (by decide) hk1 hFc hP1 hD1
      have hP : va_P (dC, dI) vwCl [(mo, .inr (10, [.int 0, .ref mr, .int 1, .long s9])), (mr, .inr (9, [.ref ll, .ref lt, .ref lp, .int (-1), .int 0, .int 0, .int 0, .int 0, .int 0, .int 0, .int (-1), .int 0, .int 0, .int 0])), (q8, .inl (cA10, 5, .inl f16)), (lt, .inr (1, [.int 1, .ref oa_21, .int 1]))] H19 := hP
      have hD : va_D A [(mo, .inr (10, [.int 0, .ref mr, .int 1, .long s9])), (mr, .inr (9, [.ref ll, .ref lt, .ref lp, .int (-1), .int 0, .int 0, .int 0, .int 0, .int 0, .int 0, .int (-1), .int 0, .int 0, .int 0])), (q8, .inl (cA10, 5, .inl f16)), (lt, .inr (1, [.int 1, .ref oa_21, .int 1]))] := hD
      refine lv_pop hx hb dX8_thing_94 rfl ?_
      refine lv_aload_n hx hb dX8_thing_95 rfl (lv_at hl 1 rfl) ?_
      refine va_get (D := (dC, dI)) (ci := 10) (v := .ref mr) (C := RX8) (T := TX8) (N := 4) hx hb hts zi_X8_thing_X8 hown hK hP 0 rfl rfl 1 (by decide) (hts (.fieldLink RX8 10 "LockRoomsModel" "room" "LLockRoomsModel$Room;") (by decide +kernel)) (fun _ h9 => h9) rfl dX8_thing_96 ?_
      refine va_getN (D := (dC, dI)) (ci := 9) (v := .ref lt) (C := RX7) (T := TX7) (N := 14) hx hb hts zi_X8_thing_X7 hown hK hP 1 rfl rfl 1 (by decide) (va_Nw.use rfl (hN.1 ("LockRoomsModel", 38, "LockRoomsModel$Room", "things", "Ljava/util/ArrayList;", "LockRoomsModel") (List.mem_of_getElem? (i := 2) rfl))) (fun _ h9 => h9) rfl dX8_thing_99 ?_
      have hPr := (hP).sub (ws' := [(lt, .inr (1, [.int 1, .ref oa_21, .int 1]))]) [3] rfl
      have hPc := hP.sub (ws' := []) [] rfl
      have hDc := hD.sub (ws' := []) [] (by decide) rfl
      have hKc := hK.sub (tys' := []) [] rfl
      have hFc := va_free (wc := []) hD hS hA [] rfl
      refine va_calli (va_runV (As := []) (rest := []) ⟨hx, hb, hml, hown, hts⟩ (cz_size1 l dC dI ed H19.size lt oa_21) (cwV 0 hts gX8_thing_Jx4a65c_size_8abf5 rfl rfl rfl (by decide +kernel) ⟨Nat.le_of_ble_eq_true rfl, Nat.le_of_ble_eq_true rfl⟩) ⟨zb_blind, va_recv hK hP (ci := 1) (q0 := 3) rfl rfl, fun U hU hW => ⟨rfl, zb_mk hU hW hPr hPc hKc hDc hN hH hS hFc zx_e⟩⟩ rfl rfl hl.1 rfl (lv_room (Nat.le_of_ble_eq_true rfl)) dX8_thing_102 ⟨Nat.le_of_ble_eq_true rfl, Nat.le_of_ble_eq_true rfl⟩) hS (fun q _ h => hFc q h) hFc (fun r23 u t H22 locs ht hvm hw hB hz1 hk1 hS => ?_)
      obtain rfl : r23 = 1 := hw
      have hP := zo_K hP hk1
      refine lv_iconst (v := 1) hx hb dX8_thing_105 (by decide) ?_
      refine lv_isub hx hb dX8_thing_106 ?_
      refine zo_i (v := 0) (by decide) ?_
      refine W.widen (k := 2) (n := 15) (Nat.le_of_ble_eq_true rfl) (Nat.le_of_ble_eq_true rfl) ?_
      have hP9 := hP.sub (ws' := [(mo, .inr (10, [.int 0, .ref mr, .int 1, .long s9]))]) [0] rfl
      have hD9 := hD.sub (ws' := [(mo, .inr (10, [.int 0, .ref mr, .int 1, .long s9]))]) [0] (by decide) rfl
      have hK9 := hK.sub (tys' := []) [] rfl
      have e90 : zTk x0 x1 = 0 := (if_pos c2).trans (if_pos c5)
      exact W.iret hx hb hr (fun t ht hW => ⟨⟨0, (), rfl, rfl, ⟨by rw [ht, e90]; exact hP9, by rw [e90]; exact hD9, va_K.moved hW.alike hK9⟩⟩, hS.F ht⟩) hS.2.2 dX8_thing_107
    · obtain rfl : r4 = 0 := hw.trans (if_neg c5)
      refine lv_if_ne (tgt := 40) hx hb dX8_thing_31 (by decide) (fun h => absurd h (by decide)) (fun _ => ?_)
      refine lv_aload_n hx hb dX8_thing_34 rfl (lv_at hl 0 rfl) ?_
      refine lv_iconst (v := 2) hx hb dX8_thing_35 (by decide) ?_
      have hPr := (show va_P (dC, dI) vwCl [(mr, .inr (9, [.ref ll, .ref lt, .ref lp, .int (-1), .int 0, .int 0, .int 0, .int 0, .int 0, .int 0, .int (-1), .int 0, .int 0, .int 0])), (ll, .inr (1, [.int 0, .ref ed, .int 0])), (lt, .inr (1, [.int 0, .ref ed, .int 0])), (lp, .inr (1, [.int 0, .ref ed, .int 0]))] H3 from (zo_cons ((hP) 1 _ rfl) (zo_cons (((zo_R hR0 hS hAr)) 0 _ rfl) (zo_cons ((hP) 2 _ rfl) (zo_cons (((zo_R hR0 hS hAr)) 1 _ rfl) (zo_nil : va_P (dC, dI) vwCl [] H3))))))
      have hPc := hP.sub (ws' := [(mo, .inr (10, [.int 0, .ref mr, .int 1, .long s9]))]) [0] rfl
      have hDc := hD.sub (ws' := [(mo, .inr (10, [.int 0, .ref mr, .int 1, .long s9]))]) [0] (by decide) rfl
      have hKc := hK.sub (tys' := []) [] rfl
      have hFc := va_free (wc := [(mo, .inr (10, [.int 0, .ref mr, .int 1, .long s9]))]) hD hS hA [0] rfl
      refine va_calli (va_runV (As := [.int 2]) (rest := []) ⟨hx, hb, hml, hown, hts⟩ (cz_refuse l dC dI ed H3.size mo mr ll lt lp 0 s9 2) (cwV 1 hts gX8_thing_X8_refuse rfl rfl rfl (by decide +kernel) ⟨Nat.le_of_ble_eq_true rfl, Nat.le_of_ble_eq_true rfl⟩) ⟨zb_blind, va_recv hK hP (ci := 10) (q0 := 0) rfl rfl, fun U hU hW => ⟨rfl, zb_mk hU hW hPr hPc hKc hDc hN hH hS hFc (zx_cons (zx_o hD 1 [0] rfl rfl (by decide)) (zx_cons (zx_r (hAr _ (List.mem_of_getElem? (i := 0) rfl)) hDc) (zx_cons (zx_o hD 2 [0] rfl rfl (by decide)) (zx_cons (zx_r (hAr _ (List.mem_of_getElem? (i := 1) rfl)) hDc) zx_nil))))⟩⟩ rfl rfl hl.1 rfl (lv_room (Nat.le_of_ble_eq_true rfl)) dX8_thing_36 ⟨Nat.le_of_ble_eq_true rfl, Nat.le_of_ble_eq_true rfl⟩) hS (fun q _ h => hFc q h) hFc (fun r25 u t H24 locs ht hvm hw hB hz1 hk1 hS => ?_)
      obtain rfl : r25 = 0 := hw
      obtain ⟨hP1, hD1, hK1⟩ := hB
      rw [ht] at hP1
      obtain ⟨hP, hD⟩ := va_join (wr := [(mr, .inr (9, [.ref ll, .ref lt, .ref lp, .int (-1), .int 0, .int 0, .int 0, .int 0, .int 0, .int 0, .int (-1), .int 0, .int 0, .int 0])), (lt, .inr (1, [.int 0, .ref ed, .int 0]))]) (w1 := [(mo, .inr (10, [.int 2, .ref mr, .int 1, .long s9]))]) hP hD [0] [1, 2] rfl rfl (by decide) (by decide) hk1 hFc hP1 hD1
      have hP : va_P (dC, dI) vwCl [(mr, .inr (9, [.ref ll, .ref lt, .ref lp, .int (-1), .int 0, .int 0, .int 0, .int 0, .int 0, .int 0, .int (-1), .int 0, .int 0, .int 0])), (lt, .inr (1, [.int 0, .ref ed, .int 0])), (mo, .inr (10, [.int 2, .ref mr, .int 1, .long s9]))] H24 := hP
      have hD : va_D A [(mr, .inr (9, [.ref ll, .ref lt, .ref lp, .int (-1), .int 0, .int 0, .int 0, .int 0, .int 0, .int 0, .int (-1), .int 0, .int 0, .int 0])), (lt, .inr (1, [.int 0, .ref ed, .int 0])), (mo, .inr (10, [.int 2, .ref mr, .int 1, .long s9]))] := hD
      refine W.widen (k := 2) (n := 15) (Nat.le_of_ble_eq_true rfl) (Nat.le_of_ble_eq_true rfl) ?_
      have hP9 := hP.sub (ws' := [(mo, .inr (10, [.int 2, .ref mr, .int 1, .long s9]))]) [2] rfl
      have hD9 := hD.sub (ws' := [(mo, .inr (10, [.int 2, .ref mr, .int 1, .long s9]))]) [2] (by decide) rfl
      have hK9 := hK.sub (tys' := []) [] rfl
      have e90 : zTk x0 x1 = 2 := (if_pos c2).trans (if_neg c5)
      exact W.iret hx hb hr (fun t ht hW => ⟨⟨0, (), rfl, rfl, ⟨by rw [ht, e90]; exact hP9, by rw [e90]; exact hD9, va_K.moved hW.alike hK9⟩⟩, hS.F ht⟩) hS.2.2 dX8_thing_39
  · skip
    refine lv_aload_n hx hb dX8_thing_10 rfl (lv_at hl 0 rfl) ?_
    refine lv_iload_n hx hb dX8_thing_11 rfl (lv_at hl 1 rfl) ?_
    have hPr := (show va_P (dC, dI) vwCl [(mo, .inr (10, [.int 0, .ref mr, .int 1, .long s9])), (mr, .inr (9, [.ref ll, .ref lt, .ref lp, .int (-1), .int 0, .int 0, .int 0, .int 0, .int 0, .int 0, .int (-1), .int 0, .int 0, .int 0])), (ll, .inr (1, [.int 0, .ref ed, .int 0])), (lt, .inr (1, [.int 0, .ref ed, .int 0])), (lp, .inr (1, [.int 0, .ref ed, .int 0]))] H1 from (zo_cons ((hP) 0 _ rfl) (zo_cons ((hP) 1 _ rfl) (zo_cons (((zo_R hR0 hS hAr)) 0 _ rfl) (zo_cons ((hP) 2 _ rfl) (zo_cons (((zo_R hR0 hS hAr)) 1 _ rfl) (zo_nil : va_P (dC, dI) vwCl [] H1)))))))
    have hPc := hP.sub (ws' := []) [] rfl
    have hDc := hD.sub (ws' := []) [] (by decide) rfl
    have hKc := hK.sub (tys' := []) [] rfl
    have hFc := va_free (wc := []) hD hS hA [] rfl
    refine va_calli (va_runV (As := [.int x0]) (rest := []) ⟨hx, hb, hml, hown, hts⟩ (cz_isLock l dC dI ed H1.size mo mr ll lt lp 0 s9 x0) (cwV 1 hts gX8_thing_X8_isLock rfl rfl rfl (by decide +kernel) ⟨Nat.le_of_ble_eq_true rfl, Nat.le_of_ble_eq_true rfl⟩) ⟨zb_blind, va_recv hK hP (ci := 10) (q0 := 0) rfl rfl, fun U hU hW => ⟨rfl, zb_mk hU hW hPr hPc hKc hDc hN hH hS hFc zx_e⟩⟩ rfl rfl hl.1 rfl (lv_room (Nat.le_of_ble_eq_true rfl)) dX8_thing_12 ⟨Nat.le_of_ble_eq_true rfl, Nat.le_of_ble_eq_true rfl⟩) hS (fun q _ h => hFc q h) hFc (fun r28 u t H27 locs ht hvm hw hB hz1 hk1 hS => ?_)
    obtain rfl : r28 = 0 := hw
    have hP := zo_K hP hk1
    refine lv_if_ne (tgt := 24) hx hb dX8_thing_15 (by decide) (fun h => absurd h (by decide)) (fun _ => ?_)
    refine lv_aload_n hx hb dX8_thing_18 rfl (lv_at hl 0 rfl) ?_
    refine lv_iconst (v := 1) hx hb dX8_thing_19 (by decide) ?_
    have hPr := (show va_P (dC, dI) vwCl [(mr, .inr (9, [.ref ll, .ref lt, .ref lp, .int (-1), .int 0, .int 0, .int 0, .int 0, .int 0, .int 0, .int (-1), .int 0, .int 0, .int 0])), (ll, .inr (1, [.int 0, .ref ed, .int 0])), (lt, .inr (1, [.int 0, .ref ed, .int 0])), (lp, .inr (1, [.int 0, .ref ed, .int 0]))] H27 from (zo_cons ((hP) 1 _ rfl) (zo_cons (((zo_R hR0 hS hAr)) 0 _ rfl) (zo_cons ((hP) 2 _ rfl) (zo_cons (((zo_R hR0 hS hAr)) 1 _ rfl) (zo_nil : va_P (dC, dI) vwCl [] H27))))))
    have hPc := hP.sub (ws' := [(mo, .inr (10, [.int 0, .ref mr, .int 1, .long s9]))]) [0] rfl
    have hDc := hD.sub (ws' := [(mo, .inr (10, [.int 0, .ref mr, .int 1, .long s9]))]) [0] (by decide) rfl
    have hKc := hK.sub (tys' := []) [] rfl
    have hFc := va_free (wc := [(mo, .inr (10, [.int 0, .ref mr, .int 1, .long s9]))]) hD hS hA [0] rfl
    refine va_calli (va_runV (As := [.int 1]) (rest := []) ⟨hx, hb, hml, hown, hts⟩ (cz_refuse l dC dI ed H27.size mo mr ll lt lp 0 s9 1) (cwV 1 hts gX8_thing_X8_refuse rfl rfl rfl (by decide +kernel) ⟨Nat.le_of_ble_eq_true rfl, Nat.le_of_ble_eq_true rfl⟩) ⟨zb_blind, va_recv hK hP (ci := 10) (q0 := 0) rfl rfl, fun U hU hW => ⟨rfl, zb_mk hU hW hPr hPc hKc hDc hN hH hS hFc (zx_cons (zx_o hD 1 [0] rfl rfl (by decide)) (zx_cons (zx_r (hAr _ (List.mem_of_getElem? (i := 0) rfl)) hDc) (zx_cons (zx_o hD 2 [0] rfl rfl (by decide)) (zx_cons (zx_r (hAr _ (List.mem_of_getElem? (i := 1) rfl)) hDc) zx_nil))))⟩⟩ rfl rfl hl.1 rfl (lv_room (Nat.le_of_ble_eq_true rfl)) dX8_thing_20 ⟨Nat.le_of_ble_eq_true rfl, Nat.le_of_ble_eq_true rfl⟩) hS (fun q _ h => hFc q h) hFc (fun r30 u t H29 locs ht hvm hw hB hz1 hk1 hS => ?_)
    obtain rfl : r30 = 0 := hw
    obtain ⟨hP1, hD1, hK1⟩ := hB
    rw [ht] at hP1
    obtain ⟨hP, hD⟩ := va_join (wr := [(mr, .inr (9, [.ref ll, .ref lt, .ref lp, .int (-1), .int 0, .int 0, .int 0, .int 0, .int 0, .int 0, .int (-1), .int 0, .int 0, .int 0])), (lt, .inr (1, [.int 0, .ref ed, .int 0]))]) (w1 := [(mo, .inr (10, [.int 1, .ref mr, .int 1, .long s9]))]) hP hD [0] [1, 2] rfl rfl (by decide) (by decide) hk1 hFc hP1 hD1
    have hP : va_P (dC, dI) vwCl [(mr, .inr (9, [.ref ll, .ref lt, .ref lp, .int (-1), .int 0, .int 0, .int 0, .int 0, .int 0, .int 0, .int (-1), .int 0, .int 0, .int 0])), (lt, .inr (1, [.int 0, .ref ed, .int 0])), (mo, .inr (10, [.int 1, .ref mr, .int 1, .long s9]))] H29 := hP
    have hD : va_D A [(mr, .inr (9, [.ref ll, .ref lt, .ref lp, .int (-1), .int 0, .int 0, .int 0, .int 0, .int 0, .int 0, .int (-1), .int 0, .int 0, .int 0])), (lt, .inr (1, [.int 0, .ref ed, .int 0])), (mo, .inr (10, [.int 1, .ref mr, .int 1, .long s9]))] := hD
    refine W.widen (k := 2) (n := 15) (Nat.le_of_ble_eq_true rfl) (Nat.le_of_ble_eq_true rfl) ?_
    have hP9 := hP.sub (ws' := [(mo, .inr (10, [.int 1, .ref mr, .int 1, .long s9]))]) [2] rfl
    have hD9 := hD.sub (ws' := [(mo, .inr (10, [.int 1, .ref mr, .int 1, .long s9]))]) [2] (by decide) rfl
    have hK9 := hK.sub (tys' := []) [] rfl
    have e90 : zTk x0 x1 = 1 := if_neg c2
    exact W.iret hx hb hr (fun t ht hW => ⟨⟨0, (), rfl, rfl, ⟨by rw [ht, e90]; exact hP9, by rw [e90]; exact hD9, va_K.moved hW.alike hK9⟩⟩, hS.F ht⟩) hS.2.2 dX8_thing_23

set_option maxRecDepth 20000 in
theorem zi_X8_player_X8 : ∀ w ∈ u_ws RX8 TX8 4, w ∈ wsX8_player := by decide +kernel
set_option maxRecDepth 20000 in
theorem zi_X8_player_X7 : ∀ w ∈ u_ws RX7 TX7 14, w ∈ wsX8_player := by decide +kernel
set_option maxHeartbeats 4000000 in
set_option maxRecDepth 100000 in
theorem cz_X8_player (l : Launch) (dC : Nat → ClassId) (dI : Nat → Nat → Nat) (ed sz : Nat) (mo : Nat) (mr : Nat) (ll : Nat) (lt : Nat) (lp : Nat) (x9 : Int32) (s9 : Int64) (x0 : Int32) : Met l yX8_player wsX8_player ({ frames := 5, cells := 2, slots := 14, locals := 101 } : Jvm.Room) (va_Pc [.ref mo, .int x0] (zB dC dI ed sz [(ll, .inr (1, [.int 0, .ref ed, .int 0])), (lt, .inr (1, [.int 0, .ref ed, .int 0]))] [(mo, .inr (10, [.int x9, .ref mr, .int 1, .long s9])), (mr, .inr (9, [.ref ll, .ref lt, .ref lp, .int (-1), .int 0, .int 0, .int 0, .int 0, .int 0, .int 0, .int (-1), .int 0, .int 0, .int 0])), (lp, .inr (1, [.int 0, .ref ed, .int 0]))] [])) (va_Qi (fun (r : Int32) (_ : Unit) => r = 0) (fun (_ : Unit) (t : State) => va_P (dC, dI) vwCl [(mo, .inr (10, [.int (zPk x0), .ref mr, .int 1, .long s9]))] t.heap ∧ va_D (va_A [(mo, .inr (10, [.int x9, .ref mr, .int 1, .long s9])), (mr, .inr (9, [.ref ll, .ref lt, .ref lp, .int (-1), .int 0, .int 0, .int 0, .int 0, .int 0, .int 0, .int (-1), .int 0, .int 0, .int 0])), (lp, .inr (1, [.int 0, .ref ed, .int 0]))] sz) [(mo, .inr (10, [.int (zPk x0), .ref mr, .int 1, .long s9]))] ∧ va_K (dC, dI) vwCl [] t) (va_A [(mo, .inr (10, [.int x9, .ref mr, .int 1, .long s9])), (mr, .inr (9, [.ref ll, .ref lt, .ref lp, .int (-1), .int 0, .int 0, .int 0, .int 0, .int 0, .int 0, .int (-1), .int 0, .int 0, .int 0])), (lp, .inr (1, [.int 0, .ref ed, .int 0]))] sz)) 2 14 (va_A [(mo, .inr (10, [.int x9, .ref mr, .int 1, .long s9])), (mr, .inr (9, [.ref ll, .ref lt, .ref lp, .int (-1), .int 0, .int 0, .int 0, .int 0, .int 0, .int 0, .int (-1), .int 0, .int 0, .int 0])), (lp, .inr (1, [.int 0, .ref ed, .int 0]))] sz) := by
  refine Met.ofW (cc := cX8_player) (maxL := 3) (ret := (some .int)) (by decide) rfl ?_
  intro p e s m args below meth c s₁ B hml hv
  obtain ⟨rfl, hsz, hR0, hP, hK, hD0, hN, hH, hX0⟩ := hv
  have hx := B.exec
  have hb := B.bytes
  have hr := B.returns
  have hts := atoms_spec (ws := wsX8_player) B.pre
  have hown : s.vm.findClass RX8 = some m.cls := findClass_of_methodNamed B.named
  have hlocks := B.notSynchronized
  subst hsz
  have hD := hD0.self (sz := s.heap.size)
  have hAr := zx_A hX0 hR0
  generalize hAe : va_A [(mo, .inr (10, [.int x9, .ref mr, .int 1, .long s9])), (mr, .inr (9, [.ref ll, .ref lt, .ref lp, .int (-1), .int 0, .int 0, .int 0, .int 0, .int 0, .int 0, .int (-1), .int 0, .int 0, .int 0])), (lp, .inr (1, [.int 0, .ref ed, .int 0]))] s.heap.size = A at hD hAr hH ⊢
  have hA : ∀ q : Nat, s.heap.size ≤ q → A q := fun q h => by rw [← hAe]; exact Or.inr h
  have hS : va_S A s.heap s.heap [] := va_S.rf
  have hl := lv_entry ([.ref mo, .int x0]) (n := 3) (Nat.le_of_ble_eq_true rfl)
  rw [lg_entry_eq]
  generalize (lg_sl ([.ref mo, .int x0]) ++ List.replicate (3 - (lg_sl ([.ref mo, .int x0])).length) Slot.unset).toArray = ls at hl ⊢
  have hl : lv_has ls 3 [(0, .ref mo), (1, .int x0)] := hl
  refine lv_aload_n hx hb dX8_player_0 rfl (lv_at hl 0 rfl) ?_
  refine lv_iconst (v := 0) hx hb dX8_player_1 (by decide) ?_
  refine va_put (D := (dC, dI)) (ci := 10) (v := .int 0) (ty := .int) (C := RX8) (T := TX8) (N := 4) hx hb hts zi_X8_player_X8 tyX8 tyX8_ok nmX8 hown hK hP hD hS 0 rfl rfl 0 (by decide) (hts (.fieldLink RX8 20 "LockRoomsModel" "thrown" "I") (by decide +kernel)) (fun _ h9 => h9) rfl (by decide +kernel) rfl rfl (Nat.le_of_ble_eq_true rfl) dX8_player_2 (fun H1 locs hP hD hS => ?_)
  have hP : va_P (dC, dI) vwCl [(mo, .inr (10, [.int 0, .ref mr, .int 1, .long s9])), (mr, .inr (9, [.ref ll, .ref lt, .ref lp, .int (-1), .int 0, .int 0, .int 0, .int 0, .int 0, .int 0, .int (-1), .int 0, .int 0, .int 0])), (lp, .inr (1, [.int 0, .ref ed, .int 0]))] H1 := hP
  have hD : va_D A [(mo, .inr (10, [.int 0, .ref mr, .int 1, .long s9])), (mr, .inr (9, [.ref ll, .ref lt, .ref lp, .int (-1), .int 0, .int 0, .int 0, .int 0, .int 0, .int 0, .int (-1), .int 0, .int 0, .int 0])), (lp, .inr (1, [.int 0, .ref ed, .int 0]))] := hD
  refine lv_iload_n hx hb dX8_player_5 rfl (lv_at hl 1 rfl) ?_
  refine lv_iconst (v := 1) hx hb dX8_player_6 (by decide) ?_
  refine lv_bipush (v := 9) hx hb dX8_player_7 (by decide) ?_
  have hPr := (zo_nil : va_P (dC, dI) vwCl [] H1)
  have hPc := hP.sub (ws' := []) [] rfl
  have hDc := hD.sub (ws' := []) [] (by decide) rfl
  have hKc := hK.sub (tys' := []) [] rfl
  have hFc := va_free (wc := []) hD hS hA [] rfl
  refine va_calli (va_runS (As := [.int x0, .int 1, .int 9]) (rest := []) ⟨hx, hb, hml, hown, hts⟩ (cz_X8_is l dC dI ed H1.size x0 1 9) (va_cwS 3 hts gX8_player_X8_is rfl rfl rfl (by decide +kernel) ⟨Nat.le_of_ble_eq_true rfl, Nat.le_of_ble_eq_true rfl⟩) ⟨zb_blind, fun U hU hW => ⟨rfl, zb_mk hU hW hPr hPc hKc hDc hN hH hS hFc zx_e⟩⟩ rfl rfl hl.1 rfl (lv_room (Nat.le_of_ble_eq_true rfl)) dX8_player_9 ⟨Nat.le_of_ble_eq_true rfl, Nat.le_of_ble_eq_true rfl⟩) hS (fun q _ h => hFc q h) hFc (fun r3 u t H2 locs ht hvm hw hB hz1 hk1 hS => ?_)
  have hP := zo_K hP hk1
  by_cases c4 : (¬ x0 < 1 ∧ ¬ 9 < x0)
  · obtain rfl : r3 = 1 := hw.trans (if_pos c4)
    refine lv_if_ne (tgt := 21) hx hb dX8_player_12 (by decide) (fun _ => ?_) (fun h => absurd h (by decide))
    refine lv_aload_n hx hb dX8_player_21 rfl (lv_at hl 0 rfl) ?_
    refine va_get (D := (dC, dI)) (ci := 10) (v := .ref mr) (C := RX8) (T := TX8) (N := 4) hx hb hts zi_X8_player_X8 hown hK hP 0 rfl rfl 1 (by decide) (hts (.fieldLink RX8 10 "LockRoomsModel" "room" "LLockRoomsModel$Room;") (by decide +kernel)) (fun _ h9 => h9) rfl dX8_player_22 ?_
    refine va_getN (D := (dC, dI)) (ci := 9) (v := .ref lp) (C := RX7) (T := TX7) (N := 14) hx hb hts zi_X8_player_X7 hown hK hP 1 rfl rfl 2 (by decide) (va_Nw.use rfl (hN.1 ("LockRoomsModel", 59, "LockRoomsModel$Room", "players", "Ljava/util/ArrayList;", "LockRoomsModel") (List.mem_of_getElem? (i := 3) rfl))) (fun _ h9 => h9) rfl dX8_player_25 ?_
    have hPr := (hP).sub (ws' := [(lp, .inr (1, [.int 0, .ref ed, .int 0]))]) [2] rfl
    have hPc := hP.sub (ws' := []) [] rfl
    have hDc := hD.sub (ws' := []) [] (by decide) rfl
    have hKc := hK.sub (tys' := []) [] rfl
    have hFc := va_free (wc := []) hD hS hA [] rfl
    refine va_calli (va_runV (As := []) (rest := []) ⟨hx, hb, hml, hown, hts⟩ (cz_size0 l dC dI ed H2.size lp) (cwV 0 hts gX8_player_Jx4a65c_size_8abf5 rfl rfl rfl (by decide +kernel) ⟨Nat.le_of_ble_eq_true rfl, Nat.le_of_ble_eq_true rfl⟩) ⟨zb_blind, va_recv hK hP (ci := 1) (q0 := 2) rfl rfl, fun U hU hW => ⟨rfl, zb_mk hU hW hPr hPc hKc hDc hN hH hS hFc zx_e⟩⟩ rfl rfl hl.1 rfl (lv_room (Nat.le_of_ble_eq_true rfl)) dX8_player_28 ⟨Nat.le_of_ble_eq_true rfl, Nat.le_of_ble_eq_true rfl⟩) hS (fun q _ h => hFc q h) hFc (fun r6 u t H5 locs ht hvm hw hB hz1 hk1 hS => ?_)
    obtain rfl : r6 = 0 := hw
    have hP := zo_K hP hk1
    refine lv_bipush (v := 6) hx hb dX8_player_31 (by decide) ?_
    refine lv_icmp_eq (tgt := 46) hx hb dX8_player_33 (by decide) (fun h => absurd h (by decide)) (fun _ => ?_)
    refine lv_aload_n hx hb dX8_player_36 rfl (lv_at hl 0 rfl) ?_
    refine va_get (D := (dC, dI)) (ci := 10) (v := .ref mr) (C := RX8) (T := TX8) (N := 4) hx hb hts zi_X8_player_X8 hown hK hP 0 rfl rfl 1 (by decide) (hts (.fieldLink RX8 10 "LockRoomsModel" "room" "LLockRoomsModel$Room;") (by decide +kernel)) (fun _ h9 => h9) rfl dX8_player_37 ?_
    refine va_getN (D := (dC, dI)) (ci := 9) (v := .int 0) (C := RX7) (T := TX7) (N := 14) hx hb hts zi_X8_player_X7 hown hK hP 1 rfl rfl 5 (by decide) (va_Nw.use rfl (hN.1 ("LockRoomsModel", 45, "LockRoomsModel$Room", "isRunning", "Z", "LockRoomsModel") (List.mem_of_getElem? (i := 6) rfl))) (fun _ h9 => h9) rfl dX8_player_40 ?_
    refine lv_if_eq (tgt := 52) hx hb dX8_player_43 (by decide) (fun _ => ?_) (fun h => absurd h (by decide))
    refine lv_iconst (v := 4) hx hb dX8_player_52 (by decide) ?_
    refine va_newa (atype := .int) (a0 := (4, .inl (fun _ => 0))) hx hb (hts (.arrayClass .int) (by decide +kernel)) rfl hK hP hD hS hA (fun cA => rfl) (by decide) (N' := 4) (by decide) (by decide) (Nat.le_of_ble_eq_true rfl) (Nat.le_of_ble_eq_true rfl) dX8_player_53 (fun q7 cA9 H8 hK hP hD hS => ?_)
    have hP : va_P (dC, dI) vwCl [(mo, .inr (10, [.int 0, .ref mr, .int 1, .long s9])), (mr, .inr (9, [.ref ll, .ref lt, .ref lp, .int (-1), .int 0, .int 0, .int 0, .int 0, .int 0, .int 0, .int (-1), .int 0, .int 0, .int 0])), (lp, .inr (1, [.int 0, .ref ed, .int 0])), (q7, .inl (cA9, 4, .inl (fun _ => 0)))] H8 := hP
    have hD : va_D A [(mo, .inr (10, [.int 0, .ref mr, .int 1, .long s9])), (mr, .inr (9, [.ref ll, .ref lt, .ref lp, .int (-1), .int 0, .int 0, .int 0, .int 0, .int 0, .int 0, .int (-1), .int 0, .int 0, .int 0])), (lp, .inr (1, [.int 0, .ref ed, .int 0])), (q7, .inl (cA9, 4, .inl (fun _ => 0)))] := hD
    refine lv_astore_n (lv' := [(2, .ref q7), (0, .ref mo), (1, .int x0)]) hx hb dX8_player_55 rfl hl (by decide) rfl (fun ls hl => ?_)
    refine lv_aload_n hx hb dX8_player_56 rfl (lv_at hl 0 rfl) ?_
    refine lv_iconst (v := 0) hx hb dX8_player_57 (by decide) ?_
    refine lv_iload_n hx hb dX8_player_58 rfl (lv_at hl 2 rfl) ?_
    refine va_iast hx hb hK hP hD hS 3 0 rfl rfl (by unfold vp_in; decide) dX8_player_59 (fun H11 locs hP hD hS => ?_)
    obtain ⟨f12, ef12⟩ : ∃ z : Nat → Int32, z = upd (fun _ => 0) 0 x0 := ⟨_, rfl⟩
    have k13 : f12 0 = x0 := by rw [ef12]; exact pk_us
    have hP : va_P (dC, dI) vwCl [(mo, .inr (10, [.int 0, .ref mr, .int 1, .long s9])), (mr, .inr (9, [.ref ll, .ref lt, .ref lp, .int (-1), .int 0, .int 0, .int 0, .int 0, .int 0, .int 0, .int (-1), .int 0, .int 0, .int 0])), (lp, .inr (1, [.int 0, .ref ed, .int 0])), (q7, .inl (cA9, 4, .inl f12))] H11 := by rw [ef12]; exact hP
    have hD : va_D A [(mo, .inr (10, [.int 0, .ref mr, .int 1, .long s9])), (mr, .inr (9, [.ref ll, .ref lt, .ref lp, .int (-1), .int 0, .int 0, .int 0, .int 0, .int 0, .int 0, .int (-1), .int 0, .int 0, .int 0])), (lp, .inr (1, [.int 0, .ref ed, .int 0])), (q7, .inl (cA9, 4, .inl f12))] := by rw [ef12]; exact hD
    refine lv_aload_n hx hb dX8_player_60 rfl (lv_at hl 0 rfl) ?_
    refine lv_iconst (v := 1) hx hb dX8_player_61 (by decide) ?_
    refine lv_iconst (v := (-1)) hx hb dX8_player_62 (by decide) ?_
    refine va_iast hx hb hK hP hD hS 3 0 rfl rfl (by unfold vp_in; decide) dX8_player_63 (fun H14 locs hP hD hS => ?_)
    obtain ⟨f15, ef15⟩ : ∃ z : Nat → Int32, z = upd f12 1 (-1) := ⟨_, rfl⟩
    have k16 : f15 0 = x0 := by rw [ef15]; exact (pk_un (by decide)).trans (k13)
    have k17 : f15 1 = (-1) := by rw [ef15]; exact pk_us
    have hP : va_P (dC, dI) vwCl [(mo, .inr (10, [.int 0, .ref mr, .int 1, .long s9])), (mr, .inr (9, [.ref ll, .ref lt, .ref lp, .int (-1), .int 0, .int 0, .int 0, .int 0, .int 0, .int 0, .int (-1), .int 0, .int 0, .int 0])), (lp, .inr (1, [.int 0, .ref ed, .int 0])), (q7, .inl (cA9, 4, .inl f15))] H14 := by rw [ef15]; exact hP
    have hD : va_D A [(mo, .inr (10, [.int 0, .ref mr, .int 1, .long s9])), (mr, .inr (9, [.ref ll, .ref lt, .ref lp, .int (-1), .int 0, .int 0, .int 0, .int 0, .int 0, .int 0, .int (-1), .int 0, .int 0, .int 0])), (lp, .inr (1, [.int 0, .ref ed, .int 0])), (q7, .inl (cA9, 4, .inl f15))] := by rw [ef15]; exact hD
    refine lv_aload_n hx hb dX8_player_64 rfl (lv_at hl 0 rfl) ?_
    refine lv_iconst (v := 2) hx hb dX8_player_65 (by decide) ?_
    refine lv_iconst (v := (-1)) hx hb dX8_player_66 (by decide) ?_
    refine va_iast hx hb hK hP hD hS 3 0 rfl rfl (by unfold vp_in; decide) dX8_player_67 (fun H18 locs hP hD hS => ?_)
    obtain ⟨f19, ef19⟩ : ∃ z : Nat → Int32, z = upd f15 2 (-1) := ⟨_, rfl⟩
    have k20 : f19 0 = x0 := by rw [ef19]; exact (pk_un (by decide)).trans (k16)
    have k21 : f19 1 = (-1) := by rw [ef19]; exact (pk_un (by decide)).trans (k17)
    have k22 : f19 2 = (-1) := by rw [ef19]; exact pk_us
    have hP : va_P (dC, dI) vwCl [(mo, .inr (10, [.int 0, .ref mr, .int 1, .long s9])), (mr, .inr (9, [.ref ll, .ref lt, .ref lp, .int (-1), .int 0, .int 0, .int 0, .int 0, .int 0, .int 0, .int (-1), .int 0, .int 0, .int 0])), (lp, .inr (1, [.int 0, .ref ed, .int 0])), (q7, .inl (cA9, 4, .inl f19))] H18 := by rw [ef19]; exact hP
    have hD : va_D A [(mo, .inr (10, [.int 0, .ref mr, .int 1, .long s9])), (mr, .inr (9, [.ref ll, .ref lt, .ref lp, .int (-1), .int 0, .int 0, .int 0, .int 0, .int 0, .int 0, .int (-1), .int 0, .int 0, .int 0])), (lp, .inr (1, [.int 0, .ref ed, .int 0])), (q7, .inl (cA9, 4, .inl f19))] := by rw [ef19]; exact hD
    refine lv_aload_n hx hb dX8_player_68 rfl (lv_at hl 1 rfl) ?_
    refine va_get (D := (dC, dI)) (ci := 10) (v := .ref mr) (C := RX8) (T := TX8) (N := 4) hx hb hts zi_X8_player_X8 hown hK hP 0 rfl rfl 1 (by decide) (hts (.fieldLink RX8 10 "LockRoomsModel" "room" "LLockRoomsModel$Room;") (by decide +kernel)) (fun _ h9 => h9) rfl dX8_player_69 ?_
    refine va_getN (D := (dC, dI)) (ci := 9) (v := .ref lp) (C := RX7) (T := TX7) (N := 14) hx hb hts zi_X8_player_X7 hown hK hP 1 rfl rfl 2 (by decide) (va_Nw.use rfl (hN.1 ("LockRoomsModel", 59, "LockRoomsModel$Room", "players", "Ljava/util/ArrayList;", "LockRoomsModel") (List.mem_of_getElem? (i := 3) rfl))) (fun _ h9 => h9) rfl dX8_player_72 ?_
    refine lv_aload_n hx hb dX8_player_75 rfl (lv_at hl 0 rfl) ?_
    have hPr := (hP).sub (ws' := [(q7, .inl (cA9, 4, .inl f19))]) [3] rfl
    have hPc := hP.sub (ws' := [(lp, .inr (1, [.int 0, .ref ed, .int 0]))]) [2] rfl
    have hDc := hD.sub (ws' := [(lp, .inr (1, [.int 0, .ref ed, .int 0]))]) [2] (by decide) rfl
    have hKc := hK.sub (tys' := [(cA9, .int)]) [0] rfl
    have hFc := va_free (wc := [(lp, .inr (1, [.int 0, .ref ed, .int 0]))]) hD hS hA [2] rfl
    refine va_calli (va_runV (As := [.ref q7]) (rest := []) ⟨hx, hb, hml, hown, hts⟩ (cz_add l dC dI ed H18.size lp q7 cA9 4 f19) (cwV 1 hts gX8_player_Jx4a65c_add_9ea2d rfl rfl rfl (by decide +kernel) ⟨Nat.le_of_ble_eq_true rfl, Nat.le_of_ble_eq_true rfl⟩) ⟨zb_blind, va_recv hK hP (ci := 1) (q0 := 2) rfl rfl, fun U hU hW => ⟨rfl, zb_mk hU hW hPr hPc hKc hDc hN hH hS hFc (zx_cons (zx_o hD 3 [2] rfl rfl (by decide)) zx_nil)⟩⟩ rfl rfl hl.1 rfl (lv_room (Nat.le_of_ble_eq_true rfl)) dX8_player_76 ⟨Nat.le_of_ble_eq_true rfl, Nat.le_of_ble_eq_true rfl⟩) hS (fun q _ h => hFc q h) hFc (fun r24 u t H23 locs ht hvm hw hB hz1 hk1 hS => ?_)
    obtain rfl : r24 = 1 := hw
    obtain ⟨oa_25, hP1, hD1, hK1⟩ := hB
    rw [ht] at hP1
    obtain ⟨hP, hD⟩ := va_join (wr := [(mo, .inr (10, [.int 0, .ref mr, .int 1, .long s9])), (mr, .inr (9, [.ref ll, .ref lt, .ref lp, .int (-1), .int 0, .int 0, .int 0, .int 0, .int 0, .int 0, .int (-1), .int 0, .int 0, .int 0])), (q7, .inl (cA9, 4, .inl f19))]) (w1 := [(lp, .inr (1, [.int 1, .ref oa_25, .int 1]))]) hP hD [2] [0, 1, 3] rfl rfl (by decide) (by decide) hk1 hFc hP1 hD1
    have hP : va_P (dC, dI) vwCl [(mo, .inr (10, [.int 0, .ref mr, .int 1, .long s9])), (mr, .inr (9, [.ref ll, .ref lt, .ref lp, .int (-1), .int 0, .int 0, .int 0, .int 0, .int 0, .int 0, .int (-1), .int 0, .int 0, .int 0])), (q7, .inl (cA9, 4, .inl f19)), (lp, .inr (1, [.int 1, .ref oa_25, .int 1]))] H23 := hP
    have hD : va_D A [(mo, .inr (10, [.int 0, .ref mr, .int 1, .long s9])), (mr, .inr (9, [.ref ll, .ref lt, .ref lp, .int (-1), .int 0, .int 0, .int 0, .int 0, .int 0, .int 0, .int (-1), .int 0, .int 0, .int 0])), (q7, .inl (cA9, 4, .inl f19)), (lp, .inr (1, [.int 1, .ref oa_25, .int 1]))] := hD
    refine lv_pop hx hb dX8_player_79 rfl ?_
    refine lv_aload_n hx hb dX8_player_80 rfl (lv_at hl 1 rfl) ?_
    refine va_get (D := (dC, dI)) (ci := 10) (v := .ref mr) (C := RX8) (T := TX8) (N := 4) hx hb hts zi_X8_player_X8 hown hK hP 0 rfl rfl 1 (by decide) (hts (.fieldLink RX8 10 "LockRoomsModel" "room" "LLockRoomsModel$Room;") (by decide +kernel)) (fun _ h9 => h9) rfl dX8_player_81 ?_
    refine va_getN (D := (dC, dI)) (ci := 9) (v := .ref lp) (C := RX7) (T := TX7) (N := 14) hx hb hts zi_X8_player_X7 hown hK hP 1 rfl rfl 2 (by decide) (va_Nw.use rfl (hN.1 ("LockRoomsModel", 59, "LockRoomsModel$Room", "players", "Ljava/util/ArrayList;", "LockRoomsModel") (List.mem_of_getElem? (i := 3) rfl))) (fun _ h9 => h9) rfl dX8_player_84 ?_
    have hPr := (hP).sub (ws' := [(lp, .inr (1, [.int 1, .ref oa_25, .int 1]))]) [3] rfl
    have hPc := hP.sub (ws' := []) [] rfl
    have hDc := hD.sub (ws' := []) [] (by decide) rfl
    have hKc := hK.sub (tys' := []) [] rfl
    have hFc := va_free (wc := []) hD hS hA [] rfl
    refine va_calli (va_runV (As := []) (rest := []) ⟨hx, hb, hml, hown, hts⟩ (cz_size1 l dC dI ed H23.size lp oa_25) (cwV 0 hts gX8_player_Jx4a65c_size_8abf5 rfl rfl rfl (by decide +kernel) ⟨Nat.le_of_ble_eq_true rfl, Nat.le_of_ble_eq_true rfl⟩) ⟨zb_blind, va_recv hK hP (ci := 1) (q0 := 3) rfl rfl, fun U hU hW => ⟨rfl, zb_mk hU hW hPr hPc hKc hDc hN hH hS hFc zx_e⟩⟩ rfl rfl hl.1 rfl (lv_room (Nat.le_of_ble_eq_true rfl)) dX8_player_87 ⟨Nat.le_of_ble_eq_true rfl, Nat.le_of_ble_eq_true rfl⟩) hS (fun q _ h => hFc q h) hFc (fun r27 u t H26 locs ht hvm hw hB hz1 hk1 hS => ?_)
    obtain rfl : r27 = 1 := hw
    have hP := zo_K hP hk1
    refine lv_iconst (v := 1) hx hb dX8_player_90 (by decide) ?_
    refine lv_isub hx hb dX8_player_91 ?_
    refine zo_i (v := 0) (by decide) ?_
    refine W.widen (k := 2) (n := 14) (Nat.le_of_ble_eq_true rfl) (Nat.le_of_ble_eq_true rfl) ?_
    have hP9 := hP.sub (ws' := [(mo, .inr (10, [.int 0, .ref mr, .int 1, .long s9]))]) [0] rfl
    have hD9 := hD.sub (ws' := [(mo, .inr (10, [.int 0, .ref mr, .int 1, .long s9]))]) [0] (by decide) rfl
    have hK9 := hK.sub (tys' := []) [] rfl
    have e90 : zPk x0 = 0 := if_pos c4
    exact W.iret hx hb hr (fun t ht hW => ⟨⟨0, (), rfl, rfl, ⟨by rw [ht, e90]; exact hP9, by rw [e90]; exact hD9, va_K.moved hW.alike hK9⟩⟩, hS.F ht⟩) hS.2.2 dX8_player_92
  · obtain rfl : r3 = 0 := hw.trans (if_neg c4)
    refine lv_if_ne (tgt := 21) hx hb dX8_player_12 (by decide) (fun h => absurd h (by decide)) (fun _ => ?_)
    refine lv_aload_n hx hb dX8_player_15 rfl (lv_at hl 0 rfl) ?_
    refine lv_iconst (v := 1) hx hb dX8_player_16 (by decide) ?_
    have hPr := (show va_P (dC, dI) vwCl [(mr, .inr (9, [.ref ll, .ref lt, .ref lp, .int (-1), .int 0, .int 0, .int 0, .int 0, .int 0, .int 0, .int (-1), .int 0, .int 0, .int 0])), (ll, .inr (1, [.int 0, .ref ed, .int 0])), (lt, .inr (1, [.int 0, .ref ed, .int 0])), (lp, .inr (1, [.int 0, .ref ed, .int 0]))] H2 from (zo_cons ((hP) 1 _ rfl) (zo_cons (((zo_R hR0 hS hAr)) 0 _ rfl) (zo_cons (((zo_R hR0 hS hAr)) 1 _ rfl) (zo_cons ((hP) 2 _ rfl) (zo_nil : va_P (dC, dI) vwCl [] H2))))))
    have hPc := hP.sub (ws' := [(mo, .inr (10, [.int 0, .ref mr, .int 1, .long s9]))]) [0] rfl
    have hDc := hD.sub (ws' := [(mo, .inr (10, [.int 0, .ref mr, .int 1, .long s9]))]) [0] (by decide) rfl
    have hKc := hK.sub (tys' := []) [] rfl
    have hFc := va_free (wc := [(mo, .inr (10, [.int 0, .ref mr, .int 1, .long s9]))]) hD hS hA [0] rfl
    refine va_calli (va_runV (As := [.int 1]) (rest := []) ⟨hx, hb, hml, hown, hts⟩ (cz_refuse l dC dI ed H2.size mo mr ll lt lp 0 s9 1) (cwV 1 hts gX8_player_X8_refuse rfl rfl rfl (by decide +kernel) ⟨Nat.le_of_ble_eq_true rfl, Nat.le_of_ble_eq_true rfl⟩) ⟨zb_blind, va_recv hK hP (ci := 10) (q0 := 0) rfl rfl, fun U hU hW => ⟨rfl, zb_mk hU hW hPr hPc hKc hDc hN hH hS hFc (zx_cons (zx_o hD 1 [0] rfl rfl (by decide)) (zx_cons (zx_r (hAr _ (List.mem_of_getElem? (i := 0) rfl)) hDc) (zx_cons (zx_r (hAr _ (List.mem_of_getElem? (i := 1) rfl)) hDc) (zx_cons (zx_o hD 2 [0] rfl rfl (by decide)) zx_nil))))⟩⟩ rfl rfl hl.1 rfl (lv_room (Nat.le_of_ble_eq_true rfl)) dX8_player_17 ⟨Nat.le_of_ble_eq_true rfl, Nat.le_of_ble_eq_true rfl⟩) hS (fun q _ h => hFc q h) hFc (fun r29 u t H28 locs ht hvm hw hB hz1 hk1 hS => ?_)
    obtain rfl : r29 = 0 := hw
    obtain ⟨hP1, hD1, hK1⟩ := hB
    rw [ht] at hP1
    obtain ⟨hP, hD⟩ := va_join (wr := [(mr, .inr (9, [.ref ll, .ref lt, .ref lp, .int (-1), .int 0, .int 0, .int 0, .int 0, .int 0, .int 0, .int (-1), .int 0, .int 0, .int 0])), (lp, .inr (1, [.int 0, .ref ed, .int 0]))]) (w1 := [(mo, .inr (10, [.int 1, .ref mr, .int 1, .long s9]))]) hP hD [0] [1, 2] rfl rfl (by decide) (by decide) hk1 hFc hP1 hD1
    have hP : va_P (dC, dI) vwCl [(mr, .inr (9, [.ref ll, .ref lt, .ref lp, .int (-1), .int 0, .int 0, .int 0, .int 0, .int 0, .int 0, .int (-1), .int 0, .int 0, .int 0])), (lp, .inr (1, [.int 0, .ref ed, .int 0])), (mo, .inr (10, [.int 1, .ref mr, .int 1, .long s9]))] H28 := hP
    have hD : va_D A [(mr, .inr (9, [.ref ll, .ref lt, .ref lp, .int (-1), .int 0, .int 0, .int 0, .int 0, .int 0, .int 0, .int (-1), .int 0, .int 0, .int 0])), (lp, .inr (1, [.int 0, .ref ed, .int 0])), (mo, .inr (10, [.int 1, .ref mr, .int 1, .long s9]))] := hD
    refine W.widen (k := 2) (n := 14) (Nat.le_of_ble_eq_true rfl) (Nat.le_of_ble_eq_true rfl) ?_
    have hP9 := hP.sub (ws' := [(mo, .inr (10, [.int 1, .ref mr, .int 1, .long s9]))]) [2] rfl
    have hD9 := hD.sub (ws' := [(mo, .inr (10, [.int 1, .ref mr, .int 1, .long s9]))]) [2] (by decide) rfl
    have hK9 := hK.sub (tys' := []) [] rfl
    have e90 : zPk x0 = 1 := if_neg c4
    exact W.iret hx hb hr (fun t ht hW => ⟨⟨0, (), rfl, rfl, ⟨by rw [ht, e90]; exact hP9, by rw [e90]; exact hD9, va_K.moved hW.alike hK9⟩⟩, hS.F ht⟩) hS.2.2 dX8_player_20

set_option maxRecDepth 20000 in
theorem zi_X8_add_X8 : ∀ w ∈ u_ws RX8 TX8 4, w ∈ wsX8_add := by decide +kernel
set_option maxHeartbeats 4000000 in
set_option maxRecDepth 100000 in
theorem cz_X8_add (l : Launch) (dC : Nat → ClassId) (dI : Nat → Nat → Nat) (ed sz : Nat) (mo : Nat) (mr : Nat) (x9 : Int32) (s9 : Int64) (x0 : Int32) : Met l yX8_add wsX8_add ({ frames := 0, cells := 0, slots := 0, locals := 0 } : Jvm.Room) (va_Pc [.ref mo, .int x0] (zB dC dI ed sz [] [(mo, .inr (10, [.int x9, .ref mr, .int 1, .long s9]))] [])) (va_Qv (fun (_ : Unit) => True) (fun (_ : Unit) (t : State) => ∃ (s1 : Int64), (s1 = ((s9 * 31) + x0.toInt64)) ∧ va_P (dC, dI) vwCl [(mo, .inr (10, [.int x9, .ref mr, .int 1, .long s1]))] t.heap ∧ va_D (va_A [(mo, .inr (10, [.int x9, .ref mr, .int 1, .long s9]))] sz) [(mo, .inr (10, [.int x9, .ref mr, .int 1, .long s1]))] ∧ va_K (dC, dI) vwCl [] t) (va_A [(mo, .inr (10, [.int x9, .ref mr, .int 1, .long s9]))] sz)) 0 0 (va_A [(mo, .inr (10, [.int x9, .ref mr, .int 1, .long s9]))] sz) := by
  refine Met.ofW (cc := cX8_add) (maxL := 2) (ret := none) (by decide) rfl ?_
  intro p e s m args below meth c s₁ B hml hv
  obtain ⟨rfl, hsz, hR0, hP, hK, hD0, hN, hH, hX0⟩ := hv
  have hx := B.exec
  have hb := B.bytes
  have hr := B.returns
  have hts := atoms_spec (ws := wsX8_add) B.pre
  have hown : s.vm.findClass RX8 = some m.cls := findClass_of_methodNamed B.named
  have hlocks := B.notSynchronized
  subst hsz
  have hD := hD0.self (sz := s.heap.size)
  have hAr := zx_A hX0 hR0
  generalize hAe : va_A [(mo, .inr (10, [.int x9, .ref mr, .int 1, .long s9]))] s.heap.size = A at hD hAr hH ⊢
  have hA : ∀ q : Nat, s.heap.size ≤ q → A q := fun q h => by rw [← hAe]; exact Or.inr h
  have hS : va_S A s.heap s.heap [] := va_S.rf
  have hl := lv_entry ([.ref mo, .int x0]) (n := 2) (Nat.le_of_ble_eq_true rfl)
  rw [lg_entry_eq]
  generalize (lg_sl ([.ref mo, .int x0]) ++ List.replicate (2 - (lg_sl ([.ref mo, .int x0])).length) Slot.unset).toArray = ls at hl ⊢
  have hl : lv_has ls 2 [(0, .ref mo), (1, .int x0)] := hl
  refine lv_aload_n hx hb dX8_add_0 rfl (lv_at hl 0 rfl) ?_
  refine lv_aload_n hx hb dX8_add_1 rfl (lv_at hl 0 rfl) ?_
  refine va_get (D := (dC, dI)) (ci := 10) (v := .long s9) (C := RX8) (T := TX8) (N := 4) hx hb hts zi_X8_add_X8 hown hK hP 0 rfl rfl 3 (by decide) (hts (.fieldLink RX8 168 "LockRoomsModel" "sum" "J") (by decide +kernel)) (fun _ h9 => h9) rfl dX8_add_2 ?_
  refine lv_ldc2 (v := 31) hx hb hown (hts (.constantLong RX8 172 (31)) (by decide +kernel)) dX8_add_5 ?_
  refine lv_lmul hx hb dX8_add_8 ?_
  refine lv_iload_n hx hb dX8_add_9 rfl (lv_at hl 1 rfl) ?_
  refine lv_i2l (v := x0.toInt64) hx hb dX8_add_10 (by rfl) ?_
  refine lv_ladd hx hb dX8_add_11 ?_
  refine va_put (D := (dC, dI)) (ci := 10) (v := .long ((s9 * 31) + x0.toInt64)) (ty := .long) (C := RX8) (T := TX8) (N := 4) hx hb hts zi_X8_add_X8 tyX8 tyX8_ok nmX8 hown hK hP hD hS 0 rfl rfl 3 (by decide) (hts (.fieldLink RX8 168 "LockRoomsModel" "sum" "J") (by decide +kernel)) (fun _ h9 => h9) rfl (by decide +kernel) rfl rfl (Nat.le_of_ble_eq_true rfl) dX8_add_12 (fun H1 locs hP hD hS => ?_)
  have hP : va_P (dC, dI) vwCl [(mo, .inr (10, [.int x9, .ref mr, .int 1, .long ((s9 * 31) + x0.toInt64)]))] H1 := hP
  have hD : va_D A [(mo, .inr (10, [.int x9, .ref mr, .int 1, .long ((s9 * 31) + x0.toInt64)]))] := hD
  refine W.widen (k := 0) (n := 0) (Nat.le_of_ble_eq_true rfl) (Nat.le_of_ble_eq_true rfl) ?_
  have hP9 := hP.sub (ws' := [(mo, .inr (10, [.int x9, .ref mr, .int 1, .long ((s9 * 31) + x0.toInt64)]))]) [0] rfl
  have hD9 := hD.sub (ws' := [(mo, .inr (10, [.int x9, .ref mr, .int 1, .long ((s9 * 31) + x0.toInt64)]))]) [0] (by decide) rfl
  have hK9 := hK.sub (tys' := []) [] rfl
  exact W.vret hx hb hr (fun t ht hW => ⟨⟨(), rfl, trivial, ⟨((s9 * 31) + x0.toInt64), rfl, by rw [ht]; exact hP9, hD9, va_K.moved hW.alike hK9⟩⟩, hS.F ht⟩) hS.2.2 dX8_add_15

set_option maxRecDepth 20000 in
theorem zi_X8_digest_X8 : ∀ w ∈ u_ws RX8 TX8 4, w ∈ wsX8_digest := by decide +kernel
set_option maxRecDepth 20000 in
theorem zi_X8_digest_X7 : ∀ w ∈ u_ws RX7 TX7 14, w ∈ wsX8_digest := by decide +kernel
set_option maxHeartbeats 4000000 in
set_option maxRecDepth 100000 in
theorem cz_X8_digest (l : Launch) (dC : Nat → ClassId) (dI : Nat → Nat → Nat) (ed sz : Nat) (mo : Nat) (mr : Nat) (ll : Nat) (lt : Nat) (lp : Nat) (x9 : Int32) (s9 : Int64) : Met l yX8_digest wsX8_digest ({ frames := 7, cells := 33, slots := 6544, locals := 167 } : Jvm.Room) (va_Pc [.ref mo] (zB dC dI ed sz [(mr, .inr (9, [.ref ll, .ref lt, .ref lp, .int (-1), .int 0, .int 0, .int 0, .int 0, .int 0, .int 0, .int (-1), .int 0, .int 0, .int 0])), (ll, .inr (1, [.int 0, .ref ed, .int 0])), (lt, .inr (1, [.int 0, .ref ed, .int 0])), (lp, .inr (1, [.int 0, .ref ed, .int 0]))] [(mo, .inr (10, [.int x9, .ref mr, .int 1, .long s9]))] [])) (va_Ql (fun (r : Int64) (_ : Unit) => r = 804375242039053392) (fun (_ : Unit) (t : State) => va_P (dC, dI) vwCl [(mo, .inr (10, [.int 0, .ref mr, .int 1, .long 804375242039053392]))] t.heap ∧ va_D (va_A [(mo, .inr (10, [.int x9, .ref mr, .int 1, .long s9]))] sz) [(mo, .inr (10, [.int 0, .ref mr, .int 1, .long 804375242039053392]))] ∧ va_K (dC, dI) vwCl [] t) (va_A [(mo, .inr (10, [.int x9, .ref mr, .int 1, .long s9]))] sz)) 33 6544 (va_A [(mo, .inr (10, [.int x9, .ref mr, .int 1, .long s9]))] sz) := by
  refine Met.ofW (cc := cX8_digest) (maxL := 7) (ret := (some .long)) (by decide) rfl ?_
  intro p e s m args below meth c s₁ B hml hv
  obtain ⟨rfl, hsz, hR0, hP, hK, hD0, hN, hH, hX0⟩ := hv
  have hx := B.exec
  have hb := B.bytes
  have hr := B.returns
  have hts := atoms_spec (ws := wsX8_digest) B.pre
  have hown : s.vm.findClass RX8 = some m.cls := findClass_of_methodNamed B.named
  have hlocks := B.notSynchronized
  subst hsz
  have hD := hD0.self (sz := s.heap.size)
  have hAr := zx_A hX0 hR0
  generalize hAe : va_A [(mo, .inr (10, [.int x9, .ref mr, .int 1, .long s9]))] s.heap.size = A at hD hAr hH ⊢
  have hA : ∀ q : Nat, s.heap.size ≤ q → A q := fun q h => by rw [← hAe]; exact Or.inr h
  have hS : va_S A s.heap s.heap [] := va_S.rf
  have hl := lv_entry ([.ref mo]) (n := 7) (Nat.le_of_ble_eq_true rfl)
  rw [lg_entry_eq]
  generalize (lg_sl ([.ref mo]) ++ List.replicate (7 - (lg_sl ([.ref mo])).length) Slot.unset).toArray = ls at hl ⊢
  have hl : lv_has ls 7 [(0, .ref mo)] := hl
  refine lv_aload_n hx hb dX8_digest_0 rfl (lv_at hl 0 rfl) ?_
  refine lv_iconst (v := 0) hx hb dX8_digest_1 (by decide) ?_
  refine va_put (D := (dC, dI)) (ci := 10) (v := .int 0) (ty := .int) (C := RX8) (T := TX8) (N := 4) hx hb hts zi_X8_digest_X8 tyX8 tyX8_ok nmX8 hown hK hP hD hS 0 rfl rfl 0 (by decide) (hts (.fieldLink RX8 20 "LockRoomsModel" "thrown" "I") (by decide +kernel)) (fun _ h9 => h9) rfl (by decide +kernel) rfl rfl (Nat.le_of_ble_eq_true rfl) dX8_digest_2 (fun H1 locs hP hD hS => ?_)
  have hP : va_P (dC, dI) vwCl [(mo, .inr (10, [.int 0, .ref mr, .int 1, .long s9]))] H1 := hP
  have hD : va_D A [(mo, .inr (10, [.int 0, .ref mr, .int 1, .long s9]))] := hD
  refine lv_aload_n hx hb dX8_digest_5 rfl (lv_at hl 0 rfl) ?_
  refine lv_ldc2 (v := 9102) hx hb hown (hts (.constantLong RX8 174 (9102)) (by decide +kernel)) dX8_digest_6 ?_
  refine va_put (D := (dC, dI)) (ci := 10) (v := .long 9102) (ty := .long) (C := RX8) (T := TX8) (N := 4) hx hb hts zi_X8_digest_X8 tyX8 tyX8_ok nmX8 hown hK hP hD hS 0 rfl rfl 3 (by decide) (hts (.fieldLink RX8 168 "LockRoomsModel" "sum" "J") (by decide +kernel)) (fun _ h9 => h9) rfl (by decide +kernel) rfl rfl (Nat.le_of_ble_eq_true rfl) dX8_digest_9 (fun H2 locs hP hD hS => ?_)
  have hP : va_P (dC, dI) vwCl [(mo, .inr (10, [.int 0, .ref mr, .int 1, .long 9102]))] H2 := hP
  have hD : va_D A [(mo, .inr (10, [.int 0, .ref mr, .int 1, .long 9102]))] := hD
  refine lv_iconst (v := 0) hx hb dX8_digest_12 (by decide) ?_
  refine lv_istore_n (lv' := [(1, .int 0), (0, .ref mo)]) hx hb dX8_digest_13 rfl hl (by decide) rfl (fun ls hl => ?_)
  refine lv_iload_n hx hb dX8_digest_14 rfl (lv_at hl 0 rfl) ?_
  refine lv_bipush (v := 19) hx hb dX8_digest_15 (by decide) ?_
  refine lv_icmp_ge (tgt := 35) hx hb dX8_digest_17 (by decide) (fun h => absurd h (by decide)) (fun _ => ?_)
  refine lv_aload_n hx hb dX8_digest_20 rfl (lv_at hl 1 rfl) ?_
  refine lv_aload_n hx hb dX8_digest_21 rfl (lv_at hl 1 rfl) ?_
  refine lv_iload_n hx hb dX8_digest_22 rfl (lv_at hl 0 rfl) ?_
  have hPr := (show va_P (dC, dI) vwCl [(mo, .inr (10, [.int 0, .ref mr, .int 1, .long 9102])), (mr, .inr (9, [.ref ll, .ref lt, .ref lp, .int (-1), .int 0, .int 0, .int 0, .int 0, .int 0, .int 0, .int (-1), .int 0, .int 0, .int 0])), (ll, .inr (1, [.int 0, .ref ed, .int 0])), (lt, .inr (1, [.int 0, .ref ed, .int 0])), (lp, .inr (1, [.int 0, .ref ed, .int 0]))] H2 from (zo_cons ((hP) 0 _ rfl) (zo_cons (((zo_R hR0 hS hAr)) 0 _ rfl) (zo_cons (((zo_R hR0 hS hAr)) 1 _ rfl) (zo_cons (((zo_R hR0 hS hAr)) 2 _ rfl) (zo_cons (((zo_R hR0 hS hAr)) 3 _ rfl) (zo_nil : va_P (dC, dI) vwCl [] H2)))))))
  have hPc := hP.sub (ws' := []) [] rfl
  have hDc := hD.sub (ws' := []) [] (by decide) rfl
  have hKc := hK.sub (tys' := []) [] rfl
  have hFc := va_free (wc := []) hD hS hA [] rfl
  refine va_calli (va_runV (As := [.int 0]) (rest := [.ref mo]) ⟨hx, hb, hml, hown, hts⟩ (cz_manyNow l dC dI ed H2.size mo mr ll lt lp 0 9102 0 (by decide)) (cwV 1 hts gX8_digest_X8_manyNow rfl rfl rfl (by decide +kernel) ⟨Nat.le_of_ble_eq_true rfl, Nat.le_of_ble_eq_true rfl⟩) ⟨zb_blind, va_recv hK hP (ci := 10) (q0 := 0) rfl rfl, fun U hU hW => ⟨rfl, zb_mk hU hW hPr hPc hKc hDc hN hH hS hFc zx_e⟩⟩ rfl rfl hl.1 rfl (lv_room (Nat.le_of_ble_eq_true rfl)) dX8_digest_23 ⟨Nat.le_of_ble_eq_true rfl, Nat.le_of_ble_eq_true rfl⟩) hS (fun q _ h => hFc q h) hFc (fun r4 u t H3 locs ht hvm hw hB hz1 hk1 hS => ?_)
  obtain rfl : r4 = 0 := hw.trans (by decide +kernel)
  have hP := zo_K hP hk1
  have hPr := (zo_nil : va_P (dC, dI) vwCl [] H3)
  have hPc := hP.sub (ws' := [(mo, .inr (10, [.int 0, .ref mr, .int 1, .long 9102]))]) [0] rfl
  have hDc := hD.sub (ws' := [(mo, .inr (10, [.int 0, .ref mr, .int 1, .long 9102]))]) [0] (by decide) rfl
  have hKc := hK.sub (tys' := []) [] rfl
  have hFc := va_free (wc := [(mo, .inr (10, [.int 0, .ref mr, .int 1, .long 9102]))]) hD hS hA [0] rfl
  refine va_callv (va_runV (As := [.int 0]) (rest := []) ⟨hx, hb, hml, hown, hts⟩ (cz_X8_add l dC dI ed H3.size mo mr 0 9102 0) (cwV 1 hts gX8_digest_X8_add rfl rfl rfl (by decide +kernel) ⟨Nat.le_of_ble_eq_true rfl, Nat.le_of_ble_eq_true rfl⟩) ⟨zb_blind, va_recv hK hP (ci := 10) (q0 := 0) rfl rfl, fun U hU hW => ⟨rfl, zb_mk hU hW hPr hPc hKc hDc hN hH hS hFc zx_nil⟩⟩ rfl rfl hl.1 rfl (lv_room (Nat.le_of_ble_eq_true rfl)) dX8_digest_26 ⟨Nat.le_of_ble_eq_true rfl, Nat.le_of_ble_eq_true rfl⟩) hS (fun q _ h => hFc q h) hFc (fun u t H5 locs ht hvm hw hB hz1 hk1 hS => ?_)
  obtain ⟨s1_7, hf7_0, hP1, hD1, hK1⟩ := hB
  obtain rfl : s1_7 = 282162 := hf7_0.trans (by decide +kernel)
  rw [ht] at hP1
  obtain ⟨hP, hD⟩ := va_join (wr := []) (w1 := [(mo, .inr (10, [.int 0, .ref mr, .int 1, .long 282162]))]) hP hD [0] [] rfl rfl (by decide) (by decide) hk1 hFc hP1 hD1
  have hP : va_P (dC, dI) vwCl [(mo, .inr (10, [.int 0, .ref mr, .int 1, .long 282162]))] H5 := hP
  have hD : va_D A [(mo, .inr (10, [.int 0, .ref mr, .int 1, .long 282162]))] := hD
  refine lv_iinc (v := 1) (lv' := [(1, .int 1), (0, .ref mo)]) hx hb dX8_digest_29 hl (k := 0) rfl (by decide) (by decide) rfl (fun ls hl => ?_)
  refine lv_goto (tgt := 14) hx hb dX8_digest_32 (by decide) ?_
  refine lv_iload_n hx hb dX8_digest_14 rfl (lv_at hl 0 rfl) ?_
  refine lv_bipush (v := 19) hx hb dX8_digest_15 (by decide) ?_
  refine lv_icmp_ge (tgt := 35) hx hb dX8_digest_17 (by decide) (fun h => absurd h (by decide)) (fun _ => ?_)
  refine lv_aload_n hx hb dX8_digest_20 rfl (lv_at hl 1 rfl) ?_
  refine lv_aload_n hx hb dX8_digest_21 rfl (lv_at hl 1 rfl) ?_
  refine lv_iload_n hx hb dX8_digest_22 rfl (lv_at hl 0 rfl) ?_
  have hPr := (show va_P (dC, dI) vwCl [(mo, .inr (10, [.int 0, .ref mr, .int 1, .long 282162])), (mr, .inr (9, [.ref ll, .ref lt, .ref lp, .int (-1), .int 0, .int 0, .int 0, .int 0, .int 0, .int 0, .int (-1), .int 0, .int 0, .int 0])), (ll, .inr (1, [.int 0, .ref ed, .int 0])), (lt, .inr (1, [.int 0, .ref ed, .int 0])), (lp, .inr (1, [.int 0, .ref ed, .int 0]))] H5 from (zo_cons ((hP) 0 _ rfl) (zo_cons (((zo_R hR0 hS hAr)) 0 _ rfl) (zo_cons (((zo_R hR0 hS hAr)) 1 _ rfl) (zo_cons (((zo_R hR0 hS hAr)) 2 _ rfl) (zo_cons (((zo_R hR0 hS hAr)) 3 _ rfl) (zo_nil : va_P (dC, dI) vwCl [] H5)))))))
  have hPc := hP.sub (ws' := []) [] rfl
  have hDc := hD.sub (ws' := []) [] (by decide) rfl
  have hKc := hK.sub (tys' := []) [] rfl
  have hFc := va_free (wc := []) hD hS hA [] rfl
  refine va_calli (va_runV (As := [.int 1]) (rest := [.ref mo]) ⟨hx, hb, hml, hown, hts⟩ (cz_manyNow l dC dI ed H5.size mo mr ll lt lp 0 282162 1 (by decide)) (cwV 1 hts gX8_digest_X8_manyNow rfl rfl rfl (by decide +kernel) ⟨Nat.le_of_ble_eq_true rfl, Nat.le_of_ble_eq_true rfl⟩) ⟨zb_blind, va_recv hK hP (ci := 10) (q0 := 0) rfl rfl, fun U hU hW => ⟨rfl, zb_mk hU hW hPr hPc hKc hDc hN hH hS hFc zx_e⟩⟩ rfl rfl hl.1 rfl (lv_room (Nat.le_of_ble_eq_true rfl)) dX8_digest_23 ⟨Nat.le_of_ble_eq_true rfl, Nat.le_of_ble_eq_true rfl⟩) hS (fun q _ h => hFc q h) hFc (fun r9 u t H8 locs ht hvm hw hB hz1 hk1 hS => ?_)
  obtain rfl : r9 = 0 := hw.trans (by decide +kernel)
  have hP := zo_K hP hk1
  have hPr := (zo_nil : va_P (dC, dI) vwCl [] H8)
  have hPc := hP.sub (ws' := [(mo, .inr (10, [.int 0, .ref mr, .int 1, .long 282162]))]) [0] rfl
  have hDc := hD.sub (ws' := [(mo, .inr (10, [.int 0, .ref mr, .int 1, .long 282162]))]) [0] (by decide) rfl
  have hKc := hK.sub (tys' := []) [] rfl
  have hFc := va_free (wc := [(mo, .inr (10, [.int 0, .ref mr, .int 1, .long 282162]))]) hD hS hA [0] rfl
  refine va_callv (va_runV (As := [.int 0]) (rest := []) ⟨hx, hb, hml, hown, hts⟩ (cz_X8_add l dC dI ed H8.size mo mr 0 282162 0) (cwV 1 hts gX8_digest_X8_add rfl rfl rfl (by decide +kernel) ⟨Nat.le_of_ble_eq_true rfl, Nat.le_of_ble_eq_true rfl⟩) ⟨zb_blind, va_recv hK hP (ci := 10) (q0 := 0) rfl rfl, fun U hU hW => ⟨rfl, zb_mk hU hW hPr hPc hKc hDc hN hH hS hFc zx_nil⟩⟩ rfl rfl hl.1 rfl (lv_room (Nat.le_of_ble_eq_true rfl)) dX8_digest_26 ⟨Nat.le_of_ble_eq_true rfl, Nat.le_of_ble_eq_true rfl⟩) hS (fun q _ h => hFc q h) hFc (fun u t H10 locs ht hvm hw hB hz1 hk1 hS => ?_)
  obtain ⟨s1_12, hf12_0, hP1, hD1, hK1⟩ := hB
  obtain rfl : s1_12 = 8747022 := hf12_0.trans (by decide +kernel)
  rw [ht] at hP1
  obtain ⟨hP, hD⟩ := va_join (wr := []) (w1 := [(mo, .inr (10, [.int 0, .ref mr, .int 1, .long 8747022]))]) hP hD [0] [] rfl rfl (by decide) (by decide) hk1 hFc hP1 hD1
  have hP : va_P (dC, dI) vwCl [(mo, .inr (10, [.int 0, .ref mr, .int 1, .long 8747022]))] H10 := hP
  have hD : va_D A [(mo, .inr (10, [.int 0, .ref mr, .int 1, .long 8747022]))] := hD
  refine lv_iinc (v := 2) (lv' := [(1, .int 2), (0, .ref mo)]) hx hb dX8_digest_29 hl (k := 0) rfl (by decide) (by decide) rfl (fun ls hl => ?_)
  refine lv_goto (tgt := 14) hx hb dX8_digest_32 (by decide) ?_
  refine lv_iload_n hx hb dX8_digest_14 rfl (lv_at hl 0 rfl) ?_
  refine lv_bipush (v := 19) hx hb dX8_digest_15 (by decide) ?_
  refine lv_icmp_ge (tgt := 35) hx hb dX8_digest_17 (by decide) (fun h => absurd h (by decide)) (fun _ => ?_)
  refine lv_aload_n hx hb dX8_digest_20 rfl (lv_at hl 1 rfl) ?_
  refine lv_aload_n hx hb dX8_digest_21 rfl (lv_at hl 1 rfl) ?_
  refine lv_iload_n hx hb dX8_digest_22 rfl (lv_at hl 0 rfl) ?_
  have hPr := (show va_P (dC, dI) vwCl [(mo, .inr (10, [.int 0, .ref mr, .int 1, .long 8747022])), (mr, .inr (9, [.ref ll, .ref lt, .ref lp, .int (-1), .int 0, .int 0, .int 0, .int 0, .int 0, .int 0, .int (-1), .int 0, .int 0, .int 0])), (ll, .inr (1, [.int 0, .ref ed, .int 0])), (lt, .inr (1, [.int 0, .ref ed, .int 0])), (lp, .inr (1, [.int 0, .ref ed, .int 0]))] H10 from (zo_cons ((hP) 0 _ rfl) (zo_cons (((zo_R hR0 hS hAr)) 0 _ rfl) (zo_cons (((zo_R hR0 hS hAr)) 1 _ rfl) (zo_cons (((zo_R hR0 hS hAr)) 2 _ rfl) (zo_cons (((zo_R hR0 hS hAr)) 3 _ rfl) (zo_nil : va_P (dC, dI) vwCl [] H10)))))))
  have hPc := hP.sub (ws' := []) [] rfl
  have hDc := hD.sub (ws' := []) [] (by decide) rfl
  have hKc := hK.sub (tys' := []) [] rfl
  have hFc := va_free (wc := []) hD hS hA [] rfl
  refine va_calli (va_runV (As := [.int 2]) (rest := [.ref mo]) ⟨hx, hb, hml, hown, hts⟩ (cz_manyNow l dC dI ed H10.size mo mr ll lt lp 0 8747022 2 (by decide)) (cwV 1 hts gX8_digest_X8_manyNow rfl rfl rfl (by decide +kernel) ⟨Nat.le_of_ble_eq_true rfl, Nat.le_of_ble_eq_true rfl⟩) ⟨zb_blind, va_recv hK hP (ci := 10) (q0 := 0) rfl rfl, fun U hU hW => ⟨rfl, zb_mk hU hW hPr hPc hKc hDc hN hH hS hFc zx_e⟩⟩ rfl rfl hl.1 rfl (lv_room (Nat.le_of_ble_eq_true rfl)) dX8_digest_23 ⟨Nat.le_of_ble_eq_true rfl, Nat.le_of_ble_eq_true rfl⟩) hS (fun q _ h => hFc q h) hFc (fun r14 u t H13 locs ht hvm hw hB hz1 hk1 hS => ?_)
  obtain rfl : r14 = 0 := hw.trans (by decide +kernel)
  have hP := zo_K hP hk1
  have hPr := (zo_nil : va_P (dC, dI) vwCl [] H13)
  have hPc := hP.sub (ws' := [(mo, .inr (10, [.int 0, .ref mr, .int 1, .long 8747022]))]) [0] rfl
  have hDc := hD.sub (ws' := [(mo, .inr (10, [.int 0, .ref mr, .int 1, .long 8747022]))]) [0] (by decide) rfl
  have hKc := hK.sub (tys' := []) [] rfl
  have hFc := va_free (wc := [(mo, .inr (10, [.int 0, .ref mr, .int 1, .long 8747022]))]) hD hS hA [0] rfl
  refine va_callv (va_runV (As := [.int 0]) (rest := []) ⟨hx, hb, hml, hown, hts⟩ (cz_X8_add l dC dI ed H13.size mo mr 0 8747022 0) (cwV 1 hts gX8_digest_X8_add rfl rfl rfl (by decide +kernel) ⟨Nat.le_of_ble_eq_true rfl, Nat.le_of_ble_eq_true rfl⟩) ⟨zb_blind, va_recv hK hP (ci := 10) (q0 := 0) rfl rfl, fun U hU hW => ⟨rfl, zb_mk hU hW hPr hPc hKc hDc hN hH hS hFc zx_nil⟩⟩ rfl rfl hl.1 rfl (lv_room (Nat.le_of_ble_eq_true rfl)) dX8_digest_26 ⟨Nat.le_of_ble_eq_true rfl, Nat.le_of_ble_eq_true rfl⟩) hS (fun q _ h => hFc q h) hFc (fun u t H15 locs ht hvm hw hB hz1 hk1 hS => ?_)
  obtain ⟨s1_17, hf17_0, hP1, hD1, hK1⟩ := hB
  obtain rfl : s1_17 = 271157682 := hf17_0.trans (by decide +kernel)
  rw [ht] at hP1
  obtain ⟨hP, hD⟩ := va_join (wr := []) (w1 := [(mo, .inr (10, [.int 0, .ref mr, .int 1, .long 271157682]))]) hP hD [0] [] rfl rfl (by decide) (by decide) hk1 hFc hP1 hD1
  have hP : va_P (dC, dI) vwCl [(mo, .inr (10, [.int 0, .ref mr, .int 1, .long 271157682]))] H15 := hP
  have hD : va_D A [(mo, .inr (10, [.int 0, .ref mr, .int 1, .long 271157682]))] := hD
  refine lv_iinc (v := 3) (lv' := [(1, .int 3), (0, .ref mo)]) hx hb dX8_digest_29 hl (k := 0) rfl (by decide) (by decide) rfl (fun ls hl => ?_)
  refine lv_goto (tgt := 14) hx hb dX8_digest_32 (by decide) ?_
  refine lv_iload_n hx hb dX8_digest_14 rfl (lv_at hl 0 rfl) ?_
  refine lv_bipush (v := 19) hx hb dX8_digest_15 (by decide) ?_
  refine lv_icmp_ge (tgt := 35) hx hb dX8_digest_17 (by decide) (fun h => absurd h (by decide)) (fun _ => ?_)
  refine lv_aload_n hx hb dX8_digest_20 rfl (lv_at hl 1 rfl) ?_
  refine lv_aload_n hx hb dX8_digest_21 rfl (lv_at hl 1 rfl) ?_
  refine lv_iload_n hx hb dX8_digest_22 rfl (lv_at hl 0 rfl) ?_
  have hPr := (show va_P (dC, dI) vwCl [(mo, .inr (10, [.int 0, .ref mr, .int 1, .long 271157682])), (mr, .inr (9, [.ref ll, .ref lt, .ref lp, .int (-1), .int 0, .int 0, .int 0, .int 0, .int 0, .int 0, .int (-1), .int 0, .int 0, .int 0])), (ll, .inr (1, [.int 0, .ref ed, .int 0])), (lt, .inr (1, [.int 0, .ref ed, .int 0])), (lp, .inr (1, [.int 0, .ref ed, .int 0]))] H15 from (zo_cons ((hP) 0 _ rfl) (zo_cons (((zo_R hR0 hS hAr)) 0 _ rfl) (zo_cons (((zo_R hR0 hS hAr)) 1 _ rfl) (zo_cons (((zo_R hR0 hS hAr)) 2 _ rfl) (zo_cons (((zo_R hR0 hS hAr)) 3 _ rfl) (zo_nil : va_P (dC, dI) vwCl [] H15)))))))
  have hPc := hP.sub (ws' := []) [] rfl
  have hDc := hD.sub (ws' := []) [] (by decide) rfl
  have hKc := hK.sub (tys' := []) [] rfl
  have hFc := va_free (wc := []) hD hS hA [] rfl
  refine va_calli (va_runV (As := [.int 3]) (rest := [.ref mo]) ⟨hx, hb, hml, hown, hts⟩ (cz_manyNow l dC dI ed H15.size mo mr ll lt lp 0 271157682 3 (by decide)) (cwV 1 hts gX8_digest_X8_manyNow rfl rfl rfl (by decide +kernel) ⟨Nat.le_of_ble_eq_true rfl, Nat.le_of_ble_eq_true rfl⟩) ⟨zb_blind, va_recv hK hP (ci := 10) (q0 := 0) rfl rfl, fun U hU hW => ⟨rfl, zb_mk hU hW hPr hPc hKc hDc hN hH hS hFc zx_e⟩⟩ rfl rfl hl.1 rfl (lv_room (Nat.le_of_ble_eq_true rfl)) dX8_digest_23 ⟨Nat.le_of_ble_eq_true rfl, Nat.le_of_ble_eq_true rfl⟩) hS (fun q _ h => hFc q h) hFc (fun r19 u t H18 locs ht hvm hw hB hz1 hk1 hS => ?_)
  obtain rfl : r19 = 0 := hw.trans (by decide +kernel)
  have hP := zo_K hP hk1
  have hPr := (zo_nil : va_P (dC, dI) vwCl [] H18)
  have hPc := hP.sub (ws' := [(mo, .inr (10, [.int 0, .ref mr, .int 1, .long 271157682]))]) [0] rfl
  have hDc := hD.sub (ws' := [(mo, .inr (10, [.int 0, .ref mr, .int 1, .long 271157682]))]) [0] (by decide) rfl
  have hKc := hK.sub (tys' := []) [] rfl
  have hFc := va_free (wc := [(mo, .inr (10, [.int 0, .ref mr, .int 1, .long 271157682]))]) hD hS hA [0] rfl
  refine va_callv (va_runV (As := [.int 0]) (rest := []) ⟨hx, hb, hml, hown, hts⟩ (cz_X8_add l dC dI ed H18.size mo mr 0 271157682 0) (cwV 1 hts gX8_digest_X8_add rfl rfl rfl (by decide +kernel) ⟨Nat.le_of_ble_eq_true rfl, Nat.le_of_ble_eq_true rfl⟩) ⟨zb_blind, va_recv hK hP (ci := 10) (q0 := 0) rfl rfl, fun U hU hW => ⟨rfl, zb_mk hU hW hPr hPc hKc hDc hN hH hS hFc zx_nil⟩⟩ rfl rfl hl.1 rfl (lv_room (Nat.le_of_ble_eq_true rfl)) dX8_digest_26 ⟨Nat.le_of_ble_eq_true rfl, Nat.le_of_ble_eq_true rfl⟩) hS (fun q _ h => hFc q h) hFc (fun u t H20 locs ht hvm hw hB hz1 hk1 hS => ?_)
  obtain ⟨s1_22, hf22_0, hP1, hD1, hK1⟩ := hB
  obtain rfl : s1_22 = 8405888142 := hf22_0.trans (by decide +kernel)
  rw [ht] at hP1
  obtain ⟨hP, hD⟩ := va_join (wr := []) (w1 := [(mo, .inr (10, [.int 0, .ref mr, .int 1, .long 8405888142]))]) hP hD [0] [] rfl rfl (by decide) (by decide) hk1 hFc hP1 hD1
  have hP : va_P (dC, dI) vwCl [(mo, .inr (10, [.int 0, .ref mr, .int 1, .long 8405888142]))] H20 := hP
  have hD : va_D A [(mo, .inr (10, [.int 0, .ref mr, .int 1, .long 8405888142]))] := hD
  refine lv_iinc (v := 4) (lv' := [(1, .int 4), (0, .ref mo)]) hx hb dX8_digest_29 hl (k := 0) rfl (by decide) (by decide) rfl (fun ls hl => ?_)
  refine lv_goto (tgt := 14) hx hb dX8_digest_32 (by decide) ?_
  refine lv_iload_n hx hb dX8_digest_14 rfl (lv_at hl 0 rfl) ?_
  refine lv_bipush (v := 19) hx hb dX8_digest_15 (by decide) ?_
  refine lv_icmp_ge (tgt := 35) hx hb dX8_digest_17 (by decide) (fun h => absurd h (by decide)) (fun _ => ?_)
  refine lv_aload_n hx hb dX8_digest_20 rfl (lv_at hl 1 rfl) ?_
  refine lv_aload_n hx hb dX8_digest_21 rfl (lv_at hl 1 rfl) ?_
  refine lv_iload_n hx hb dX8_digest_22 rfl (lv_at hl 0 rfl) ?_
  have hPr := (show va_P (dC, dI) vwCl [(mo, .inr (10, [.int 0, .ref mr, .int 1, .long 8405888142])), (mr, .inr (9, [.ref ll, .ref lt, .ref lp, .int (-1), .int 0, .int 0, .int 0, .int 0, .int 0, .int 0, .int (-1), .int 0, .int 0, .int 0])), (ll, .inr (1, [.int 0, .ref ed, .int 0])), (lt, .inr (1, [.int 0, .ref ed, .int 0])), (lp, .inr (1, [.int 0, .ref ed, .int 0]))] H20 from (zo_cons ((hP) 0 _ rfl) (zo_cons (((zo_R hR0 hS hAr)) 0 _ rfl) (zo_cons (((zo_R hR0 hS hAr)) 1 _ rfl) (zo_cons (((zo_R hR0 hS hAr)) 2 _ rfl) (zo_cons (((zo_R hR0 hS hAr)) 3 _ rfl) (zo_nil : va_P (dC, dI) vwCl [] H20)))))))
  have hPc := hP.sub (ws' := []) [] rfl
  have hDc := hD.sub (ws' := []) [] (by decide) rfl
  have hKc := hK.sub (tys' := []) [] rfl
  have hFc := va_free (wc := []) hD hS hA [] rfl
  refine va_calli (va_runV (As := [.int 4]) (rest := [.ref mo]) ⟨hx, hb, hml, hown, hts⟩ (cz_manyNow l dC dI ed H20.size mo mr ll lt lp 0 8405888142 4 (by decide)) (cwV 1 hts gX8_digest_X8_manyNow rfl rfl rfl (by decide +kernel) ⟨Nat.le_of_ble_eq_true rfl, Nat.le_of_ble_eq_true rfl⟩) ⟨zb_blind, va_recv hK hP (ci := 10) (q0 := 0) rfl rfl, fun U hU hW => ⟨rfl, zb_mk hU hW hPr hPc hKc hDc hN hH hS hFc zx_e⟩⟩ rfl rfl hl.1 rfl (lv_room (Nat.le_of_ble_eq_true rfl)) dX8_digest_23 ⟨Nat.le_of_ble_eq_true rfl, Nat.le_of_ble_eq_true rfl⟩) hS (fun q _ h => hFc q h) hFc (fun r24 u t H23 locs ht hvm hw hB hz1 hk1 hS => ?_)
  obtain rfl : r24 = 0 := hw.trans (by decide +kernel)
  have hP := zo_K hP hk1
  have hPr := (zo_nil : va_P (dC, dI) vwCl [] H23)
  have hPc := hP.sub (ws' := [(mo, .inr (10, [.int 0, .ref mr, .int 1, .long 8405888142]))]) [0] rfl
  have hDc := hD.sub (ws' := [(mo, .inr (10, [.int 0, .ref mr, .int 1, .long 8405888142]))]) [0] (by decide) rfl
  have hKc := hK.sub (tys' := []) [] rfl
  have hFc := va_free (wc := [(mo, .inr (10, [.int 0, .ref mr, .int 1, .long 8405888142]))]) hD hS hA [0] rfl
  refine va_callv (va_runV (As := [.int 0]) (rest := []) ⟨hx, hb, hml, hown, hts⟩ (cz_X8_add l dC dI ed H23.size mo mr 0 8405888142 0) (cwV 1 hts gX8_digest_X8_add rfl rfl rfl (by decide +kernel) ⟨Nat.le_of_ble_eq_true rfl, Nat.le_of_ble_eq_true rfl⟩) ⟨zb_blind, va_recv hK hP (ci := 10) (q0 := 0) rfl rfl, fun U hU hW => ⟨rfl, zb_mk hU hW hPr hPc hKc hDc hN hH hS hFc zx_nil⟩⟩ rfl rfl hl.1 rfl (lv_room (Nat.le_of_ble_eq_true rfl)) dX8_digest_26 ⟨Nat.le_of_ble_eq_true rfl, Nat.le_of_ble_eq_true rfl⟩) hS (fun q _ h => hFc q h) hFc (fun u t H25 locs ht hvm hw hB hz1 hk1 hS => ?_)
  obtain ⟨s1_27, hf27_0, hP1, hD1, hK1⟩ := hB
  obtain rfl : s1_27 = 260582532402 := hf27_0.trans (by decide +kernel)
  rw [ht] at hP1
  obtain ⟨hP, hD⟩ := va_join (wr := []) (w1 := [(mo, .inr (10, [.int 0, .ref mr, .int 1, .long 260582532402]))]) hP hD [0] [] rfl rfl (by decide) (by decide) hk1 hFc hP1 hD1
  have hP : va_P (dC, dI) vwCl [(mo, .inr (10, [.int 0, .ref mr, .int 1, .long 260582532402]))] H25 := hP
  have hD : va_D A [(mo, .inr (10, [.int 0, .ref mr, .int 1, .long 260582532402]))] := hD
  refine lv_iinc (v := 5) (lv' := [(1, .int 5), (0, .ref mo)]) hx hb dX8_digest_29 hl (k := 0) rfl (by decide) (by decide) rfl (fun ls hl => ?_)
  refine lv_goto (tgt := 14) hx hb dX8_digest_32 (by decide) ?_
  refine lv_iload_n hx hb dX8_digest_14 rfl (lv_at hl 0 rfl) ?_
  refine lv_bipush (v := 19) hx hb dX8_digest_15 (by decide) ?_
  refine lv_icmp_ge (tgt := 35) hx hb dX8_digest_17 (by decide) (fun h => absurd h (by decide)) (fun _ => ?_)
  refine lv_aload_n hx hb dX8_digest_20 rfl (lv_at hl 1 rfl) ?_
  refine lv_aload_n hx hb dX8_digest_21 rfl (lv_at hl 1 rfl) ?_
  refine lv_iload_n hx hb dX8_digest_22 rfl (lv_at hl 0 rfl) ?_
  have hPr := (show va_P (dC, dI) vwCl [(mo, .inr (10, [.int 0, .ref mr, .int 1, .long 260582532402])), (mr, .inr (9, [.ref ll, .ref lt, .ref lp, .int (-1), .int 0, .int 0, .int 0, .int 0, .int 0, .int 0, .int (-1), .int 0, .int 0, .int 0])), (ll, .inr (1, [.int 0, .ref ed, .int 0])), (lt, .inr (1, [.int 0, .ref ed, .int 0])), (lp, .inr (1, [.int 0, .ref ed, .int 0]))] H25 from (zo_cons ((hP) 0 _ rfl) (zo_cons (((zo_R hR0 hS hAr)) 0 _ rfl) (zo_cons (((zo_R hR0 hS hAr)) 1 _ rfl) (zo_cons (((zo_R hR0 hS hAr)) 2 _ rfl) (zo_cons (((zo_R hR0 hS hAr)) 3 _ rfl) (zo_nil : va_P (dC, dI) vwCl [] H25)))))))
  have hPc := hP.sub (ws' := []) [] rfl
  have hDc := hD.sub (ws' := []) [] (by decide) rfl
  have hKc := hK.sub (tys' := []) [] rfl
  have hFc := va_free (wc := []) hD hS hA [] rfl
  refine va_calli (va_runV (As := [.int 5]) (rest := [.ref mo]) ⟨hx, hb, hml, hown, hts⟩ (cz_manyNow l dC dI ed H25.size mo mr ll lt lp 0 260582532402 5 (by decide)) (cwV 1 hts gX8_digest_X8_manyNow rfl rfl rfl (by decide +kernel) ⟨Nat.le_of_ble_eq_true rfl, Nat.le_of_ble_eq_true rfl⟩) ⟨zb_blind, va_recv hK hP (ci := 10) (q0 := 0) rfl rfl, fun U hU hW => ⟨rfl, zb_mk hU hW hPr hPc hKc hDc hN hH hS hFc zx_e⟩⟩ rfl rfl hl.1 rfl (lv_room (Nat.le_of_ble_eq_true rfl)) dX8_digest_23 ⟨Nat.le_of_ble_eq_true rfl, Nat.le_of_ble_eq_true rfl⟩) hS (fun q _ h => hFc q h) hFc (fun r29 u t H28 locs ht hvm hw hB hz1 hk1 hS => ?_)
  obtain rfl : r29 = 0 := hw.trans (by decide +kernel)
  have hP := zo_K hP hk1
  have hPr := (zo_nil : va_P (dC, dI) vwCl [] H28)
  have hPc := hP.sub (ws' := [(mo, .inr (10, [.int 0, .ref mr, .int 1, .long 260582532402]))]) [0] rfl
  have hDc := hD.sub (ws' := [(mo, .inr (10, [.int 0, .ref mr, .int 1, .long 260582532402]))]) [0] (by decide) rfl
  have hKc := hK.sub (tys' := []) [] rfl
  have hFc := va_free (wc := [(mo, .inr (10, [.int 0, .ref mr, .int 1, .long 260582532402]))]) hD hS hA [0] rfl
  refine va_callv (va_runV (As := [.int 0]) (rest := []) ⟨hx, hb, hml, hown, hts⟩ (cz_X8_add l dC dI ed H28.size mo mr 0 260582532402 0) (cwV 1 hts gX8_digest_X8_add rfl rfl rfl (by decide +kernel) ⟨Nat.le_of_ble_eq_true rfl, Nat.le_of_ble_eq_true rfl⟩) ⟨zb_blind, va_recv hK hP (ci := 10) (q0 := 0) rfl rfl, fun U hU hW => ⟨rfl, zb_mk hU hW hPr hPc hKc hDc hN hH hS hFc zx_nil⟩⟩ rfl rfl hl.1 rfl (lv_room (Nat.le_of_ble_eq_true rfl)) dX8_digest_26 ⟨Nat.le_of_ble_eq_true rfl, Nat.le_of_ble_eq_true rfl⟩) hS (fun q _ h => hFc q h) hFc (fun u t H30 locs ht hvm hw hB hz1 hk1 hS => ?_)
  obtain ⟨s1_32, hf32_0, hP1, hD1, hK1⟩ := hB
  obtain rfl : s1_32 = 8078058504462 := hf32_0.trans (by decide +kernel)
  rw [ht] at hP1
  obtain ⟨hP, hD⟩ := va_join (wr := []) (w1 := [(mo, .inr (10, [.int 0, .ref mr, .int 1, .long 8078058504462]))]) hP hD [0] [] rfl rfl (by decide) (by decide) hk1 hFc hP1 hD1
  have hP : va_P (dC, dI) vwCl [(mo, .inr (10, [.int 0, .ref mr, .int 1, .long 8078058504462]))] H30 := hP
  have hD : va_D A [(mo, .inr (10, [.int 0, .ref mr, .int 1, .long 8078058504462]))] := hD
  refine lv_iinc (v := 6) (lv' := [(1, .int 6), (0, .ref mo)]) hx hb dX8_digest_29 hl (k := 0) rfl (by decide) (by decide) rfl (fun ls hl => ?_)
  refine lv_goto (tgt := 14) hx hb dX8_digest_32 (by decide) ?_
  refine lv_iload_n hx hb dX8_digest_14 rfl (lv_at hl 0 rfl) ?_
  refine lv_bipush (v := 19) hx hb dX8_digest_15 (by decide) ?_
  refine lv_icmp_ge (tgt := 35) hx hb dX8_digest_17 (by decide) (fun h => absurd h (by decide)) (fun _ => ?_)
  refine lv_aload_n hx hb dX8_digest_20 rfl (lv_at hl 1 rfl) ?_
  refine lv_aload_n hx hb dX8_digest_21 rfl (lv_at hl 1 rfl) ?_
  refine lv_iload_n hx hb dX8_digest_22 rfl (lv_at hl 0 rfl) ?_
  have hPr := (show va_P (dC, dI) vwCl [(mo, .inr (10, [.int 0, .ref mr, .int 1, .long 8078058504462])), (mr, .inr (9, [.ref ll, .ref lt, .ref lp, .int (-1), .int 0, .int 0, .int 0, .int 0, .int 0, .int 0, .int (-1), .int 0, .int 0, .int 0])), (ll, .inr (1, [.int 0, .ref ed, .int 0])), (lt, .inr (1, [.int 0, .ref ed, .int 0])), (lp, .inr (1, [.int 0, .ref ed, .int 0]))] H30 from (zo_cons ((hP) 0 _ rfl) (zo_cons (((zo_R hR0 hS hAr)) 0 _ rfl) (zo_cons (((zo_R hR0 hS hAr)) 1 _ rfl) (zo_cons (((zo_R hR0 hS hAr)) 2 _ rfl) (zo_cons (((zo_R hR0 hS hAr)) 3 _ rfl) (zo_nil : va_P (dC, dI) vwCl [] H30)))))))
  have hPc := hP.sub (ws' := []) [] rfl
  have hDc := hD.sub (ws' := []) [] (by decide) rfl
  have hKc := hK.sub (tys' := []) [] rfl
  have hFc := va_free (wc := []) hD hS hA [] rfl
  refine va_calli (va_runV (As := [.int 6]) (rest := [.ref mo]) ⟨hx, hb, hml, hown, hts⟩ (cz_manyNow l dC dI ed H30.size mo mr ll lt lp 0 8078058504462 6 (by decide)) (cwV 1 hts gX8_digest_X8_manyNow rfl rfl rfl (by decide +kernel) ⟨Nat.le_of_ble_eq_true rfl, Nat.le_of_ble_eq_true rfl⟩) ⟨zb_blind, va_recv hK hP (ci := 10) (q0 := 0) rfl rfl, fun U hU hW => ⟨rfl, zb_mk hU hW hPr hPc hKc hDc hN hH hS hFc zx_e⟩⟩ rfl rfl hl.1 rfl (lv_room (Nat.le_of_ble_eq_true rfl)) dX8_digest_23 ⟨Nat.le_of_ble_eq_true rfl, Nat.le_of_ble_eq_true rfl⟩) hS (fun q _ h => hFc q h) hFc (fun r34 u t H33 locs ht hvm hw hB hz1 hk1 hS => ?_)
  obtain rfl : r34 = 0 := hw.trans (by decide +kernel)
  have hP := zo_K hP hk1
  have hPr := (zo_nil : va_P (dC, dI) vwCl [] H33)
  have hPc := hP.sub (ws' := [(mo, .inr (10, [.int 0, .ref mr, .int 1, .long 8078058504462]))]) [0] rfl
  have hDc := hD.sub (ws' := [(mo, .inr (10, [.int 0, .ref mr, .int 1, .long 8078058504462]))]) [0] (by decide) rfl
  have hKc := hK.sub (tys' := []) [] rfl
  have hFc := va_free (wc := [(mo, .inr (10, [.int 0, .ref mr, .int 1, .long 8078058504462]))]) hD hS hA [0] rfl
  refine va_callv (va_runV (As := [.int 0]) (rest := []) ⟨hx, hb, hml, hown, hts⟩ (cz_X8_add l dC dI ed H33.size mo mr 0 8078058504462 0) (cwV 1 hts gX8_digest_X8_add rfl rfl rfl (by decide +kernel) ⟨Nat.le_of_ble_eq_true rfl, Nat.le_of_ble_eq_true rfl⟩) ⟨zb_blind, va_recv hK hP (ci := 10) (q0 := 0) rfl rfl, fun U hU hW => ⟨rfl, zb_mk hU hW hPr hPc hKc hDc hN hH hS hFc zx_nil⟩⟩ rfl rfl hl.1 rfl (lv_room (Nat.le_of_ble_eq_true rfl)) dX8_digest_26 ⟨Nat.le_of_ble_eq_true rfl, Nat.le_of_ble_eq_true rfl⟩) hS (fun q _ h => hFc q h) hFc (fun u t H35 locs ht hvm hw hB hz1 hk1 hS => ?_)
  obtain ⟨s1_37, hf37_0, hP1, hD1, hK1⟩ := hB
  obtain rfl : s1_37 = 250419813638322 := hf37_0.trans (by decide +kernel)
  rw [ht] at hP1
  obtain ⟨hP, hD⟩ := va_join (wr := []) (w1 := [(mo, .inr (10, [.int 0, .ref mr, .int 1, .long 250419813638322]))]) hP hD [0] [] rfl rfl (by decide) (by decide) hk1 hFc hP1 hD1
  have hP : va_P (dC, dI) vwCl [(mo, .inr (10, [.int 0, .ref mr, .int 1, .long 250419813638322]))] H35 := hP
  have hD : va_D A [(mo, .inr (10, [.int 0, .ref mr, .int 1, .long 250419813638322]))] := hD
  refine lv_iinc (v := 7) (lv' := [(1, .int 7), (0, .ref mo)]) hx hb dX8_digest_29 hl (k := 0) rfl (by decide) (by decide) rfl (fun ls hl => ?_)
  refine lv_goto (tgt := 14) hx hb dX8_digest_32 (by decide) ?_
  refine lv_iload_n hx hb dX8_digest_14 rfl (lv_at hl 0 rfl) ?_
  refine lv_bipush (v := 19) hx hb dX8_digest_15 (by decide) ?_
  refine lv_icmp_ge (tgt := 35) hx hb dX8_digest_17 (by decide) (fun h => absurd h (by decide)) (fun _ => ?_)
  refine lv_aload_n hx hb dX8_digest_20 rfl (lv_at hl 1 rfl) ?_
  refine lv_aload_n hx hb dX8_digest_21 rfl (lv_at hl 1 rfl) ?_
  refine lv_iload_n hx hb dX8_digest_22 rfl (lv_at hl 0 rfl) ?_
  have hPr := (show va_P (dC, dI) vwCl [(mo, .inr (10, [.int 0, .ref mr, .int 1, .long 250419813638322])), (mr, .inr (9, [.ref ll, .ref lt, .ref lp, .int (-1), .int 0, .int 0, .int 0, .int 0, .int 0, .int 0, .int (-1), .int 0, .int 0, .int 0])), (ll, .inr (1, [.int 0, .ref ed, .int 0])), (lt, .inr (1, [.int 0, .ref ed, .int 0])), (lp, .inr (1, [.int 0, .ref ed, .int 0]))] H35 from (zo_cons ((hP) 0 _ rfl) (zo_cons (((zo_R hR0 hS hAr)) 0 _ rfl) (zo_cons (((zo_R hR0 hS hAr)) 1 _ rfl) (zo_cons (((zo_R hR0 hS hAr)) 2 _ rfl) (zo_cons (((zo_R hR0 hS hAr)) 3 _ rfl) (zo_nil : va_P (dC, dI) vwCl [] H35)))))))
  have hPc := hP.sub (ws' := []) [] rfl
  have hDc := hD.sub (ws' := []) [] (by decide) rfl
  have hKc := hK.sub (tys' := []) [] rfl
  have hFc := va_free (wc := []) hD hS hA [] rfl
  refine va_calli (va_runV (As := [.int 7]) (rest := [.ref mo]) ⟨hx, hb, hml, hown, hts⟩ (cz_manyNow l dC dI ed H35.size mo mr ll lt lp 0 250419813638322 7 (by decide)) (cwV 1 hts gX8_digest_X8_manyNow rfl rfl rfl (by decide +kernel) ⟨Nat.le_of_ble_eq_true rfl, Nat.le_of_ble_eq_true rfl⟩) ⟨zb_blind, va_recv hK hP (ci := 10) (q0 := 0) rfl rfl, fun U hU hW => ⟨rfl, zb_mk hU hW hPr hPc hKc hDc hN hH hS hFc zx_e⟩⟩ rfl rfl hl.1 rfl (lv_room (Nat.le_of_ble_eq_true rfl)) dX8_digest_23 ⟨Nat.le_of_ble_eq_true rfl, Nat.le_of_ble_eq_true rfl⟩) hS (fun q _ h => hFc q h) hFc (fun r39 u t H38 locs ht hvm hw hB hz1 hk1 hS => ?_)
  obtain rfl : r39 = 0 := hw.trans (by decide +kernel)
  have hP := zo_K hP hk1
  have hPr := (zo_nil : va_P (dC, dI) vwCl [] H38)
  have hPc := hP.sub (ws' := [(mo, .inr (10, [.int 0, .ref mr, .int 1, .long 250419813638322]))]) [0] rfl
  have hDc := hD.sub (ws' := [(mo, .inr (10, [.int 0, .ref mr, .int 1, .long 250419813638322]))]) [0] (by decide) rfl
  have hKc := hK.sub (tys' := []) [] rfl
  have hFc := va_free (wc := [(mo, .inr (10, [.int 0, .ref mr, .int 1, .long 250419813638322]))]) hD hS hA [0] rfl
  refine va_callv (va_runV (As := [.int 0]) (rest := []) ⟨hx, hb, hml, hown, hts⟩ (cz_X8_add l dC dI ed H38.size mo mr 0 250419813638322 0) (cwV 1 hts gX8_digest_X8_add rfl rfl rfl (by decide +kernel) ⟨Nat.le_of_ble_eq_true rfl, Nat.le_of_ble_eq_true rfl⟩) ⟨zb_blind, va_recv hK hP (ci := 10) (q0 := 0) rfl rfl, fun U hU hW => ⟨rfl, zb_mk hU hW hPr hPc hKc hDc hN hH hS hFc zx_nil⟩⟩ rfl rfl hl.1 rfl (lv_room (Nat.le_of_ble_eq_true rfl)) dX8_digest_26 ⟨Nat.le_of_ble_eq_true rfl, Nat.le_of_ble_eq_true rfl⟩) hS (fun q _ h => hFc q h) hFc (fun u t H40 locs ht hvm hw hB hz1 hk1 hS => ?_)
  obtain ⟨s1_42, hf42_0, hP1, hD1, hK1⟩ := hB
  obtain rfl : s1_42 = 7763014222787982 := hf42_0.trans (by decide +kernel)
  rw [ht] at hP1
  obtain ⟨hP, hD⟩ := va_join (wr := []) (w1 := [(mo, .inr (10, [.int 0, .ref mr, .int 1, .long 7763014222787982]))]) hP hD [0] [] rfl rfl (by decide) (by decide) hk1 hFc hP1 hD1
  have hP : va_P (dC, dI) vwCl [(mo, .inr (10, [.int 0, .ref mr, .int 1, .long 7763014222787982]))] H40 := hP
  have hD : va_D A [(mo, .inr (10, [.int 0, .ref mr, .int 1, .long 7763014222787982]))] := hD
  refine lv_iinc (v := 8) (lv' := [(1, .int 8), (0, .ref mo)]) hx hb dX8_digest_29 hl (k := 0) rfl (by decide) (by decide) rfl (fun ls hl => ?_)
  refine lv_goto (tgt := 14) hx hb dX8_digest_32 (by decide) ?_
  refine lv_iload_n hx hb dX8_digest_14 rfl (lv_at hl 0 rfl) ?_
  refine lv_bipush (v := 19) hx hb dX8_digest_15 (by decide) ?_
  refine lv_icmp_ge (tgt := 35) hx hb dX8_digest_17 (by decide) (fun h => absurd h (by decide)) (fun _ => ?_)
  refine lv_aload_n hx hb dX8_digest_20 rfl (lv_at hl 1 rfl) ?_
  refine lv_aload_n hx hb dX8_digest_21 rfl (lv_at hl 1 rfl) ?_
  refine lv_iload_n hx hb dX8_digest_22 rfl (lv_at hl 0 rfl) ?_
  have hPr := (show va_P (dC, dI) vwCl [(mo, .inr (10, [.int 0, .ref mr, .int 1, .long 7763014222787982])), (mr, .inr (9, [.ref ll, .ref lt, .ref lp, .int (-1), .int 0, .int 0, .int 0, .int 0, .int 0, .int 0, .int (-1), .int 0, .int 0, .int 0])), (ll, .inr (1, [.int 0, .ref ed, .int 0])), (lt, .inr (1, [.int 0, .ref ed, .int 0])), (lp, .inr (1, [.int 0, .ref ed, .int 0]))] H40 from (zo_cons ((hP) 0 _ rfl) (zo_cons (((zo_R hR0 hS hAr)) 0 _ rfl) (zo_cons (((zo_R hR0 hS hAr)) 1 _ rfl) (zo_cons (((zo_R hR0 hS hAr)) 2 _ rfl) (zo_cons (((zo_R hR0 hS hAr)) 3 _ rfl) (zo_nil : va_P (dC, dI) vwCl [] H40)))))))
  have hPc := hP.sub (ws' := []) [] rfl
  have hDc := hD.sub (ws' := []) [] (by decide) rfl
  have hKc := hK.sub (tys' := []) [] rfl
  have hFc := va_free (wc := []) hD hS hA [] rfl
  refine va_calli (va_runV (As := [.int 8]) (rest := [.ref mo]) ⟨hx, hb, hml, hown, hts⟩ (cz_manyNow l dC dI ed H40.size mo mr ll lt lp 0 7763014222787982 8 (by decide)) (cwV 1 hts gX8_digest_X8_manyNow rfl rfl rfl (by decide +kernel) ⟨Nat.le_of_ble_eq_true rfl, Nat.le_of_ble_eq_true rfl⟩) ⟨zb_blind, va_recv hK hP (ci := 10) (q0 := 0) rfl rfl, fun U hU hW => ⟨rfl, zb_mk hU hW hPr hPc hKc hDc hN hH hS hFc zx_e⟩⟩ rfl rfl hl.1 rfl (lv_room (Nat.le_of_ble_eq_true rfl)) dX8_digest_23 ⟨Nat.le_of_ble_eq_true rfl, Nat.le_of_ble_eq_true rfl⟩) hS (fun q _ h => hFc q h) hFc (fun r44 u t H43 locs ht hvm hw hB hz1 hk1 hS => ?_)
  obtain rfl : r44 = (-1) := hw.trans (by decide +kernel)
  have hP := zo_K hP hk1
  have hPr := (zo_nil : va_P (dC, dI) vwCl [] H43)
  have hPc := hP.sub (ws' := [(mo, .inr (10, [.int 0, .ref mr, .int 1, .long 7763014222787982]))]) [0] rfl
  have hDc := hD.sub (ws' := [(mo, .inr (10, [.int 0, .ref mr, .int 1, .long 7763014222787982]))]) [0] (by decide) rfl
  have hKc := hK.sub (tys' := []) [] rfl
  have hFc := va_free (wc := [(mo, .inr (10, [.int 0, .ref mr, .int 1, .long 7763014222787982]))]) hD hS hA [0] rfl
  refine va_callv (va_runV (As := [.int (-1)]) (rest := []) ⟨hx, hb, hml, hown, hts⟩ (cz_X8_add l dC dI ed H43.size mo mr 0 7763014222787982 (-1)) (cwV 1 hts gX8_digest_X8_add rfl rfl rfl (by decide +kernel) ⟨Nat.le_of_ble_eq_true rfl, Nat.le_of_ble_eq_true rfl⟩) ⟨zb_blind, va_recv hK hP (ci := 10) (q0 := 0) rfl rfl, fun U hU hW => ⟨rfl, zb_mk hU hW hPr hPc hKc hDc hN hH hS hFc zx_nil⟩⟩ rfl rfl hl.1 rfl (lv_room (Nat.le_of_ble_eq_true rfl)) dX8_digest_26 ⟨Nat.le_of_ble_eq_true rfl, Nat.le_of_ble_eq_true rfl⟩) hS (fun q _ h => hFc q h) hFc (fun u t H45 locs ht hvm hw hB hz1 hk1 hS => ?_)
  obtain ⟨s1_47, hf47_0, hP1, hD1, hK1⟩ := hB
  obtain rfl : s1_47 = 240653440906427441 := hf47_0.trans (by decide +kernel)
  rw [ht] at hP1
  obtain ⟨hP, hD⟩ := va_join (wr := []) (w1 := [(mo, .inr (10, [.int 0, .ref mr, .int 1, .long 240653440906427441]))]) hP hD [0] [] rfl rfl (by decide) (by decide) hk1 hFc hP1 hD1
  have hP : va_P (dC, dI) vwCl [(mo, .inr (10, [.int 0, .ref mr, .int 1, .long 240653440906427441]))] H45 := hP
  have hD : va_D A [(mo, .inr (10, [.int 0, .ref mr, .int 1, .long 240653440906427441]))] := hD
  refine lv_iinc (v := 9) (lv' := [(1, .int 9), (0, .ref mo)]) hx hb dX8_digest_29 hl (k := 0) rfl (by decide) (by decide) rfl (fun ls hl => ?_)
  refine lv_goto (tgt := 14) hx hb dX8_digest_32 (by decide) ?_
  refine lv_iload_n hx hb dX8_digest_14 rfl (lv_at hl 0 rfl) ?_
  refine lv_bipush (v := 19) hx hb dX8_digest_15 (by decide) ?_
  refine lv_icmp_ge (tgt := 35) hx hb dX8_digest_17 (by decide) (fun h => absurd h (by decide)) (fun _ => ?_)
  refine lv_aload_n hx hb dX8_digest_20 rfl (lv_at hl 1 rfl) ?_
  refine lv_aload_n hx hb dX8_digest_21 rfl (lv_at hl 1 rfl) ?_
  refine lv_iload_n hx hb dX8_digest_22 rfl (lv_at hl 0 rfl) ?_
  have hPr := (show va_P (dC, dI) vwCl [(mo, .inr (10, [.int 0, .ref mr, .int 1, .long 240653440906427441])), (mr, .inr (9, [.ref ll, .ref lt, .ref lp, .int (-1), .int 0, .int 0, .int 0, .int 0, .int 0, .int 0, .int (-1), .int 0, .int 0, .int 0])), (ll, .inr (1, [.int 0, .ref ed, .int 0])), (lt, .inr (1, [.int 0, .ref ed, .int 0])), (lp, .inr (1, [.int 0, .ref ed, .int 0]))] H45 from (zo_cons ((hP) 0 _ rfl) (zo_cons (((zo_R hR0 hS hAr)) 0 _ rfl) (zo_cons (((zo_R hR0 hS hAr)) 1 _ rfl) (zo_cons (((zo_R hR0 hS hAr)) 2 _ rfl) (zo_cons (((zo_R hR0 hS hAr)) 3 _ rfl) (zo_nil : va_P (dC, dI) vwCl [] H45)))))))
  have hPc := hP.sub (ws' := []) [] rfl
  have hDc := hD.sub (ws' := []) [] (by decide) rfl
  have hKc := hK.sub (tys' := []) [] rfl
  have hFc := va_free (wc := []) hD hS hA [] rfl
  refine va_calli (va_runV (As := [.int 9]) (rest := [.ref mo]) ⟨hx, hb, hml, hown, hts⟩ (cz_manyNow l dC dI ed H45.size mo mr ll lt lp 0 240653440906427441 9 (by decide)) (cwV 1 hts gX8_digest_X8_manyNow rfl rfl rfl (by decide +kernel) ⟨Nat.le_of_ble_eq_true rfl, Nat.le_of_ble_eq_true rfl⟩) ⟨zb_blind, va_recv hK hP (ci := 10) (q0 := 0) rfl rfl, fun U hU hW => ⟨rfl, zb_mk hU hW hPr hPc hKc hDc hN hH hS hFc zx_e⟩⟩ rfl rfl hl.1 rfl (lv_room (Nat.le_of_ble_eq_true rfl)) dX8_digest_23 ⟨Nat.le_of_ble_eq_true rfl, Nat.le_of_ble_eq_true rfl⟩) hS (fun q _ h => hFc q h) hFc (fun r49 u t H48 locs ht hvm hw hB hz1 hk1 hS => ?_)
  obtain rfl : r49 = 0 := hw.trans (by decide +kernel)
  have hP := zo_K hP hk1
  have hPr := (zo_nil : va_P (dC, dI) vwCl [] H48)
  have hPc := hP.sub (ws' := [(mo, .inr (10, [.int 0, .ref mr, .int 1, .long 240653440906427441]))]) [0] rfl
  have hDc := hD.sub (ws' := [(mo, .inr (10, [.int 0, .ref mr, .int 1, .long 240653440906427441]))]) [0] (by decide) rfl
  have hKc := hK.sub (tys' := []) [] rfl
  have hFc := va_free (wc := [(mo, .inr (10, [.int 0, .ref mr, .int 1, .long 240653440906427441]))]) hD hS hA [0] rfl
  refine va_callv (va_runV (As := [.int 0]) (rest := []) ⟨hx, hb, hml, hown, hts⟩ (cz_X8_add l dC dI ed H48.size mo mr 0 240653440906427441 0) (cwV 1 hts gX8_digest_X8_add rfl rfl rfl (by decide +kernel) ⟨Nat.le_of_ble_eq_true rfl, Nat.le_of_ble_eq_true rfl⟩) ⟨zb_blind, va_recv hK hP (ci := 10) (q0 := 0) rfl rfl, fun U hU hW => ⟨rfl, zb_mk hU hW hPr hPc hKc hDc hN hH hS hFc zx_nil⟩⟩ rfl rfl hl.1 rfl (lv_room (Nat.le_of_ble_eq_true rfl)) dX8_digest_26 ⟨Nat.le_of_ble_eq_true rfl, Nat.le_of_ble_eq_true rfl⟩) hS (fun q _ h => hFc q h) hFc (fun u t H50 locs ht hvm hw hB hz1 hk1 hS => ?_)
  obtain ⟨s1_52, hf52_0, hP1, hD1, hK1⟩ := hB
  obtain rfl : s1_52 = 7460256668099250671 := hf52_0.trans (by decide +kernel)
  rw [ht] at hP1
  obtain ⟨hP, hD⟩ := va_join (wr := []) (w1 := [(mo, .inr (10, [.int 0, .ref mr, .int 1, .long 7460256668099250671]))]) hP hD [0] [] rfl rfl (by decide) (by decide) hk1 hFc hP1 hD1
  have hP : va_P (dC, dI) vwCl [(mo, .inr (10, [.int 0, .ref mr, .int 1, .long 7460256668099250671]))] H50 := hP
  have hD : va_D A [(mo, .inr (10, [.int 0, .ref mr, .int 1, .long 7460256668099250671]))] := hD
  refine lv_iinc (v := 10) (lv' := [(1, .int 10), (0, .ref mo)]) hx hb dX8_digest_29 hl (k := 0) rfl (by decide) (by decide) rfl (fun ls hl => ?_)
  refine lv_goto (tgt := 14) hx hb dX8_digest_32 (by decide) ?_
  refine lv_iload_n hx hb dX8_digest_14 rfl (lv_at hl 0 rfl) ?_
  refine lv_bipush (v := 19) hx hb dX8_digest_15 (by decide) ?_
  refine lv_icmp_ge (tgt := 35) hx hb dX8_digest_17 (by decide) (fun h => absurd h (by decide)) (fun _ => ?_)
  refine lv_aload_n hx hb dX8_digest_20 rfl (lv_at hl 1 rfl) ?_
  refine lv_aload_n hx hb dX8_digest_21 rfl (lv_at hl 1 rfl) ?_
  refine lv_iload_n hx hb dX8_digest_22 rfl (lv_at hl 0 rfl) ?_
  have hPr := (show va_P (dC, dI) vwCl [(mo, .inr (10, [.int 0, .ref mr, .int 1, .long 7460256668099250671])), (mr, .inr (9, [.ref ll, .ref lt, .ref lp, .int (-1), .int 0, .int 0, .int 0, .int 0, .int 0, .int 0, .int (-1), .int 0, .int 0, .int 0])), (ll, .inr (1, [.int 0, .ref ed, .int 0])), (lt, .inr (1, [.int 0, .ref ed, .int 0])), (lp, .inr (1, [.int 0, .ref ed, .int 0]))] H50 from (zo_cons ((hP) 0 _ rfl) (zo_cons (((zo_R hR0 hS hAr)) 0 _ rfl) (zo_cons (((zo_R hR0 hS hAr)) 1 _ rfl) (zo_cons (((zo_R hR0 hS hAr)) 2 _ rfl) (zo_cons (((zo_R hR0 hS hAr)) 3 _ rfl) (zo_nil : va_P (dC, dI) vwCl [] H50)))))))
  have hPc := hP.sub (ws' := []) [] rfl
  have hDc := hD.sub (ws' := []) [] (by decide) rfl
  have hKc := hK.sub (tys' := []) [] rfl
  have hFc := va_free (wc := []) hD hS hA [] rfl
  refine va_calli (va_runV (As := [.int 10]) (rest := [.ref mo]) ⟨hx, hb, hml, hown, hts⟩ (cz_manyNow l dC dI ed H50.size mo mr ll lt lp 0 7460256668099250671 10 (by decide)) (cwV 1 hts gX8_digest_X8_manyNow rfl rfl rfl (by decide +kernel) ⟨Nat.le_of_ble_eq_true rfl, Nat.le_of_ble_eq_true rfl⟩) ⟨zb_blind, va_recv hK hP (ci := 10) (q0 := 0) rfl rfl, fun U hU hW => ⟨rfl, zb_mk hU hW hPr hPc hKc hDc hN hH hS hFc zx_e⟩⟩ rfl rfl hl.1 rfl (lv_room (Nat.le_of_ble_eq_true rfl)) dX8_digest_23 ⟨Nat.le_of_ble_eq_true rfl, Nat.le_of_ble_eq_true rfl⟩) hS (fun q _ h => hFc q h) hFc (fun r54 u t H53 locs ht hvm hw hB hz1 hk1 hS => ?_)
  obtain rfl : r54 = 0 := hw.trans (by decide +kernel)
  have hP := zo_K hP hk1
  have hPr := (zo_nil : va_P (dC, dI) vwCl [] H53)
  have hPc := hP.sub (ws' := [(mo, .inr (10, [.int 0, .ref mr, .int 1, .long 7460256668099250671]))]) [0] rfl
  have hDc := hD.sub (ws' := [(mo, .inr (10, [.int 0, .ref mr, .int 1, .long 7460256668099250671]))]) [0] (by decide) rfl
  have hKc := hK.sub (tys' := []) [] rfl
  have hFc := va_free (wc := [(mo, .inr (10, [.int 0, .ref mr, .int 1, .long 7460256668099250671]))]) hD hS hA [0] rfl
  refine va_callv (va_runV (As := [.int 0]) (rest := []) ⟨hx, hb, hml, hown, hts⟩ (cz_X8_add l dC dI ed H53.size mo mr 0 7460256668099250671 0) (cwV 1 hts gX8_digest_X8_add rfl rfl rfl (by decide +kernel) ⟨Nat.le_of_ble_eq_true rfl, Nat.le_of_ble_eq_true rfl⟩) ⟨zb_blind, va_recv hK hP (ci := 10) (q0 := 0) rfl rfl, fun U hU hW => ⟨rfl, zb_mk hU hW hPr hPc hKc hDc hN hH hS hFc zx_nil⟩⟩ rfl rfl hl.1 rfl (lv_room (Nat.le_of_ble_eq_true rfl)) dX8_digest_26 ⟨Nat.le_of_ble_eq_true rfl, Nat.le_of_ble_eq_true rfl⟩) hS (fun q _ h => hFc q h) hFc (fun u t H55 locs ht hvm hw hB hz1 hk1 hS => ?_)
  obtain ⟨s1_57, hf57_0, hP1, hD1, hK1⟩ := hB
  obtain rfl : s1_57 = (-8539716247147400207) := hf57_0.trans (by decide +kernel)
  rw [ht] at hP1
  obtain ⟨hP, hD⟩ := va_join (wr := []) (w1 := [(mo, .inr (10, [.int 0, .ref mr, .int 1, .long (-8539716247147400207)]))]) hP hD [0] [] rfl rfl (by decide) (by decide) hk1 hFc hP1 hD1
  have hP : va_P (dC, dI) vwCl [(mo, .inr (10, [.int 0, .ref mr, .int 1, .long (-8539716247147400207)]))] H55 := hP
  have hD : va_D A [(mo, .inr (10, [.int 0, .ref mr, .int 1, .long (-8539716247147400207)]))] := hD
  refine lv_iinc (v := 11) (lv' := [(1, .int 11), (0, .ref mo)]) hx hb dX8_digest_29 hl (k := 0) rfl (by decide) (by decide) rfl (fun ls hl => ?_)
  refine lv_goto (tgt := 14) hx hb dX8_digest_32 (by decide) ?_
  refine lv_iload_n hx hb dX8_digest_14 rfl (lv_at hl 0 rfl) ?_
  refine lv_bipush (v := 19) hx hb dX8_digest_15 (by decide) ?_
  refine lv_icmp_ge (tgt := 35) hx hb dX8_digest_17 (by decide) (fun h => absurd h (by decide)) (fun _ => ?_)
  refine lv_aload_n hx hb dX8_digest_20 rfl (lv_at hl 1 rfl) ?_
  refine lv_aload_n hx hb dX8_digest_21 rfl (lv_at hl 1 rfl) ?_
  refine lv_iload_n hx hb dX8_digest_22 rfl (lv_at hl 0 rfl) ?_
  have hPr := (show va_P (dC, dI) vwCl [(mo, .inr (10, [.int 0, .ref mr, .int 1, .long (-8539716247147400207)])), (mr, .inr (9, [.ref ll, .ref lt, .ref lp, .int (-1), .int 0, .int 0, .int 0, .int 0, .int 0, .int 0, .int (-1), .int 0, .int 0, .int 0])), (ll, .inr (1, [.int 0, .ref ed, .int 0])), (lt, .inr (1, [.int 0, .ref ed, .int 0])), (lp, .inr (1, [.int 0, .ref ed, .int 0]))] H55 from (zo_cons ((hP) 0 _ rfl) (zo_cons (((zo_R hR0 hS hAr)) 0 _ rfl) (zo_cons (((zo_R hR0 hS hAr)) 1 _ rfl) (zo_cons (((zo_R hR0 hS hAr)) 2 _ rfl) (zo_cons (((zo_R hR0 hS hAr)) 3 _ rfl) (zo_nil : va_P (dC, dI) vwCl [] H55)))))))
  have hPc := hP.sub (ws' := []) [] rfl
  have hDc := hD.sub (ws' := []) [] (by decide) rfl
  have hKc := hK.sub (tys' := []) [] rfl
  have hFc := va_free (wc := []) hD hS hA [] rfl
  refine va_calli (va_runV (As := [.int 11]) (rest := [.ref mo]) ⟨hx, hb, hml, hown, hts⟩ (cz_manyNow l dC dI ed H55.size mo mr ll lt lp 0 (-8539716247147400207) 11 (by decide)) (cwV 1 hts gX8_digest_X8_manyNow rfl rfl rfl (by decide +kernel) ⟨Nat.le_of_ble_eq_true rfl, Nat.le_of_ble_eq_true rfl⟩) ⟨zb_blind, va_recv hK hP (ci := 10) (q0 := 0) rfl rfl, fun U hU hW => ⟨rfl, zb_mk hU hW hPr hPc hKc hDc hN hH hS hFc zx_e⟩⟩ rfl rfl hl.1 rfl (lv_room (Nat.le_of_ble_eq_true rfl)) dX8_digest_23 ⟨Nat.le_of_ble_eq_true rfl, Nat.le_of_ble_eq_true rfl⟩) hS (fun q _ h => hFc q h) hFc (fun r59 u t H58 locs ht hvm hw hB hz1 hk1 hS => ?_)
  obtain rfl : r59 = (-1) := hw.trans (by decide +kernel)
  have hP := zo_K hP hk1
  have hPr := (zo_nil : va_P (dC, dI) vwCl [] H58)
  have hPc := hP.sub (ws' := [(mo, .inr (10, [.int 0, .ref mr, .int 1, .long (-8539716247147400207)]))]) [0] rfl
  have hDc := hD.sub (ws' := [(mo, .inr (10, [.int 0, .ref mr, .int 1, .long (-8539716247147400207)]))]) [0] (by decide) rfl
  have hKc := hK.sub (tys' := []) [] rfl
  have hFc := va_free (wc := [(mo, .inr (10, [.int 0, .ref mr, .int 1, .long (-8539716247147400207)]))]) hD hS hA [0] rfl
  refine va_callv (va_runV (As := [.int (-1)]) (rest := []) ⟨hx, hb, hml, hown, hts⟩ (cz_X8_add l dC dI ed H58.size mo mr 0 (-8539716247147400207) (-1)) (cwV 1 hts gX8_digest_X8_add rfl rfl rfl (by decide +kernel) ⟨Nat.le_of_ble_eq_true rfl, Nat.le_of_ble_eq_true rfl⟩) ⟨zb_blind, va_recv hK hP (ci := 10) (q0 := 0) rfl rfl, fun U hU hW => ⟨rfl, zb_mk hU hW hPr hPc hKc hDc hN hH hS hFc zx_nil⟩⟩ rfl rfl hl.1 rfl (lv_room (Nat.le_of_ble_eq_true rfl)) dX8_digest_26 ⟨Nat.le_of_ble_eq_true rfl, Nat.le_of_ble_eq_true rfl⟩) hS (fun q _ h => hFc q h) hFc (fun u t H60 locs ht hvm hw hB hz1 hk1 hS => ?_)
  obtain ⟨s1_62, hf62_0, hP1, hD1, hK1⟩ := hB
  obtain rfl : s1_62 = (-6476786629635683794) := hf62_0.trans (by decide +kernel)
  rw [ht] at hP1
  obtain ⟨hP, hD⟩ := va_join (wr := []) (w1 := [(mo, .inr (10, [.int 0, .ref mr, .int 1, .long (-6476786629635683794)]))]) hP hD [0] [] rfl rfl (by decide) (by decide) hk1 hFc hP1 hD1
  have hP : va_P (dC, dI) vwCl [(mo, .inr (10, [.int 0, .ref mr, .int 1, .long (-6476786629635683794)]))] H60 := hP
  have hD : va_D A [(mo, .inr (10, [.int 0, .ref mr, .int 1, .long (-6476786629635683794)]))] := hD
  refine lv_iinc (v := 12) (lv' := [(1, .int 12), (0, .ref mo)]) hx hb dX8_digest_29 hl (k := 0) rfl (by decide) (by decide) rfl (fun ls hl => ?_)
  refine lv_goto (tgt := 14) hx hb dX8_digest_32 (by decide) ?_
  refine lv_iload_n hx hb dX8_digest_14 rfl (lv_at hl 0 rfl) ?_
  refine lv_bipush (v := 19) hx hb dX8_digest_15 (by decide) ?_
  refine lv_icmp_ge (tgt := 35) hx hb dX8_digest_17 (by decide) (fun h => absurd h (by decide)) (fun _ => ?_)
  refine lv_aload_n hx hb dX8_digest_20 rfl (lv_at hl 1 rfl) ?_
  refine lv_aload_n hx hb dX8_digest_21 rfl (lv_at hl 1 rfl) ?_
  refine lv_iload_n hx hb dX8_digest_22 rfl (lv_at hl 0 rfl) ?_
  have hPr := (show va_P (dC, dI) vwCl [(mo, .inr (10, [.int 0, .ref mr, .int 1, .long (-6476786629635683794)])), (mr, .inr (9, [.ref ll, .ref lt, .ref lp, .int (-1), .int 0, .int 0, .int 0, .int 0, .int 0, .int 0, .int (-1), .int 0, .int 0, .int 0])), (ll, .inr (1, [.int 0, .ref ed, .int 0])), (lt, .inr (1, [.int 0, .ref ed, .int 0])), (lp, .inr (1, [.int 0, .ref ed, .int 0]))] H60 from (zo_cons ((hP) 0 _ rfl) (zo_cons (((zo_R hR0 hS hAr)) 0 _ rfl) (zo_cons (((zo_R hR0 hS hAr)) 1 _ rfl) (zo_cons (((zo_R hR0 hS hAr)) 2 _ rfl) (zo_cons (((zo_R hR0 hS hAr)) 3 _ rfl) (zo_nil : va_P (dC, dI) vwCl [] H60)))))))
  have hPc := hP.sub (ws' := []) [] rfl
  have hDc := hD.sub (ws' := []) [] (by decide) rfl
  have hKc := hK.sub (tys' := []) [] rfl
  have hFc := va_free (wc := []) hD hS hA [] rfl
  refine va_calli (va_runV (As := [.int 12]) (rest := [.ref mo]) ⟨hx, hb, hml, hown, hts⟩ (cz_manyNow l dC dI ed H60.size mo mr ll lt lp 0 (-6476786629635683794) 12 (by decide)) (cwV 1 hts gX8_digest_X8_manyNow rfl rfl rfl (by decide +kernel) ⟨Nat.le_of_ble_eq_true rfl, Nat.le_of_ble_eq_true rfl⟩) ⟨zb_blind, va_recv hK hP (ci := 10) (q0 := 0) rfl rfl, fun U hU hW => ⟨rfl, zb_mk hU hW hPr hPc hKc hDc hN hH hS hFc zx_e⟩⟩ rfl rfl hl.1 rfl (lv_room (Nat.le_of_ble_eq_true rfl)) dX8_digest_23 ⟨Nat.le_of_ble_eq_true rfl, Nat.le_of_ble_eq_true rfl⟩) hS (fun q _ h => hFc q h) hFc (fun r64 u t H63 locs ht hvm hw hB hz1 hk1 hS => ?_)
  obtain rfl : r64 = 0 := hw.trans (by decide +kernel)
  have hP := zo_K hP hk1
  have hPr := (zo_nil : va_P (dC, dI) vwCl [] H63)
  have hPc := hP.sub (ws' := [(mo, .inr (10, [.int 0, .ref mr, .int 1, .long (-6476786629635683794)]))]) [0] rfl
  have hDc := hD.sub (ws' := [(mo, .inr (10, [.int 0, .ref mr, .int 1, .long (-6476786629635683794)]))]) [0] (by decide) rfl
  have hKc := hK.sub (tys' := []) [] rfl
  have hFc := va_free (wc := [(mo, .inr (10, [.int 0, .ref mr, .int 1, .long (-6476786629635683794)]))]) hD hS hA [0] rfl
  refine va_callv (va_runV (As := [.int 0]) (rest := []) ⟨hx, hb, hml, hown, hts⟩ (cz_X8_add l dC dI ed H63.size mo mr 0 (-6476786629635683794) 0) (cwV 1 hts gX8_digest_X8_add rfl rfl rfl (by decide +kernel) ⟨Nat.le_of_ble_eq_true rfl, Nat.le_of_ble_eq_true rfl⟩) ⟨zb_blind, va_recv hK hP (ci := 10) (q0 := 0) rfl rfl, fun U hU hW => ⟨rfl, zb_mk hU hW hPr hPc hKc hDc hN hH hS hFc zx_nil⟩⟩ rfl rfl hl.1 rfl (lv_room (Nat.le_of_ble_eq_true rfl)) dX8_digest_26 ⟨Nat.le_of_ble_eq_true rfl, Nat.le_of_ble_eq_true rfl⟩) hS (fun q _ h => hFc q h) hFc (fun u t H65 locs ht hvm hw hB hz1 hk1 hS => ?_)
  obtain ⟨s1_67, hf67_0, hP1, hD1, hK1⟩ := hB
  obtain rfl : s1_67 = 2133799292098870162 := hf67_0.trans (by decide +kernel)
  rw [ht] at hP1
  obtain ⟨hP, hD⟩ := va_join (wr := []) (w1 := [(mo, .inr (10, [.int 0, .ref mr, .int 1, .long 2133799292098870162]))]) hP hD [0] [] rfl rfl (by decide) (by decide) hk1 hFc hP1 hD1
  have hP : va_P (dC, dI) vwCl [(mo, .inr (10, [.int 0, .ref mr, .int 1, .long 2133799292098870162]))] H65 := hP
  have hD : va_D A [(mo, .inr (10, [.int 0, .ref mr, .int 1, .long 2133799292098870162]))] := hD
  refine lv_iinc (v := 13) (lv' := [(1, .int 13), (0, .ref mo)]) hx hb dX8_digest_29 hl (k := 0) rfl (by decide) (by decide) rfl (fun ls hl => ?_)
  refine lv_goto (tgt := 14) hx hb dX8_digest_32 (by decide) ?_
  refine lv_iload_n hx hb dX8_digest_14 rfl (lv_at hl 0 rfl) ?_
  refine lv_bipush (v := 19) hx hb dX8_digest_15 (by decide) ?_
  refine lv_icmp_ge (tgt := 35) hx hb dX8_digest_17 (by decide) (fun h => absurd h (by decide)) (fun _ => ?_)
  refine lv_aload_n hx hb dX8_digest_20 rfl (lv_at hl 1 rfl) ?_
  refine lv_aload_n hx hb dX8_digest_21 rfl (lv_at hl 1 rfl) ?_
  refine lv_iload_n hx hb dX8_digest_22 rfl (lv_at hl 0 rfl) ?_
  have hPr := (show va_P (dC, dI) vwCl [(mo, .inr (10, [.int 0, .ref mr, .int 1, .long 2133799292098870162])), (mr, .inr (9, [.ref ll, .ref lt, .ref lp, .int (-1), .int 0, .int 0, .int 0, .int 0, .int 0, .int 0, .int (-1), .int 0, .int 0, .int 0])), (ll, .inr (1, [.int 0, .ref ed, .int 0])), (lt, .inr (1, [.int 0, .ref ed, .int 0])), (lp, .inr (1, [.int 0, .ref ed, .int 0]))] H65 from (zo_cons ((hP) 0 _ rfl) (zo_cons (((zo_R hR0 hS hAr)) 0 _ rfl) (zo_cons (((zo_R hR0 hS hAr)) 1 _ rfl) (zo_cons (((zo_R hR0 hS hAr)) 2 _ rfl) (zo_cons (((zo_R hR0 hS hAr)) 3 _ rfl) (zo_nil : va_P (dC, dI) vwCl [] H65)))))))
  have hPc := hP.sub (ws' := []) [] rfl
  have hDc := hD.sub (ws' := []) [] (by decide) rfl
  have hKc := hK.sub (tys' := []) [] rfl
  have hFc := va_free (wc := []) hD hS hA [] rfl
  refine va_calli (va_runV (As := [.int 13]) (rest := [.ref mo]) ⟨hx, hb, hml, hown, hts⟩ (cz_manyNow l dC dI ed H65.size mo mr ll lt lp 0 2133799292098870162 13 (by decide)) (cwV 1 hts gX8_digest_X8_manyNow rfl rfl rfl (by decide +kernel) ⟨Nat.le_of_ble_eq_true rfl, Nat.le_of_ble_eq_true rfl⟩) ⟨zb_blind, va_recv hK hP (ci := 10) (q0 := 0) rfl rfl, fun U hU hW => ⟨rfl, zb_mk hU hW hPr hPc hKc hDc hN hH hS hFc zx_e⟩⟩ rfl rfl hl.1 rfl (lv_room (Nat.le_of_ble_eq_true rfl)) dX8_digest_23 ⟨Nat.le_of_ble_eq_true rfl, Nat.le_of_ble_eq_true rfl⟩) hS (fun q _ h => hFc q h) hFc (fun r69 u t H68 locs ht hvm hw hB hz1 hk1 hS => ?_)
  obtain rfl : r69 = 0 := hw.trans (by decide +kernel)
  have hP := zo_K hP hk1
  have hPr := (zo_nil : va_P (dC, dI) vwCl [] H68)
  have hPc := hP.sub (ws' := [(mo, .inr (10, [.int 0, .ref mr, .int 1, .long 2133799292098870162]))]) [0] rfl
  have hDc := hD.sub (ws' := [(mo, .inr (10, [.int 0, .ref mr, .int 1, .long 2133799292098870162]))]) [0] (by decide) rfl
  have hKc := hK.sub (tys' := []) [] rfl
  have hFc := va_free (wc := [(mo, .inr (10, [.int 0, .ref mr, .int 1, .long 2133799292098870162]))]) hD hS hA [0] rfl
  refine va_callv (va_runV (As := [.int 0]) (rest := []) ⟨hx, hb, hml, hown, hts⟩ (cz_X8_add l dC dI ed H68.size mo mr 0 2133799292098870162 0) (cwV 1 hts gX8_digest_X8_add rfl rfl rfl (by decide +kernel) ⟨Nat.le_of_ble_eq_true rfl, Nat.le_of_ble_eq_true rfl⟩) ⟨zb_blind, va_recv hK hP (ci := 10) (q0 := 0) rfl rfl, fun U hU hW => ⟨rfl, zb_mk hU hW hPr hPc hKc hDc hN hH hS hFc zx_nil⟩⟩ rfl rfl hl.1 rfl (lv_room (Nat.le_of_ble_eq_true rfl)) dX8_digest_26 ⟨Nat.le_of_ble_eq_true rfl, Nat.le_of_ble_eq_true rfl⟩) hS (fun q _ h => hFc q h) hFc (fun u t H70 locs ht hvm hw hB hz1 hk1 hS => ?_)
  obtain ⟨s1_72, hf72_0, hP1, hD1, hK1⟩ := hB
  obtain rfl : s1_72 = (-7639198239773231442) := hf72_0.trans (by decide +kernel)
  rw [ht] at hP1
  obtain ⟨hP, hD⟩ := va_join (wr := []) (w1 := [(mo, .inr (10, [.int 0, .ref mr, .int 1, .long (-7639198239773231442)]))]) hP hD [0] [] rfl rfl (by decide) (by decide) hk1 hFc hP1 hD1
  have hP : va_P (dC, dI) vwCl [(mo, .inr (10, [.int 0, .ref mr, .int 1, .long (-7639198239773231442)]))] H70 := hP
  have hD : va_D A [(mo, .inr (10, [.int 0, .ref mr, .int 1, .long (-7639198239773231442)]))] := hD
  refine lv_iinc (v := 14) (lv' := [(1, .int 14), (0, .ref mo)]) hx hb dX8_digest_29 hl (k := 0) rfl (by decide) (by decide) rfl (fun ls hl => ?_)
  refine lv_goto (tgt := 14) hx hb dX8_digest_32 (by decide) ?_
  refine lv_iload_n hx hb dX8_digest_14 rfl (lv_at hl 0 rfl) ?_
  refine lv_bipush (v := 19) hx hb dX8_digest_15 (by decide) ?_
  refine lv_icmp_ge (tgt := 35) hx hb dX8_digest_17 (by decide) (fun h => absurd h (by decide)) (fun _ => ?_)
  refine lv_aload_n hx hb dX8_digest_20 rfl (lv_at hl 1 rfl) ?_
  refine lv_aload_n hx hb dX8_digest_21 rfl (lv_at hl 1 rfl) ?_
  refine lv_iload_n hx hb dX8_digest_22 rfl (lv_at hl 0 rfl) ?_
  have hPr := (show va_P (dC, dI) vwCl [(mo, .inr (10, [.int 0, .ref mr, .int 1, .long (-7639198239773231442)])), (mr, .inr (9, [.ref ll, .ref lt, .ref lp, .int (-1), .int 0, .int 0, .int 0, .int 0, .int 0, .int 0, .int (-1), .int 0, .int 0, .int 0])), (ll, .inr (1, [.int 0, .ref ed, .int 0])), (lt, .inr (1, [.int 0, .ref ed, .int 0])), (lp, .inr (1, [.int 0, .ref ed, .int 0]))] H70 from (zo_cons ((hP) 0 _ rfl) (zo_cons (((zo_R hR0 hS hAr)) 0 _ rfl) (zo_cons (((zo_R hR0 hS hAr)) 1 _ rfl) (zo_cons (((zo_R hR0 hS hAr)) 2 _ rfl) (zo_cons (((zo_R hR0 hS hAr)) 3 _ rfl) (zo_nil : va_P (dC, dI) vwCl [] H70)))))))
  have hPc := hP.sub (ws' := []) [] rfl
  have hDc := hD.sub (ws' := []) [] (by decide) rfl
  have hKc := hK.sub (tys' := []) [] rfl
  have hFc := va_free (wc := []) hD hS hA [] rfl
  refine va_calli (va_runV (As := [.int 14]) (rest := [.ref mo]) ⟨hx, hb, hml, hown, hts⟩ (cz_manyNow l dC dI ed H70.size mo mr ll lt lp 0 (-7639198239773231442) 14 (by decide)) (cwV 1 hts gX8_digest_X8_manyNow rfl rfl rfl (by decide +kernel) ⟨Nat.le_of_ble_eq_true rfl, Nat.le_of_ble_eq_true rfl⟩) ⟨zb_blind, va_recv hK hP (ci := 10) (q0 := 0) rfl rfl, fun U hU hW => ⟨rfl, zb_mk hU hW hPr hPc hKc hDc hN hH hS hFc zx_e⟩⟩ rfl rfl hl.1 rfl (lv_room (Nat.le_of_ble_eq_true rfl)) dX8_digest_23 ⟨Nat.le_of_ble_eq_true rfl, Nat.le_of_ble_eq_true rfl⟩) hS (fun q _ h => hFc q h) hFc (fun r74 u t H73 locs ht hvm hw hB hz1 hk1 hS => ?_)
  obtain rfl : r74 = 0 := hw.trans (by decide +kernel)
  have hP := zo_K hP hk1
  have hPr := (zo_nil : va_P (dC, dI) vwCl [] H73)
  have hPc := hP.sub (ws' := [(mo, .inr (10, [.int 0, .ref mr, .int 1, .long (-7639198239773231442)]))]) [0] rfl
  have hDc := hD.sub (ws' := [(mo, .inr (10, [.int 0, .ref mr, .int 1, .long (-7639198239773231442)]))]) [0] (by decide) rfl
  have hKc := hK.sub (tys' := []) [] rfl
  have hFc := va_free (wc := [(mo, .inr (10, [.int 0, .ref mr, .int 1, .long (-7639198239773231442)]))]) hD hS hA [0] rfl
  refine va_callv (va_runV (As := [.int 0]) (rest := []) ⟨hx, hb, hml, hown, hts⟩ (cz_X8_add l dC dI ed H73.size mo mr 0 (-7639198239773231442) 0) (cwV 1 hts gX8_digest_X8_add rfl rfl rfl (by decide +kernel) ⟨Nat.le_of_ble_eq_true rfl, Nat.le_of_ble_eq_true rfl⟩) ⟨zb_blind, va_recv hK hP (ci := 10) (q0 := 0) rfl rfl, fun U hU hW => ⟨rfl, zb_mk hU hW hPr hPc hKc hDc hN hH hS hFc zx_nil⟩⟩ rfl rfl hl.1 rfl (lv_room (Nat.le_of_ble_eq_true rfl)) dX8_digest_26 ⟨Nat.le_of_ble_eq_true rfl, Nat.le_of_ble_eq_true rfl⟩) hS (fun q _ h => hFc q h) hFc (fun u t H75 locs ht hvm hw hB hz1 hk1 hS => ?_)
  obtain ⟨s1_77, hf77_0, hP1, hD1, hK1⟩ := hB
  obtain rfl : s1_77 = 2992527525253996306 := hf77_0.trans (by decide +kernel)
  rw [ht] at hP1
  obtain ⟨hP, hD⟩ := va_join (wr := []) (w1 := [(mo, .inr (10, [.int 0, .ref mr, .int 1, .long 2992527525253996306]))]) hP hD [0] [] rfl rfl (by decide) (by decide) hk1 hFc hP1 hD1
  have hP : va_P (dC, dI) vwCl [(mo, .inr (10, [.int 0, .ref mr, .int 1, .long 2992527525253996306]))] H75 := hP
  have hD : va_D A [(mo, .inr (10, [.int 0, .ref mr, .int 1, .long 2992527525253996306]))] := hD
  refine lv_iinc (v := 15) (lv' := [(1, .int 15), (0, .ref mo)]) hx hb dX8_digest_29 hl (k := 0) rfl (by decide) (by decide) rfl (fun ls hl => ?_)
  refine lv_goto (tgt := 14) hx hb dX8_digest_32 (by decide) ?_
  refine lv_iload_n hx hb dX8_digest_14 rfl (lv_at hl 0 rfl) ?_
  refine lv_bipush (v := 19) hx hb dX8_digest_15 (by decide) ?_
  refine lv_icmp_ge (tgt := 35) hx hb dX8_digest_17 (by decide) (fun h => absurd h (by decide)) (fun _ => ?_)
  refine lv_aload_n hx hb dX8_digest_20 rfl (lv_at hl 1 rfl) ?_
  refine lv_aload_n hx hb dX8_digest_21 rfl (lv_at hl 1 rfl) ?_
  refine lv_iload_n hx hb dX8_digest_22 rfl (lv_at hl 0 rfl) ?_
  have hPr := (show va_P (dC, dI) vwCl [(mo, .inr (10, [.int 0, .ref mr, .int 1, .long 2992527525253996306])), (mr, .inr (9, [.ref ll, .ref lt, .ref lp, .int (-1), .int 0, .int 0, .int 0, .int 0, .int 0, .int 0, .int (-1), .int 0, .int 0, .int 0])), (ll, .inr (1, [.int 0, .ref ed, .int 0])), (lt, .inr (1, [.int 0, .ref ed, .int 0])), (lp, .inr (1, [.int 0, .ref ed, .int 0]))] H75 from (zo_cons ((hP) 0 _ rfl) (zo_cons (((zo_R hR0 hS hAr)) 0 _ rfl) (zo_cons (((zo_R hR0 hS hAr)) 1 _ rfl) (zo_cons (((zo_R hR0 hS hAr)) 2 _ rfl) (zo_cons (((zo_R hR0 hS hAr)) 3 _ rfl) (zo_nil : va_P (dC, dI) vwCl [] H75)))))))
  have hPc := hP.sub (ws' := []) [] rfl
  have hDc := hD.sub (ws' := []) [] (by decide) rfl
  have hKc := hK.sub (tys' := []) [] rfl
  have hFc := va_free (wc := []) hD hS hA [] rfl
  refine va_calli (va_runV (As := [.int 15]) (rest := [.ref mo]) ⟨hx, hb, hml, hown, hts⟩ (cz_manyNow l dC dI ed H75.size mo mr ll lt lp 0 2992527525253996306 15 (by decide)) (cwV 1 hts gX8_digest_X8_manyNow rfl rfl rfl (by decide +kernel) ⟨Nat.le_of_ble_eq_true rfl, Nat.le_of_ble_eq_true rfl⟩) ⟨zb_blind, va_recv hK hP (ci := 10) (q0 := 0) rfl rfl, fun U hU hW => ⟨rfl, zb_mk hU hW hPr hPc hKc hDc hN hH hS hFc zx_e⟩⟩ rfl rfl hl.1 rfl (lv_room (Nat.le_of_ble_eq_true rfl)) dX8_digest_23 ⟨Nat.le_of_ble_eq_true rfl, Nat.le_of_ble_eq_true rfl⟩) hS (fun q _ h => hFc q h) hFc (fun r79 u t H78 locs ht hvm hw hB hz1 hk1 hS => ?_)
  obtain rfl : r79 = 0 := hw.trans (by decide +kernel)
  have hP := zo_K hP hk1
  have hPr := (zo_nil : va_P (dC, dI) vwCl [] H78)
  have hPc := hP.sub (ws' := [(mo, .inr (10, [.int 0, .ref mr, .int 1, .long 2992527525253996306]))]) [0] rfl
  have hDc := hD.sub (ws' := [(mo, .inr (10, [.int 0, .ref mr, .int 1, .long 2992527525253996306]))]) [0] (by decide) rfl
  have hKc := hK.sub (tys' := []) [] rfl
  have hFc := va_free (wc := [(mo, .inr (10, [.int 0, .ref mr, .int 1, .long 2992527525253996306]))]) hD hS hA [0] rfl
  refine va_callv (va_runV (As := [.int 0]) (rest := []) ⟨hx, hb, hml, hown, hts⟩ (cz_X8_add l dC dI ed H78.size mo mr 0 2992527525253996306 0) (cwV 1 hts gX8_digest_X8_add rfl rfl rfl (by decide +kernel) ⟨Nat.le_of_ble_eq_true rfl, Nat.le_of_ble_eq_true rfl⟩) ⟨zb_blind, va_recv hK hP (ci := 10) (q0 := 0) rfl rfl, fun U hU hW => ⟨rfl, zb_mk hU hW hPr hPc hKc hDc hN hH hS hFc zx_nil⟩⟩ rfl rfl hl.1 rfl (lv_room (Nat.le_of_ble_eq_true rfl)) dX8_digest_26 ⟨Nat.le_of_ble_eq_true rfl, Nat.le_of_ble_eq_true rfl⟩) hS (fun q _ h => hFc q h) hFc (fun u t H80 locs ht hvm hw hB hz1 hk1 hS => ?_)
  obtain ⟨s1_82, hf82_0, hP1, hD1, hK1⟩ := hB
  obtain rfl : s1_82 = 534632914326127406 := hf82_0.trans (by decide +kernel)
  rw [ht] at hP1
  obtain ⟨hP, hD⟩ := va_join (wr := []) (w1 := [(mo, .inr (10, [.int 0, .ref mr, .int 1, .long 534632914326127406]))]) hP hD [0] [] rfl rfl (by decide) (by decide) hk1 hFc hP1 hD1
  have hP : va_P (dC, dI) vwCl [(mo, .inr (10, [.int 0, .ref mr, .int 1, .long 534632914326127406]))] H80 := hP
  have hD : va_D A [(mo, .inr (10, [.int 0, .ref mr, .int 1, .long 534632914326127406]))] := hD
  refine lv_iinc (v := 16) (lv' := [(1, .int 16), (0, .ref mo)]) hx hb dX8_digest_29 hl (k := 0) rfl (by decide) (by decide) rfl (fun ls hl => ?_)
  refine lv_goto (tgt := 14) hx hb dX8_digest_32 (by decide) ?_
  refine lv_iload_n hx hb dX8_digest_14 rfl (lv_at hl 0 rfl) ?_
  refine lv_bipush (v := 19) hx hb dX8_digest_15 (by decide) ?_
  refine lv_icmp_ge (tgt := 35) hx hb dX8_digest_17 (by decide) (fun h => absurd h (by decide)) (fun _ => ?_)
  refine lv_aload_n hx hb dX8_digest_20 rfl (lv_at hl 1 rfl) ?_
  refine lv_aload_n hx hb dX8_digest_21 rfl (lv_at hl 1 rfl) ?_
  refine lv_iload_n hx hb dX8_digest_22 rfl (lv_at hl 0 rfl) ?_
  have hPr := (show va_P (dC, dI) vwCl [(mo, .inr (10, [.int 0, .ref mr, .int 1, .long 534632914326127406])), (mr, .inr (9, [.ref ll, .ref lt, .ref lp, .int (-1), .int 0, .int 0, .int 0, .int 0, .int 0, .int 0, .int (-1), .int 0, .int 0, .int 0])), (ll, .inr (1, [.int 0, .ref ed, .int 0])), (lt, .inr (1, [.int 0, .ref ed, .int 0])), (lp, .inr (1, [.int 0, .ref ed, .int 0]))] H80 from (zo_cons ((hP) 0 _ rfl) (zo_cons (((zo_R hR0 hS hAr)) 0 _ rfl) (zo_cons (((zo_R hR0 hS hAr)) 1 _ rfl) (zo_cons (((zo_R hR0 hS hAr)) 2 _ rfl) (zo_cons (((zo_R hR0 hS hAr)) 3 _ rfl) (zo_nil : va_P (dC, dI) vwCl [] H80)))))))
  have hPc := hP.sub (ws' := []) [] rfl
  have hDc := hD.sub (ws' := []) [] (by decide) rfl
  have hKc := hK.sub (tys' := []) [] rfl
  have hFc := va_free (wc := []) hD hS hA [] rfl
  refine va_calli (va_runV (As := [.int 16]) (rest := [.ref mo]) ⟨hx, hb, hml, hown, hts⟩ (cz_manyNow l dC dI ed H80.size mo mr ll lt lp 0 534632914326127406 16 (by decide)) (cwV 1 hts gX8_digest_X8_manyNow rfl rfl rfl (by decide +kernel) ⟨Nat.le_of_ble_eq_true rfl, Nat.le_of_ble_eq_true rfl⟩) ⟨zb_blind, va_recv hK hP (ci := 10) (q0 := 0) rfl rfl, fun U hU hW => ⟨rfl, zb_mk hU hW hPr hPc hKc hDc hN hH hS hFc zx_e⟩⟩ rfl rfl hl.1 rfl (lv_room (Nat.le_of_ble_eq_true rfl)) dX8_digest_23 ⟨Nat.le_of_ble_eq_true rfl, Nat.le_of_ble_eq_true rfl⟩) hS (fun q _ h => hFc q h) hFc (fun r84 u t H83 locs ht hvm hw hB hz1 hk1 hS => ?_)
  obtain rfl : r84 = 0 := hw.trans (by decide +kernel)
  have hP := zo_K hP hk1
  have hPr := (zo_nil : va_P (dC, dI) vwCl [] H83)
  have hPc := hP.sub (ws' := [(mo, .inr (10, [.int 0, .ref mr, .int 1, .long 534632914326127406]))]) [0] rfl
  have hDc := hD.sub (ws' := [(mo, .inr (10, [.int 0, .ref mr, .int 1, .long 534632914326127406]))]) [0] (by decide) rfl
  have hKc := hK.sub (tys' := []) [] rfl
  have hFc := va_free (wc := [(mo, .inr (10, [.int 0, .ref mr, .int 1, .long 534632914326127406]))]) hD hS hA [0] rfl
  refine va_callv (va_runV (As := [.int 0]) (rest := []) ⟨hx, hb, hml, hown, hts⟩ (cz_X8_add l dC dI ed H83.size mo mr 0 534632914326127406 0) (cwV 1 hts gX8_digest_X8_add rfl rfl rfl (by decide +kernel) ⟨Nat.le_of_ble_eq_true rfl, Nat.le_of_ble_eq_true rfl⟩) ⟨zb_blind, va_recv hK hP (ci := 10) (q0 := 0) rfl rfl, fun U hU hW => ⟨rfl, zb_mk hU hW hPr hPc hKc hDc hN hH hS hFc zx_nil⟩⟩ rfl rfl hl.1 rfl (lv_room (Nat.le_of_ble_eq_true rfl)) dX8_digest_26 ⟨Nat.le_of_ble_eq_true rfl, Nat.le_of_ble_eq_true rfl⟩) hS (fun q _ h => hFc q h) hFc (fun u t H85 locs ht hvm hw hB hz1 hk1 hS => ?_)
  obtain ⟨s1_87, hf87_0, hP1, hD1, hK1⟩ := hB
  obtain rfl : s1_87 = (-1873123729599602030) := hf87_0.trans (by decide +kernel)
  rw [ht] at hP1
  obtain ⟨hP, hD⟩ := va_join (wr := []) (w1 := [(mo, .inr (10, [.int 0, .ref mr, .int 1, .long (-1873123729599602030)]))]) hP hD [0] [] rfl rfl (by decide) (by decide) hk1 hFc hP1 hD1
  have hP : va_P (dC, dI) vwCl [(mo, .inr (10, [.int 0, .ref mr, .int 1, .long (-1873123729599602030)]))] H85 := hP
  have hD : va_D A [(mo, .inr (10, [.int 0, .ref mr, .int 1, .long (-1873123729599602030)]))] := hD
  refine lv_iinc (v := 17) (lv' := [(1, .int 17), (0, .ref mo)]) hx hb dX8_digest_29 hl (k := 0) rfl (by decide) (by decide) rfl (fun ls hl => ?_)
  refine lv_goto (tgt := 14) hx hb dX8_digest_32 (by decide) ?_
  refine lv_iload_n hx hb dX8_digest_14 rfl (lv_at hl 0 rfl) ?_
  refine lv_bipush (v := 19) hx hb dX8_digest_15 (by decide) ?_
  refine lv_icmp_ge (tgt := 35) hx hb dX8_digest_17 (by decide) (fun h => absurd h (by decide)) (fun _ => ?_)
  refine lv_aload_n hx hb dX8_digest_20 rfl (lv_at hl 1 rfl) ?_
  refine lv_aload_n hx hb dX8_digest_21 rfl (lv_at hl 1 rfl) ?_
  refine lv_iload_n hx hb dX8_digest_22 rfl (lv_at hl 0 rfl) ?_
  have hPr := (show va_P (dC, dI) vwCl [(mo, .inr (10, [.int 0, .ref mr, .int 1, .long (-1873123729599602030)])), (mr, .inr (9, [.ref ll, .ref lt, .ref lp, .int (-1), .int 0, .int 0, .int 0, .int 0, .int 0, .int 0, .int (-1), .int 0, .int 0, .int 0])), (ll, .inr (1, [.int 0, .ref ed, .int 0])), (lt, .inr (1, [.int 0, .ref ed, .int 0])), (lp, .inr (1, [.int 0, .ref ed, .int 0]))] H85 from (zo_cons ((hP) 0 _ rfl) (zo_cons (((zo_R hR0 hS hAr)) 0 _ rfl) (zo_cons (((zo_R hR0 hS hAr)) 1 _ rfl) (zo_cons (((zo_R hR0 hS hAr)) 2 _ rfl) (zo_cons (((zo_R hR0 hS hAr)) 3 _ rfl) (zo_nil : va_P (dC, dI) vwCl [] H85)))))))
  have hPc := hP.sub (ws' := []) [] rfl
  have hDc := hD.sub (ws' := []) [] (by decide) rfl
  have hKc := hK.sub (tys' := []) [] rfl
  have hFc := va_free (wc := []) hD hS hA [] rfl
  refine va_calli (va_runV (As := [.int 17]) (rest := [.ref mo]) ⟨hx, hb, hml, hown, hts⟩ (cz_manyNow l dC dI ed H85.size mo mr ll lt lp 0 (-1873123729599602030) 17 (by decide)) (cwV 1 hts gX8_digest_X8_manyNow rfl rfl rfl (by decide +kernel) ⟨Nat.le_of_ble_eq_true rfl, Nat.le_of_ble_eq_true rfl⟩) ⟨zb_blind, va_recv hK hP (ci := 10) (q0 := 0) rfl rfl, fun U hU hW => ⟨rfl, zb_mk hU hW hPr hPc hKc hDc hN hH hS hFc zx_e⟩⟩ rfl rfl hl.1 rfl (lv_room (Nat.le_of_ble_eq_true rfl)) dX8_digest_23 ⟨Nat.le_of_ble_eq_true rfl, Nat.le_of_ble_eq_true rfl⟩) hS (fun q _ h => hFc q h) hFc (fun r89 u t H88 locs ht hvm hw hB hz1 hk1 hS => ?_)
  obtain rfl : r89 = 1 := hw.trans (by decide +kernel)
  have hP := zo_K hP hk1
  have hPr := (zo_nil : va_P (dC, dI) vwCl [] H88)
  have hPc := hP.sub (ws' := [(mo, .inr (10, [.int 0, .ref mr, .int 1, .long (-1873123729599602030)]))]) [0] rfl
  have hDc := hD.sub (ws' := [(mo, .inr (10, [.int 0, .ref mr, .int 1, .long (-1873123729599602030)]))]) [0] (by decide) rfl
  have hKc := hK.sub (tys' := []) [] rfl
  have hFc := va_free (wc := [(mo, .inr (10, [.int 0, .ref mr, .int 1, .long (-1873123729599602030)]))]) hD hS hA [0] rfl
  refine va_callv (va_runV (As := [.int 1]) (rest := []) ⟨hx, hb, hml, hown, hts⟩ (cz_X8_add l dC dI ed H88.size mo mr 0 (-1873123729599602030) 1) (cwV 1 hts gX8_digest_X8_add rfl rfl rfl (by decide +kernel) ⟨Nat.le_of_ble_eq_true rfl, Nat.le_of_ble_eq_true rfl⟩) ⟨zb_blind, va_recv hK hP (ci := 10) (q0 := 0) rfl rfl, fun U hU hW => ⟨rfl, zb_mk hU hW hPr hPc hKc hDc hN hH hS hFc zx_nil⟩⟩ rfl rfl hl.1 rfl (lv_room (Nat.le_of_ble_eq_true rfl)) dX8_digest_26 ⟨Nat.le_of_ble_eq_true rfl, Nat.le_of_ble_eq_true rfl⟩) hS (fun q _ h => hFc q h) hFc (fun u t H90 locs ht hvm hw hB hz1 hk1 hS => ?_)
  obtain ⟨s1_92, hf92_0, hP1, hD1, hK1⟩ := hB
  obtain rfl : s1_92 = (-2726603396459008081) := hf92_0.trans (by decide +kernel)
  rw [ht] at hP1
  obtain ⟨hP, hD⟩ := va_join (wr := []) (w1 := [(mo, .inr (10, [.int 0, .ref mr, .int 1, .long (-2726603396459008081)]))]) hP hD [0] [] rfl rfl (by decide) (by decide) hk1 hFc hP1 hD1
  have hP : va_P (dC, dI) vwCl [(mo, .inr (10, [.int 0, .ref mr, .int 1, .long (-2726603396459008081)]))] H90 := hP
  have hD : va_D A [(mo, .inr (10, [.int 0, .ref mr, .int 1, .long (-2726603396459008081)]))] := hD
  refine lv_iinc (v := 18) (lv' := [(1, .int 18), (0, .ref mo)]) hx hb dX8_digest_29 hl (k := 0) rfl (by decide) (by decide) rfl (fun ls hl => ?_)
  refine lv_goto (tgt := 14) hx hb dX8_digest_32 (by decide) ?_
  refine lv_iload_n hx hb dX8_digest_14 rfl (lv_at hl 0 rfl) ?_
  refine lv_bipush (v := 19) hx hb dX8_digest_15 (by decide) ?_
  refine lv_icmp_ge (tgt := 35) hx hb dX8_digest_17 (by decide) (fun h => absurd h (by decide)) (fun _ => ?_)
  refine lv_aload_n hx hb dX8_digest_20 rfl (lv_at hl 1 rfl) ?_
  refine lv_aload_n hx hb dX8_digest_21 rfl (lv_at hl 1 rfl) ?_
  refine lv_iload_n hx hb dX8_digest_22 rfl (lv_at hl 0 rfl) ?_
  have hPr := (show va_P (dC, dI) vwCl [(mo, .inr (10, [.int 0, .ref mr, .int 1, .long (-2726603396459008081)])), (mr, .inr (9, [.ref ll, .ref lt, .ref lp, .int (-1), .int 0, .int 0, .int 0, .int 0, .int 0, .int 0, .int (-1), .int 0, .int 0, .int 0])), (ll, .inr (1, [.int 0, .ref ed, .int 0])), (lt, .inr (1, [.int 0, .ref ed, .int 0])), (lp, .inr (1, [.int 0, .ref ed, .int 0]))] H90 from (zo_cons ((hP) 0 _ rfl) (zo_cons (((zo_R hR0 hS hAr)) 0 _ rfl) (zo_cons (((zo_R hR0 hS hAr)) 1 _ rfl) (zo_cons (((zo_R hR0 hS hAr)) 2 _ rfl) (zo_cons (((zo_R hR0 hS hAr)) 3 _ rfl) (zo_nil : va_P (dC, dI) vwCl [] H90)))))))
  have hPc := hP.sub (ws' := []) [] rfl
  have hDc := hD.sub (ws' := []) [] (by decide) rfl
  have hKc := hK.sub (tys' := []) [] rfl
  have hFc := va_free (wc := []) hD hS hA [] rfl
  refine va_calli (va_runV (As := [.int 18]) (rest := [.ref mo]) ⟨hx, hb, hml, hown, hts⟩ (cz_manyNow l dC dI ed H90.size mo mr ll lt lp 0 (-2726603396459008081) 18 (by decide)) (cwV 1 hts gX8_digest_X8_manyNow rfl rfl rfl (by decide +kernel) ⟨Nat.le_of_ble_eq_true rfl, Nat.le_of_ble_eq_true rfl⟩) ⟨zb_blind, va_recv hK hP (ci := 10) (q0 := 0) rfl rfl, fun U hU hW => ⟨rfl, zb_mk hU hW hPr hPc hKc hDc hN hH hS hFc zx_e⟩⟩ rfl rfl hl.1 rfl (lv_room (Nat.le_of_ble_eq_true rfl)) dX8_digest_23 ⟨Nat.le_of_ble_eq_true rfl, Nat.le_of_ble_eq_true rfl⟩) hS (fun q _ h => hFc q h) hFc (fun r94 u t H93 locs ht hvm hw hB hz1 hk1 hS => ?_)
  obtain rfl : r94 = 0 := hw.trans (by decide +kernel)
  have hP := zo_K hP hk1
  have hPr := (zo_nil : va_P (dC, dI) vwCl [] H93)
  have hPc := hP.sub (ws' := [(mo, .inr (10, [.int 0, .ref mr, .int 1, .long (-2726603396459008081)]))]) [0] rfl
  have hDc := hD.sub (ws' := [(mo, .inr (10, [.int 0, .ref mr, .int 1, .long (-2726603396459008081)]))]) [0] (by decide) rfl
  have hKc := hK.sub (tys' := []) [] rfl
  have hFc := va_free (wc := [(mo, .inr (10, [.int 0, .ref mr, .int 1, .long (-2726603396459008081)]))]) hD hS hA [0] rfl
  refine va_callv (va_runV (As := [.int 0]) (rest := []) ⟨hx, hb, hml, hown, hts⟩ (cz_X8_add l dC dI ed H93.size mo mr 0 (-2726603396459008081) 0) (cwV 1 hts gX8_digest_X8_add rfl rfl rfl (by decide +kernel) ⟨Nat.le_of_ble_eq_true rfl, Nat.le_of_ble_eq_true rfl⟩) ⟨zb_blind, va_recv hK hP (ci := 10) (q0 := 0) rfl rfl, fun U hU hW => ⟨rfl, zb_mk hU hW hPr hPc hKc hDc hN hH hS hFc zx_nil⟩⟩ rfl rfl hl.1 rfl (lv_room (Nat.le_of_ble_eq_true rfl)) dX8_digest_26 ⟨Nat.le_of_ble_eq_true rfl, Nat.le_of_ble_eq_true rfl⟩) hS (fun q _ h => hFc q h) hFc (fun u t H95 locs ht hvm hw hB hz1 hk1 hS => ?_)
  obtain ⟨s1_97, hf97_0, hP1, hD1, hK1⟩ := hB
  obtain rfl : s1_97 = 7709015078318507569 := hf97_0.trans (by decide +kernel)
  rw [ht] at hP1
  obtain ⟨hP, hD⟩ := va_join (wr := []) (w1 := [(mo, .inr (10, [.int 0, .ref mr, .int 1, .long 7709015078318507569]))]) hP hD [0] [] rfl rfl (by decide) (by decide) hk1 hFc hP1 hD1
  have hP : va_P (dC, dI) vwCl [(mo, .inr (10, [.int 0, .ref mr, .int 1, .long 7709015078318507569]))] H95 := hP
  have hD : va_D A [(mo, .inr (10, [.int 0, .ref mr, .int 1, .long 7709015078318507569]))] := hD
  refine lv_iinc (v := 19) (lv' := [(1, .int 19), (0, .ref mo)]) hx hb dX8_digest_29 hl (k := 0) rfl (by decide) (by decide) rfl (fun ls hl => ?_)
  refine lv_goto (tgt := 14) hx hb dX8_digest_32 (by decide) ?_
  refine lv_iload_n hx hb dX8_digest_14 rfl (lv_at hl 0 rfl) ?_
  refine lv_bipush (v := 19) hx hb dX8_digest_15 (by decide) ?_
  refine lv_icmp_ge (tgt := 35) hx hb dX8_digest_17 (by decide) (fun _ => ?_) (fun h => absurd h (by decide))
  refine lv_iconst (v := 0) hx hb dX8_digest_35 (by decide) ?_
  refine lv_istore_n (lv' := [(1, .int 0), (0, .ref mo)]) hx hb dX8_digest_36 rfl hl (by decide) rfl (fun ls hl => ?_)
  refine lv_iload_n hx hb dX8_digest_37 rfl (lv_at hl 0 rfl) ?_
  refine lv_aload_n hx hb dX8_digest_38 rfl (lv_at hl 1 rfl) ?_
  refine va_get (D := (dC, dI)) (ci := 10) (v := .ref mr) (C := RX8) (T := TX8) (N := 4) hx hb hts zi_X8_digest_X8 hown hK hP 0 rfl rfl 1 (by decide) (hts (.fieldLink RX8 10 "LockRoomsModel" "room" "LLockRoomsModel$Room;") (by decide +kernel)) (fun _ h9 => h9) rfl dX8_digest_39 ?_
  refine va_getN (D := (dC, dI)) (ci := 9) (v := .ref ll) (C := RX7) (T := TX7) (N := 14) hx hb hts zi_X8_digest_X7 hown hK (zo_R hR0 hS hAr) 0 rfl rfl 0 (by decide) (va_Nw.use rfl (hN.1 ("LockRoomsModel", 24, "LockRoomsModel$Room", "locks", "Ljava/util/ArrayList;", "LockRoomsModel") (List.mem_of_getElem? (i := 1) rfl))) (fun _ h9 => h9) rfl dX8_digest_42 ?_
  have hPr := ((zo_R hR0 hS hAr)).sub (ws' := [(ll, .inr (1, [.int 0, .ref ed, .int 0]))]) [1] rfl
  have hPc := hP.sub (ws' := []) [] rfl
  have hDc := hD.sub (ws' := []) [] (by decide) rfl
  have hKc := hK.sub (tys' := []) [] rfl
  have hFc := va_free (wc := []) hD hS hA [] rfl
  refine va_calli (va_runV (As := []) (rest := [.int 0]) ⟨hx, hb, hml, hown, hts⟩ (cz_size0 l dC dI ed H95.size ll) (cwV 0 hts gX8_digest_Jx4a65c_size_8abf5 rfl rfl rfl (by decide +kernel) ⟨Nat.le_of_ble_eq_true rfl, Nat.le_of_ble_eq_true rfl⟩) ⟨zb_blind, va_recv hK (zo_R hR0 hS hAr) (ci := 1) (q0 := 1) rfl rfl, fun U hU hW => ⟨rfl, zb_mk hU hW hPr hPc hKc hDc hN hH hS hFc zx_e⟩⟩ rfl rfl hl.1 rfl (lv_room (Nat.le_of_ble_eq_true rfl)) dX8_digest_45 ⟨Nat.le_of_ble_eq_true rfl, Nat.le_of_ble_eq_true rfl⟩) hS (fun q _ h => hFc q h) hFc (fun r99 u t H98 locs ht hvm hw hB hz1 hk1 hS => ?_)
  obtain rfl : r99 = 0 := hw
  have hP := zo_K hP hk1
  refine lv_icmp_ge (tgt := 81) hx hb dX8_digest_48 (by decide) (fun _ => ?_) (fun h => absurd h (by decide))
  refine lv_iconst (v := 0) hx hb dX8_digest_81 (by decide) ?_
  refine lv_istore_n (lv' := [(1, .int 0), (0, .ref mo)]) hx hb dX8_digest_82 rfl hl (by decide) rfl (fun ls hl => ?_)
  refine lv_iload_n hx hb dX8_digest_83 rfl (lv_at hl 0 rfl) ?_
  refine lv_aload_n hx hb dX8_digest_84 rfl (lv_at hl 1 rfl) ?_
  refine va_get (D := (dC, dI)) (ci := 10) (v := .ref mr) (C := RX8) (T := TX8) (N := 4) hx hb hts zi_X8_digest_X8 hown hK hP 0 rfl rfl 1 (by decide) (hts (.fieldLink RX8 10 "LockRoomsModel" "room" "LLockRoomsModel$Room;") (by decide +kernel)) (fun _ h9 => h9) rfl dX8_digest_85 ?_
  refine va_getN (D := (dC, dI)) (ci := 9) (v := .ref lt) (C := RX7) (T := TX7) (N := 14) hx hb hts zi_X8_digest_X7 hown hK (zo_R hR0 hS hAr) 0 rfl rfl 1 (by decide) (va_Nw.use rfl (hN.1 ("LockRoomsModel", 38, "LockRoomsModel$Room", "things", "Ljava/util/ArrayList;", "LockRoomsModel") (List.mem_of_getElem? (i := 2) rfl))) (fun _ h9 => h9) rfl dX8_digest_88 ?_
  have hPr := ((zo_R hR0 hS hAr)).sub (ws' := [(lt, .inr (1, [.int 0, .ref ed, .int 0]))]) [2] rfl
  have hPc := hP.sub (ws' := []) [] rfl
  have hDc := hD.sub (ws' := []) [] (by decide) rfl
  have hKc := hK.sub (tys' := []) [] rfl
  have hFc := va_free (wc := []) hD hS hA [] rfl
  refine va_calli (va_runV (As := []) (rest := [.int 0]) ⟨hx, hb, hml, hown, hts⟩ (cz_size0 l dC dI ed H98.size lt) (cwV 0 hts gX8_digest_Jx4a65c_size_8abf5 rfl rfl rfl (by decide +kernel) ⟨Nat.le_of_ble_eq_true rfl, Nat.le_of_ble_eq_true rfl⟩) ⟨zb_blind, va_recv hK (zo_R hR0 hS hAr) (ci := 1) (q0 := 2) rfl rfl, fun U hU hW => ⟨rfl, zb_mk hU hW hPr hPc hKc hDc hN hH hS hFc zx_e⟩⟩ rfl rfl hl.1 rfl (lv_room (Nat.le_of_ble_eq_true rfl)) dX8_digest_91 ⟨Nat.le_of_ble_eq_true rfl, Nat.le_of_ble_eq_true rfl⟩) hS (fun q _ h => hFc q h) hFc (fun r101 u t H100 locs ht hvm hw hB hz1 hk1 hS => ?_)
  obtain rfl : r101 = 0 := hw
  have hP := zo_K hP hk1
  refine lv_icmp_ge (tgt := 127) hx hb dX8_digest_94 (by decide) (fun _ => ?_) (fun h => absurd h (by decide))
  refine lv_aload_n hx hb dX8_digest_127 rfl (lv_at hl 1 rfl) ?_
  refine va_get (D := (dC, dI)) (ci := 10) (v := .ref mr) (C := RX8) (T := TX8) (N := 4) hx hb hts zi_X8_digest_X8 hown hK hP 0 rfl rfl 1 (by decide) (hts (.fieldLink RX8 10 "LockRoomsModel" "room" "LLockRoomsModel$Room;") (by decide +kernel)) (fun _ h9 => h9) rfl dX8_digest_128 ?_
  refine va_getN (D := (dC, dI)) (ci := 9) (v := .ref lp) (C := RX7) (T := TX7) (N := 14) hx hb hts zi_X8_digest_X7 hown hK (zo_R hR0 hS hAr) 0 rfl rfl 2 (by decide) (va_Nw.use rfl (hN.1 ("LockRoomsModel", 59, "LockRoomsModel$Room", "players", "Ljava/util/ArrayList;", "LockRoomsModel") (List.mem_of_getElem? (i := 3) rfl))) (fun _ h9 => h9) rfl dX8_digest_131 ?_
  have hPr := ((zo_R hR0 hS hAr)).sub (ws' := [(lp, .inr (1, [.int 0, .ref ed, .int 0]))]) [3] rfl
  have hPc := hP.sub (ws' := []) [] rfl
  have hDc := hD.sub (ws' := []) [] (by decide) rfl
  have hKc := hK.sub (tys' := []) [] rfl
  have hFc := va_free (wc := []) hD hS hA [] rfl
  refine va_callr (va_runV (As := []) (rest := []) ⟨hx, hb, hml, hown, hts⟩ (cz_iterator l dC dI ed H100.size lp) (cwV 0 hts gX8_digest_Jx4a65c_iterator_32c93 rfl rfl rfl (by decide +kernel) ⟨Nat.le_of_ble_eq_true rfl, Nat.le_of_ble_eq_true rfl⟩) ⟨zb_blind, va_recv hK (zo_R hR0 hS hAr) (ci := 1) (q0 := 3) rfl rfl, fun U hU hW => ⟨rfl, zb_mk hU hW hPr hPc hKc hDc hN hH hS hFc zx_e⟩⟩ rfl rfl hl.1 rfl (lv_room (Nat.le_of_ble_eq_true rfl)) dX8_digest_134 ⟨Nat.le_of_ble_eq_true rfl, Nat.le_of_ble_eq_true rfl⟩) hS (fun q _ h => hFc q h) hFc (fun u r103 t H102 locs ht hvm hw hB hz1 hk1 hS => ?_)
  obtain ⟨hP1, hD1, hK1⟩ := hB
  rw [ht] at hP1
  obtain ⟨hP, hD⟩ := va_join (wr := [(mo, .inr (10, [.int 0, .ref mr, .int 1, .long 7709015078318507569]))]) (w1 := [(r103, .inr (0, [.int 0, .int (-1), .int 0, .ref lp]))]) hP hD [] [0] rfl rfl (by decide) (by decide) hk1 hFc hP1 hD1
  have hP : va_P (dC, dI) vwCl [(mo, .inr (10, [.int 0, .ref mr, .int 1, .long 7709015078318507569])), (r103, .inr (0, [.int 0, .int (-1), .int 0, .ref lp]))] H102 := hP
  have hD : va_D A [(mo, .inr (10, [.int 0, .ref mr, .int 1, .long 7709015078318507569])), (r103, .inr (0, [.int 0, .int (-1), .int 0, .ref lp]))] := hD
  refine lv_astore_n (lv' := [(1, .ref r103), (0, .ref mo)]) hx hb dX8_digest_137 rfl hl (by decide) rfl (fun ls hl => ?_)
  refine lv_aload_n hx hb dX8_digest_138 rfl (lv_at hl 0 rfl) ?_
  have hPr := (show va_P (dC, dI) vwCl [(r103, .inr (0, [.int 0, .int (-1), .int 0, .ref lp])), (lp, .inr (1, [.int 0, .ref ed, .int 0]))] H102 from (zo_cons ((hP) 1 _ rfl) (zo_cons (((zo_R hR0 hS hAr)) 3 _ rfl) (zo_nil : va_P (dC, dI) vwCl [] H102))))
  have hPc := hP.sub (ws' := []) [] rfl
  have hDc := hD.sub (ws' := []) [] (by decide) rfl
  have hKc := hK.sub (tys' := []) [] rfl
  have hFc := va_free (wc := []) hD hS hA [] rfl
  refine va_callFi (va_runF (As := []) (rest := []) (hK.1 0 _ rfl).2 ⟨hx, hb, hml, hown, hts⟩ (cz_hasNext l dC dI ed H102.size r103 lp) (va_cwF 0 hts gX8_digest_Jx35411_hasNext_aae02_f182Jx35411 rfl rfl rfl hN.2.2.2.2.2.2.2 (by decide +kernel) ⟨Nat.le_of_ble_eq_true rfl, Nat.le_of_ble_eq_true rfl⟩) ⟨zb_blind, va_recv hK hP (ci := 0) (q0 := 1) rfl rfl, fun U hU hW => ⟨rfl, zb_mk hU hW hPr hPc hKc hDc hN hH hS hFc zx_e⟩⟩ rfl rfl hl.1 rfl (lv_room (Nat.le_of_ble_eq_true rfl)) dX8_digest_139 ⟨Nat.le_of_ble_eq_true rfl, Nat.le_of_ble_eq_true rfl⟩) hS (fun q _ h => hFc q h) hFc (fun r106 u t H105 locs ht hvm hw hB hz1 hk1 hS => ?_)
  obtain rfl : r106 = 0 := hw
  have hP := zo_K hP hk1
  refine lv_if_eq (tgt := 194) hx hb dX8_digest_144 (by decide) (fun _ => ?_) (fun h => absurd h (by decide))
  refine lv_aload_n hx hb dX8_digest_194 rfl (lv_at hl 1 rfl) ?_
  refine lv_aload_n hx hb dX8_digest_195 rfl (lv_at hl 1 rfl) ?_
  refine va_get (D := (dC, dI)) (ci := 10) (v := .ref mr) (C := RX8) (T := TX8) (N := 4) hx hb hts zi_X8_digest_X8 hown hK hP 0 rfl rfl 1 (by decide) (hts (.fieldLink RX8 10 "LockRoomsModel" "room" "LLockRoomsModel$Room;") (by decide +kernel)) (fun _ h9 => h9) rfl dX8_digest_196 ?_
  have hPr := ((zo_R hR0 hS hAr)).sub (ws' := [(mr, .inr (9, [.ref ll, .ref lt, .ref lp, .int (-1), .int 0, .int 0, .int 0, .int 0, .int 0, .int 0, .int (-1), .int 0, .int 0, .int 0])), (ll, .inr (1, [.int 0, .ref ed, .int 0])), (lt, .inr (1, [.int 0, .ref ed, .int 0])), (lp, .inr (1, [.int 0, .ref ed, .int 0]))]) [0, 1, 2, 3] rfl
  have hPc := hP.sub (ws' := []) [] rfl
  have hDc := hD.sub (ws' := []) [] (by decide) rfl
  have hKc := hK.sub (tys' := []) [] rfl
  have hFc := va_free (wc := []) hD hS hA [] rfl
  refine va_calli (va_runV (As := []) (rest := [.ref mo]) ⟨hx, hb, hml, hown, hts⟩ (cz_depth0 l dC dI ed H105.size mr ll lt lp) (cwV 0 hts gX8_digest_X7_depth_ rfl rfl rfl (by decide +kernel) ⟨Nat.le_of_ble_eq_true rfl, Nat.le_of_ble_eq_true rfl⟩) ⟨zb_blind, va_recv hK (zo_R hR0 hS hAr) (ci := 9) (q0 := 0) rfl rfl, fun U hU hW => ⟨rfl, zb_mk hU hW hPr hPc hKc hDc hN hH hS hFc zx_e⟩⟩ rfl rfl hl.1 rfl (lv_room (Nat.le_of_ble_eq_true rfl)) dX8_digest_199 ⟨Nat.le_of_ble_eq_true rfl, Nat.le_of_ble_eq_true rfl⟩) hS (fun q _ h => hFc q h) hFc (fun r108 u t H107 locs ht hvm hw hB hz1 hk1 hS => ?_)
  obtain rfl : r108 = (-1) := hw
  have hP := zo_K hP hk1
  refine lv_iconst (v := (-1)) hx hb dX8_digest_202 (by decide) ?_
  refine lv_icmp_ne (tgt := 210) hx hb dX8_digest_203 (by decide) (fun h => absurd h (by decide)) (fun _ => ?_)
  refine lv_iconst (v := 0) hx hb dX8_digest_206 (by decide) ?_
  refine lv_goto (tgt := 211) hx hb dX8_digest_207 (by decide) ?_
  have hPr := (zo_nil : va_P (dC, dI) vwCl [] H107)
  have hPc := hP.sub (ws' := [(mo, .inr (10, [.int 0, .ref mr, .int 1, .long 7709015078318507569]))]) [0] rfl
  have hDc := hD.sub (ws' := [(mo, .inr (10, [.int 0, .ref mr, .int 1, .long 7709015078318507569]))]) [0] (by decide) rfl
  have hKc := hK.sub (tys' := []) [] rfl
  have hFc := va_free (wc := [(mo, .inr (10, [.int 0, .ref mr, .int 1, .long 7709015078318507569]))]) hD hS hA [0] rfl
  refine va_callv (va_runV (As := [.int 0]) (rest := []) ⟨hx, hb, hml, hown, hts⟩ (cz_X8_add l dC dI ed H107.size mo mr 0 7709015078318507569 0) (cwV 1 hts gX8_digest_X8_add rfl rfl rfl (by decide +kernel) ⟨Nat.le_of_ble_eq_true rfl, Nat.le_of_ble_eq_true rfl⟩) ⟨zb_blind, va_recv hK hP (ci := 10) (q0 := 0) rfl rfl, fun U hU hW => ⟨rfl, zb_mk hU hW hPr hPc hKc hDc hN hH hS hFc zx_nil⟩⟩ rfl rfl hl.1 rfl (lv_room (Nat.le_of_ble_eq_true rfl)) dX8_digest_211 ⟨Nat.le_of_ble_eq_true rfl, Nat.le_of_ble_eq_true rfl⟩) hS (fun q _ h => hFc q h) hFc (fun u t H109 locs ht hvm hw hB hz1 hk1 hS => ?_)
  obtain ⟨s1_111, hf111_0, hP1, hD1, hK1⟩ := hB
  obtain rfl : s1_111 = (-828205530350436369) := hf111_0.trans (by decide +kernel)
  rw [ht] at hP1
  obtain ⟨hP, hD⟩ := va_join (wr := [(r103, .inr (0, [.int 0, .int (-1), .int 0, .ref lp]))]) (w1 := [(mo, .inr (10, [.int 0, .ref mr, .int 1, .long (-828205530350436369)]))]) hP hD [0] [1] rfl rfl (by decide) (by decide) hk1 hFc hP1 hD1
  have hP : va_P (dC, dI) vwCl [(r103, .inr (0, [.int 0, .int (-1), .int 0, .ref lp])), (mo, .inr (10, [.int 0, .ref mr, .int 1, .long (-828205530350436369)]))] H109 := hP
  have hD : va_D A [(r103, .inr (0, [.int 0, .int (-1), .int 0, .ref lp])), (mo, .inr (10, [.int 0, .ref mr, .int 1, .long (-828205530350436369)]))] := hD
  refine lv_aload_n hx hb dX8_digest_214 rfl (lv_at hl 1 rfl) ?_
  refine lv_aload_n hx hb dX8_digest_215 rfl (lv_at hl 1 rfl) ?_
  refine va_get (D := (dC, dI)) (ci := 10) (v := .ref mr) (C := RX8) (T := TX8) (N := 4) hx hb hts zi_X8_digest_X8 hown hK hP 1 rfl rfl 1 (by decide) (hts (.fieldLink RX8 10 "LockRoomsModel" "room" "LLockRoomsModel$Room;") (by decide +kernel)) (fun _ h9 => h9) rfl dX8_digest_216 ?_
  have hPr := ((zo_R hR0 hS hAr)).sub (ws' := [(mr, .inr (9, [.ref ll, .ref lt, .ref lp, .int (-1), .int 0, .int 0, .int 0, .int 0, .int 0, .int 0, .int (-1), .int 0, .int 0, .int 0])), (ll, .inr (1, [.int 0, .ref ed, .int 0])), (lt, .inr (1, [.int 0, .ref ed, .int 0])), (lp, .inr (1, [.int 0, .ref ed, .int 0]))]) [0, 1, 2, 3] rfl
  have hPc := hP.sub (ws' := []) [] rfl
  have hDc := hD.sub (ws' := []) [] (by decide) rfl
  have hKc := hK.sub (tys' := []) [] rfl
  have hFc := va_free (wc := []) hD hS hA [] rfl
  refine va_calli (va_runV (As := []) (rest := [.ref mo]) ⟨hx, hb, hml, hown, hts⟩ (cz_stands7 l dC dI ed H109.size mr ll lt lp) (cwV 0 hts gX8_digest_X7_stands rfl rfl rfl (by decide +kernel) ⟨Nat.le_of_ble_eq_true rfl, Nat.le_of_ble_eq_true rfl⟩) ⟨zb_blind, va_recv hK (zo_R hR0 hS hAr) (ci := 9) (q0 := 0) rfl rfl, fun U hU hW => ⟨rfl, zb_mk hU hW hPr hPc hKc hDc hN hH hS hFc zx_e⟩⟩ rfl rfl hl.1 rfl (lv_room (Nat.le_of_ble_eq_true rfl)) dX8_digest_219 ⟨Nat.le_of_ble_eq_true rfl, Nat.le_of_ble_eq_true rfl⟩) hS (fun q _ h => hFc q h) hFc (fun r113 u t H112 locs ht hvm hw hB hz1 hk1 hS => ?_)
  obtain rfl : r113 = 1 := hw
  have hP := zo_K hP hk1
  have hPr := (zo_nil : va_P (dC, dI) vwCl [] H112)
  have hPc := hP.sub (ws' := [(mo, .inr (10, [.int 0, .ref mr, .int 1, .long (-828205530350436369)]))]) [1] rfl
  have hDc := hD.sub (ws' := [(mo, .inr (10, [.int 0, .ref mr, .int 1, .long (-828205530350436369)]))]) [1] (by decide) rfl
  have hKc := hK.sub (tys' := []) [] rfl
  have hFc := va_free (wc := [(mo, .inr (10, [.int 0, .ref mr, .int 1, .long (-828205530350436369)]))]) hD hS hA [1] rfl
  refine va_callv (va_runV (As := [.int 1]) (rest := []) ⟨hx, hb, hml, hown, hts⟩ (cz_X8_add l dC dI ed H112.size mo mr 0 (-828205530350436369) 1) (cwV 1 hts gX8_digest_X8_add rfl rfl rfl (by decide +kernel) ⟨Nat.le_of_ble_eq_true rfl, Nat.le_of_ble_eq_true rfl⟩) ⟨zb_blind, va_recv hK hP (ci := 10) (q0 := 1) rfl rfl, fun U hU hW => ⟨rfl, zb_mk hU hW hPr hPc hKc hDc hN hH hS hFc zx_nil⟩⟩ rfl rfl hl.1 rfl (lv_room (Nat.le_of_ble_eq_true rfl)) dX8_digest_222 ⟨Nat.le_of_ble_eq_true rfl, Nat.le_of_ble_eq_true rfl⟩) hS (fun q _ h => hFc q h) hFc (fun u t H114 locs ht hvm hw hB hz1 hk1 hS => ?_)
  obtain ⟨s1_116, hf116_0, hP1, hD1, hK1⟩ := hB
  obtain rfl : s1_116 = (-7227627367153975822) := hf116_0.trans (by decide +kernel)
  rw [ht] at hP1
  obtain ⟨hP, hD⟩ := va_join (wr := [(r103, .inr (0, [.int 0, .int (-1), .int 0, .ref lp]))]) (w1 := [(mo, .inr (10, [.int 0, .ref mr, .int 1, .long (-7227627367153975822)]))]) hP hD [1] [0] rfl rfl (by decide) (by decide) hk1 hFc hP1 hD1
  have hP : va_P (dC, dI) vwCl [(r103, .inr (0, [.int 0, .int (-1), .int 0, .ref lp])), (mo, .inr (10, [.int 0, .ref mr, .int 1, .long (-7227627367153975822)]))] H114 := hP
  have hD : va_D A [(r103, .inr (0, [.int 0, .int (-1), .int 0, .ref lp])), (mo, .inr (10, [.int 0, .ref mr, .int 1, .long (-7227627367153975822)]))] := hD
  refine lv_aload_n hx hb dX8_digest_225 rfl (lv_at hl 1 rfl) ?_
  refine lv_aload_n hx hb dX8_digest_226 rfl (lv_at hl 1 rfl) ?_
  refine va_get (D := (dC, dI)) (ci := 10) (v := .ref mr) (C := RX8) (T := TX8) (N := 4) hx hb hts zi_X8_digest_X8 hown hK hP 1 rfl rfl 1 (by decide) (hts (.fieldLink RX8 10 "LockRoomsModel" "room" "LLockRoomsModel$Room;") (by decide +kernel)) (fun _ h9 => h9) rfl dX8_digest_227 ?_
  have hPr := ((zo_R hR0 hS hAr)).sub (ws' := [(mr, .inr (9, [.ref ll, .ref lt, .ref lp, .int (-1), .int 0, .int 0, .int 0, .int 0, .int 0, .int 0, .int (-1), .int 0, .int 0, .int 0])), (ll, .inr (1, [.int 0, .ref ed, .int 0])), (lt, .inr (1, [.int 0, .ref ed, .int 0])), (lp, .inr (1, [.int 0, .ref ed, .int 0]))]) [0, 1, 2, 3] rfl
  have hPc := hP.sub (ws' := []) [] rfl
  have hDc := hD.sub (ws' := []) [] (by decide) rfl
  have hKc := hK.sub (tys' := []) [] rfl
  have hFc := va_free (wc := []) hD hS hA [] rfl
  refine va_calli (va_runV (As := []) (rest := [.ref mo]) ⟨hx, hb, hml, hown, hts⟩ (cz_deadEnds7 l dC dI ed H114.size mr ll lt lp) (cwV 0 hts gX8_digest_X7_deadEnds rfl rfl rfl (by decide +kernel) ⟨Nat.le_of_ble_eq_true rfl, Nat.le_of_ble_eq_true rfl⟩) ⟨zb_blind, va_recv hK (zo_R hR0 hS hAr) (ci := 9) (q0 := 0) rfl rfl, fun U hU hW => ⟨rfl, zb_mk hU hW hPr hPc hKc hDc hN hH hS hFc zx_e⟩⟩ rfl rfl hl.1 rfl (lv_room (Nat.le_of_ble_eq_true rfl)) dX8_digest_230 ⟨Nat.le_of_ble_eq_true rfl, Nat.le_of_ble_eq_true rfl⟩) hS (fun q _ h => hFc q h) hFc (fun r118 u t H117 locs ht hvm hw hB hz1 hk1 hS => ?_)
  obtain rfl : r118 = 1 := hw
  have hP := zo_K hP hk1
  have hPr := (zo_nil : va_P (dC, dI) vwCl [] H117)
  have hPc := hP.sub (ws' := [(mo, .inr (10, [.int 0, .ref mr, .int 1, .long (-7227627367153975822)]))]) [1] rfl
  have hDc := hD.sub (ws' := [(mo, .inr (10, [.int 0, .ref mr, .int 1, .long (-7227627367153975822)]))]) [1] (by decide) rfl
  have hKc := hK.sub (tys' := []) [] rfl
  have hFc := va_free (wc := [(mo, .inr (10, [.int 0, .ref mr, .int 1, .long (-7227627367153975822)]))]) hD hS hA [1] rfl
  refine va_callv (va_runV (As := [.int 1]) (rest := []) ⟨hx, hb, hml, hown, hts⟩ (cz_X8_add l dC dI ed H117.size mo mr 0 (-7227627367153975822) 1) (cwV 1 hts gX8_digest_X8_add rfl rfl rfl (by decide +kernel) ⟨Nat.le_of_ble_eq_true rfl, Nat.le_of_ble_eq_true rfl⟩) ⟨zb_blind, va_recv hK hP (ci := 10) (q0 := 1) rfl rfl, fun U hU hW => ⟨rfl, zb_mk hU hW hPr hPc hKc hDc hN hH hS hFc zx_nil⟩⟩ rfl rfl hl.1 rfl (lv_room (Nat.le_of_ble_eq_true rfl)) dX8_digest_233 ⟨Nat.le_of_ble_eq_true rfl, Nat.le_of_ble_eq_true rfl⟩) hS (fun q _ h => hFc q h) hFc (fun u t H119 locs ht hvm hw hB hz1 hk1 hS => ?_)
  obtain ⟨s1_121, hf121_0, hP1, hD1, hK1⟩ := hB
  obtain rfl : s1_121 = (-2695519497258631089) := hf121_0.trans (by decide +kernel)
  rw [ht] at hP1
  obtain ⟨hP, hD⟩ := va_join (wr := [(r103, .inr (0, [.int 0, .int (-1), .int 0, .ref lp]))]) (w1 := [(mo, .inr (10, [.int 0, .ref mr, .int 1, .long (-2695519497258631089)]))]) hP hD [1] [0] rfl rfl (by decide) (by decide) hk1 hFc hP1 hD1
  have hP : va_P (dC, dI) vwCl [(r103, .inr (0, [.int 0, .int (-1), .int 0, .ref lp])), (mo, .inr (10, [.int 0, .ref mr, .int 1, .long (-2695519497258631089)]))] H119 := hP
  have hD : va_D A [(r103, .inr (0, [.int 0, .int (-1), .int 0, .ref lp])), (mo, .inr (10, [.int 0, .ref mr, .int 1, .long (-2695519497258631089)]))] := hD
  refine lv_aload_n hx hb dX8_digest_236 rfl (lv_at hl 1 rfl) ?_
  refine lv_aload_n hx hb dX8_digest_237 rfl (lv_at hl 1 rfl) ?_
  refine va_get (D := (dC, dI)) (ci := 10) (v := .ref mr) (C := RX8) (T := TX8) (N := 4) hx hb hts zi_X8_digest_X8 hown hK hP 1 rfl rfl 1 (by decide) (hts (.fieldLink RX8 10 "LockRoomsModel" "room" "LLockRoomsModel$Room;") (by decide +kernel)) (fun _ h9 => h9) rfl dX8_digest_238 ?_
  have hPr := ((zo_R hR0 hS hAr)).sub (ws' := [(mr, .inr (9, [.ref ll, .ref lt, .ref lp, .int (-1), .int 0, .int 0, .int 0, .int 0, .int 0, .int 0, .int (-1), .int 0, .int 0, .int 0])), (ll, .inr (1, [.int 0, .ref ed, .int 0])), (lt, .inr (1, [.int 0, .ref ed, .int 0])), (lp, .inr (1, [.int 0, .ref ed, .int 0]))]) [0, 1, 2, 3] rfl
  have hPc := hP.sub (ws' := []) [] rfl
  have hDc := hD.sub (ws' := []) [] (by decide) rfl
  have hKc := hK.sub (tys' := []) [] rfl
  have hFc := va_free (wc := []) hD hS hA [] rfl
  refine va_calli (va_runV (As := []) (rest := [.ref mo]) ⟨hx, hb, hml, hown, hts⟩ (cz_depth0 l dC dI ed H119.size mr ll lt lp) (cwV 0 hts gX8_digest_X7_depth_ rfl rfl rfl (by decide +kernel) ⟨Nat.le_of_ble_eq_true rfl, Nat.le_of_ble_eq_true rfl⟩) ⟨zb_blind, va_recv hK (zo_R hR0 hS hAr) (ci := 9) (q0 := 0) rfl rfl, fun U hU hW => ⟨rfl, zb_mk hU hW hPr hPc hKc hDc hN hH hS hFc zx_e⟩⟩ rfl rfl hl.1 rfl (lv_room (Nat.le_of_ble_eq_true rfl)) dX8_digest_241 ⟨Nat.le_of_ble_eq_true rfl, Nat.le_of_ble_eq_true rfl⟩) hS (fun q _ h => hFc q h) hFc (fun r123 u t H122 locs ht hvm hw hB hz1 hk1 hS => ?_)
  obtain rfl : r123 = (-1) := hw
  have hP := zo_K hP hk1
  have hPr := (zo_nil : va_P (dC, dI) vwCl [] H122)
  have hPc := hP.sub (ws' := [(mo, .inr (10, [.int 0, .ref mr, .int 1, .long (-2695519497258631089)]))]) [1] rfl
  have hDc := hD.sub (ws' := [(mo, .inr (10, [.int 0, .ref mr, .int 1, .long (-2695519497258631089)]))]) [1] (by decide) rfl
  have hKc := hK.sub (tys' := []) [] rfl
  have hFc := va_free (wc := [(mo, .inr (10, [.int 0, .ref mr, .int 1, .long (-2695519497258631089)]))]) hD hS hA [1] rfl
  refine va_callv (va_runV (As := [.int (-1)]) (rest := []) ⟨hx, hb, hml, hown, hts⟩ (cz_X8_add l dC dI ed H122.size mo mr 0 (-2695519497258631089) (-1)) (cwV 1 hts gX8_digest_X8_add rfl rfl rfl (by decide +kernel) ⟨Nat.le_of_ble_eq_true rfl, Nat.le_of_ble_eq_true rfl⟩) ⟨zb_blind, va_recv hK hP (ci := 10) (q0 := 1) rfl rfl, fun U hU hW => ⟨rfl, zb_mk hU hW hPr hPc hKc hDc hN hH hS hFc zx_nil⟩⟩ rfl rfl hl.1 rfl (lv_room (Nat.le_of_ble_eq_true rfl)) dX8_digest_244 ⟨Nat.le_of_ble_eq_true rfl, Nat.le_of_ble_eq_true rfl⟩) hS (fun q _ h => hFc q h) hFc (fun u t H124 locs ht hvm hw hB hz1 hk1 hS => ?_)
  obtain ⟨s1_126, hf126_0, hP1, hD1, hK1⟩ := hB
  obtain rfl : s1_126 = 8672615953530194320 := hf126_0.trans (by decide +kernel)
  rw [ht] at hP1
  obtain ⟨hP, hD⟩ := va_join (wr := [(r103, .inr (0, [.int 0, .int (-1), .int 0, .ref lp]))]) (w1 := [(mo, .inr (10, [.int 0, .ref mr, .int 1, .long 8672615953530194320]))]) hP hD [1] [0] rfl rfl (by decide) (by decide) hk1 hFc hP1 hD1
  have hP : va_P (dC, dI) vwCl [(r103, .inr (0, [.int 0, .int (-1), .int 0, .ref lp])), (mo, .inr (10, [.int 0, .ref mr, .int 1, .long 8672615953530194320]))] H124 := hP
  have hD : va_D A [(r103, .inr (0, [.int 0, .int (-1), .int 0, .ref lp])), (mo, .inr (10, [.int 0, .ref mr, .int 1, .long 8672615953530194320]))] := hD
  refine lv_aload_n hx hb dX8_digest_247 rfl (lv_at hl 1 rfl) ?_
  refine lv_aload_n hx hb dX8_digest_248 rfl (lv_at hl 1 rfl) ?_
  have hPr := (show va_P (dC, dI) vwCl [(mo, .inr (10, [.int 0, .ref mr, .int 1, .long 8672615953530194320])), (mr, .inr (9, [.ref ll, .ref lt, .ref lp, .int (-1), .int 0, .int 0, .int 0, .int 0, .int 0, .int 0, .int (-1), .int 0, .int 0, .int 0])), (ll, .inr (1, [.int 0, .ref ed, .int 0])), (lt, .inr (1, [.int 0, .ref ed, .int 0])), (lp, .inr (1, [.int 0, .ref ed, .int 0]))] H124 from (zo_cons ((hP) 1 _ rfl) (zo_cons (((zo_R hR0 hS hAr)) 0 _ rfl) (zo_cons (((zo_R hR0 hS hAr)) 1 _ rfl) (zo_cons (((zo_R hR0 hS hAr)) 2 _ rfl) (zo_cons (((zo_R hR0 hS hAr)) 3 _ rfl) (zo_nil : va_P (dC, dI) vwCl [] H124)))))))
  have hPc := hP.sub (ws' := []) [] rfl
  have hDc := hD.sub (ws' := []) [] (by decide) rfl
  have hKc := hK.sub (tys' := []) [] rfl
  have hFc := va_free (wc := []) hD hS hA [] rfl
  refine va_calli (va_runV (As := []) (rest := [.ref mo]) ⟨hx, hb, hml, hown, hts⟩ (cz_missNow l dC dI ed H124.size mo mr ll lt lp 0 8672615953530194320) (cwV 0 hts gX8_digest_X8_missNow rfl rfl rfl (by decide +kernel) ⟨Nat.le_of_ble_eq_true rfl, Nat.le_of_ble_eq_true rfl⟩) ⟨zb_blind, va_recv hK hP (ci := 10) (q0 := 1) rfl rfl, fun U hU hW => ⟨rfl, zb_mk hU hW hPr hPc hKc hDc hN hH hS hFc zx_e⟩⟩ rfl rfl hl.1 rfl (lv_room (Nat.le_of_ble_eq_true rfl)) dX8_digest_249 ⟨Nat.le_of_ble_eq_true rfl, Nat.le_of_ble_eq_true rfl⟩) hS (fun q _ h => hFc q h) hFc (fun r128 u t H127 locs ht hvm hw hB hz1 hk1 hS => ?_)
  obtain rfl : r128 = 0 := hw
  have hP := zo_K hP hk1
  have hPr := (zo_nil : va_P (dC, dI) vwCl [] H127)
  have hPc := hP.sub (ws' := [(mo, .inr (10, [.int 0, .ref mr, .int 1, .long 8672615953530194320]))]) [1] rfl
  have hDc := hD.sub (ws' := [(mo, .inr (10, [.int 0, .ref mr, .int 1, .long 8672615953530194320]))]) [1] (by decide) rfl
  have hKc := hK.sub (tys' := []) [] rfl
  have hFc := va_free (wc := [(mo, .inr (10, [.int 0, .ref mr, .int 1, .long 8672615953530194320]))]) hD hS hA [1] rfl
  refine va_callv (va_runV (As := [.int 0]) (rest := []) ⟨hx, hb, hml, hown, hts⟩ (cz_X8_add l dC dI ed H127.size mo mr 0 8672615953530194320 0) (cwV 1 hts gX8_digest_X8_add rfl rfl rfl (by decide +kernel) ⟨Nat.le_of_ble_eq_true rfl, Nat.le_of_ble_eq_true rfl⟩) ⟨zb_blind, va_recv hK hP (ci := 10) (q0 := 1) rfl rfl, fun U hU hW => ⟨rfl, zb_mk hU hW hPr hPc hKc hDc hN hH hS hFc zx_nil⟩⟩ rfl rfl hl.1 rfl (lv_room (Nat.le_of_ble_eq_true rfl)) dX8_digest_252 ⟨Nat.le_of_ble_eq_true rfl, Nat.le_of_ble_eq_true rfl⟩) hS (fun q _ h => hFc q h) hFc (fun u t H129 locs ht hvm hw hB hz1 hk1 hS => ?_)
  obtain ⟨s1_131, hf131_0, hP1, hD1, hK1⟩ := hB
  obtain rfl : s1_131 = (-7850066546207250320) := hf131_0.trans (by decide +kernel)
  rw [ht] at hP1
  obtain ⟨hP, hD⟩ := va_join (wr := [(r103, .inr (0, [.int 0, .int (-1), .int 0, .ref lp]))]) (w1 := [(mo, .inr (10, [.int 0, .ref mr, .int 1, .long (-7850066546207250320)]))]) hP hD [1] [0] rfl rfl (by decide) (by decide) hk1 hFc hP1 hD1
  have hP : va_P (dC, dI) vwCl [(r103, .inr (0, [.int 0, .int (-1), .int 0, .ref lp])), (mo, .inr (10, [.int 0, .ref mr, .int 1, .long (-7850066546207250320)]))] H129 := hP
  have hD : va_D A [(r103, .inr (0, [.int 0, .int (-1), .int 0, .ref lp])), (mo, .inr (10, [.int 0, .ref mr, .int 1, .long (-7850066546207250320)]))] := hD
  refine lv_aload_n hx hb dX8_digest_255 rfl (lv_at hl 1 rfl) ?_
  refine lv_aload_n hx hb dX8_digest_256 rfl (lv_at hl 1 rfl) ?_
  refine va_get (D := (dC, dI)) (ci := 10) (v := .ref mr) (C := RX8) (T := TX8) (N := 4) hx hb hts zi_X8_digest_X8 hown hK hP 1 rfl rfl 1 (by decide) (hts (.fieldLink RX8 10 "LockRoomsModel" "room" "LLockRoomsModel$Room;") (by decide +kernel)) (fun _ h9 => h9) rfl dX8_digest_257 ?_
  have hPr := ((zo_R hR0 hS hAr)).sub (ws' := [(mr, .inr (9, [.ref ll, .ref lt, .ref lp, .int (-1), .int 0, .int 0, .int 0, .int 0, .int 0, .int 0, .int (-1), .int 0, .int 0, .int 0])), (ll, .inr (1, [.int 0, .ref ed, .int 0])), (lt, .inr (1, [.int 0, .ref ed, .int 0])), (lp, .inr (1, [.int 0, .ref ed, .int 0]))]) [0, 1, 2, 3] rfl
  have hPc := hP.sub (ws' := []) [] rfl
  have hDc := hD.sub (ws' := []) [] (by decide) rfl
  have hKc := hK.sub (tys' := []) [] rfl
  have hFc := va_free (wc := []) hD hS hA [] rfl
  refine va_calli (va_runV (As := []) (rest := [.ref mo]) ⟨hx, hb, hml, hown, hts⟩ (cz_bestHint7 l dC dI ed H129.size mr ll lt lp) (cwV 0 hts gX8_digest_X7_bestHint rfl rfl rfl (by decide +kernel) ⟨Nat.le_of_ble_eq_true rfl, Nat.le_of_ble_eq_true rfl⟩) ⟨zb_blind, va_recv hK (zo_R hR0 hS hAr) (ci := 9) (q0 := 0) rfl rfl, fun U hU hW => ⟨rfl, zb_mk hU hW hPr hPc hKc hDc hN hH hS hFc zx_e⟩⟩ rfl rfl hl.1 rfl (lv_room (Nat.le_of_ble_eq_true rfl)) dX8_digest_260 ⟨Nat.le_of_ble_eq_true rfl, Nat.le_of_ble_eq_true rfl⟩) hS (fun q _ h => hFc q h) hFc (fun r133 u t H132 locs ht hvm hw hB hz1 hk1 hS => ?_)
  obtain rfl : r133 = (-1) := hw
  have hP := zo_K hP hk1
  have hPr := (zo_nil : va_P (dC, dI) vwCl [] H132)
  have hPc := hP.sub (ws' := [(mo, .inr (10, [.int 0, .ref mr, .int 1, .long (-7850066546207250320)]))]) [1] rfl
  have hDc := hD.sub (ws' := [(mo, .inr (10, [.int 0, .ref mr, .int 1, .long (-7850066546207250320)]))]) [1] (by decide) rfl
  have hKc := hK.sub (tys' := []) [] rfl
  have hFc := va_free (wc := [(mo, .inr (10, [.int 0, .ref mr, .int 1, .long (-7850066546207250320)]))]) hD hS hA [1] rfl
  refine va_callv (va_runV (As := [.int (-1)]) (rest := []) ⟨hx, hb, hml, hown, hts⟩ (cz_X8_add l dC dI ed H132.size mo mr 0 (-7850066546207250320) (-1)) (cwV 1 hts gX8_digest_X8_add rfl rfl rfl (by decide +kernel) ⟨Nat.le_of_ble_eq_true rfl, Nat.le_of_ble_eq_true rfl⟩) ⟨zb_blind, va_recv hK hP (ci := 10) (q0 := 1) rfl rfl, fun U hU hW => ⟨rfl, zb_mk hU hW hPr hPc hKc hDc hN hH hS hFc zx_nil⟩⟩ rfl rfl hl.1 rfl (lv_room (Nat.le_of_ble_eq_true rfl)) dX8_digest_263 ⟨Nat.le_of_ble_eq_true rfl, Nat.le_of_ble_eq_true rfl⟩) hS (fun q _ h => hFc q h) hFc (fun u t H134 locs ht hvm hw hB hz1 hk1 hS => ?_)
  obtain ⟨s1_136, hf136_0, hP1, hD1, hK1⟩ := hB
  obtain rfl : s1_136 = (-3544389974200588913) := hf136_0.trans (by decide +kernel)
  rw [ht] at hP1
  obtain ⟨hP, hD⟩ := va_join (wr := [(r103, .inr (0, [.int 0, .int (-1), .int 0, .ref lp]))]) (w1 := [(mo, .inr (10, [.int 0, .ref mr, .int 1, .long (-3544389974200588913)]))]) hP hD [1] [0] rfl rfl (by decide) (by decide) hk1 hFc hP1 hD1
  have hP : va_P (dC, dI) vwCl [(r103, .inr (0, [.int 0, .int (-1), .int 0, .ref lp])), (mo, .inr (10, [.int 0, .ref mr, .int 1, .long (-3544389974200588913)]))] H134 := hP
  have hD : va_D A [(r103, .inr (0, [.int 0, .int (-1), .int 0, .ref lp])), (mo, .inr (10, [.int 0, .ref mr, .int 1, .long (-3544389974200588913)]))] := hD
  refine lv_aload_n hx hb dX8_digest_266 rfl (lv_at hl 1 rfl) ?_
  refine lv_aload_n hx hb dX8_digest_267 rfl (lv_at hl 1 rfl) ?_
  have hPr := (show va_P (dC, dI) vwCl [(mo, .inr (10, [.int 0, .ref mr, .int 1, .long (-3544389974200588913)])), (mr, .inr (9, [.ref ll, .ref lt, .ref lp, .int (-1), .int 0, .int 0, .int 0, .int 0, .int 0, .int 0, .int (-1), .int 0, .int 0, .int 0])), (ll, .inr (1, [.int 0, .ref ed, .int 0])), (lt, .inr (1, [.int 0, .ref ed, .int 0])), (lp, .inr (1, [.int 0, .ref ed, .int 0]))] H134 from (zo_cons ((hP) 1 _ rfl) (zo_cons (((zo_R hR0 hS hAr)) 0 _ rfl) (zo_cons (((zo_R hR0 hS hAr)) 1 _ rfl) (zo_cons (((zo_R hR0 hS hAr)) 2 _ rfl) (zo_cons (((zo_R hR0 hS hAr)) 3 _ rfl) (zo_nil : va_P (dC, dI) vwCl [] H134)))))))
  have hPc := hP.sub (ws' := []) [] rfl
  have hDc := hD.sub (ws' := []) [] (by decide) rfl
  have hKc := hK.sub (tys' := []) [] rfl
  have hFc := va_free (wc := []) hD hS hA [] rfl
  refine va_calli (va_runV (As := []) (rest := [.ref mo]) ⟨hx, hb, hml, hown, hts⟩ (cz_endsNow l dC dI ed H134.size mo mr ll lt lp 0 (-3544389974200588913)) (cwV 0 hts gX8_digest_X8_endsNow rfl rfl rfl (by decide +kernel) ⟨Nat.le_of_ble_eq_true rfl, Nat.le_of_ble_eq_true rfl⟩) ⟨zb_blind, va_recv hK hP (ci := 10) (q0 := 1) rfl rfl, fun U hU hW => ⟨rfl, zb_mk hU hW hPr hPc hKc hDc hN hH hS hFc zx_e⟩⟩ rfl rfl hl.1 rfl (lv_room (Nat.le_of_ble_eq_true rfl)) dX8_digest_268 ⟨Nat.le_of_ble_eq_true rfl, Nat.le_of_ble_eq_true rfl⟩) hS (fun q _ h => hFc q h) hFc (fun r138 u t H137 locs ht hvm hw hB hz1 hk1 hS => ?_)
  obtain rfl : r138 = (-1) := hw
  have hP := zo_K hP hk1
  have hPr := (zo_nil : va_P (dC, dI) vwCl [] H137)
  have hPc := hP.sub (ws' := [(mo, .inr (10, [.int 0, .ref mr, .int 1, .long (-3544389974200588913)]))]) [1] rfl
  have hDc := hD.sub (ws' := [(mo, .inr (10, [.int 0, .ref mr, .int 1, .long (-3544389974200588913)]))]) [1] (by decide) rfl
  have hKc := hK.sub (tys' := []) [] rfl
  have hFc := va_free (wc := [(mo, .inr (10, [.int 0, .ref mr, .int 1, .long (-3544389974200588913)]))]) hD hS hA [1] rfl
  refine va_callv (va_runV (As := [.int (-1)]) (rest := []) ⟨hx, hb, hml, hown, hts⟩ (cz_X8_add l dC dI ed H137.size mo mr 0 (-3544389974200588913) (-1)) (cwV 1 hts gX8_digest_X8_add rfl rfl rfl (by decide +kernel) ⟨Nat.le_of_ble_eq_true rfl, Nat.le_of_ble_eq_true rfl⟩) ⟨zb_blind, va_recv hK hP (ci := 10) (q0 := 1) rfl rfl, fun U hU hW => ⟨rfl, zb_mk hU hW hPr hPc hKc hDc hN hH hS hFc zx_nil⟩⟩ rfl rfl hl.1 rfl (lv_room (Nat.le_of_ble_eq_true rfl)) dX8_digest_271 ⟨Nat.le_of_ble_eq_true rfl, Nat.le_of_ble_eq_true rfl⟩) hS (fun q _ h => hFc q h) hFc (fun u t H139 locs ht hvm hw hB hz1 hk1 hS => ?_)
  obtain ⟨s1_141, hf141_0, hP1, hD1, hK1⟩ := hB
  obtain rfl : s1_141 = 804375242039053392 := hf141_0.trans (by decide +kernel)
  rw [ht] at hP1
  obtain ⟨hP, hD⟩ := va_join (wr := [(r103, .inr (0, [.int 0, .int (-1), .int 0, .ref lp]))]) (w1 := [(mo, .inr (10, [.int 0, .ref mr, .int 1, .long 804375242039053392]))]) hP hD [1] [0] rfl rfl (by decide) (by decide) hk1 hFc hP1 hD1
  have hP : va_P (dC, dI) vwCl [(r103, .inr (0, [.int 0, .int (-1), .int 0, .ref lp])), (mo, .inr (10, [.int 0, .ref mr, .int 1, .long 804375242039053392]))] H139 := hP
  have hD : va_D A [(r103, .inr (0, [.int 0, .int (-1), .int 0, .ref lp])), (mo, .inr (10, [.int 0, .ref mr, .int 1, .long 804375242039053392]))] := hD
  refine lv_aload_n hx hb dX8_digest_274 rfl (lv_at hl 1 rfl) ?_
  refine va_get (D := (dC, dI)) (ci := 10) (v := .long 804375242039053392) (C := RX8) (T := TX8) (N := 4) hx hb hts zi_X8_digest_X8 hown hK hP 1 rfl rfl 3 (by decide) (hts (.fieldLink RX8 168 "LockRoomsModel" "sum" "J") (by decide +kernel)) (fun _ h9 => h9) rfl dX8_digest_275 ?_
  refine W.widen (k := 33) (n := 6544) (Nat.le_of_ble_eq_true rfl) (Nat.le_of_ble_eq_true rfl) ?_
  have hP9 := hP.sub (ws' := [(mo, .inr (10, [.int 0, .ref mr, .int 1, .long 804375242039053392]))]) [1] rfl
  have hD9 := hD.sub (ws' := [(mo, .inr (10, [.int 0, .ref mr, .int 1, .long 804375242039053392]))]) [1] (by decide) rfl
  have hK9 := hK.sub (tys' := []) [] rfl
  exact W.lret hx hb hr (fun t ht hW => ⟨⟨804375242039053392, (), rfl, rfl, ⟨by rw [ht]; exact hP9, hD9, va_K.moved hW.alike hK9⟩⟩, hS.F ht⟩) hS.2.2 dX8_digest_278


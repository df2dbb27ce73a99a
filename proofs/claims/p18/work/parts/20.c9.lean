set_option maxHeartbeats 4000000 in
set_option maxRecDepth 100000 in
theorem cz_QleastYet_0 (l : Launch) (dC : Nat → ClassId) (dI : Nat → Nat → Nat) (ed sz : Nat) (st : Nat) (a1 : Nat) (a2 : Nat) (a3 : Nat) (rm : Nat) (lk : Nat) (th : Nat) (pl : Nat) (gm : Nat) (cI : ClassId) (f2 : Nat → Int32) (cJ : ClassId) (f3 : Nat → Int32) (hf2_0 : f2 0 = 3) (hf3_1 : f3 1 = 0) (hf3_2 : f3 2 = 1) : Met l yX4_leastYet wsX4_leastYet ({ frames := 1, cells := 0, slots := 0, locals := 21 } : Jvm.Room) (va_Pc [.ref st, .ref rm, .int 0] (zB dC dI ed sz [(st, .inr (6, [.ref a1, .ref a2, .ref a3])), (rm, .inr (5, [.ref lk, .ref th, .ref pl, .ref gm, .int 2, .int 10, .int 0, .int 0, .int 1, .int 0, .int 0, .int 0])), (a2, .inl (cI, 1024, .inl f2)), (a3, .inl (cJ, 1024, .inl f3))] [] [(cI, .int), (cJ, .int)])) (va_Qi (fun (r : Int32) (_ : Unit) => r = 1) (fun (_ : Unit) (_ : State) => True) (va_A [] sz)) 0 0 (va_A [] sz) := by
  refine Met.ofW (cc := cX4_leastYet) (maxL := 6) (ret := (some .int)) (by decide) rfl ?_
  intro p e s m args below meth c s₁ B hml hv
  obtain ⟨rfl, hsz, hR0, hP, hK, hD0, hN, hH, hX0⟩ := hv
  have hx := B.exec
  have hb := B.bytes
  have hr := B.returns
  have hts := atoms_spec (ws := wsX4_leastYet) B.pre
  have hown : s.vm.findClass RX4 = some m.cls := findClass_of_methodNamed B.named
  have hlocks := B.notSynchronized
  subst hsz
  have hD := hD0.self (sz := s.heap.size)
  have hAr := zx_A hX0 hR0
  generalize hAe : va_A [] s.heap.size = A at hD hAr hH ⊢
  have hA : ∀ q : Nat, s.heap.size ≤ q → A q := fun q h => by rw [← hAe]; exact Or.inr h
  have hS : va_S A s.heap s.heap [] := va_S.rf
  have hl := lv_entry ([.ref st, .ref rm, .int 0]) (n := 6) (Nat.le_of_ble_eq_true rfl)
  rw [lg_entry_eq]
  generalize (lg_sl ([.ref st, .ref rm, .int 0]) ++ List.replicate (6 - (lg_sl ([.ref st, .ref rm, .int 0])).length) Slot.unset).toArray = ls at hl ⊢
  have hl : lv_has ls 6 [(0, .ref st), (1, .ref rm), (2, .int 0)] := hl
  refine lv_iconst (v := (-1)) hx hb dX4_leastYet_0 (by decide) ?_
  refine lv_istore_n (lv' := [(3, .int (-1)), (0, .ref st), (1, .ref rm), (2, .int 0)]) hx hb dX4_leastYet_1 rfl hl (by decide) rfl (fun ls hl => ?_)
  refine lv_iconst (v := 0) hx hb dX4_leastYet_2 (by decide) ?_
  refine lv_istore (lv' := [(4, .int 0), (3, .int (-1)), (0, .ref st), (1, .ref rm), (2, .int 0)]) hx hb dX4_leastYet_3 hl (by decide) rfl (fun ls hl => ?_)
  refine lv_iload hx hb dX4_leastYet_5 (lv_at hl 0 rfl) ?_
  refine lv_aload_n hx hb dX4_leastYet_7 rfl (lv_at hl 3 rfl) ?_
  refine va_get (D := (dC, dI)) (ci := 5) (v := .int 2) (C := RX3) (T := TX3) (N := 12) hx hb hts zi_X4_leastYet_X3 hown hK hR0 1 rfl rfl 4 (by decide) (hts (.fieldLink RX4 51 "LockRooms$Room" "lockCount" "I") (by decide +kernel)) (fun _ h9 => h9) rfl dX4_leastYet_8 ?_
  refine lv_icmp_ge (tgt := 74) hx hb dX4_leastYet_11 (by decide) (fun h => absurd h (by decide)) (fun _ => ?_)
  refine lv_aload_n hx hb dX4_leastYet_14 rfl (lv_at hl 2 rfl) ?_
  refine va_get (D := (dC, dI)) (ci := 6) (v := .ref a2) (C := RX4) (T := TX4) (N := 3) hx hb hts zi_X4_leastYet_X4 hown hK hR0 0 rfl rfl 1 (by decide) (hts (.fieldLink RX4 15 "LockRooms$Stands" "ways" "[I") (by decide +kernel)) (fun _ h9 => h9) rfl dX4_leastYet_15 ?_
  refine lv_iload_n hx hb dX4_leastYet_18 rfl (lv_at hl 4 rfl) ?_
  refine va_iald hx hb hK hR0 2 0 rfl rfl (by unfold vp_in; decide) dX4_leastYet_19 ?_
  refine zo_i (v := 3) (by rw [show Int32.toNatClampNeg 0 = 0 from by decide]; exact hf2_0) ?_
  refine lv_iload hx hb dX4_leastYet_20 (lv_at hl 0 rfl) ?_
  have hPr := (zo_nil : va_P (dC, dI) vwCl [] s.heap)
  have hPc := hP.sub (ws' := []) [] rfl
  have hDc := hD.sub (ws' := []) [] (by decide) rfl
  have hKc := hK.sub (tys' := []) [] rfl
  have hFc := va_free (wc := []) hD hS hA [] rfl
  refine va_calli (va_runSN (As := [.int 3, .int 0]) (rest := []) ⟨hx, hb, hml, hown, hts⟩ (cz_QisIn l dC dI ed s.heap.size 3 0) ⟨(va_cnB 2 hts gX4_leastYet_X6_isIn_n54 rfl rfl rfl (hN.2.1 ("LockRooms$Stands", 54, yX6_isIn, "LockRooms") (List.mem_of_getElem? (i := 6) rfl)) (hts (.initialized RX6) (by decide +kernel)) (by decide +kernel) ⟨Nat.le_of_ble_eq_true rfl, Nat.le_of_ble_eq_true rfl⟩), (hts (.static yX6_isIn) (by decide +kernel)), trivial⟩ ⟨zb_blind, fun U hU hW => ⟨rfl, zb_mk hU hW hPr hPc hKc hDc hN hH hS hFc zx_e⟩⟩ rfl rfl hl.1 rfl (lv_room (Nat.le_of_ble_eq_true rfl)) dX4_leastYet_22 ⟨Nat.le_of_ble_eq_true rfl, Nat.le_of_ble_eq_true rfl⟩) hS (fun q _ h => hFc q h) hFc (fun r2 u t H1 locs ht hvm hw hB hz1 hk1 hS => ?_)
  obtain rfl : r2 = 1 := hw.trans (by decide +kernel)
  have hP := zo_K hP hk1
  refine lv_if_eq (tgt := 41) hx hb dX4_leastYet_25 (by decide) (fun h => absurd h (by decide)) (fun _ => ?_)
  refine lv_aload_n hx hb dX4_leastYet_28 rfl (lv_at hl 2 rfl) ?_
  refine lv_iload_n hx hb dX4_leastYet_29 rfl (lv_at hl 4 rfl) ?_
  refine lv_iconst (v := 1) hx hb dX4_leastYet_30 (by decide) ?_
  refine lv_iload hx hb dX4_leastYet_31 (lv_at hl 0 rfl) ?_
  refine lv_ishl hx hb dX4_leastYet_33 ?_
  refine zo_i (v := 1) (by decide) ?_
  refine lv_ior hx hb dX4_leastYet_34 ?_
  refine zo_i (v := 1) (by decide) ?_
  have hPr := ((zo_R hR0 hS hAr)).sub (ws' := [(st, .inr (6, [.ref a1, .ref a2, .ref a3])), (a3, .inl (cJ, 1024, .inl f3))]) [0, 3] rfl
  have hPc := hP.sub (ws' := []) [] rfl
  have hDc := hD.sub (ws' := []) [] (by decide) rfl
  have hKc := hK.sub (tys' := [(cJ, .int)]) [1] rfl
  have hFc := va_free (wc := []) hD hS hA [] rfl
  refine va_calli (va_runV (As := [.int 1]) (rest := []) ⟨hx, hb, hml, hown, hts⟩ (cz_QyetBehind_1 l dC dI ed H1.size st a1 a2 a3 cJ f3 hf3_1) (cwV 1 hts gX4_leastYet_X4_yetBehind rfl rfl rfl (by decide +kernel) ⟨Nat.le_of_ble_eq_true rfl, Nat.le_of_ble_eq_true rfl⟩) ⟨zb_blind, va_recv hK (zo_R hR0 hS hAr) (ci := 6) (q0 := 0) rfl rfl, fun U hU hW => ⟨rfl, zb_mk hU hW hPr hPc hKc hDc hN hH hS hFc zx_e⟩⟩ rfl rfl hl.1 rfl (lv_room (Nat.le_of_ble_eq_true rfl)) dX4_leastYet_35 ⟨Nat.le_of_ble_eq_true rfl, Nat.le_of_ble_eq_true rfl⟩) hS (fun q _ h => hFc q h) hFc (fun r4 u t H3 locs ht hvm hw hB hz1 hk1 hS => ?_)
  obtain rfl : r4 = 0 := hw
  have hP := zo_K hP hk1
  refine lv_goto (tgt := 42) hx hb dX4_leastYet_38 (by decide) ?_
  refine lv_istore (lv' := [(5, .int 0), (4, .int 0), (3, .int (-1)), (0, .ref st), (1, .ref rm), (2, .int 0)]) hx hb dX4_leastYet_42 hl (by decide) rfl (fun ls hl => ?_)
  refine lv_iload hx hb dX4_leastYet_44 (lv_at hl 0 rfl) ?_
  refine lv_iconst (v := (-1)) hx hb dX4_leastYet_46 (by decide) ?_
  refine lv_icmp_eq (tgt := 68) hx hb dX4_leastYet_47 (by decide) (fun h => absurd h (by decide)) (fun _ => ?_)
  refine lv_iload_n hx hb dX4_leastYet_50 rfl (lv_at hl 2 rfl) ?_
  refine lv_iconst (v := (-1)) hx hb dX4_leastYet_51 (by decide) ?_
  refine lv_icmp_eq (tgt := 63) hx hb dX4_leastYet_52 (by decide) (fun _ => ?_) (fun h => absurd h (by decide))
  refine lv_iload hx hb dX4_leastYet_63 (lv_at hl 0 rfl) ?_
  refine lv_iconst (v := 1) hx hb dX4_leastYet_65 (by decide) ?_
  refine lv_iadd hx hb dX4_leastYet_66 ?_
  refine zo_i (v := 1) (by decide) ?_
  refine lv_istore_n (lv' := [(3, .int 1), (5, .int 0), (4, .int 0), (0, .ref st), (1, .ref rm), (2, .int 0)]) hx hb dX4_leastYet_67 rfl hl (by decide) rfl (fun ls hl => ?_)
  refine lv_iinc (v := 1) (lv' := [(4, .int 1), (3, .int 1), (5, .int 0), (0, .ref st), (1, .ref rm), (2, .int 0)]) hx hb dX4_leastYet_68 hl (k := 2) rfl (by decide) (by decide) rfl (fun ls hl => ?_)
  refine lv_goto (tgt := 5) hx hb dX4_leastYet_71 (by decide) ?_
  refine lv_iload hx hb dX4_leastYet_5 (lv_at hl 0 rfl) ?_
  refine lv_aload_n hx hb dX4_leastYet_7 rfl (lv_at hl 4 rfl) ?_
  refine va_get (D := (dC, dI)) (ci := 5) (v := .int 2) (C := RX3) (T := TX3) (N := 12) hx hb hts zi_X4_leastYet_X3 hown hK (zo_R hR0 hS hAr) 1 rfl rfl 4 (by decide) (hts (.fieldLink RX4 51 "LockRooms$Room" "lockCount" "I") (by decide +kernel)) (fun _ h9 => h9) rfl dX4_leastYet_8 ?_
  refine lv_icmp_ge (tgt := 74) hx hb dX4_leastYet_11 (by decide) (fun h => absurd h (by decide)) (fun _ => ?_)
  refine lv_aload_n hx hb dX4_leastYet_14 rfl (lv_at hl 3 rfl) ?_
  refine va_get (D := (dC, dI)) (ci := 6) (v := .ref a2) (C := RX4) (T := TX4) (N := 3) hx hb hts zi_X4_leastYet_X4 hown hK (zo_R hR0 hS hAr) 0 rfl rfl 1 (by decide) (hts (.fieldLink RX4 15 "LockRooms$Stands" "ways" "[I") (by decide +kernel)) (fun _ h9 => h9) rfl dX4_leastYet_15 ?_
  refine lv_iload_n hx hb dX4_leastYet_18 rfl (lv_at hl 5 rfl) ?_
  refine va_iald hx hb hK (zo_R hR0 hS hAr) 2 0 rfl rfl (by unfold vp_in; decide) dX4_leastYet_19 ?_
  refine zo_i (v := 3) (by rw [show Int32.toNatClampNeg 0 = 0 from by decide]; exact hf2_0) ?_
  refine lv_iload hx hb dX4_leastYet_20 (lv_at hl 0 rfl) ?_
  have hPr := (zo_nil : va_P (dC, dI) vwCl [] H3)
  have hPc := hP.sub (ws' := []) [] rfl
  have hDc := hD.sub (ws' := []) [] (by decide) rfl
  have hKc := hK.sub (tys' := []) [] rfl
  have hFc := va_free (wc := []) hD hS hA [] rfl
  refine va_calli (va_runSN (As := [.int 3, .int 1]) (rest := []) ⟨hx, hb, hml, hown, hts⟩ (cz_QisIn l dC dI ed H3.size 3 1) ⟨(va_cnB 2 hts gX4_leastYet_X6_isIn_n54 rfl rfl rfl (hN.2.1 ("LockRooms$Stands", 54, yX6_isIn, "LockRooms") (List.mem_of_getElem? (i := 6) rfl)) (hts (.initialized RX6) (by decide +kernel)) (by decide +kernel) ⟨Nat.le_of_ble_eq_true rfl, Nat.le_of_ble_eq_true rfl⟩), (hts (.static yX6_isIn) (by decide +kernel)), trivial⟩ ⟨zb_blind, fun U hU hW => ⟨rfl, zb_mk hU hW hPr hPc hKc hDc hN hH hS hFc zx_e⟩⟩ rfl rfl hl.1 rfl (lv_room (Nat.le_of_ble_eq_true rfl)) dX4_leastYet_22 ⟨Nat.le_of_ble_eq_true rfl, Nat.le_of_ble_eq_true rfl⟩) hS (fun q _ h => hFc q h) hFc (fun r6 u t H5 locs ht hvm hw hB hz1 hk1 hS => ?_)
  obtain rfl : r6 = 1 := hw.trans (by decide +kernel)
  have hP := zo_K hP hk1
  refine lv_if_eq (tgt := 41) hx hb dX4_leastYet_25 (by decide) (fun h => absurd h (by decide)) (fun _ => ?_)
  refine lv_aload_n hx hb dX4_leastYet_28 rfl (lv_at hl 3 rfl) ?_
  refine lv_iload_n hx hb dX4_leastYet_29 rfl (lv_at hl 5 rfl) ?_
  refine lv_iconst (v := 1) hx hb dX4_leastYet_30 (by decide) ?_
  refine lv_iload hx hb dX4_leastYet_31 (lv_at hl 0 rfl) ?_
  refine lv_ishl hx hb dX4_leastYet_33 ?_
  refine zo_i (v := 2) (by decide) ?_
  refine lv_ior hx hb dX4_leastYet_34 ?_
  refine zo_i (v := 2) (by decide) ?_
  have hPr := ((zo_R hR0 hS hAr)).sub (ws' := [(st, .inr (6, [.ref a1, .ref a2, .ref a3])), (a3, .inl (cJ, 1024, .inl f3))]) [0, 3] rfl
  have hPc := hP.sub (ws' := []) [] rfl
  have hDc := hD.sub (ws' := []) [] (by decide) rfl
  have hKc := hK.sub (tys' := [(cJ, .int)]) [1] rfl
  have hFc := va_free (wc := []) hD hS hA [] rfl
  refine va_calli (va_runV (As := [.int 2]) (rest := []) ⟨hx, hb, hml, hown, hts⟩ (cz_QyetBehind_2 l dC dI ed H5.size st a1 a2 a3 cJ f3 hf3_2) (cwV 1 hts gX4_leastYet_X4_yetBehind rfl rfl rfl (by decide +kernel) ⟨Nat.le_of_ble_eq_true rfl, Nat.le_of_ble_eq_true rfl⟩) ⟨zb_blind, va_recv hK (zo_R hR0 hS hAr) (ci := 6) (q0 := 0) rfl rfl, fun U hU hW => ⟨rfl, zb_mk hU hW hPr hPc hKc hDc hN hH hS hFc zx_e⟩⟩ rfl rfl hl.1 rfl (lv_room (Nat.le_of_ble_eq_true rfl)) dX4_leastYet_35 ⟨Nat.le_of_ble_eq_true rfl, Nat.le_of_ble_eq_true rfl⟩) hS (fun q _ h => hFc q h) hFc (fun r8 u t H7 locs ht hvm hw hB hz1 hk1 hS => ?_)
  obtain rfl : r8 = 1 := hw
  have hP := zo_K hP hk1
  refine lv_goto (tgt := 42) hx hb dX4_leastYet_38 (by decide) ?_
  refine lv_istore (lv' := [(5, .int 1), (4, .int 1), (3, .int 1), (0, .ref st), (1, .ref rm), (2, .int 0)]) hx hb dX4_leastYet_42 hl (by decide) rfl (fun ls hl => ?_)
  refine lv_iload hx hb dX4_leastYet_44 (lv_at hl 0 rfl) ?_
  refine lv_iconst (v := (-1)) hx hb dX4_leastYet_46 (by decide) ?_
  refine lv_icmp_eq (tgt := 68) hx hb dX4_leastYet_47 (by decide) (fun h => absurd h (by decide)) (fun _ => ?_)
  refine lv_iload_n hx hb dX4_leastYet_50 rfl (lv_at hl 2 rfl) ?_
  refine lv_iconst (v := (-1)) hx hb dX4_leastYet_51 (by decide) ?_
  refine lv_icmp_eq (tgt := 63) hx hb dX4_leastYet_52 (by decide) (fun h => absurd h (by decide)) (fun _ => ?_)
  refine lv_iload hx hb dX4_leastYet_55 (lv_at hl 0 rfl) ?_
  refine lv_iconst (v := 1) hx hb dX4_leastYet_57 (by decide) ?_
  refine lv_iadd hx hb dX4_leastYet_58 ?_
  refine zo_i (v := 2) (by decide) ?_
  refine lv_iload_n hx hb dX4_leastYet_59 rfl (lv_at hl 2 rfl) ?_
  refine lv_icmp_ge (tgt := 68) hx hb dX4_leastYet_60 (by decide) (fun _ => ?_) (fun h => absurd h (by decide))
  refine lv_iinc (v := 2) (lv' := [(4, .int 2), (5, .int 1), (3, .int 1), (0, .ref st), (1, .ref rm), (2, .int 0)]) hx hb dX4_leastYet_68 hl (k := 1) rfl (by decide) (by decide) rfl (fun ls hl => ?_)
  refine lv_goto (tgt := 5) hx hb dX4_leastYet_71 (by decide) ?_
  refine lv_iload hx hb dX4_leastYet_5 (lv_at hl 0 rfl) ?_
  refine lv_aload_n hx hb dX4_leastYet_7 rfl (lv_at hl 4 rfl) ?_
  refine va_get (D := (dC, dI)) (ci := 5) (v := .int 2) (C := RX3) (T := TX3) (N := 12) hx hb hts zi_X4_leastYet_X3 hown hK (zo_R hR0 hS hAr) 1 rfl rfl 4 (by decide) (hts (.fieldLink RX4 51 "LockRooms$Room" "lockCount" "I") (by decide +kernel)) (fun _ h9 => h9) rfl dX4_leastYet_8 ?_
  refine lv_icmp_ge (tgt := 74) hx hb dX4_leastYet_11 (by decide) (fun _ => ?_) (fun h => absurd h (by decide))
  refine lv_iload_n hx hb dX4_leastYet_74 rfl (lv_at hl 2 rfl) ?_
  refine W.widen (k := 0) (n := 0) (Nat.le_of_ble_eq_true rfl) (Nat.le_of_ble_eq_true rfl) ?_
  exact W.iret hx hb hr (fun t ht hW => ⟨⟨1, (), rfl, rfl, trivial⟩, hS.F ht⟩) hS.2.2 dX4_leastYet_75
set_option maxHeartbeats 4000000 in
set_option maxRecDepth 100000 in
theorem cz_QgoOn_0 (l : Launch) (dC : Nat → ClassId) (dI : Nat → Nat → Nat) (ed sz : Nat) (st : Nat) (a1 : Nat) (a2 : Nat) (a3 : Nat) (rm : Nat) (lk : Nat) (th : Nat) (pl : Nat) (gm : Nat) (cL : ClassId) (fl : Nat → Option Nat) (l0 : Nat) (l1 : Nat) (cT : ClassId) (ft : Nat → Option Nat) (t0 : Nat) (t1 : Nat) (t2 : Nat) (t3 : Nat) (t4 : Nat) (t5 : Nat) (t6 : Nat) (t7 : Nat) (t8 : Nat) (t9 : Nat) (cZ : ClassId) (f1 : Nat → Int32) (cI : ClassId) (f2 : Nat → Int32) (x0 : Int32) (hkl0 : fl 0 = some l0) (hkl1 : fl 1 = some l1) (hkt0 : ft 0 = some t0) (hkt1 : ft 1 = some t1) (hkt2 : ft 2 = some t2) (hkt3 : ft 3 = some t3) (hkt4 : ft 4 = some t4) (hkt5 : ft 5 = some t5) (hkt6 : ft 6 = some t6) (hkt7 : ft 7 = some t7) (hkt8 : ft 8 = some t8) (hkt9 : ft 9 = some t9) (hf1_0 : f1 0 = 1) (hf1_1 : f1 1 = 0) (hf1_2 : f1 2 = 0) (hf1_3 : f1 3 = 0) : Met l yX4_goOn wsX4_goOn ({ frames := 2, cells := 0, slots := 0, locals := 46 } : Jvm.Room) (va_Pc [.ref st, .ref rm, .int 0, .int x0] (zB dC dI ed sz [(st, .inr (6, [.ref a1, .ref a2, .ref a3])), (rm, .inr (5, [.ref lk, .ref th, .ref pl, .ref gm, .int 2, .int 10, .int 0, .int 0, .int 1, .int 0, .int 0, .int 0])), (lk, .inl (cL, 10, .inr (.inr (.inr (.inr fl))))), (th, .inl (cT, 12, .inr (.inr (.inr (.inr ft))))), (l0, .inr (3, [.int 0, .int 0, .int 60, .int 0, .int 0, .int 0, .int 0, .int 0, .int 0, .int 0])), (l1, .inr (3, [.int 0, .int 0, .int 60, .int 0, .int 0, .int 0, .int 0, .int 0, .int 0, .int 0])), (t0, .inr (7, [.int (-1), .int 0, .int 0, .int 0, .int 0])), (t1, .inr (7, [.int (-1), .int 0, .int 0, .int 0, .int 0])), (t2, .inr (7, [.int (-1), .int 0, .int 0, .int 0, .int 0])), (t3, .inr (7, [.int (-1), .int 0, .int 0, .int 0, .int 0])), (t4, .inr (7, [.int (-1), .int 0, .int 0, .int 0, .int 0])), (t5, .inr (7, [.int (-1), .int 0, .int 0, .int 0, .int 0])), (t6, .inr (7, [.int (-1), .int 0, .int 0, .int 0, .int 0])), (t7, .inr (7, [.int (-1), .int 0, .int 0, .int 0, .int 0])), (t8, .inr (7, [.int (-1), .int 0, .int 0, .int 0, .int 0])), (t9, .inr (7, [.int (-1), .int 0, .int 0, .int 0, .int 0]))] [(a1, .inl (cZ, 1024, .inl f1)), (a2, .inl (cI, 1024, .inl f2))] [(cL, .object "LockRooms$Lock"), (cT, .object "LockRooms$Thing"), (cZ, .boolean), (cI, .int)])) (va_Qv (fun (_ : Unit) => True) (fun (_ : Unit) (t : State) => ∃ (g1 : Nat → Int32), ∃ (g2 : Nat → Int32), (g1 0 = 1 ∧ g1 1 = 1 ∧ g1 2 = 1 ∧ g1 3 = 0 ∧ g2 0 = 3) ∧ va_P (dC, dI) vwCl [(a1, .inl (cZ, 1024, .inl g1)), (a2, .inl (cI, 1024, .inl g2))] t.heap ∧ va_D (va_A [(a1, .inl (cZ, 1024, .inl f1)), (a2, .inl (cI, 1024, .inl f2))] sz) [(a1, .inl (cZ, 1024, .inl g1)), (a2, .inl (cI, 1024, .inl g2))] ∧ va_K (dC, dI) vwCl [(cZ, .boolean), (cI, .int)] t) (va_A [(a1, .inl (cZ, 1024, .inl f1)), (a2, .inl (cI, 1024, .inl f2))] sz)) 0 0 (va_A [(a1, .inl (cZ, 1024, .inl f1)), (a2, .inl (cI, 1024, .inl f2))] sz) := by
  refine Met.ofW (cc := cX4_goOn) (maxL := 8) (ret := none) (by decide) rfl ?_
  intro p e s m args below meth c s₁ B hml hv
  obtain ⟨rfl, hsz, hR0, hP, hK, hD0, hN, hH, hX0⟩ := hv
  have hx := B.exec
  have hb := B.bytes
  have hr := B.returns
  have hts := atoms_spec (ws := wsX4_goOn) B.pre
  have hown : s.vm.findClass RX4 = some m.cls := findClass_of_methodNamed B.named
  have hlocks := B.notSynchronized
  subst hsz
  have hD := hD0.self (sz := s.heap.size)
  have hAr := zx_A hX0 hR0
  generalize hAe : va_A [(a1, .inl (cZ, 1024, .inl f1)), (a2, .inl (cI, 1024, .inl f2))] s.heap.size = A at hD hAr hH ⊢
  have hA : ∀ q : Nat, s.heap.size ≤ q → A q := fun q h => by rw [← hAe]; exact Or.inr h
  have hS : va_S A s.heap s.heap [] := va_S.rf
  have hl := lv_entry ([.ref st, .ref rm, .int 0, .int x0]) (n := 8) (Nat.le_of_ble_eq_true rfl)
  rw [lg_entry_eq]
  generalize (lg_sl ([.ref st, .ref rm, .int 0, .int x0]) ++ List.replicate (8 - (lg_sl ([.ref st, .ref rm, .int 0, .int x0])).length) Slot.unset).toArray = ls at hl ⊢
  have hl : lv_has ls 8 [(0, .ref st), (1, .ref rm), (2, .int 0), (3, .int x0)] := hl
  refine lv_aload_n hx hb dX4_goOn_0 rfl (lv_at hl 1 rfl) ?_
  refine lv_iload_n hx hb dX4_goOn_1 rfl (lv_at hl 2 rfl) ?_
  have hPr := (hR0).sub (ws' := [(rm, .inr (5, [.ref lk, .ref th, .ref pl, .ref gm, .int 2, .int 10, .int 0, .int 0, .int 1, .int 0, .int 0, .int 0])), (lk, .inl (cL, 10, .inr (.inr (.inr (.inr fl))))), (th, .inl (cT, 12, .inr (.inr (.inr (.inr ft))))), (l0, .inr (3, [.int 0, .int 0, .int 60, .int 0, .int 0, .int 0, .int 0, .int 0, .int 0, .int 0])), (l1, .inr (3, [.int 0, .int 0, .int 60, .int 0, .int 0, .int 0, .int 0, .int 0, .int 0, .int 0])), (t0, .inr (7, [.int (-1), .int 0, .int 0, .int 0, .int 0])), (t1, .inr (7, [.int (-1), .int 0, .int 0, .int 0, .int 0])), (t2, .inr (7, [.int (-1), .int 0, .int 0, .int 0, .int 0])), (t3, .inr (7, [.int (-1), .int 0, .int 0, .int 0, .int 0])), (t4, .inr (7, [.int (-1), .int 0, .int 0, .int 0, .int 0])), (t5, .inr (7, [.int (-1), .int 0, .int 0, .int 0, .int 0])), (t6, .inr (7, [.int (-1), .int 0, .int 0, .int 0, .int 0])), (t7, .inr (7, [.int (-1), .int 0, .int 0, .int 0, .int 0])), (t8, .inr (7, [.int (-1), .int 0, .int 0, .int 0, .int 0])), (t9, .inr (7, [.int (-1), .int 0, .int 0, .int 0, .int 0]))]) [1, 2, 3, 4, 5, 6, 7, 8, 9, 10, 11, 12, 13, 14, 15] rfl
  have hPc := hP.sub (ws' := []) [] rfl
  have hDc := hD.sub (ws' := []) [] (by decide) rfl
  have hKc := hK.sub (tys' := [(cL, .object "LockRooms$Lock"), (cT, .object "LockRooms$Thing")]) [0, 1] rfl
  have hFc := va_free (wc := []) hD hS hA [] rfl
  refine va_calli (va_runV (As := [.int 0]) (rest := []) ⟨hx, hb, hml, hown, hts⟩ (cz_QthingsAtHand l dC dI ed s.heap.size rm lk th pl gm cL fl l0 l1 cT ft t0 t1 t2 t3 t4 t5 t6 t7 t8 t9 0 hkl0 hkl1 hkt0 hkt1 hkt2 hkt3 hkt4 hkt5 hkt6 hkt7 hkt8 hkt9) (cwV 1 hts gX4_goOn_X3_thingsAtHand rfl rfl rfl (by decide +kernel) ⟨Nat.le_of_ble_eq_true rfl, Nat.le_of_ble_eq_true rfl⟩) ⟨zb_blind, va_recv hK hR0 (ci := 5) (q0 := 1) rfl rfl, fun U hU hW => ⟨rfl, zb_mk hU hW hPr hPc hKc hDc hN hH hS hFc zx_e⟩⟩ rfl rfl hl.1 rfl (lv_room (Nat.le_of_ble_eq_true rfl)) dX4_goOn_2 ⟨Nat.le_of_ble_eq_true rfl, Nat.le_of_ble_eq_true rfl⟩) hS (fun q _ h => hFc q h) hFc (fun r2 u t H1 locs ht hvm hw hB hz1 hk1 hS => ?_)
  obtain rfl : r2 = 1023 := hw
  have hP := zo_K hP hk1
  refine lv_iload_n hx hb dX4_goOn_5 rfl (lv_at hl 3 rfl) ?_
  refine lv_iconst (v := (-1)) hx hb dX4_goOn_6 (by decide) ?_
  refine lv_ixor hx hb dX4_goOn_7 ?_
  refine lv_iand hx hb dX4_goOn_8 ?_
  refine lv_istore (lv' := [(4, .int (1023 &&& (x0 ^^^ (-1)))), (0, .ref st), (1, .ref rm), (2, .int 0), (3, .int x0)]) hx hb dX4_goOn_9 hl (by decide) rfl (fun ls hl => ?_)
  refine lv_iconst (v := 0) hx hb dX4_goOn_11 (by decide) ?_
  refine lv_istore (lv' := [(5, .int 0), (4, .int (1023 &&& (x0 ^^^ (-1)))), (0, .ref st), (1, .ref rm), (2, .int 0), (3, .int x0)]) hx hb dX4_goOn_12 hl (by decide) rfl (fun ls hl => ?_)
  refine lv_iconst (v := 0) hx hb dX4_goOn_14 (by decide) ?_
  refine lv_istore (lv' := [(6, .int 0), (5, .int 0), (4, .int (1023 &&& (x0 ^^^ (-1)))), (0, .ref st), (1, .ref rm), (2, .int 0), (3, .int x0)]) hx hb dX4_goOn_15 hl (by decide) rfl (fun ls hl => ?_)
  refine lv_iload hx hb dX4_goOn_17 (lv_at hl 0 rfl) ?_
  refine lv_aload_n hx hb dX4_goOn_19 rfl (lv_at hl 4 rfl) ?_
  refine va_get (D := (dC, dI)) (ci := 5) (v := .int 2) (C := RX3) (T := TX3) (N := 12) hx hb hts zi_X4_goOn_X3 hown hK (zo_R hR0 hS hAr) 1 rfl rfl 4 (by decide) (hts (.fieldLink RX4 51 "LockRooms$Room" "lockCount" "I") (by decide +kernel)) (fun _ h9 => h9) rfl dX4_goOn_20 ?_
  refine lv_icmp_ge (tgt := 86) hx hb dX4_goOn_23 (by decide) (fun h => absurd h (by decide)) (fun _ => ?_)
  refine lv_iload_n hx hb dX4_goOn_26 rfl (lv_at hl 5 rfl) ?_
  refine lv_iconst (v := 1) hx hb dX4_goOn_27 (by decide) ?_
  refine lv_iload hx hb dX4_goOn_28 (lv_at hl 0 rfl) ?_
  refine lv_ishl hx hb dX4_goOn_30 ?_
  refine zo_i (v := 1) (by decide) ?_
  refine lv_ior hx hb dX4_goOn_31 ?_
  refine zo_i (v := 1) (by decide) ?_
  refine lv_istore (lv' := [(7, .int 1), (6, .int 0), (5, .int 0), (4, .int (1023 &&& (x0 ^^^ (-1)))), (0, .ref st), (1, .ref rm), (2, .int 0), (3, .int x0)]) hx hb dX4_goOn_32 hl (by decide) rfl (fun ls hl => ?_)
  refine lv_iload hx hb dX4_goOn_34 (lv_at hl 0 rfl) ?_
  refine lv_iload_n hx hb dX4_goOn_36 rfl (lv_at hl 6 rfl) ?_
  refine lv_icmp_eq (tgt := 80) hx hb dX4_goOn_37 (by decide) (fun h => absurd h (by decide)) (fun _ => ?_)
  refine lv_iload hx hb dX4_goOn_40 (lv_at hl 0 rfl) ?_
  refine lv_sipush (v := 1024) hx hb dX4_goOn_42 (by decide) ?_
  refine lv_icmp_ge (tgt := 80) hx hb dX4_goOn_45 (by decide) (fun h => absurd h (by decide)) (fun _ => ?_)
  refine lv_aload_n hx hb dX4_goOn_48 rfl (lv_at hl 5 rfl) ?_
  refine va_get (D := (dC, dI)) (ci := 5) (v := .ref lk) (C := RX3) (T := TX3) (N := 12) hx hb hts zi_X4_goOn_X3 hown hK (zo_R hR0 hS hAr) 1 rfl rfl 0 (by decide) (hts (.fieldLink RX4 78 "LockRooms$Room" "locks" "[LLockRooms$Lock;") (by decide +kernel)) (fun _ h9 => h9) rfl dX4_goOn_49 ?_
  refine lv_iload hx hb dX4_goOn_52 (lv_at hl 1 rfl) ?_
  refine va_aldq hx hb hK (zo_R hR0 hS hAr) 2 0 rfl rfl (by unfold vp_in; decide) dX4_goOn_54 ?_
  refine zo_q (v := .ref l0) (by rw [show Int32.toNatClampNeg 0 = 0 from by decide, hkl0]; rfl) ?_
  refine lv_iload hx hb dX4_goOn_55 (lv_at hl 3 rfl) ?_
  have hPr := ((zo_R hR0 hS hAr)).sub (ws' := [(l0, .inr (3, [.int 0, .int 0, .int 60, .int 0, .int 0, .int 0, .int 0, .int 0, .int 0, .int 0]))]) [4] rfl
  have hPc := hP.sub (ws' := []) [] rfl
  have hDc := hD.sub (ws' := []) [] (by decide) rfl
  have hKc := hK.sub (tys' := []) [] rfl
  have hFc := va_free (wc := []) hD hS hA [] rfl
  refine va_calli (va_runV (As := [.int (1023 &&& (x0 ^^^ (-1)))]) (rest := []) ⟨hx, hb, hml, hown, hts⟩ (cz_QisReady l dC dI ed H1.size l0 (1023 &&& (x0 ^^^ (-1)))) (cwV 1 hts gX4_goOn_X1_isReady rfl rfl rfl (by decide +kernel) ⟨Nat.le_of_ble_eq_true rfl, Nat.le_of_ble_eq_true rfl⟩) ⟨zb_blind, va_recv hK (zo_R hR0 hS hAr) (ci := 3) (q0 := 4) rfl rfl, fun U hU hW => ⟨rfl, zb_mk hU hW hPr hPc hKc hDc hN hH hS hFc zx_e⟩⟩ rfl rfl hl.1 rfl (lv_room (Nat.le_of_ble_eq_true rfl)) dX4_goOn_57 ⟨Nat.le_of_ble_eq_true rfl, Nat.le_of_ble_eq_true rfl⟩) hS (fun q _ h => hFc q h) hFc (fun r4 u t H3 locs ht hvm hw hB hz1 hk1 hS => ?_)
  obtain rfl : r4 = 1 := hw
  have hP := zo_K hP hk1
  refine lv_if_eq (tgt := 80) hx hb dX4_goOn_60 (by decide) (fun h => absurd h (by decide)) (fun _ => ?_)
  refine lv_aload_n hx hb dX4_goOn_63 rfl (lv_at hl 4 rfl) ?_
  refine va_get (D := (dC, dI)) (ci := 6) (v := .ref a1) (C := RX4) (T := TX4) (N := 3) hx hb hts zi_X4_goOn_X4 hown hK (zo_R hR0 hS hAr) 0 rfl rfl 0 (by decide) (hts (.fieldLink RX4 9 "LockRooms$Stands" "isReached" "[Z") (by decide +kernel)) (fun _ h9 => h9) rfl dX4_goOn_64 ?_
  refine lv_iload hx hb dX4_goOn_67 (lv_at hl 0 rfl) ?_
  refine lv_iconst (v := 1) hx hb dX4_goOn_69 (by decide) ?_
  refine va_zast hx hb hK hP hD hS 0 2 rfl rfl (by unfold vp_in; decide) dX4_goOn_70 (fun H5 locs hP hD hS => ?_)
  obtain ⟨f6, ef6⟩ : ∃ z : Nat → Int32, z = upd f1 1 (vp_nar .boolean 1) := ⟨_, rfl⟩
  have k7 : f6 0 = 1 := by rw [ef6]; exact (pk_un (by decide)).trans (hf1_0)
  have k8 : f6 2 = 0 := by rw [ef6]; exact (pk_un (by decide)).trans (hf1_2)
  have k9 : f6 3 = 0 := by rw [ef6]; exact (pk_un (by decide)).trans (hf1_3)
  have k10 : f6 1 = 1 := by rw [ef6]; exact pk_us.trans (by decide)
  have hP : va_P (dC, dI) vwCl [(a1, .inl (cZ, 1024, .inl f6)), (a2, .inl (cI, 1024, .inl f2))] H5 := by rw [ef6]; exact hP
  have hD : va_D A [(a1, .inl (cZ, 1024, .inl f6)), (a2, .inl (cI, 1024, .inl f2))] := by rw [ef6]; exact hD
  refine lv_iload hx hb dX4_goOn_71 (lv_at hl 2 rfl) ?_
  refine lv_iconst (v := 1) hx hb dX4_goOn_73 (by decide) ?_
  refine lv_iload hx hb dX4_goOn_74 (lv_at hl 1 rfl) ?_
  refine lv_ishl hx hb dX4_goOn_76 ?_
  refine zo_i (v := 1) (by decide) ?_
  refine lv_ior hx hb dX4_goOn_77 ?_
  refine zo_i (v := 1) (by decide) ?_
  refine lv_istore (lv' := [(5, .int 1), (7, .int 1), (6, .int 0), (4, .int (1023 &&& (x0 ^^^ (-1)))), (0, .ref st), (1, .ref rm), (2, .int 0), (3, .int x0)]) hx hb dX4_goOn_78 hl (by decide) rfl (fun ls hl => ?_)
  refine lv_iinc (v := 1) (lv' := [(6, .int 1), (5, .int 1), (7, .int 1), (4, .int (1023 &&& (x0 ^^^ (-1)))), (0, .ref st), (1, .ref rm), (2, .int 0), (3, .int x0)]) hx hb dX4_goOn_80 hl (k := 2) rfl (by decide) (by decide) rfl (fun ls hl => ?_)
  refine lv_goto (tgt := 17) hx hb dX4_goOn_83 (by decide) ?_
  refine lv_iload hx hb dX4_goOn_17 (lv_at hl 0 rfl) ?_
  refine lv_aload_n hx hb dX4_goOn_19 rfl (lv_at hl 5 rfl) ?_
  refine va_get (D := (dC, dI)) (ci := 5) (v := .int 2) (C := RX3) (T := TX3) (N := 12) hx hb hts zi_X4_goOn_X3 hown hK (zo_R hR0 hS hAr) 1 rfl rfl 4 (by decide) (hts (.fieldLink RX4 51 "LockRooms$Room" "lockCount" "I") (by decide +kernel)) (fun _ h9 => h9) rfl dX4_goOn_20 ?_
  refine lv_icmp_ge (tgt := 86) hx hb dX4_goOn_23 (by decide) (fun h => absurd h (by decide)) (fun _ => ?_)
  refine lv_iload_n hx hb dX4_goOn_26 rfl (lv_at hl 6 rfl) ?_
  refine lv_iconst (v := 1) hx hb dX4_goOn_27 (by decide) ?_
  refine lv_iload hx hb dX4_goOn_28 (lv_at hl 0 rfl) ?_
  refine lv_ishl hx hb dX4_goOn_30 ?_
  refine zo_i (v := 2) (by decide) ?_
  refine lv_ior hx hb dX4_goOn_31 ?_
  refine zo_i (v := 2) (by decide) ?_
  refine lv_istore (lv' := [(7, .int 2), (6, .int 1), (5, .int 1), (4, .int (1023 &&& (x0 ^^^ (-1)))), (0, .ref st), (1, .ref rm), (2, .int 0), (3, .int x0)]) hx hb dX4_goOn_32 hl (by decide) rfl (fun ls hl => ?_)
  refine lv_iload hx hb dX4_goOn_34 (lv_at hl 0 rfl) ?_
  refine lv_iload_n hx hb dX4_goOn_36 rfl (lv_at hl 6 rfl) ?_
  refine lv_icmp_eq (tgt := 80) hx hb dX4_goOn_37 (by decide) (fun h => absurd h (by decide)) (fun _ => ?_)
  refine lv_iload hx hb dX4_goOn_40 (lv_at hl 0 rfl) ?_
  refine lv_sipush (v := 1024) hx hb dX4_goOn_42 (by decide) ?_
  refine lv_icmp_ge (tgt := 80) hx hb dX4_goOn_45 (by decide) (fun h => absurd h (by decide)) (fun _ => ?_)
  refine lv_aload_n hx hb dX4_goOn_48 rfl (lv_at hl 5 rfl) ?_
  refine va_get (D := (dC, dI)) (ci := 5) (v := .ref lk) (C := RX3) (T := TX3) (N := 12) hx hb hts zi_X4_goOn_X3 hown hK (zo_R hR0 hS hAr) 1 rfl rfl 0 (by decide) (hts (.fieldLink RX4 78 "LockRooms$Room" "locks" "[LLockRooms$Lock;") (by decide +kernel)) (fun _ h9 => h9) rfl dX4_goOn_49 ?_
  refine lv_iload hx hb dX4_goOn_52 (lv_at hl 1 rfl) ?_
  refine va_aldq hx hb hK (zo_R hR0 hS hAr) 2 0 rfl rfl (by unfold vp_in; decide) dX4_goOn_54 ?_
  refine zo_q (v := .ref l1) (by rw [show Int32.toNatClampNeg 1 = 1 from by decide, hkl1]; rfl) ?_
  refine lv_iload hx hb dX4_goOn_55 (lv_at hl 3 rfl) ?_
  have hPr := ((zo_R hR0 hS hAr)).sub (ws' := [(l1, .inr (3, [.int 0, .int 0, .int 60, .int 0, .int 0, .int 0, .int 0, .int 0, .int 0, .int 0]))]) [5] rfl
  have hPc := hP.sub (ws' := []) [] rfl
  have hDc := hD.sub (ws' := []) [] (by decide) rfl
  have hKc := hK.sub (tys' := []) [] rfl
  have hFc := va_free (wc := []) hD hS hA [] rfl
  refine va_calli (va_runV (As := [.int (1023 &&& (x0 ^^^ (-1)))]) (rest := []) ⟨hx, hb, hml, hown, hts⟩ (cz_QisReady l dC dI ed H5.size l1 (1023 &&& (x0 ^^^ (-1)))) (cwV 1 hts gX4_goOn_X1_isReady rfl rfl rfl (by decide +kernel) ⟨Nat.le_of_ble_eq_true rfl, Nat.le_of_ble_eq_true rfl⟩) ⟨zb_blind, va_recv hK (zo_R hR0 hS hAr) (ci := 3) (q0 := 5) rfl rfl, fun U hU hW => ⟨rfl, zb_mk hU hW hPr hPc hKc hDc hN hH hS hFc zx_e⟩⟩ rfl rfl hl.1 rfl (lv_room (Nat.le_of_ble_eq_true rfl)) dX4_goOn_57 ⟨Nat.le_of_ble_eq_true rfl, Nat.le_of_ble_eq_true rfl⟩) hS (fun q _ h => hFc q h) hFc (fun r12 u t H11 locs ht hvm hw hB hz1 hk1 hS => ?_)
  obtain rfl : r12 = 1 := hw
  have hP := zo_K hP hk1
  refine lv_if_eq (tgt := 80) hx hb dX4_goOn_60 (by decide) (fun h => absurd h (by decide)) (fun _ => ?_)
  refine lv_aload_n hx hb dX4_goOn_63 rfl (lv_at hl 4 rfl) ?_
  refine va_get (D := (dC, dI)) (ci := 6) (v := .ref a1) (C := RX4) (T := TX4) (N := 3) hx hb hts zi_X4_goOn_X4 hown hK (zo_R hR0 hS hAr) 0 rfl rfl 0 (by decide) (hts (.fieldLink RX4 9 "LockRooms$Stands" "isReached" "[Z") (by decide +kernel)) (fun _ h9 => h9) rfl dX4_goOn_64 ?_
  refine lv_iload hx hb dX4_goOn_67 (lv_at hl 0 rfl) ?_
  refine lv_iconst (v := 1) hx hb dX4_goOn_69 (by decide) ?_
  refine va_zast hx hb hK hP hD hS 0 2 rfl rfl (by unfold vp_in; decide) dX4_goOn_70 (fun H13 locs hP hD hS => ?_)
  obtain ⟨f14, ef14⟩ : ∃ z : Nat → Int32, z = upd f6 2 (vp_nar .boolean 1) := ⟨_, rfl⟩
  have k15 : f14 0 = 1 := by rw [ef14]; exact (pk_un (by decide)).trans (k7)
  have k16 : f14 3 = 0 := by rw [ef14]; exact (pk_un (by decide)).trans (k9)
  have k17 : f14 1 = 1 := by rw [ef14]; exact (pk_un (by decide)).trans (k10)
  have k18 : f14 2 = 1 := by rw [ef14]; exact pk_us.trans (by decide)
  have hP : va_P (dC, dI) vwCl [(a1, .inl (cZ, 1024, .inl f14)), (a2, .inl (cI, 1024, .inl f2))] H13 := by rw [ef14]; exact hP
  have hD : va_D A [(a1, .inl (cZ, 1024, .inl f14)), (a2, .inl (cI, 1024, .inl f2))] := by rw [ef14]; exact hD
  refine lv_iload hx hb dX4_goOn_71 (lv_at hl 2 rfl) ?_
  refine lv_iconst (v := 1) hx hb dX4_goOn_73 (by decide) ?_
  refine lv_iload hx hb dX4_goOn_74 (lv_at hl 1 rfl) ?_
  refine lv_ishl hx hb dX4_goOn_76 ?_
  refine zo_i (v := 2) (by decide) ?_
  refine lv_ior hx hb dX4_goOn_77 ?_
  refine zo_i (v := 3) (by decide) ?_
  refine lv_istore (lv' := [(5, .int 3), (7, .int 2), (6, .int 1), (4, .int (1023 &&& (x0 ^^^ (-1)))), (0, .ref st), (1, .ref rm), (2, .int 0), (3, .int x0)]) hx hb dX4_goOn_78 hl (by decide) rfl (fun ls hl => ?_)
  refine lv_iinc (v := 2) (lv' := [(6, .int 2), (5, .int 3), (7, .int 2), (4, .int (1023 &&& (x0 ^^^ (-1)))), (0, .ref st), (1, .ref rm), (2, .int 0), (3, .int x0)]) hx hb dX4_goOn_80 hl (k := 2) rfl (by decide) (by decide) rfl (fun ls hl => ?_)
  refine lv_goto (tgt := 17) hx hb dX4_goOn_83 (by decide) ?_
  refine lv_iload hx hb dX4_goOn_17 (lv_at hl 0 rfl) ?_
  refine lv_aload_n hx hb dX4_goOn_19 rfl (lv_at hl 5 rfl) ?_
  refine va_get (D := (dC, dI)) (ci := 5) (v := .int 2) (C := RX3) (T := TX3) (N := 12) hx hb hts zi_X4_goOn_X3 hown hK (zo_R hR0 hS hAr) 1 rfl rfl 4 (by decide) (hts (.fieldLink RX4 51 "LockRooms$Room" "lockCount" "I") (by decide +kernel)) (fun _ h9 => h9) rfl dX4_goOn_20 ?_
  refine lv_icmp_ge (tgt := 86) hx hb dX4_goOn_23 (by decide) (fun _ => ?_) (fun h => absurd h (by decide))
  refine lv_aload_n hx hb dX4_goOn_86 rfl (lv_at hl 4 rfl) ?_
  refine va_get (D := (dC, dI)) (ci := 6) (v := .ref a2) (C := RX4) (T := TX4) (N := 3) hx hb hts zi_X4_goOn_X4 hown hK (zo_R hR0 hS hAr) 0 rfl rfl 1 (by decide) (hts (.fieldLink RX4 15 "LockRooms$Stands" "ways" "[I") (by decide +kernel)) (fun _ h9 => h9) rfl dX4_goOn_87 ?_
  refine lv_iload_n hx hb dX4_goOn_90 rfl (lv_at hl 6 rfl) ?_
  refine lv_iload hx hb dX4_goOn_91 (lv_at hl 1 rfl) ?_
  refine va_iast hx hb hK hP hD hS 1 3 rfl rfl (by unfold vp_in; decide) dX4_goOn_93 (fun H19 locs hP hD hS => ?_)
  obtain ⟨f20, ef20⟩ : ∃ z : Nat → Int32, z = upd f2 0 3 := ⟨_, rfl⟩
  have k21 : f20 0 = 3 := by rw [ef20]; exact pk_us
  have hP : va_P (dC, dI) vwCl [(a1, .inl (cZ, 1024, .inl f14)), (a2, .inl (cI, 1024, .inl f20))] H19 := by rw [ef20]; exact hP
  have hD : va_D A [(a1, .inl (cZ, 1024, .inl f14)), (a2, .inl (cI, 1024, .inl f20))] := by rw [ef20]; exact hD
  refine W.widen (k := 0) (n := 0) (Nat.le_of_ble_eq_true rfl) (Nat.le_of_ble_eq_true rfl) ?_
  have hP9 := hP.sub (ws' := [(a1, .inl (cZ, 1024, .inl f14)), (a2, .inl (cI, 1024, .inl f20))]) [0, 1] rfl
  have hD9 := hD.sub (ws' := [(a1, .inl (cZ, 1024, .inl f14)), (a2, .inl (cI, 1024, .inl f20))]) [0, 1] (by decide) rfl
  have hK9 := hK.sub (tys' := [(cZ, .boolean), (cI, .int)]) [2, 3] rfl
  exact W.vret hx hb hr (fun t ht hW => ⟨⟨(), rfl, trivial, ⟨f14, f20, ⟨k15, k17, k18, k16, k21⟩, by rw [ht]; exact hP9, hD9, va_K.moved hW.alike hK9⟩⟩, hS.F ht⟩) hS.2.2 dX4_goOn_94
set_option maxHeartbeats 4000000 in
set_option maxRecDepth 100000 in
theorem cz_QgoOn_1 (l : Launch) (dC : Nat → ClassId) (dI : Nat → Nat → Nat) (ed sz : Nat) (st : Nat) (a1 : Nat) (a2 : Nat) (a3 : Nat) (rm : Nat) (lk : Nat) (th : Nat) (pl : Nat) (gm : Nat) (cL : ClassId) (fl : Nat → Option Nat) (l0 : Nat) (l1 : Nat) (cT : ClassId) (ft : Nat → Option Nat) (t0 : Nat) (t1 : Nat) (t2 : Nat) (t3 : Nat) (t4 : Nat) (t5 : Nat) (t6 : Nat) (t7 : Nat) (t8 : Nat) (t9 : Nat) (cZ : ClassId) (f1 : Nat → Int32) (cI : ClassId) (f2 : Nat → Int32) (x0 : Int32) (hkl0 : fl 0 = some l0) (hkl1 : fl 1 = some l1) (hkt0 : ft 0 = some t0) (hkt1 : ft 1 = some t1) (hkt2 : ft 2 = some t2) (hkt3 : ft 3 = some t3) (hkt4 : ft 4 = some t4) (hkt5 : ft 5 = some t5) (hkt6 : ft 6 = some t6) (hkt7 : ft 7 = some t7) (hkt8 : ft 8 = some t8) (hkt9 : ft 9 = some t9) (hf1_0 : f1 0 = 1) (hf1_1 : f1 1 = 1) (hf1_2 : f1 2 = 1) (hf1_3 : f1 3 = 0) (hf2_0 : f2 0 = 3) : Met l yX4_goOn wsX4_goOn ({ frames := 2, cells := 0, slots := 0, locals := 46 } : Jvm.Room) (va_Pc [.ref st, .ref rm, .int 1, .int x0] (zB dC dI ed sz [(st, .inr (6, [.ref a1, .ref a2, .ref a3])), (rm, .inr (5, [.ref lk, .ref th, .ref pl, .ref gm, .int 2, .int 10, .int 0, .int 0, .int 1, .int 0, .int 0, .int 0])), (lk, .inl (cL, 10, .inr (.inr (.inr (.inr fl))))), (th, .inl (cT, 12, .inr (.inr (.inr (.inr ft))))), (l0, .inr (3, [.int 0, .int 0, .int 60, .int 0, .int 0, .int 0, .int 0, .int 0, .int 0, .int 0])), (l1, .inr (3, [.int 0, .int 0, .int 60, .int 0, .int 0, .int 0, .int 0, .int 0, .int 0, .int 0])), (t0, .inr (7, [.int (-1), .int 0, .int 0, .int 0, .int 0])), (t1, .inr (7, [.int (-1), .int 0, .int 0, .int 0, .int 0])), (t2, .inr (7, [.int (-1), .int 0, .int 0, .int 0, .int 0])), (t3, .inr (7, [.int (-1), .int 0, .int 0, .int 0, .int 0])), (t4, .inr (7, [.int (-1), .int 0, .int 0, .int 0, .int 0])), (t5, .inr (7, [.int (-1), .int 0, .int 0, .int 0, .int 0])), (t6, .inr (7, [.int (-1), .int 0, .int 0, .int 0, .int 0])), (t7, .inr (7, [.int (-1), .int 0, .int 0, .int 0, .int 0])), (t8, .inr (7, [.int (-1), .int 0, .int 0, .int 0, .int 0])), (t9, .inr (7, [.int (-1), .int 0, .int 0, .int 0, .int 0]))] [(a1, .inl (cZ, 1024, .inl f1)), (a2, .inl (cI, 1024, .inl f2))] [(cL, .object "LockRooms$Lock"), (cT, .object "LockRooms$Thing"), (cZ, .boolean), (cI, .int)])) (va_Qv (fun (_ : Unit) => True) (fun (_ : Unit) (t : State) => ∃ (g1 : Nat → Int32), ∃ (g2 : Nat → Int32), (g1 0 = 1 ∧ g1 1 = 1 ∧ g1 2 = 1 ∧ g1 3 = 1 ∧ g2 0 = 3 ∧ g2 1 = 2) ∧ va_P (dC, dI) vwCl [(a1, .inl (cZ, 1024, .inl g1)), (a2, .inl (cI, 1024, .inl g2))] t.heap ∧ va_D (va_A [(a1, .inl (cZ, 1024, .inl f1)), (a2, .inl (cI, 1024, .inl f2))] sz) [(a1, .inl (cZ, 1024, .inl g1)), (a2, .inl (cI, 1024, .inl g2))] ∧ va_K (dC, dI) vwCl [(cZ, .boolean), (cI, .int)] t) (va_A [(a1, .inl (cZ, 1024, .inl f1)), (a2, .inl (cI, 1024, .inl f2))] sz)) 0 0 (va_A [(a1, .inl (cZ, 1024, .inl f1)), (a2, .inl (cI, 1024, .inl f2))] sz) := by
  refine Met.ofW (cc := cX4_goOn) (maxL := 8) (ret := none) (by decide) rfl ?_
  intro p e s m args below meth c s₁ B hml hv
  obtain ⟨rfl, hsz, hR0, hP, hK, hD0, hN, hH, hX0⟩ := hv
  have hx := B.exec
  have hb := B.bytes
  have hr := B.returns
  have hts := atoms_spec (ws := wsX4_goOn) B.pre
  have hown : s.vm.findClass RX4 = some m.cls := findClass_of_methodNamed B.named
  have hlocks := B.notSynchronized
  subst hsz
  have hD := hD0.self (sz := s.heap.size)
  have hAr := zx_A hX0 hR0
  generalize hAe : va_A [(a1, .inl (cZ, 1024, .inl f1)), (a2, .inl (cI, 1024, .inl f2))] s.heap.size = A at hD hAr hH ⊢
  have hA : ∀ q : Nat, s.heap.size ≤ q → A q := fun q h => by rw [← hAe]; exact Or.inr h
  have hS : va_S A s.heap s.heap [] := va_S.rf
  have hl := lv_entry ([.ref st, .ref rm, .int 1, .int x0]) (n := 8) (Nat.le_of_ble_eq_true rfl)
  rw [lg_entry_eq]
  generalize (lg_sl ([.ref st, .ref rm, .int 1, .int x0]) ++ List.replicate (8 - (lg_sl ([.ref st, .ref rm, .int 1, .int x0])).length) Slot.unset).toArray = ls at hl ⊢
  have hl : lv_has ls 8 [(0, .ref st), (1, .ref rm), (2, .int 1), (3, .int x0)] := hl
  refine lv_aload_n hx hb dX4_goOn_0 rfl (lv_at hl 1 rfl) ?_
  refine lv_iload_n hx hb dX4_goOn_1 rfl (lv_at hl 2 rfl) ?_
  have hPr := (hR0).sub (ws' := [(rm, .inr (5, [.ref lk, .ref th, .ref pl, .ref gm, .int 2, .int 10, .int 0, .int 0, .int 1, .int 0, .int 0, .int 0])), (lk, .inl (cL, 10, .inr (.inr (.inr (.inr fl))))), (th, .inl (cT, 12, .inr (.inr (.inr (.inr ft))))), (l0, .inr (3, [.int 0, .int 0, .int 60, .int 0, .int 0, .int 0, .int 0, .int 0, .int 0, .int 0])), (l1, .inr (3, [.int 0, .int 0, .int 60, .int 0, .int 0, .int 0, .int 0, .int 0, .int 0, .int 0])), (t0, .inr (7, [.int (-1), .int 0, .int 0, .int 0, .int 0])), (t1, .inr (7, [.int (-1), .int 0, .int 0, .int 0, .int 0])), (t2, .inr (7, [.int (-1), .int 0, .int 0, .int 0, .int 0])), (t3, .inr (7, [.int (-1), .int 0, .int 0, .int 0, .int 0])), (t4, .inr (7, [.int (-1), .int 0, .int 0, .int 0, .int 0])), (t5, .inr (7, [.int (-1), .int 0, .int 0, .int 0, .int 0])), (t6, .inr (7, [.int (-1), .int 0, .int 0, .int 0, .int 0])), (t7, .inr (7, [.int (-1), .int 0, .int 0, .int 0, .int 0])), (t8, .inr (7, [.int (-1), .int 0, .int 0, .int 0, .int 0])), (t9, .inr (7, [.int (-1), .int 0, .int 0, .int 0, .int 0]))]) [1, 2, 3, 4, 5, 6, 7, 8, 9, 10, 11, 12, 13, 14, 15] rfl
  have hPc := hP.sub (ws' := []) [] rfl
  have hDc := hD.sub (ws' := []) [] (by decide) rfl
  have hKc := hK.sub (tys' := [(cL, .object "LockRooms$Lock"), (cT, .object "LockRooms$Thing")]) [0, 1] rfl
  have hFc := va_free (wc := []) hD hS hA [] rfl
  refine va_calli (va_runV (As := [.int 1]) (rest := []) ⟨hx, hb, hml, hown, hts⟩ (cz_QthingsAtHand l dC dI ed s.heap.size rm lk th pl gm cL fl l0 l1 cT ft t0 t1 t2 t3 t4 t5 t6 t7 t8 t9 1 hkl0 hkl1 hkt0 hkt1 hkt2 hkt3 hkt4 hkt5 hkt6 hkt7 hkt8 hkt9) (cwV 1 hts gX4_goOn_X3_thingsAtHand rfl rfl rfl (by decide +kernel) ⟨Nat.le_of_ble_eq_true rfl, Nat.le_of_ble_eq_true rfl⟩) ⟨zb_blind, va_recv hK hR0 (ci := 5) (q0 := 1) rfl rfl, fun U hU hW => ⟨rfl, zb_mk hU hW hPr hPc hKc hDc hN hH hS hFc zx_e⟩⟩ rfl rfl hl.1 rfl (lv_room (Nat.le_of_ble_eq_true rfl)) dX4_goOn_2 ⟨Nat.le_of_ble_eq_true rfl, Nat.le_of_ble_eq_true rfl⟩) hS (fun q _ h => hFc q h) hFc (fun r2 u t H1 locs ht hvm hw hB hz1 hk1 hS => ?_)
  obtain rfl : r2 = 1023 := hw
  have hP := zo_K hP hk1
  refine lv_iload_n hx hb dX4_goOn_5 rfl (lv_at hl 3 rfl) ?_
  refine lv_iconst (v := (-1)) hx hb dX4_goOn_6 (by decide) ?_
  refine lv_ixor hx hb dX4_goOn_7 ?_
  refine lv_iand hx hb dX4_goOn_8 ?_
  refine lv_istore (lv' := [(4, .int (1023 &&& (x0 ^^^ (-1)))), (0, .ref st), (1, .ref rm), (2, .int 1), (3, .int x0)]) hx hb dX4_goOn_9 hl (by decide) rfl (fun ls hl => ?_)
  refine lv_iconst (v := 0) hx hb dX4_goOn_11 (by decide) ?_
  refine lv_istore (lv' := [(5, .int 0), (4, .int (1023 &&& (x0 ^^^ (-1)))), (0, .ref st), (1, .ref rm), (2, .int 1), (3, .int x0)]) hx hb dX4_goOn_12 hl (by decide) rfl (fun ls hl => ?_)
  refine lv_iconst (v := 0) hx hb dX4_goOn_14 (by decide) ?_
  refine lv_istore (lv' := [(6, .int 0), (5, .int 0), (4, .int (1023 &&& (x0 ^^^ (-1)))), (0, .ref st), (1, .ref rm), (2, .int 1), (3, .int x0)]) hx hb dX4_goOn_15 hl (by decide) rfl (fun ls hl => ?_)
  refine lv_iload hx hb dX4_goOn_17 (lv_at hl 0 rfl) ?_
  refine lv_aload_n hx hb dX4_goOn_19 rfl (lv_at hl 4 rfl) ?_
  refine va_get (D := (dC, dI)) (ci := 5) (v := .int 2) (C := RX3) (T := TX3) (N := 12) hx hb hts zi_X4_goOn_X3 hown hK (zo_R hR0 hS hAr) 1 rfl rfl 4 (by decide) (hts (.fieldLink RX4 51 "LockRooms$Room" "lockCount" "I") (by decide +kernel)) (fun _ h9 => h9) rfl dX4_goOn_20 ?_
  refine lv_icmp_ge (tgt := 86) hx hb dX4_goOn_23 (by decide) (fun h => absurd h (by decide)) (fun _ => ?_)
  refine lv_iload_n hx hb dX4_goOn_26 rfl (lv_at hl 5 rfl) ?_
  refine lv_iconst (v := 1) hx hb dX4_goOn_27 (by decide) ?_
  refine lv_iload hx hb dX4_goOn_28 (lv_at hl 0 rfl) ?_
  refine lv_ishl hx hb dX4_goOn_30 ?_
  refine zo_i (v := 1) (by decide) ?_
  refine lv_ior hx hb dX4_goOn_31 ?_
  refine zo_i (v := 1) (by decide) ?_
  refine lv_istore (lv' := [(7, .int 1), (6, .int 0), (5, .int 0), (4, .int (1023 &&& (x0 ^^^ (-1)))), (0, .ref st), (1, .ref rm), (2, .int 1), (3, .int x0)]) hx hb dX4_goOn_32 hl (by decide) rfl (fun ls hl => ?_)
  refine lv_iload hx hb dX4_goOn_34 (lv_at hl 0 rfl) ?_
  refine lv_iload_n hx hb dX4_goOn_36 rfl (lv_at hl 6 rfl) ?_
  refine lv_icmp_eq (tgt := 80) hx hb dX4_goOn_37 (by decide) (fun _ => ?_) (fun h => absurd h (by decide))
  refine lv_iinc (v := 1) (lv' := [(6, .int 1), (7, .int 1), (5, .int 0), (4, .int (1023 &&& (x0 ^^^ (-1)))), (0, .ref st), (1, .ref rm), (2, .int 1), (3, .int x0)]) hx hb dX4_goOn_80 hl (k := 1) rfl (by decide) (by decide) rfl (fun ls hl => ?_)
  refine lv_goto (tgt := 17) hx hb dX4_goOn_83 (by decide) ?_
  refine lv_iload hx hb dX4_goOn_17 (lv_at hl 0 rfl) ?_
  refine lv_aload_n hx hb dX4_goOn_19 rfl (lv_at hl 5 rfl) ?_
  refine va_get (D := (dC, dI)) (ci := 5) (v := .int 2) (C := RX3) (T := TX3) (N := 12) hx hb hts zi_X4_goOn_X3 hown hK (zo_R hR0 hS hAr) 1 rfl rfl 4 (by decide) (hts (.fieldLink RX4 51 "LockRooms$Room" "lockCount" "I") (by decide +kernel)) (fun _ h9 => h9) rfl dX4_goOn_20 ?_
  refine lv_icmp_ge (tgt := 86) hx hb dX4_goOn_23 (by decide) (fun h => absurd h (by decide)) (fun _ => ?_)
  refine lv_iload_n hx hb dX4_goOn_26 rfl (lv_at hl 6 rfl) ?_
  refine lv_iconst (v := 1) hx hb dX4_goOn_27 (by decide) ?_
  refine lv_iload hx hb dX4_goOn_28 (lv_at hl 0 rfl) ?_
  refine lv_ishl hx hb dX4_goOn_30 ?_
  refine zo_i (v := 2) (by decide) ?_
  refine lv_ior hx hb dX4_goOn_31 ?_
  refine zo_i (v := 3) (by decide) ?_
  refine lv_istore (lv' := [(7, .int 3), (6, .int 1), (5, .int 0), (4, .int (1023 &&& (x0 ^^^ (-1)))), (0, .ref st), (1, .ref rm), (2, .int 1), (3, .int x0)]) hx hb dX4_goOn_32 hl (by decide) rfl (fun ls hl => ?_)
  refine lv_iload hx hb dX4_goOn_34 (lv_at hl 0 rfl) ?_
  refine lv_iload_n hx hb dX4_goOn_36 rfl (lv_at hl 6 rfl) ?_
  refine lv_icmp_eq (tgt := 80) hx hb dX4_goOn_37 (by decide) (fun h => absurd h (by decide)) (fun _ => ?_)
  refine lv_iload hx hb dX4_goOn_40 (lv_at hl 0 rfl) ?_
  refine lv_sipush (v := 1024) hx hb dX4_goOn_42 (by decide) ?_
  refine lv_icmp_ge (tgt := 80) hx hb dX4_goOn_45 (by decide) (fun h => absurd h (by decide)) (fun _ => ?_)
  refine lv_aload_n hx hb dX4_goOn_48 rfl (lv_at hl 5 rfl) ?_
  refine va_get (D := (dC, dI)) (ci := 5) (v := .ref lk) (C := RX3) (T := TX3) (N := 12) hx hb hts zi_X4_goOn_X3 hown hK (zo_R hR0 hS hAr) 1 rfl rfl 0 (by decide) (hts (.fieldLink RX4 78 "LockRooms$Room" "locks" "[LLockRooms$Lock;") (by decide +kernel)) (fun _ h9 => h9) rfl dX4_goOn_49 ?_
  refine lv_iload hx hb dX4_goOn_52 (lv_at hl 1 rfl) ?_
  refine va_aldq hx hb hK (zo_R hR0 hS hAr) 2 0 rfl rfl (by unfold vp_in; decide) dX4_goOn_54 ?_
  refine zo_q (v := .ref l1) (by rw [show Int32.toNatClampNeg 1 = 1 from by decide, hkl1]; rfl) ?_
  refine lv_iload hx hb dX4_goOn_55 (lv_at hl 3 rfl) ?_
  have hPr := ((zo_R hR0 hS hAr)).sub (ws' := [(l1, .inr (3, [.int 0, .int 0, .int 60, .int 0, .int 0, .int 0, .int 0, .int 0, .int 0, .int 0]))]) [5] rfl
  have hPc := hP.sub (ws' := []) [] rfl
  have hDc := hD.sub (ws' := []) [] (by decide) rfl
  have hKc := hK.sub (tys' := []) [] rfl
  have hFc := va_free (wc := []) hD hS hA [] rfl
  refine va_calli (va_runV (As := [.int (1023 &&& (x0 ^^^ (-1)))]) (rest := []) ⟨hx, hb, hml, hown, hts⟩ (cz_QisReady l dC dI ed H1.size l1 (1023 &&& (x0 ^^^ (-1)))) (cwV 1 hts gX4_goOn_X1_isReady rfl rfl rfl (by decide +kernel) ⟨Nat.le_of_ble_eq_true rfl, Nat.le_of_ble_eq_true rfl⟩) ⟨zb_blind, va_recv hK (zo_R hR0 hS hAr) (ci := 3) (q0 := 5) rfl rfl, fun U hU hW => ⟨rfl, zb_mk hU hW hPr hPc hKc hDc hN hH hS hFc zx_e⟩⟩ rfl rfl hl.1 rfl (lv_room (Nat.le_of_ble_eq_true rfl)) dX4_goOn_57 ⟨Nat.le_of_ble_eq_true rfl, Nat.le_of_ble_eq_true rfl⟩) hS (fun q _ h => hFc q h) hFc (fun r4 u t H3 locs ht hvm hw hB hz1 hk1 hS => ?_)
  obtain rfl : r4 = 1 := hw
  have hP := zo_K hP hk1
  refine lv_if_eq (tgt := 80) hx hb dX4_goOn_60 (by decide) (fun h => absurd h (by decide)) (fun _ => ?_)
  refine lv_aload_n hx hb dX4_goOn_63 rfl (lv_at hl 4 rfl) ?_
  refine va_get (D := (dC, dI)) (ci := 6) (v := .ref a1) (C := RX4) (T := TX4) (N := 3) hx hb hts zi_X4_goOn_X4 hown hK (zo_R hR0 hS hAr) 0 rfl rfl 0 (by decide) (hts (.fieldLink RX4 9 "LockRooms$Stands" "isReached" "[Z") (by decide +kernel)) (fun _ h9 => h9) rfl dX4_goOn_64 ?_
  refine lv_iload hx hb dX4_goOn_67 (lv_at hl 0 rfl) ?_
  refine lv_iconst (v := 1) hx hb dX4_goOn_69 (by decide) ?_
  refine va_zast hx hb hK hP hD hS 0 2 rfl rfl (by unfold vp_in; decide) dX4_goOn_70 (fun H5 locs hP hD hS => ?_)
  obtain ⟨f6, ef6⟩ : ∃ z : Nat → Int32, z = upd f1 3 (vp_nar .boolean 1) := ⟨_, rfl⟩
  have k7 : f6 0 = 1 := by rw [ef6]; exact (pk_un (by decide)).trans (hf1_0)
  have k8 : f6 1 = 1 := by rw [ef6]; exact (pk_un (by decide)).trans (hf1_1)
  have k9 : f6 2 = 1 := by rw [ef6]; exact (pk_un (by decide)).trans (hf1_2)
  have k10 : f6 3 = 1 := by rw [ef6]; exact pk_us.trans (by decide)
  have hP : va_P (dC, dI) vwCl [(a1, .inl (cZ, 1024, .inl f6)), (a2, .inl (cI, 1024, .inl f2))] H5 := by rw [ef6]; exact hP
  have hD : va_D A [(a1, .inl (cZ, 1024, .inl f6)), (a2, .inl (cI, 1024, .inl f2))] := by rw [ef6]; exact hD
  refine lv_iload hx hb dX4_goOn_71 (lv_at hl 2 rfl) ?_
  refine lv_iconst (v := 1) hx hb dX4_goOn_73 (by decide) ?_
  refine lv_iload hx hb dX4_goOn_74 (lv_at hl 1 rfl) ?_
  refine lv_ishl hx hb dX4_goOn_76 ?_
  refine zo_i (v := 2) (by decide) ?_
  refine lv_ior hx hb dX4_goOn_77 ?_
  refine zo_i (v := 2) (by decide) ?_
  refine lv_istore (lv' := [(5, .int 2), (7, .int 3), (6, .int 1), (4, .int (1023 &&& (x0 ^^^ (-1)))), (0, .ref st), (1, .ref rm), (2, .int 1), (3, .int x0)]) hx hb dX4_goOn_78 hl (by decide) rfl (fun ls hl => ?_)
  refine lv_iinc (v := 2) (lv' := [(6, .int 2), (5, .int 2), (7, .int 3), (4, .int (1023 &&& (x0 ^^^ (-1)))), (0, .ref st), (1, .ref rm), (2, .int 1), (3, .int x0)]) hx hb dX4_goOn_80 hl (k := 2) rfl (by decide) (by decide) rfl (fun ls hl => ?_)
  refine lv_goto (tgt := 17) hx hb dX4_goOn_83 (by decide) ?_
  refine lv_iload hx hb dX4_goOn_17 (lv_at hl 0 rfl) ?_
  refine lv_aload_n hx hb dX4_goOn_19 rfl (lv_at hl 5 rfl) ?_
  refine va_get (D := (dC, dI)) (ci := 5) (v := .int 2) (C := RX3) (T := TX3) (N := 12) hx hb hts zi_X4_goOn_X3 hown hK (zo_R hR0 hS hAr) 1 rfl rfl 4 (by decide) (hts (.fieldLink RX4 51 "LockRooms$Room" "lockCount" "I") (by decide +kernel)) (fun _ h9 => h9) rfl dX4_goOn_20 ?_
  refine lv_icmp_ge (tgt := 86) hx hb dX4_goOn_23 (by decide) (fun _ => ?_) (fun h => absurd h (by decide))
  refine lv_aload_n hx hb dX4_goOn_86 rfl (lv_at hl 4 rfl) ?_
  refine va_get (D := (dC, dI)) (ci := 6) (v := .ref a2) (C := RX4) (T := TX4) (N := 3) hx hb hts zi_X4_goOn_X4 hown hK (zo_R hR0 hS hAr) 0 rfl rfl 1 (by decide) (hts (.fieldLink RX4 15 "LockRooms$Stands" "ways" "[I") (by decide +kernel)) (fun _ h9 => h9) rfl dX4_goOn_87 ?_
  refine lv_iload_n hx hb dX4_goOn_90 rfl (lv_at hl 6 rfl) ?_
  refine lv_iload hx hb dX4_goOn_91 (lv_at hl 1 rfl) ?_
  refine va_iast hx hb hK hP hD hS 1 3 rfl rfl (by unfold vp_in; decide) dX4_goOn_93 (fun H11 locs hP hD hS => ?_)
  obtain ⟨f12, ef12⟩ : ∃ z : Nat → Int32, z = upd f2 1 2 := ⟨_, rfl⟩
  have k13 : f12 0 = 3 := by rw [ef12]; exact (pk_un (by decide)).trans (hf2_0)
  have k14 : f12 1 = 2 := by rw [ef12]; exact pk_us
  have hP : va_P (dC, dI) vwCl [(a1, .inl (cZ, 1024, .inl f6)), (a2, .inl (cI, 1024, .inl f12))] H11 := by rw [ef12]; exact hP
  have hD : va_D A [(a1, .inl (cZ, 1024, .inl f6)), (a2, .inl (cI, 1024, .inl f12))] := by rw [ef12]; exact hD
  refine W.widen (k := 0) (n := 0) (Nat.le_of_ble_eq_true rfl) (Nat.le_of_ble_eq_true rfl) ?_
  have hP9 := hP.sub (ws' := [(a1, .inl (cZ, 1024, .inl f6)), (a2, .inl (cI, 1024, .inl f12))]) [0, 1] rfl
  have hD9 := hD.sub (ws' := [(a1, .inl (cZ, 1024, .inl f6)), (a2, .inl (cI, 1024, .inl f12))]) [0, 1] (by decide) rfl
  have hK9 := hK.sub (tys' := [(cZ, .boolean), (cI, .int)]) [2, 3] rfl
  exact W.vret hx hb hr (fun t ht hW => ⟨⟨(), rfl, trivial, ⟨f6, f12, ⟨k7, k8, k9, k10, k13, k14⟩, by rw [ht]; exact hP9, hD9, va_K.moved hW.alike hK9⟩⟩, hS.F ht⟩) hS.2.2 dX4_goOn_94
set_option maxHeartbeats 4000000 in
set_option maxRecDepth 100000 in
theorem cz_QgoOn_2 (l : Launch) (dC : Nat → ClassId) (dI : Nat → Nat → Nat) (ed sz : Nat) (st : Nat) (a1 : Nat) (a2 : Nat) (a3 : Nat) (rm : Nat) (lk : Nat) (th : Nat) (pl : Nat) (gm : Nat) (cL : ClassId) (fl : Nat → Option Nat) (l0 : Nat) (l1 : Nat) (cT : ClassId) (ft : Nat → Option Nat) (t0 : Nat) (t1 : Nat) (t2 : Nat) (t3 : Nat) (t4 : Nat) (t5 : Nat) (t6 : Nat) (t7 : Nat) (t8 : Nat) (t9 : Nat) (cZ : ClassId) (f1 : Nat → Int32) (cI : ClassId) (f2 : Nat → Int32) (x0 : Int32) (hkl0 : fl 0 = some l0) (hkl1 : fl 1 = some l1) (hkt0 : ft 0 = some t0) (hkt1 : ft 1 = some t1) (hkt2 : ft 2 = some t2) (hkt3 : ft 3 = some t3) (hkt4 : ft 4 = some t4) (hkt5 : ft 5 = some t5) (hkt6 : ft 6 = some t6) (hkt7 : ft 7 = some t7) (hkt8 : ft 8 = some t8) (hkt9 : ft 9 = some t9) (hf1_0 : f1 0 = 1) (hf1_1 : f1 1 = 1) (hf1_2 : f1 2 = 1) (hf1_3 : f1 3 = 1) (hf2_0 : f2 0 = 3) (hf2_1 : f2 1 = 2) : Met l yX4_goOn wsX4_goOn ({ frames := 2, cells := 0, slots := 0, locals := 46 } : Jvm.Room) (va_Pc [.ref st, .ref rm, .int 2, .int x0] (zB dC dI ed sz [(st, .inr (6, [.ref a1, .ref a2, .ref a3])), (rm, .inr (5, [.ref lk, .ref th, .ref pl, .ref gm, .int 2, .int 10, .int 0, .int 0, .int 1, .int 0, .int 0, .int 0])), (lk, .inl (cL, 10, .inr (.inr (.inr (.inr fl))))), (th, .inl (cT, 12, .inr (.inr (.inr (.inr ft))))), (l0, .inr (3, [.int 0, .int 0, .int 60, .int 0, .int 0, .int 0, .int 0, .int 0, .int 0, .int 0])), (l1, .inr (3, [.int 0, .int 0, .int 60, .int 0, .int 0, .int 0, .int 0, .int 0, .int 0, .int 0])), (t0, .inr (7, [.int (-1), .int 0, .int 0, .int 0, .int 0])), (t1, .inr (7, [.int (-1), .int 0, .int 0, .int 0, .int 0])), (t2, .inr (7, [.int (-1), .int 0, .int 0, .int 0, .int 0])), (t3, .inr (7, [.int (-1), .int 0, .int 0, .int 0, .int 0])), (t4, .inr (7, [.int (-1), .int 0, .int 0, .int 0, .int 0])), (t5, .inr (7, [.int (-1), .int 0, .int 0, .int 0, .int 0])), (t6, .inr (7, [.int (-1), .int 0, .int 0, .int 0, .int 0])), (t7, .inr (7, [.int (-1), .int 0, .int 0, .int 0, .int 0])), (t8, .inr (7, [.int (-1), .int 0, .int 0, .int 0, .int 0])), (t9, .inr (7, [.int (-1), .int 0, .int 0, .int 0, .int 0]))] [(a1, .inl (cZ, 1024, .inl f1)), (a2, .inl (cI, 1024, .inl f2))] [(cL, .object "LockRooms$Lock"), (cT, .object "LockRooms$Thing"), (cZ, .boolean), (cI, .int)])) (va_Qv (fun (_ : Unit) => True) (fun (_ : Unit) (t : State) => ∃ (g1 : Nat → Int32), ∃ (g2 : Nat → Int32), (g1 0 = 1 ∧ g1 1 = 1 ∧ g1 2 = 1 ∧ g1 3 = 1 ∧ g2 0 = 3 ∧ g2 1 = 2 ∧ g2 2 = 1) ∧ va_P (dC, dI) vwCl [(a1, .inl (cZ, 1024, .inl g1)), (a2, .inl (cI, 1024, .inl g2))] t.heap ∧ va_D (va_A [(a1, .inl (cZ, 1024, .inl f1)), (a2, .inl (cI, 1024, .inl f2))] sz) [(a1, .inl (cZ, 1024, .inl g1)), (a2, .inl (cI, 1024, .inl g2))] ∧ va_K (dC, dI) vwCl [(cZ, .boolean), (cI, .int)] t) (va_A [(a1, .inl (cZ, 1024, .inl f1)), (a2, .inl (cI, 1024, .inl f2))] sz)) 0 0 (va_A [(a1, .inl (cZ, 1024, .inl f1)), (a2, .inl (cI, 1024, .inl f2))] sz) := by
  refine Met.ofW (cc := cX4_goOn) (maxL := 8) (ret := none) (by decide) rfl ?_
  intro p e s m args below meth c s₁ B hml hv
  obtain ⟨rfl, hsz, hR0, hP, hK, hD0, hN, hH, hX0⟩ := hv
  have hx := B.exec
  have hb := B.bytes
  have hr := B.returns
  have hts := atoms_spec (ws := wsX4_goOn) B.pre
  have hown : s.vm.findClass RX4 = some m.cls := findClass_of_methodNamed B.named
  have hlocks := B.notSynchronized
  subst hsz
  have hD := hD0.self (sz := s.heap.size)
  have hAr := zx_A hX0 hR0
  generalize hAe : va_A [(a1, .inl (cZ, 1024, .inl f1)), (a2, .inl (cI, 1024, .inl f2))] s.heap.size = A at hD hAr hH ⊢
  have hA : ∀ q : Nat, s.heap.size ≤ q → A q := fun q h => by rw [← hAe]; exact Or.inr h
  have hS : va_S A s.heap s.heap [] := va_S.rf
  have hl := lv_entry ([.ref st, .ref rm, .int 2, .int x0]) (n := 8) (Nat.le_of_ble_eq_true rfl)
  rw [lg_entry_eq]
  generalize (lg_sl ([.ref st, .ref rm, .int 2, .int x0]) ++ List.replicate (8 - (lg_sl ([.ref st, .ref rm, .int 2, .int x0])).length) Slot.unset).toArray = ls at hl ⊢
  have hl : lv_has ls 8 [(0, .ref st), (1, .ref rm), (2, .int 2), (3, .int x0)] := hl
  refine lv_aload_n hx hb dX4_goOn_0 rfl (lv_at hl 1 rfl) ?_
  refine lv_iload_n hx hb dX4_goOn_1 rfl (lv_at hl 2 rfl) ?_
  have hPr := (hR0).sub (ws' := [(rm, .inr (5, [.ref lk, .ref th, .ref pl, .ref gm, .int 2, .int 10, .int 0, .int 0, .int 1, .int 0, .int 0, .int 0])), (lk, .inl (cL, 10, .inr (.inr (.inr (.inr fl))))), (th, .inl (cT, 12, .inr (.inr (.inr (.inr ft))))), (l0, .inr (3, [.int 0, .int 0, .int 60, .int 0, .int 0, .int 0, .int 0, .int 0, .int 0, .int 0])), (l1, .inr (3, [.int 0, .int 0, .int 60, .int 0, .int 0, .int 0, .int 0, .int 0, .int 0, .int 0])), (t0, .inr (7, [.int (-1), .int 0, .int 0, .int 0, .int 0])), (t1, .inr (7, [.int (-1), .int 0, .int 0, .int 0, .int 0])), (t2, .inr (7, [.int (-1), .int 0, .int 0, .int 0, .int 0])), (t3, .inr (7, [.int (-1), .int 0, .int 0, .int 0, .int 0])), (t4, .inr (7, [.int (-1), .int 0, .int 0, .int 0, .int 0])), (t5, .inr (7, [.int (-1), .int 0, .int 0, .int 0, .int 0])), (t6, .inr (7, [.int (-1), .int 0, .int 0, .int 0, .int 0])), (t7, .inr (7, [.int (-1), .int 0, .int 0, .int 0, .int 0])), (t8, .inr (7, [.int (-1), .int 0, .int 0, .int 0, .int 0])), (t9, .inr (7, [.int (-1), .int 0, .int 0, .int 0, .int 0]))]) [1, 2, 3, 4, 5, 6, 7, 8, 9, 10, 11, 12, 13, 14, 15] rfl
  have hPc := hP.sub (ws' := []) [] rfl
  have hDc := hD.sub (ws' := []) [] (by decide) rfl
  have hKc := hK.sub (tys' := [(cL, .object "LockRooms$Lock"), (cT, .object "LockRooms$Thing")]) [0, 1] rfl
  have hFc := va_free (wc := []) hD hS hA [] rfl
  refine va_calli (va_runV (As := [.int 2]) (rest := []) ⟨hx, hb, hml, hown, hts⟩ (cz_QthingsAtHand l dC dI ed s.heap.size rm lk th pl gm cL fl l0 l1 cT ft t0 t1 t2 t3 t4 t5 t6 t7 t8 t9 2 hkl0 hkl1 hkt0 hkt1 hkt2 hkt3 hkt4 hkt5 hkt6 hkt7 hkt8 hkt9) (cwV 1 hts gX4_goOn_X3_thingsAtHand rfl rfl rfl (by decide +kernel) ⟨Nat.le_of_ble_eq_true rfl, Nat.le_of_ble_eq_true rfl⟩) ⟨zb_blind, va_recv hK hR0 (ci := 5) (q0 := 1) rfl rfl, fun U hU hW => ⟨rfl, zb_mk hU hW hPr hPc hKc hDc hN hH hS hFc zx_e⟩⟩ rfl rfl hl.1 rfl (lv_room (Nat.le_of_ble_eq_true rfl)) dX4_goOn_2 ⟨Nat.le_of_ble_eq_true rfl, Nat.le_of_ble_eq_true rfl⟩) hS (fun q _ h => hFc q h) hFc (fun r2 u t H1 locs ht hvm hw hB hz1 hk1 hS => ?_)
  obtain rfl : r2 = 1023 := hw
  have hP := zo_K hP hk1
  refine lv_iload_n hx hb dX4_goOn_5 rfl (lv_at hl 3 rfl) ?_
  refine lv_iconst (v := (-1)) hx hb dX4_goOn_6 (by decide) ?_
  refine lv_ixor hx hb dX4_goOn_7 ?_
  refine lv_iand hx hb dX4_goOn_8 ?_
  refine lv_istore (lv' := [(4, .int (1023 &&& (x0 ^^^ (-1)))), (0, .ref st), (1, .ref rm), (2, .int 2), (3, .int x0)]) hx hb dX4_goOn_9 hl (by decide) rfl (fun ls hl => ?_)
  refine lv_iconst (v := 0) hx hb dX4_goOn_11 (by decide) ?_
  refine lv_istore (lv' := [(5, .int 0), (4, .int (1023 &&& (x0 ^^^ (-1)))), (0, .ref st), (1, .ref rm), (2, .int 2), (3, .int x0)]) hx hb dX4_goOn_12 hl (by decide) rfl (fun ls hl => ?_)
  refine lv_iconst (v := 0) hx hb dX4_goOn_14 (by decide) ?_
  refine lv_istore (lv' := [(6, .int 0), (5, .int 0), (4, .int (1023 &&& (x0 ^^^ (-1)))), (0, .ref st), (1, .ref rm), (2, .int 2), (3, .int x0)]) hx hb dX4_goOn_15 hl (by decide) rfl (fun ls hl => ?_)
  refine lv_iload hx hb dX4_goOn_17 (lv_at hl 0 rfl) ?_
  refine lv_aload_n hx hb dX4_goOn_19 rfl (lv_at hl 4 rfl) ?_
  refine va_get (D := (dC, dI)) (ci := 5) (v := .int 2) (C := RX3) (T := TX3) (N := 12) hx hb hts zi_X4_goOn_X3 hown hK (zo_R hR0 hS hAr) 1 rfl rfl 4 (by decide) (hts (.fieldLink RX4 51 "LockRooms$Room" "lockCount" "I") (by decide +kernel)) (fun _ h9 => h9) rfl dX4_goOn_20 ?_
  refine lv_icmp_ge (tgt := 86) hx hb dX4_goOn_23 (by decide) (fun h => absurd h (by decide)) (fun _ => ?_)
  refine lv_iload_n hx hb dX4_goOn_26 rfl (lv_at hl 5 rfl) ?_
  refine lv_iconst (v := 1) hx hb dX4_goOn_27 (by decide) ?_
  refine lv_iload hx hb dX4_goOn_28 (lv_at hl 0 rfl) ?_
  refine lv_ishl hx hb dX4_goOn_30 ?_
  refine zo_i (v := 1) (by decide) ?_
  refine lv_ior hx hb dX4_goOn_31 ?_
  refine zo_i (v := 3) (by decide) ?_
  refine lv_istore (lv' := [(7, .int 3), (6, .int 0), (5, .int 0), (4, .int (1023 &&& (x0 ^^^ (-1)))), (0, .ref st), (1, .ref rm), (2, .int 2), (3, .int x0)]) hx hb dX4_goOn_32 hl (by decide) rfl (fun ls hl => ?_)
  refine lv_iload hx hb dX4_goOn_34 (lv_at hl 0 rfl) ?_
  refine lv_iload_n hx hb dX4_goOn_36 rfl (lv_at hl 6 rfl) ?_
  refine lv_icmp_eq (tgt := 80) hx hb dX4_goOn_37 (by decide) (fun h => absurd h (by decide)) (fun _ => ?_)
  refine lv_iload hx hb dX4_goOn_40 (lv_at hl 0 rfl) ?_
  refine lv_sipush (v := 1024) hx hb dX4_goOn_42 (by decide) ?_
  refine lv_icmp_ge (tgt := 80) hx hb dX4_goOn_45 (by decide) (fun h => absurd h (by decide)) (fun _ => ?_)
  refine lv_aload_n hx hb dX4_goOn_48 rfl (lv_at hl 5 rfl) ?_
  refine va_get (D := (dC, dI)) (ci := 5) (v := .ref lk) (C := RX3) (T := TX3) (N := 12) hx hb hts zi_X4_goOn_X3 hown hK (zo_R hR0 hS hAr) 1 rfl rfl 0 (by decide) (hts (.fieldLink RX4 78 "LockRooms$Room" "locks" "[LLockRooms$Lock;") (by decide +kernel)) (fun _ h9 => h9) rfl dX4_goOn_49 ?_
  refine lv_iload hx hb dX4_goOn_52 (lv_at hl 1 rfl) ?_
  refine va_aldq hx hb hK (zo_R hR0 hS hAr) 2 0 rfl rfl (by unfold vp_in; decide) dX4_goOn_54 ?_
  refine zo_q (v := .ref l0) (by rw [show Int32.toNatClampNeg 0 = 0 from by decide, hkl0]; rfl) ?_
  refine lv_iload hx hb dX4_goOn_55 (lv_at hl 3 rfl) ?_
  have hPr := ((zo_R hR0 hS hAr)).sub (ws' := [(l0, .inr (3, [.int 0, .int 0, .int 60, .int 0, .int 0, .int 0, .int 0, .int 0, .int 0, .int 0]))]) [4] rfl
  have hPc := hP.sub (ws' := []) [] rfl
  have hDc := hD.sub (ws' := []) [] (by decide) rfl
  have hKc := hK.sub (tys' := []) [] rfl
  have hFc := va_free (wc := []) hD hS hA [] rfl
  refine va_calli (va_runV (As := [.int (1023 &&& (x0 ^^^ (-1)))]) (rest := []) ⟨hx, hb, hml, hown, hts⟩ (cz_QisReady l dC dI ed H1.size l0 (1023 &&& (x0 ^^^ (-1)))) (cwV 1 hts gX4_goOn_X1_isReady rfl rfl rfl (by decide +kernel) ⟨Nat.le_of_ble_eq_true rfl, Nat.le_of_ble_eq_true rfl⟩) ⟨zb_blind, va_recv hK (zo_R hR0 hS hAr) (ci := 3) (q0 := 4) rfl rfl, fun U hU hW => ⟨rfl, zb_mk hU hW hPr hPc hKc hDc hN hH hS hFc zx_e⟩⟩ rfl rfl hl.1 rfl (lv_room (Nat.le_of_ble_eq_true rfl)) dX4_goOn_57 ⟨Nat.le_of_ble_eq_true rfl, Nat.le_of_ble_eq_true rfl⟩) hS (fun q _ h => hFc q h) hFc (fun r4 u t H3 locs ht hvm hw hB hz1 hk1 hS => ?_)
  obtain rfl : r4 = 1 := hw
  have hP := zo_K hP hk1
  refine lv_if_eq (tgt := 80) hx hb dX4_goOn_60 (by decide) (fun h => absurd h (by decide)) (fun _ => ?_)
  refine lv_aload_n hx hb dX4_goOn_63 rfl (lv_at hl 4 rfl) ?_
  refine va_get (D := (dC, dI)) (ci := 6) (v := .ref a1) (C := RX4) (T := TX4) (N := 3) hx hb hts zi_X4_goOn_X4 hown hK (zo_R hR0 hS hAr) 0 rfl rfl 0 (by decide) (hts (.fieldLink RX4 9 "LockRooms$Stands" "isReached" "[Z") (by decide +kernel)) (fun _ h9 => h9) rfl dX4_goOn_64 ?_
  refine lv_iload hx hb dX4_goOn_67 (lv_at hl 0 rfl) ?_
  refine lv_iconst (v := 1) hx hb dX4_goOn_69 (by decide) ?_
  refine va_zast hx hb hK hP hD hS 0 2 rfl rfl (by unfold vp_in; decide) dX4_goOn_70 (fun H5 locs hP hD hS => ?_)
  obtain ⟨f6, ef6⟩ : ∃ z : Nat → Int32, z = upd f1 3 (vp_nar .boolean 1) := ⟨_, rfl⟩
  have k7 : f6 0 = 1 := by rw [ef6]; exact (pk_un (by decide)).trans (hf1_0)
  have k8 : f6 1 = 1 := by rw [ef6]; exact (pk_un (by decide)).trans (hf1_1)
  have k9 : f6 2 = 1 := by rw [ef6]; exact (pk_un (by decide)).trans (hf1_2)
  have k10 : f6 3 = 1 := by rw [ef6]; exact pk_us.trans (by decide)
  have hP : va_P (dC, dI) vwCl [(a1, .inl (cZ, 1024, .inl f6)), (a2, .inl (cI, 1024, .inl f2))] H5 := by rw [ef6]; exact hP
  have hD : va_D A [(a1, .inl (cZ, 1024, .inl f6)), (a2, .inl (cI, 1024, .inl f2))] := by rw [ef6]; exact hD
  refine lv_iload hx hb dX4_goOn_71 (lv_at hl 2 rfl) ?_
  refine lv_iconst (v := 1) hx hb dX4_goOn_73 (by decide) ?_
  refine lv_iload hx hb dX4_goOn_74 (lv_at hl 1 rfl) ?_
  refine lv_ishl hx hb dX4_goOn_76 ?_
  refine zo_i (v := 1) (by decide) ?_
  refine lv_ior hx hb dX4_goOn_77 ?_
  refine zo_i (v := 1) (by decide) ?_
  refine lv_istore (lv' := [(5, .int 1), (7, .int 3), (6, .int 0), (4, .int (1023 &&& (x0 ^^^ (-1)))), (0, .ref st), (1, .ref rm), (2, .int 2), (3, .int x0)]) hx hb dX4_goOn_78 hl (by decide) rfl (fun ls hl => ?_)
  refine lv_iinc (v := 1) (lv' := [(6, .int 1), (5, .int 1), (7, .int 3), (4, .int (1023 &&& (x0 ^^^ (-1)))), (0, .ref st), (1, .ref rm), (2, .int 2), (3, .int x0)]) hx hb dX4_goOn_80 hl (k := 2) rfl (by decide) (by decide) rfl (fun ls hl => ?_)
  refine lv_goto (tgt := 17) hx hb dX4_goOn_83 (by decide) ?_
  refine lv_iload hx hb dX4_goOn_17 (lv_at hl 0 rfl) ?_
  refine lv_aload_n hx hb dX4_goOn_19 rfl (lv_at hl 5 rfl) ?_
  refine va_get (D := (dC, dI)) (ci := 5) (v := .int 2) (C := RX3) (T := TX3) (N := 12) hx hb hts zi_X4_goOn_X3 hown hK (zo_R hR0 hS hAr) 1 rfl rfl 4 (by decide) (hts (.fieldLink RX4 51 "LockRooms$Room" "lockCount" "I") (by decide +kernel)) (fun _ h9 => h9) rfl dX4_goOn_20 ?_
  refine lv_icmp_ge (tgt := 86) hx hb dX4_goOn_23 (by decide) (fun h => absurd h (by decide)) (fun _ => ?_)
  refine lv_iload_n hx hb dX4_goOn_26 rfl (lv_at hl 6 rfl) ?_
  refine lv_iconst (v := 1) hx hb dX4_goOn_27 (by decide) ?_
  refine lv_iload hx hb dX4_goOn_28 (lv_at hl 0 rfl) ?_
  refine lv_ishl hx hb dX4_goOn_30 ?_
  refine zo_i (v := 2) (by decide) ?_
  refine lv_ior hx hb dX4_goOn_31 ?_
  refine zo_i (v := 2) (by decide) ?_
  refine lv_istore (lv' := [(7, .int 2), (6, .int 1), (5, .int 1), (4, .int (1023 &&& (x0 ^^^ (-1)))), (0, .ref st), (1, .ref rm), (2, .int 2), (3, .int x0)]) hx hb dX4_goOn_32 hl (by decide) rfl (fun ls hl => ?_)
  refine lv_iload hx hb dX4_goOn_34 (lv_at hl 0 rfl) ?_
  refine lv_iload_n hx hb dX4_goOn_36 rfl (lv_at hl 6 rfl) ?_
  refine lv_icmp_eq (tgt := 80) hx hb dX4_goOn_37 (by decide) (fun _ => ?_) (fun h => absurd h (by decide))
  refine lv_iinc (v := 2) (lv' := [(6, .int 2), (7, .int 2), (5, .int 1), (4, .int (1023 &&& (x0 ^^^ (-1)))), (0, .ref st), (1, .ref rm), (2, .int 2), (3, .int x0)]) hx hb dX4_goOn_80 hl (k := 1) rfl (by decide) (by decide) rfl (fun ls hl => ?_)
  refine lv_goto (tgt := 17) hx hb dX4_goOn_83 (by decide) ?_
  refine lv_iload hx hb dX4_goOn_17 (lv_at hl 0 rfl) ?_
  refine lv_aload_n hx hb dX4_goOn_19 rfl (lv_at hl 5 rfl) ?_
  refine va_get (D := (dC, dI)) (ci := 5) (v := .int 2) (C := RX3) (T := TX3) (N := 12) hx hb hts zi_X4_goOn_X3 hown hK (zo_R hR0 hS hAr) 1 rfl rfl 4 (by decide) (hts (.fieldLink RX4 51 "LockRooms$Room" "lockCount" "I") (by decide +kernel)) (fun _ h9 => h9) rfl dX4_goOn_20 ?_
  refine lv_icmp_ge (tgt := 86) hx hb dX4_goOn_23 (by decide) (fun _ => ?_) (fun h => absurd h (by decide))
  refine lv_aload_n hx hb dX4_goOn_86 rfl (lv_at hl 4 rfl) ?_
  refine va_get (D := (dC, dI)) (ci := 6) (v := .ref a2) (C := RX4) (T := TX4) (N := 3) hx hb hts zi_X4_goOn_X4 hown hK (zo_R hR0 hS hAr) 0 rfl rfl 1 (by decide) (hts (.fieldLink RX4 15 "LockRooms$Stands" "ways" "[I") (by decide +kernel)) (fun _ h9 => h9) rfl dX4_goOn_87 ?_
  refine lv_iload_n hx hb dX4_goOn_90 rfl (lv_at hl 6 rfl) ?_
  refine lv_iload hx hb dX4_goOn_91 (lv_at hl 2 rfl) ?_
  refine va_iast hx hb hK hP hD hS 1 3 rfl rfl (by unfold vp_in; decide) dX4_goOn_93 (fun H11 locs hP hD hS => ?_)
  obtain ⟨f12, ef12⟩ : ∃ z : Nat → Int32, z = upd f2 2 1 := ⟨_, rfl⟩
  have k13 : f12 0 = 3 := by rw [ef12]; exact (pk_un (by decide)).trans (hf2_0)
  have k14 : f12 1 = 2 := by rw [ef12]; exact (pk_un (by decide)).trans (hf2_1)
  have k15 : f12 2 = 1 := by rw [ef12]; exact pk_us
  have hP : va_P (dC, dI) vwCl [(a1, .inl (cZ, 1024, .inl f6)), (a2, .inl (cI, 1024, .inl f12))] H11 := by rw [ef12]; exact hP
  have hD : va_D A [(a1, .inl (cZ, 1024, .inl f6)), (a2, .inl (cI, 1024, .inl f12))] := by rw [ef12]; exact hD
  refine W.widen (k := 0) (n := 0) (Nat.le_of_ble_eq_true rfl) (Nat.le_of_ble_eq_true rfl) ?_
  have hP9 := hP.sub (ws' := [(a1, .inl (cZ, 1024, .inl f6)), (a2, .inl (cI, 1024, .inl f12))]) [0, 1] rfl
  have hD9 := hD.sub (ws' := [(a1, .inl (cZ, 1024, .inl f6)), (a2, .inl (cI, 1024, .inl f12))]) [0, 1] (by decide) rfl
  have hK9 := hK.sub (tys' := [(cZ, .boolean), (cI, .int)]) [2, 3] rfl
  exact W.vret hx hb hr (fun t ht hW => ⟨⟨(), rfl, trivial, ⟨f6, f12, ⟨k7, k8, k9, k10, k13, k14, k15⟩, by rw [ht]; exact hP9, hD9, va_K.moved hW.alike hK9⟩⟩, hS.F ht⟩) hS.2.2 dX4_goOn_94
set_option maxHeartbeats 4000000 in
set_option maxRecDepth 100000 in
theorem cz_QgoOn_3 (l : Launch) (dC : Nat → ClassId) (dI : Nat → Nat → Nat) (ed sz : Nat) (st : Nat) (a1 : Nat) (a2 : Nat) (a3 : Nat) (rm : Nat) (lk : Nat) (th : Nat) (pl : Nat) (gm : Nat) (cL : ClassId) (fl : Nat → Option Nat) (l0 : Nat) (l1 : Nat) (cT : ClassId) (ft : Nat → Option Nat) (t0 : Nat) (t1 : Nat) (t2 : Nat) (t3 : Nat) (t4 : Nat) (t5 : Nat) (t6 : Nat) (t7 : Nat) (t8 : Nat) (t9 : Nat) (cZ : ClassId) (f1 : Nat → Int32) (cI : ClassId) (f2 : Nat → Int32) (x0 : Int32) (hkl0 : fl 0 = some l0) (hkl1 : fl 1 = some l1) (hkt0 : ft 0 = some t0) (hkt1 : ft 1 = some t1) (hkt2 : ft 2 = some t2) (hkt3 : ft 3 = some t3) (hkt4 : ft 4 = some t4) (hkt5 : ft 5 = some t5) (hkt6 : ft 6 = some t6) (hkt7 : ft 7 = some t7) (hkt8 : ft 8 = some t8) (hkt9 : ft 9 = some t9) (hf1_0 : f1 0 = 1) (hf1_1 : f1 1 = 1) (hf1_2 : f1 2 = 1) (hf1_3 : f1 3 = 1) (hf2_0 : f2 0 = 3) (hf2_1 : f2 1 = 2) (hf2_2 : f2 2 = 1) : Met l yX4_goOn wsX4_goOn ({ frames := 2, cells := 0, slots := 0, locals := 46 } : Jvm.Room) (va_Pc [.ref st, .ref rm, .int 3, .int x0] (zB dC dI ed sz [(st, .inr (6, [.ref a1, .ref a2, .ref a3])), (rm, .inr (5, [.ref lk, .ref th, .ref pl, .ref gm, .int 2, .int 10, .int 0, .int 0, .int 1, .int 0, .int 0, .int 0])), (lk, .inl (cL, 10, .inr (.inr (.inr (.inr fl))))), (th, .inl (cT, 12, .inr (.inr (.inr (.inr ft))))), (l0, .inr (3, [.int 0, .int 0, .int 60, .int 0, .int 0, .int 0, .int 0, .int 0, .int 0, .int 0])), (l1, .inr (3, [.int 0, .int 0, .int 60, .int 0, .int 0, .int 0, .int 0, .int 0, .int 0, .int 0])), (t0, .inr (7, [.int (-1), .int 0, .int 0, .int 0, .int 0])), (t1, .inr (7, [.int (-1), .int 0, .int 0, .int 0, .int 0])), (t2, .inr (7, [.int (-1), .int 0, .int 0, .int 0, .int 0])), (t3, .inr (7, [.int (-1), .int 0, .int 0, .int 0, .int 0])), (t4, .inr (7, [.int (-1), .int 0, .int 0, .int 0, .int 0])), (t5, .inr (7, [.int (-1), .int 0, .int 0, .int 0, .int 0])), (t6, .inr (7, [.int (-1), .int 0, .int 0, .int 0, .int 0])), (t7, .inr (7, [.int (-1), .int 0, .int 0, .int 0, .int 0])), (t8, .inr (7, [.int (-1), .int 0, .int 0, .int 0, .int 0])), (t9, .inr (7, [.int (-1), .int 0, .int 0, .int 0, .int 0]))] [(a1, .inl (cZ, 1024, .inl f1)), (a2, .inl (cI, 1024, .inl f2))] [(cL, .object "LockRooms$Lock"), (cT, .object "LockRooms$Thing"), (cZ, .boolean), (cI, .int)])) (va_Qv (fun (_ : Unit) => True) (fun (_ : Unit) (t : State) => ∃ (g1 : Nat → Int32), ∃ (g2 : Nat → Int32), (g1 0 = 1 ∧ g1 1 = 1 ∧ g1 2 = 1 ∧ g1 3 = 1 ∧ g2 0 = 3 ∧ g2 1 = 2 ∧ g2 2 = 1 ∧ g2 3 = 0) ∧ va_P (dC, dI) vwCl [(a1, .inl (cZ, 1024, .inl g1)), (a2, .inl (cI, 1024, .inl g2))] t.heap ∧ va_D (va_A [(a1, .inl (cZ, 1024, .inl f1)), (a2, .inl (cI, 1024, .inl f2))] sz) [(a1, .inl (cZ, 1024, .inl g1)), (a2, .inl (cI, 1024, .inl g2))] ∧ va_K (dC, dI) vwCl [(cZ, .boolean), (cI, .int)] t) (va_A [(a1, .inl (cZ, 1024, .inl f1)), (a2, .inl (cI, 1024, .inl f2))] sz)) 0 0 (va_A [(a1, .inl (cZ, 1024, .inl f1)), (a2, .inl (cI, 1024, .inl f2))] sz) := by
  refine Met.ofW (cc := cX4_goOn) (maxL := 8) (ret := none) (by decide) rfl ?_
  intro p e s m args below meth c s₁ B hml hv
  obtain ⟨rfl, hsz, hR0, hP, hK, hD0, hN, hH, hX0⟩ := hv
  have hx := B.exec
  have hb := B.bytes
  have hr := B.returns
  have hts := atoms_spec (ws := wsX4_goOn) B.pre
  have hown : s.vm.findClass RX4 = some m.cls := findClass_of_methodNamed B.named
  have hlocks := B.notSynchronized
  subst hsz
  have hD := hD0.self (sz := s.heap.size)
  have hAr := zx_A hX0 hR0
  generalize hAe : va_A [(a1, .inl (cZ, 1024, .inl f1)), (a2, .inl (cI, 1024, .inl f2))] s.heap.size = A at hD hAr hH ⊢
  have hA : ∀ q : Nat, s.heap.size ≤ q → A q := fun q h => by rw [← hAe]; exact Or.inr h
  have hS : va_S A s.heap s.heap [] := va_S.rf
  have hl := lv_entry ([.ref st, .ref rm, .int 3, .int x0]) (n := 8) (Nat.le_of_ble_eq_true rfl)
  rw [lg_entry_eq]
  generalize (lg_sl ([.ref st, .ref rm, .int 3, .int x0]) ++ List.replicate (8 - (lg_sl ([.ref st, .ref rm, .int 3, .int x0])).length) Slot.unset).toArray = ls at hl ⊢
  have hl : lv_has ls 8 [(0, .ref st), (1, .ref rm), (2, .int 3), (3, .int x0)] := hl
  refine lv_aload_n hx hb dX4_goOn_0 rfl (lv_at hl 1 rfl) ?_
  refine lv_iload_n hx hb dX4_goOn_1 rfl (lv_at hl 2 rfl) ?_
  have hPr := (hR0).sub (ws' := [(rm, .inr (5, [.ref lk, .ref th, .ref pl, .ref gm, .int 2, .int 10, .int 0, .int 0, .int 1, .int 0, .int 0, .int 0])), (lk, .inl (cL, 10, .inr (.inr (.inr (.inr fl))))), (th, .inl (cT, 12, .inr (.inr (.inr (.inr ft))))), (l0, .inr (3, [.int 0, .int 0, .int 60, .int 0, .int 0, .int 0, .int 0, .int 0, .int 0, .int 0])), (l1, .inr (3, [.int 0, .int 0, .int 60, .int 0, .int 0, .int 0, .int 0, .int 0, .int 0, .int 0])), (t0, .inr (7, [.int (-1), .int 0, .int 0, .int 0, .int 0])), (t1, .inr (7, [.int (-1), .int 0, .int 0, .int 0, .int 0])), (t2, .inr (7, [.int (-1), .int 0, .int 0, .int 0, .int 0])), (t3, .inr (7, [.int (-1), .int 0, .int 0, .int 0, .int 0])), (t4, .inr (7, [.int (-1), .int 0, .int 0, .int 0, .int 0])), (t5, .inr (7, [.int (-1), .int 0, .int 0, .int 0, .int 0])), (t6, .inr (7, [.int (-1), .int 0, .int 0, .int 0, .int 0])), (t7, .inr (7, [.int (-1), .int 0, .int 0, .int 0, .int 0])), (t8, .inr (7, [.int (-1), .int 0, .int 0, .int 0, .int 0])), (t9, .inr (7, [.int (-1), .int 0, .int 0, .int 0, .int 0]))]) [1, 2, 3, 4, 5, 6, 7, 8, 9, 10, 11, 12, 13, 14, 15] rfl
  have hPc := hP.sub (ws' := []) [] rfl
  have hDc := hD.sub (ws' := []) [] (by decide) rfl
  have hKc := hK.sub (tys' := [(cL, .object "LockRooms$Lock"), (cT, .object "LockRooms$Thing")]) [0, 1] rfl
  have hFc := va_free (wc := []) hD hS hA [] rfl
  refine va_calli (va_runV (As := [.int 3]) (rest := []) ⟨hx, hb, hml, hown, hts⟩ (cz_QthingsAtHand l dC dI ed s.heap.size rm lk th pl gm cL fl l0 l1 cT ft t0 t1 t2 t3 t4 t5 t6 t7 t8 t9 3 hkl0 hkl1 hkt0 hkt1 hkt2 hkt3 hkt4 hkt5 hkt6 hkt7 hkt8 hkt9) (cwV 1 hts gX4_goOn_X3_thingsAtHand rfl rfl rfl (by decide +kernel) ⟨Nat.le_of_ble_eq_true rfl, Nat.le_of_ble_eq_true rfl⟩) ⟨zb_blind, va_recv hK hR0 (ci := 5) (q0 := 1) rfl rfl, fun U hU hW => ⟨rfl, zb_mk hU hW hPr hPc hKc hDc hN hH hS hFc zx_e⟩⟩ rfl rfl hl.1 rfl (lv_room (Nat.le_of_ble_eq_true rfl)) dX4_goOn_2 ⟨Nat.le_of_ble_eq_true rfl, Nat.le_of_ble_eq_true rfl⟩) hS (fun q _ h => hFc q h) hFc (fun r2 u t H1 locs ht hvm hw hB hz1 hk1 hS => ?_)
  obtain rfl : r2 = 1023 := hw
  have hP := zo_K hP hk1
  refine lv_iload_n hx hb dX4_goOn_5 rfl (lv_at hl 3 rfl) ?_
  refine lv_iconst (v := (-1)) hx hb dX4_goOn_6 (by decide) ?_
  refine lv_ixor hx hb dX4_goOn_7 ?_
  refine lv_iand hx hb dX4_goOn_8 ?_
  refine lv_istore (lv' := [(4, .int (1023 &&& (x0 ^^^ (-1)))), (0, .ref st), (1, .ref rm), (2, .int 3), (3, .int x0)]) hx hb dX4_goOn_9 hl (by decide) rfl (fun ls hl => ?_)
  refine lv_iconst (v := 0) hx hb dX4_goOn_11 (by decide) ?_
  refine lv_istore (lv' := [(5, .int 0), (4, .int (1023 &&& (x0 ^^^ (-1)))), (0, .ref st), (1, .ref rm), (2, .int 3), (3, .int x0)]) hx hb dX4_goOn_12 hl (by decide) rfl (fun ls hl => ?_)
  refine lv_iconst (v := 0) hx hb dX4_goOn_14 (by decide) ?_
  refine lv_istore (lv' := [(6, .int 0), (5, .int 0), (4, .int (1023 &&& (x0 ^^^ (-1)))), (0, .ref st), (1, .ref rm), (2, .int 3), (3, .int x0)]) hx hb dX4_goOn_15 hl (by decide) rfl (fun ls hl => ?_)
  refine lv_iload hx hb dX4_goOn_17 (lv_at hl 0 rfl) ?_
  refine lv_aload_n hx hb dX4_goOn_19 rfl (lv_at hl 4 rfl) ?_
  refine va_get (D := (dC, dI)) (ci := 5) (v := .int 2) (C := RX3) (T := TX3) (N := 12) hx hb hts zi_X4_goOn_X3 hown hK (zo_R hR0 hS hAr) 1 rfl rfl 4 (by decide) (hts (.fieldLink RX4 51 "LockRooms$Room" "lockCount" "I") (by decide +kernel)) (fun _ h9 => h9) rfl dX4_goOn_20 ?_
  refine lv_icmp_ge (tgt := 86) hx hb dX4_goOn_23 (by decide) (fun h => absurd h (by decide)) (fun _ => ?_)
  refine lv_iload_n hx hb dX4_goOn_26 rfl (lv_at hl 5 rfl) ?_
  refine lv_iconst (v := 1) hx hb dX4_goOn_27 (by decide) ?_
  refine lv_iload hx hb dX4_goOn_28 (lv_at hl 0 rfl) ?_
  refine lv_ishl hx hb dX4_goOn_30 ?_
  refine zo_i (v := 1) (by decide) ?_
  refine lv_ior hx hb dX4_goOn_31 ?_
  refine zo_i (v := 3) (by decide) ?_
  refine lv_istore (lv' := [(7, .int 3), (6, .int 0), (5, .int 0), (4, .int (1023 &&& (x0 ^^^ (-1)))), (0, .ref st), (1, .ref rm), (2, .int 3), (3, .int x0)]) hx hb dX4_goOn_32 hl (by decide) rfl (fun ls hl => ?_)
  refine lv_iload hx hb dX4_goOn_34 (lv_at hl 0 rfl) ?_
  refine lv_iload_n hx hb dX4_goOn_36 rfl (lv_at hl 6 rfl) ?_
  refine lv_icmp_eq (tgt := 80) hx hb dX4_goOn_37 (by decide) (fun _ => ?_) (fun h => absurd h (by decide))
  refine lv_iinc (v := 1) (lv' := [(6, .int 1), (7, .int 3), (5, .int 0), (4, .int (1023 &&& (x0 ^^^ (-1)))), (0, .ref st), (1, .ref rm), (2, .int 3), (3, .int x0)]) hx hb dX4_goOn_80 hl (k := 1) rfl (by decide) (by decide) rfl (fun ls hl => ?_)
  refine lv_goto (tgt := 17) hx hb dX4_goOn_83 (by decide) ?_
  refine lv_iload hx hb dX4_goOn_17 (lv_at hl 0 rfl) ?_
  refine lv_aload_n hx hb dX4_goOn_19 rfl (lv_at hl 5 rfl) ?_
  refine va_get (D := (dC, dI)) (ci := 5) (v := .int 2) (C := RX3) (T := TX3) (N := 12) hx hb hts zi_X4_goOn_X3 hown hK (zo_R hR0 hS hAr) 1 rfl rfl 4 (by decide) (hts (.fieldLink RX4 51 "LockRooms$Room" "lockCount" "I") (by decide +kernel)) (fun _ h9 => h9) rfl dX4_goOn_20 ?_
  refine lv_icmp_ge (tgt := 86) hx hb dX4_goOn_23 (by decide) (fun h => absurd h (by decide)) (fun _ => ?_)
  refine lv_iload_n hx hb dX4_goOn_26 rfl (lv_at hl 6 rfl) ?_
  refine lv_iconst (v := 1) hx hb dX4_goOn_27 (by decide) ?_
  refine lv_iload hx hb dX4_goOn_28 (lv_at hl 0 rfl) ?_
  refine lv_ishl hx hb dX4_goOn_30 ?_
  refine zo_i (v := 2) (by decide) ?_
  refine lv_ior hx hb dX4_goOn_31 ?_
  refine zo_i (v := 3) (by decide) ?_
  refine lv_istore (lv' := [(7, .int 3), (6, .int 1), (5, .int 0), (4, .int (1023 &&& (x0 ^^^ (-1)))), (0, .ref st), (1, .ref rm), (2, .int 3), (3, .int x0)]) hx hb dX4_goOn_32 hl (by decide) rfl (fun ls hl => ?_)
  refine lv_iload hx hb dX4_goOn_34 (lv_at hl 0 rfl) ?_
  refine lv_iload_n hx hb dX4_goOn_36 rfl (lv_at hl 6 rfl) ?_
  refine lv_icmp_eq (tgt := 80) hx hb dX4_goOn_37 (by decide) (fun _ => ?_) (fun h => absurd h (by decide))
  refine lv_iinc (v := 2) (lv' := [(6, .int 2), (7, .int 3), (5, .int 0), (4, .int (1023 &&& (x0 ^^^ (-1)))), (0, .ref st), (1, .ref rm), (2, .int 3), (3, .int x0)]) hx hb dX4_goOn_80 hl (k := 1) rfl (by decide) (by decide) rfl (fun ls hl => ?_)
  refine lv_goto (tgt := 17) hx hb dX4_goOn_83 (by decide) ?_
  refine lv_iload hx hb dX4_goOn_17 (lv_at hl 0 rfl) ?_
  refine lv_aload_n hx hb dX4_goOn_19 rfl (lv_at hl 5 rfl) ?_
  refine va_get (D := (dC, dI)) (ci := 5) (v := .int 2) (C := RX3) (T := TX3) (N := 12) hx hb hts zi_X4_goOn_X3 hown hK (zo_R hR0 hS hAr) 1 rfl rfl 4 (by decide) (hts (.fieldLink RX4 51 "LockRooms$Room" "lockCount" "I") (by decide +kernel)) (fun _ h9 => h9) rfl dX4_goOn_20 ?_
  refine lv_icmp_ge (tgt := 86) hx hb dX4_goOn_23 (by decide) (fun _ => ?_) (fun h => absurd h (by decide))
  refine lv_aload_n hx hb dX4_goOn_86 rfl (lv_at hl 4 rfl) ?_
  refine va_get (D := (dC, dI)) (ci := 6) (v := .ref a2) (C := RX4) (T := TX4) (N := 3) hx hb hts zi_X4_goOn_X4 hown hK (zo_R hR0 hS hAr) 0 rfl rfl 1 (by decide) (hts (.fieldLink RX4 15 "LockRooms$Stands" "ways" "[I") (by decide +kernel)) (fun _ h9 => h9) rfl dX4_goOn_87 ?_
  refine lv_iload_n hx hb dX4_goOn_90 rfl (lv_at hl 6 rfl) ?_
  refine lv_iload hx hb dX4_goOn_91 (lv_at hl 2 rfl) ?_
  refine va_iast hx hb hK hP hD hS 1 3 rfl rfl (by unfold vp_in; decide) dX4_goOn_93 (fun H3 locs hP hD hS => ?_)
  obtain ⟨f4, ef4⟩ : ∃ z : Nat → Int32, z = upd f2 3 0 := ⟨_, rfl⟩
  have k5 : f4 0 = 3 := by rw [ef4]; exact (pk_un (by decide)).trans (hf2_0)
  have k6 : f4 1 = 2 := by rw [ef4]; exact (pk_un (by decide)).trans (hf2_1)
  have k7 : f4 2 = 1 := by rw [ef4]; exact (pk_un (by decide)).trans (hf2_2)
  have k8 : f4 3 = 0 := by rw [ef4]; exact pk_us
  have hP : va_P (dC, dI) vwCl [(a1, .inl (cZ, 1024, .inl f1)), (a2, .inl (cI, 1024, .inl f4))] H3 := by rw [ef4]; exact hP
  have hD : va_D A [(a1, .inl (cZ, 1024, .inl f1)), (a2, .inl (cI, 1024, .inl f4))] := by rw [ef4]; exact hD
  refine W.widen (k := 0) (n := 0) (Nat.le_of_ble_eq_true rfl) (Nat.le_of_ble_eq_true rfl) ?_
  have hP9 := hP.sub (ws' := [(a1, .inl (cZ, 1024, .inl f1)), (a2, .inl (cI, 1024, .inl f4))]) [0, 1] rfl
  have hD9 := hD.sub (ws' := [(a1, .inl (cZ, 1024, .inl f1)), (a2, .inl (cI, 1024, .inl f4))]) [0, 1] (by decide) rfl
  have hK9 := hK.sub (tys' := [(cZ, .boolean), (cI, .int)]) [2, 3] rfl
  exact W.vret hx hb hr (fun t ht hW => ⟨⟨(), rfl, trivial, ⟨f1, f4, ⟨hf1_0, hf1_1, hf1_2, hf1_3, k5, k6, k7, k8⟩, by rw [ht]; exact hP9, hD9, va_K.moved hW.alike hK9⟩⟩, hS.F ht⟩) hS.2.2 dX4_goOn_94
set_option maxHeartbeats 4000000 in
set_option maxRecDepth 100000 in
theorem cz_Qexplore (l : Launch) (dC : Nat → ClassId) (dI : Nat → Nat → Nat) (ed sz : Nat) (st : Nat) (a1 : Nat) (a2 : Nat) (a3 : Nat) (rm : Nat) (lk : Nat) (th : Nat) (pl : Nat) (gm : Nat) (cL : ClassId) (fl : Nat → Option Nat) (l0 : Nat) (l1 : Nat) (cT : ClassId) (ft : Nat → Option Nat) (t0 : Nat) (t1 : Nat) (t2 : Nat) (t3 : Nat) (t4 : Nat) (t5 : Nat) (t6 : Nat) (t7 : Nat) (t8 : Nat) (t9 : Nat) (cZ : ClassId) (f1 : Nat → Int32) (cI : ClassId) (f2 : Nat → Int32) (cJ : ClassId) (f3 : Nat → Int32) (x0 : Int32) (hkl0 : fl 0 = some l0) (hkl1 : fl 1 = some l1) (hkt0 : ft 0 = some t0) (hkt1 : ft 1 = some t1) (hkt2 : ft 2 = some t2) (hkt3 : ft 3 = some t3) (hkt4 : ft 4 = some t4) (hkt5 : ft 5 = some t5) (hkt6 : ft 6 = some t6) (hkt7 : ft 7 = some t7) (hkt8 : ft 8 = some t8) (hkt9 : ft 9 = some t9) : Met l yX4_explore wsX4_explore ({ frames := 3, cells := 0, slots := 0, locals := 73 } : Jvm.Room) (va_Pc [.ref st, .ref rm, .int x0] (zB dC dI ed sz [(st, .inr (6, [.ref a1, .ref a2, .ref a3])), (rm, .inr (5, [.ref lk, .ref th, .ref pl, .ref gm, .int 2, .int 10, .int 0, .int 0, .int 1, .int 0, .int 0, .int 0])), (lk, .inl (cL, 10, .inr (.inr (.inr (.inr fl))))), (th, .inl (cT, 12, .inr (.inr (.inr (.inr ft))))), (l0, .inr (3, [.int 0, .int 0, .int 60, .int 0, .int 0, .int 0, .int 0, .int 0, .int 0, .int 0])), (l1, .inr (3, [.int 0, .int 0, .int 60, .int 0, .int 0, .int 0, .int 0, .int 0, .int 0, .int 0])), (t0, .inr (7, [.int (-1), .int 0, .int 0, .int 0, .int 0])), (t1, .inr (7, [.int (-1), .int 0, .int 0, .int 0, .int 0])), (t2, .inr (7, [.int (-1), .int 0, .int 0, .int 0, .int 0])), (t3, .inr (7, [.int (-1), .int 0, .int 0, .int 0, .int 0])), (t4, .inr (7, [.int (-1), .int 0, .int 0, .int 0, .int 0])), (t5, .inr (7, [.int (-1), .int 0, .int 0, .int 0, .int 0])), (t6, .inr (7, [.int (-1), .int 0, .int 0, .int 0, .int 0])), (t7, .inr (7, [.int (-1), .int 0, .int 0, .int 0, .int 0])), (t8, .inr (7, [.int (-1), .int 0, .int 0, .int 0, .int 0])), (t9, .inr (7, [.int (-1), .int 0, .int 0, .int 0, .int 0]))] [(a1, .inl (cZ, 1024, .inl f1)), (a2, .inl (cI, 1024, .inl f2)), (a3, .inl (cJ, 1024, .inl f3))] [(cL, .object "LockRooms$Lock"), (cT, .object "LockRooms$Thing"), (cZ, .boolean), (cI, .int), (cJ, .int)])) (va_Qv (fun (_ : Unit) => True) (fun (_ : Unit) (t : State) => ∃ (g1 : Nat → Int32), ∃ (g2 : Nat → Int32), ∃ (g3 : Nat → Int32), (g1 0 = 1 ∧ g1 1 = 1 ∧ g1 2 = 1 ∧ g1 3 = 1 ∧ g3 0 = 1 ∧ g3 1 = 0 ∧ g3 2 = 1 ∧ g3 3 = 0) ∧ va_P (dC, dI) vwCl [(a1, .inl (cZ, 1024, .inl g1)), (a2, .inl (cI, 1024, .inl g2)), (a3, .inl (cJ, 1024, .inl g3))] t.heap ∧ va_D (va_A [(a1, .inl (cZ, 1024, .inl f1)), (a2, .inl (cI, 1024, .inl f2)), (a3, .inl (cJ, 1024, .inl f3))] sz) [(a1, .inl (cZ, 1024, .inl g1)), (a2, .inl (cI, 1024, .inl g2)), (a3, .inl (cJ, 1024, .inl g3))] ∧ va_K (dC, dI) vwCl [(cZ, .boolean), (cI, .int), (cJ, .int)] t) (va_A [(a1, .inl (cZ, 1024, .inl f1)), (a2, .inl (cI, 1024, .inl f2)), (a3, .inl (cJ, 1024, .inl f3))] sz)) 0 0 (va_A [(a1, .inl (cZ, 1024, .inl f1)), (a2, .inl (cI, 1024, .inl f2)), (a3, .inl (cJ, 1024, .inl f3))] sz) := by
  refine Met.ofW (cc := cX4_explore) (maxL := 6) (ret := none) (by decide) rfl ?_
  intro p e s m args below meth c s₁ B hml hv
  obtain ⟨rfl, hsz, hR0, hP, hK, hD0, hN, hH, hX0⟩ := hv
  have hx := B.exec
  have hb := B.bytes
  have hr := B.returns
  have hts := atoms_spec (ws := wsX4_explore) B.pre
  have hown : s.vm.findClass RX4 = some m.cls := findClass_of_methodNamed B.named
  have hlocks := B.notSynchronized
  subst hsz
  have hD := hD0.self (sz := s.heap.size)
  have hAr := zx_A hX0 hR0
  generalize hAe : va_A [(a1, .inl (cZ, 1024, .inl f1)), (a2, .inl (cI, 1024, .inl f2)), (a3, .inl (cJ, 1024, .inl f3))] s.heap.size = A at hD hAr hH ⊢
  have hA : ∀ q : Nat, s.heap.size ≤ q → A q := fun q h => by rw [← hAe]; exact Or.inr h
  have hS : va_S A s.heap s.heap [] := va_S.rf
  have hl := lv_entry ([.ref st, .ref rm, .int x0]) (n := 6) (Nat.le_of_ble_eq_true rfl)
  rw [lg_entry_eq]
  generalize (lg_sl ([.ref st, .ref rm, .int x0]) ++ List.replicate (6 - (lg_sl ([.ref st, .ref rm, .int x0])).length) Slot.unset).toArray = ls at hl ⊢
  have hl : lv_has ls 6 [(0, .ref st), (1, .ref rm), (2, .int x0)] := hl
  refine lv_aload_n hx hb dX4_explore_0 rfl (lv_at hl 0 rfl) ?_
  refine lv_aload_n hx hb dX4_explore_1 rfl (lv_at hl 1 rfl) ?_
  have hPr := (hR0).sub (ws' := [(rm, .inr (5, [.ref lk, .ref th, .ref pl, .ref gm, .int 2, .int 10, .int 0, .int 0, .int 1, .int 0, .int 0, .int 0]))]) [1] rfl
  have hPc := hP.sub (ws' := []) [] rfl
  have hDc := hD.sub (ws' := []) [] (by decide) rfl
  have hKc := hK.sub (tys' := []) [] rfl
  have hFc := va_free (wc := []) hD hS hA [] rfl
  refine va_calli (va_runV (As := [.ref rm]) (rest := []) ⟨hx, hb, hml, hown, hts⟩ (cz_QendOfStands l dC dI ed s.heap.size rm lk th pl gm st) (cwV 1 hts gX4_explore_X4_endOfStands rfl rfl rfl (by decide +kernel) ⟨Nat.le_of_ble_eq_true rfl, Nat.le_of_ble_eq_true rfl⟩) ⟨zb_blind, va_recv hK hR0 (ci := 6) (q0 := 0) rfl rfl, fun U hU hW => ⟨rfl, zb_mk hU hW hPr hPc hKc hDc hN hH hS hFc zx_e⟩⟩ rfl rfl hl.1 rfl (lv_room (Nat.le_of_ble_eq_true rfl)) dX4_explore_2 ⟨Nat.le_of_ble_eq_true rfl, Nat.le_of_ble_eq_true rfl⟩) hS (fun q _ h => hFc q h) hFc (fun r2 u t H1 locs ht hvm hw hB hz1 hk1 hS => ?_)
  obtain rfl : r2 = 4 := hw
  have hP := zo_K hP hk1
  refine lv_istore_n (lv' := [(3, .int 4), (0, .ref st), (1, .ref rm), (2, .int x0)]) hx hb dX4_explore_5 rfl hl (by decide) rfl (fun ls hl => ?_)
  refine lv_aload_n hx hb dX4_explore_6 rfl (lv_at hl 2 rfl) ?_
  have hPr := ((zo_R hR0 hS hAr)).sub (ws' := [(rm, .inr (5, [.ref lk, .ref th, .ref pl, .ref gm, .int 2, .int 10, .int 0, .int 0, .int 1, .int 0, .int 0, .int 0])), (lk, .inl (cL, 10, .inr (.inr (.inr (.inr fl))))), (l0, .inr (3, [.int 0, .int 0, .int 60, .int 0, .int 0, .int 0, .int 0, .int 0, .int 0, .int 0])), (l1, .inr (3, [.int 0, .int 0, .int 60, .int 0, .int 0, .int 0, .int 0, .int 0, .int 0, .int 0]))]) [1, 2, 4, 5] rfl
  have hPc := hP.sub (ws' := []) [] rfl
  have hDc := hD.sub (ws' := []) [] (by decide) rfl
  have hKc := hK.sub (tys' := [(cL, .object "LockRooms$Lock")]) [0] rfl
  have hFc := va_free (wc := []) hD hS hA [] rfl
  refine va_calli (va_runV (As := []) (rest := []) ⟨hx, hb, hml, hown, hts⟩ (cz_QopenLocks l dC dI ed H1.size rm lk th pl gm cL fl l0 l1 hkl0 hkl1) (cwV 0 hts gX4_explore_X3_openLocks rfl rfl rfl (by decide +kernel) ⟨Nat.le_of_ble_eq_true rfl, Nat.le_of_ble_eq_true rfl⟩) ⟨zb_blind, va_recv hK (zo_R hR0 hS hAr) (ci := 5) (q0 := 1) rfl rfl, fun U hU hW => ⟨rfl, zb_mk hU hW hPr hPc hKc hDc hN hH hS hFc zx_e⟩⟩ rfl rfl hl.1 rfl (lv_room (Nat.le_of_ble_eq_true rfl)) dX4_explore_7 ⟨Nat.le_of_ble_eq_true rfl, Nat.le_of_ble_eq_true rfl⟩) hS (fun q _ h => hFc q h) hFc (fun r4 u t H3 locs ht hvm hw hB hz1 hk1 hS => ?_)
  obtain rfl : r4 = 0 := hw
  have hP := zo_K hP hk1
  refine lv_istore (lv' := [(4, .int 0), (3, .int 4), (0, .ref st), (1, .ref rm), (2, .int x0)]) hx hb dX4_explore_10 hl (by decide) rfl (fun ls hl => ?_)
  refine lv_iconst (v := 0) hx hb dX4_explore_12 (by decide) ?_
  refine lv_istore (lv' := [(5, .int 0), (4, .int 0), (3, .int 4), (0, .ref st), (1, .ref rm), (2, .int x0)]) hx hb dX4_explore_13 hl (by decide) rfl (fun ls hl => ?_)
  refine lv_iload hx hb dX4_explore_15 (lv_at hl 0 rfl) ?_
  refine lv_iload_n hx hb dX4_explore_17 rfl (lv_at hl 2 rfl) ?_
  refine lv_icmp_ge (tgt := 54) hx hb dX4_explore_18 (by decide) (fun h => absurd h (by decide)) (fun _ => ?_)
  refine lv_aload_n hx hb dX4_explore_21 rfl (lv_at hl 3 rfl) ?_
  refine va_get (D := (dC, dI)) (ci := 6) (v := .ref a1) (C := RX4) (T := TX4) (N := 3) hx hb hts zi_X4_explore_X4 hown hK (zo_R hR0 hS hAr) 0 rfl rfl 0 (by decide) (hts (.fieldLink RX4 9 "LockRooms$Stands" "isReached" "[Z") (by decide +kernel)) (fun _ h9 => h9) rfl dX4_explore_22 ?_
  refine lv_iload hx hb dX4_explore_25 (lv_at hl 0 rfl) ?_
  refine lv_iload hx hb dX4_explore_27 (lv_at hl 0 rfl) ?_
  refine lv_iload hx hb dX4_explore_29 (lv_at hl 1 rfl) ?_
  refine lv_icmp_ne (tgt := 38) hx hb dX4_explore_31 (by decide) (fun h => absurd h (by decide)) (fun _ => ?_)
  refine lv_iconst (v := 1) hx hb dX4_explore_34 (by decide) ?_
  refine lv_goto (tgt := 39) hx hb dX4_explore_35 (by decide) ?_
  refine va_zast hx hb hK hP hD hS 0 2 rfl rfl (by unfold vp_in; decide) dX4_explore_39 (fun H5 locs hP hD hS => ?_)
  obtain ⟨f6, ef6⟩ : ∃ z : Nat → Int32, z = upd f1 0 (vp_nar .boolean 1) := ⟨_, rfl⟩
  have k7 : f6 0 = 1 := by rw [ef6]; exact pk_us.trans (by decide)
  have hP : va_P (dC, dI) vwCl [(a1, .inl (cZ, 1024, .inl f6)), (a2, .inl (cI, 1024, .inl f2)), (a3, .inl (cJ, 1024, .inl f3))] H5 := by rw [ef6]; exact hP
  have hD : va_D A [(a1, .inl (cZ, 1024, .inl f6)), (a2, .inl (cI, 1024, .inl f2)), (a3, .inl (cJ, 1024, .inl f3))] := by rw [ef6]; exact hD
  refine lv_aload_n hx hb dX4_explore_40 rfl (lv_at hl 3 rfl) ?_
  refine va_get (D := (dC, dI)) (ci := 6) (v := .ref a3) (C := RX4) (T := TX4) (N := 3) hx hb hts zi_X4_explore_X4 hown hK (zo_R hR0 hS hAr) 0 rfl rfl 2 (by decide) (hts (.fieldLink RX4 19 "LockRooms$Stands" "yet" "[I") (by decide +kernel)) (fun _ h9 => h9) rfl dX4_explore_41 ?_
  refine lv_iload hx hb dX4_explore_44 (lv_at hl 0 rfl) ?_
  refine lv_iconst (v := (-1)) hx hb dX4_explore_46 (by decide) ?_
  refine va_iast hx hb hK hP hD hS 2 4 rfl rfl (by unfold vp_in; decide) dX4_explore_47 (fun H8 locs hP hD hS => ?_)
  obtain ⟨f9, ef9⟩ : ∃ z : Nat → Int32, z = upd f3 0 (-1) := ⟨_, rfl⟩
  have k10 : f9 0 = (-1) := by rw [ef9]; exact pk_us
  have hP : va_P (dC, dI) vwCl [(a1, .inl (cZ, 1024, .inl f6)), (a2, .inl (cI, 1024, .inl f2)), (a3, .inl (cJ, 1024, .inl f9))] H8 := by rw [ef9]; exact hP
  have hD : va_D A [(a1, .inl (cZ, 1024, .inl f6)), (a2, .inl (cI, 1024, .inl f2)), (a3, .inl (cJ, 1024, .inl f9))] := by rw [ef9]; exact hD
  refine lv_iinc (v := 1) (lv' := [(5, .int 1), (4, .int 0), (3, .int 4), (0, .ref st), (1, .ref rm), (2, .int x0)]) hx hb dX4_explore_48 hl (k := 0) rfl (by decide) (by decide) rfl (fun ls hl => ?_)
  refine lv_goto (tgt := 15) hx hb dX4_explore_51 (by decide) ?_
  refine lv_iload hx hb dX4_explore_15 (lv_at hl 0 rfl) ?_
  refine lv_iload_n hx hb dX4_explore_17 rfl (lv_at hl 2 rfl) ?_
  refine lv_icmp_ge (tgt := 54) hx hb dX4_explore_18 (by decide) (fun h => absurd h (by decide)) (fun _ => ?_)
  refine lv_aload_n hx hb dX4_explore_21 rfl (lv_at hl 3 rfl) ?_
  refine va_get (D := (dC, dI)) (ci := 6) (v := .ref a1) (C := RX4) (T := TX4) (N := 3) hx hb hts zi_X4_explore_X4 hown hK (zo_R hR0 hS hAr) 0 rfl rfl 0 (by decide) (hts (.fieldLink RX4 9 "LockRooms$Stands" "isReached" "[Z") (by decide +kernel)) (fun _ h9 => h9) rfl dX4_explore_22 ?_
  refine lv_iload hx hb dX4_explore_25 (lv_at hl 0 rfl) ?_
  refine lv_iload hx hb dX4_explore_27 (lv_at hl 0 rfl) ?_
  refine lv_iload hx hb dX4_explore_29 (lv_at hl 1 rfl) ?_
  refine lv_icmp_ne (tgt := 38) hx hb dX4_explore_31 (by decide) (fun _ => ?_) (fun h => absurd h (by decide))
  refine lv_iconst (v := 0) hx hb dX4_explore_38 (by decide) ?_
  refine va_zast hx hb hK hP hD hS 0 2 rfl rfl (by unfold vp_in; decide) dX4_explore_39 (fun H11 locs hP hD hS => ?_)
  obtain ⟨f12, ef12⟩ : ∃ z : Nat → Int32, z = upd f6 1 (vp_nar .boolean 0) := ⟨_, rfl⟩
  have k13 : f12 0 = 1 := by rw [ef12]; exact (pk_un (by decide)).trans (k7)
  have k14 : f12 1 = 0 := by rw [ef12]; exact pk_us.trans (by decide)
  have hP : va_P (dC, dI) vwCl [(a1, .inl (cZ, 1024, .inl f12)), (a2, .inl (cI, 1024, .inl f2)), (a3, .inl (cJ, 1024, .inl f9))] H11 := by rw [ef12]; exact hP
  have hD : va_D A [(a1, .inl (cZ, 1024, .inl f12)), (a2, .inl (cI, 1024, .inl f2)), (a3, .inl (cJ, 1024, .inl f9))] := by rw [ef12]; exact hD
  refine lv_aload_n hx hb dX4_explore_40 rfl (lv_at hl 3 rfl) ?_
  refine va_get (D := (dC, dI)) (ci := 6) (v := .ref a3) (C := RX4) (T := TX4) (N := 3) hx hb hts zi_X4_explore_X4 hown hK (zo_R hR0 hS hAr) 0 rfl rfl 2 (by decide) (hts (.fieldLink RX4 19 "LockRooms$Stands" "yet" "[I") (by decide +kernel)) (fun _ h9 => h9) rfl dX4_explore_41 ?_
  refine lv_iload hx hb dX4_explore_44 (lv_at hl 0 rfl) ?_
  refine lv_iconst (v := (-1)) hx hb dX4_explore_46 (by decide) ?_
  refine va_iast hx hb hK hP hD hS 2 4 rfl rfl (by unfold vp_in; decide) dX4_explore_47 (fun H15 locs hP hD hS => ?_)
  obtain ⟨f16, ef16⟩ : ∃ z : Nat → Int32, z = upd f9 1 (-1) := ⟨_, rfl⟩
  have k17 : f16 0 = (-1) := by rw [ef16]; exact (pk_un (by decide)).trans (k10)
  have k18 : f16 1 = (-1) := by rw [ef16]; exact pk_us
  have hP : va_P (dC, dI) vwCl [(a1, .inl (cZ, 1024, .inl f12)), (a2, .inl (cI, 1024, .inl f2)), (a3, .inl (cJ, 1024, .inl f16))] H15 := by rw [ef16]; exact hP
  have hD : va_D A [(a1, .inl (cZ, 1024, .inl f12)), (a2, .inl (cI, 1024, .inl f2)), (a3, .inl (cJ, 1024, .inl f16))] := by rw [ef16]; exact hD
  refine lv_iinc (v := 2) (lv' := [(5, .int 2), (4, .int 0), (3, .int 4), (0, .ref st), (1, .ref rm), (2, .int x0)]) hx hb dX4_explore_48 hl (k := 0) rfl (by decide) (by decide) rfl (fun ls hl => ?_)
  refine lv_goto (tgt := 15) hx hb dX4_explore_51 (by decide) ?_
  refine lv_iload hx hb dX4_explore_15 (lv_at hl 0 rfl) ?_
  refine lv_iload_n hx hb dX4_explore_17 rfl (lv_at hl 2 rfl) ?_
  refine lv_icmp_ge (tgt := 54) hx hb dX4_explore_18 (by decide) (fun h => absurd h (by decide)) (fun _ => ?_)
  refine lv_aload_n hx hb dX4_explore_21 rfl (lv_at hl 3 rfl) ?_
  refine va_get (D := (dC, dI)) (ci := 6) (v := .ref a1) (C := RX4) (T := TX4) (N := 3) hx hb hts zi_X4_explore_X4 hown hK (zo_R hR0 hS hAr) 0 rfl rfl 0 (by decide) (hts (.fieldLink RX4 9 "LockRooms$Stands" "isReached" "[Z") (by decide +kernel)) (fun _ h9 => h9) rfl dX4_explore_22 ?_
  refine lv_iload hx hb dX4_explore_25 (lv_at hl 0 rfl) ?_
  refine lv_iload hx hb dX4_explore_27 (lv_at hl 0 rfl) ?_
  refine lv_iload hx hb dX4_explore_29 (lv_at hl 1 rfl) ?_
  refine lv_icmp_ne (tgt := 38) hx hb dX4_explore_31 (by decide) (fun _ => ?_) (fun h => absurd h (by decide))
  refine lv_iconst (v := 0) hx hb dX4_explore_38 (by decide) ?_
  refine va_zast hx hb hK hP hD hS 0 2 rfl rfl (by unfold vp_in; decide) dX4_explore_39 (fun H19 locs hP hD hS => ?_)
  obtain ⟨f20, ef20⟩ : ∃ z : Nat → Int32, z = upd f12 2 (vp_nar .boolean 0) := ⟨_, rfl⟩
  have k21 : f20 0 = 1 := by rw [ef20]; exact (pk_un (by decide)).trans (k13)
  have k22 : f20 1 = 0 := by rw [ef20]; exact (pk_un (by decide)).trans (k14)
  have k23 : f20 2 = 0 := by rw [ef20]; exact pk_us.trans (by decide)
  have hP : va_P (dC, dI) vwCl [(a1, .inl (cZ, 1024, .inl f20)), (a2, .inl (cI, 1024, .inl f2)), (a3, .inl (cJ, 1024, .inl f16))] H19 := by rw [ef20]; exact hP
  have hD : va_D A [(a1, .inl (cZ, 1024, .inl f20)), (a2, .inl (cI, 1024, .inl f2)), (a3, .inl (cJ, 1024, .inl f16))] := by rw [ef20]; exact hD
  refine lv_aload_n hx hb dX4_explore_40 rfl (lv_at hl 3 rfl) ?_
  refine va_get (D := (dC, dI)) (ci := 6) (v := .ref a3) (C := RX4) (T := TX4) (N := 3) hx hb hts zi_X4_explore_X4 hown hK (zo_R hR0 hS hAr) 0 rfl rfl 2 (by decide) (hts (.fieldLink RX4 19 "LockRooms$Stands" "yet" "[I") (by decide +kernel)) (fun _ h9 => h9) rfl dX4_explore_41 ?_
  refine lv_iload hx hb dX4_explore_44 (lv_at hl 0 rfl) ?_
  refine lv_iconst (v := (-1)) hx hb dX4_explore_46 (by decide) ?_
  refine va_iast hx hb hK hP hD hS 2 4 rfl rfl (by unfold vp_in; decide) dX4_explore_47 (fun H24 locs hP hD hS => ?_)
  obtain ⟨f25, ef25⟩ : ∃ z : Nat → Int32, z = upd f16 2 (-1) := ⟨_, rfl⟩
  have k26 : f25 0 = (-1) := by rw [ef25]; exact (pk_un (by decide)).trans (k17)
  have k27 : f25 1 = (-1) := by rw [ef25]; exact (pk_un (by decide)).trans (k18)
  have k28 : f25 2 = (-1) := by rw [ef25]; exact pk_us
  have hP : va_P (dC, dI) vwCl [(a1, .inl (cZ, 1024, .inl f20)), (a2, .inl (cI, 1024, .inl f2)), (a3, .inl (cJ, 1024, .inl f25))] H24 := by rw [ef25]; exact hP
  have hD : va_D A [(a1, .inl (cZ, 1024, .inl f20)), (a2, .inl (cI, 1024, .inl f2)), (a3, .inl (cJ, 1024, .inl f25))] := by rw [ef25]; exact hD
  refine lv_iinc (v := 3) (lv' := [(5, .int 3), (4, .int 0), (3, .int 4), (0, .ref st), (1, .ref rm), (2, .int x0)]) hx hb dX4_explore_48 hl (k := 0) rfl (by decide) (by decide) rfl (fun ls hl => ?_)
  refine lv_goto (tgt := 15) hx hb dX4_explore_51 (by decide) ?_
  refine lv_iload hx hb dX4_explore_15 (lv_at hl 0 rfl) ?_
  refine lv_iload_n hx hb dX4_explore_17 rfl (lv_at hl 2 rfl) ?_
  refine lv_icmp_ge (tgt := 54) hx hb dX4_explore_18 (by decide) (fun h => absurd h (by decide)) (fun _ => ?_)
  refine lv_aload_n hx hb dX4_explore_21 rfl (lv_at hl 3 rfl) ?_
  refine va_get (D := (dC, dI)) (ci := 6) (v := .ref a1) (C := RX4) (T := TX4) (N := 3) hx hb hts zi_X4_explore_X4 hown hK (zo_R hR0 hS hAr) 0 rfl rfl 0 (by decide) (hts (.fieldLink RX4 9 "LockRooms$Stands" "isReached" "[Z") (by decide +kernel)) (fun _ h9 => h9) rfl dX4_explore_22 ?_
  refine lv_iload hx hb dX4_explore_25 (lv_at hl 0 rfl) ?_
  refine lv_iload hx hb dX4_explore_27 (lv_at hl 0 rfl) ?_
  refine lv_iload hx hb dX4_explore_29 (lv_at hl 1 rfl) ?_
  refine lv_icmp_ne (tgt := 38) hx hb dX4_explore_31 (by decide) (fun _ => ?_) (fun h => absurd h (by decide))
  refine lv_iconst (v := 0) hx hb dX4_explore_38 (by decide) ?_
  refine va_zast hx hb hK hP hD hS 0 2 rfl rfl (by unfold vp_in; decide) dX4_explore_39 (fun H29 locs hP hD hS => ?_)
  obtain ⟨f30, ef30⟩ : ∃ z : Nat → Int32, z = upd f20 3 (vp_nar .boolean 0) := ⟨_, rfl⟩
  have k31 : f30 0 = 1 := by rw [ef30]; exact (pk_un (by decide)).trans (k21)
  have k32 : f30 1 = 0 := by rw [ef30]; exact (pk_un (by decide)).trans (k22)
  have k33 : f30 2 = 0 := by rw [ef30]; exact (pk_un (by decide)).trans (k23)
  have k34 : f30 3 = 0 := by rw [ef30]; exact pk_us.trans (by decide)
  have hP : va_P (dC, dI) vwCl [(a1, .inl (cZ, 1024, .inl f30)), (a2, .inl (cI, 1024, .inl f2)), (a3, .inl (cJ, 1024, .inl f25))] H29 := by rw [ef30]; exact hP
  have hD : va_D A [(a1, .inl (cZ, 1024, .inl f30)), (a2, .inl (cI, 1024, .inl f2)), (a3, .inl (cJ, 1024, .inl f25))] := by rw [ef30]; exact hD
  refine lv_aload_n hx hb dX4_explore_40 rfl (lv_at hl 3 rfl) ?_
  refine va_get (D := (dC, dI)) (ci := 6) (v := .ref a3) (C := RX4) (T := TX4) (N := 3) hx hb hts zi_X4_explore_X4 hown hK (zo_R hR0 hS hAr) 0 rfl rfl 2 (by decide) (hts (.fieldLink RX4 19 "LockRooms$Stands" "yet" "[I") (by decide +kernel)) (fun _ h9 => h9) rfl dX4_explore_41 ?_
  refine lv_iload hx hb dX4_explore_44 (lv_at hl 0 rfl) ?_
  refine lv_iconst (v := (-1)) hx hb dX4_explore_46 (by decide) ?_
  refine va_iast hx hb hK hP hD hS 2 4 rfl rfl (by unfold vp_in; decide) dX4_explore_47 (fun H35 locs hP hD hS => ?_)
  obtain ⟨f36, ef36⟩ : ∃ z : Nat → Int32, z = upd f25 3 (-1) := ⟨_, rfl⟩
  have k37 : f36 0 = (-1) := by rw [ef36]; exact (pk_un (by decide)).trans (k26)
  have k38 : f36 1 = (-1) := by rw [ef36]; exact (pk_un (by decide)).trans (k27)
  have k39 : f36 2 = (-1) := by rw [ef36]; exact (pk_un (by decide)).trans (k28)
  have k40 : f36 3 = (-1) := by rw [ef36]; exact pk_us
  have hP : va_P (dC, dI) vwCl [(a1, .inl (cZ, 1024, .inl f30)), (a2, .inl (cI, 1024, .inl f2)), (a3, .inl (cJ, 1024, .inl f36))] H35 := by rw [ef36]; exact hP
  have hD : va_D A [(a1, .inl (cZ, 1024, .inl f30)), (a2, .inl (cI, 1024, .inl f2)), (a3, .inl (cJ, 1024, .inl f36))] := by rw [ef36]; exact hD
  refine lv_iinc (v := 4) (lv' := [(5, .int 4), (4, .int 0), (3, .int 4), (0, .ref st), (1, .ref rm), (2, .int x0)]) hx hb dX4_explore_48 hl (k := 0) rfl (by decide) (by decide) rfl (fun ls hl => ?_)
  refine lv_goto (tgt := 15) hx hb dX4_explore_51 (by decide) ?_
  refine lv_iload hx hb dX4_explore_15 (lv_at hl 0 rfl) ?_
  refine lv_iload_n hx hb dX4_explore_17 rfl (lv_at hl 2 rfl) ?_
  refine lv_icmp_ge (tgt := 54) hx hb dX4_explore_18 (by decide) (fun _ => ?_) (fun h => absurd h (by decide))
  refine lv_iconst (v := 0) hx hb dX4_explore_54 (by decide) ?_
  refine lv_istore (lv' := [(5, .int 0), (4, .int 0), (3, .int 4), (0, .ref st), (1, .ref rm), (2, .int x0)]) hx hb dX4_explore_55 hl (by decide) rfl (fun ls hl => ?_)
  refine lv_iload hx hb dX4_explore_57 (lv_at hl 0 rfl) ?_
  refine lv_iload_n hx hb dX4_explore_59 rfl (lv_at hl 2 rfl) ?_
  refine lv_icmp_ge (tgt := 87) hx hb dX4_explore_60 (by decide) (fun h => absurd h (by decide)) (fun _ => ?_)
  refine lv_aload_n hx hb dX4_explore_63 rfl (lv_at hl 3 rfl) ?_
  refine va_get (D := (dC, dI)) (ci := 6) (v := .ref a1) (C := RX4) (T := TX4) (N := 3) hx hb hts zi_X4_explore_X4 hown hK (zo_R hR0 hS hAr) 0 rfl rfl 0 (by decide) (hts (.fieldLink RX4 9 "LockRooms$Stands" "isReached" "[Z") (by decide +kernel)) (fun _ h9 => h9) rfl dX4_explore_64 ?_
  refine lv_iload hx hb dX4_explore_67 (lv_at hl 0 rfl) ?_
  refine va_zald hx hb hK hP 0 2 rfl rfl (by unfold vp_in; decide) dX4_explore_69 ?_
  refine zo_i (v := 1) (by rw [show Int32.toNatClampNeg 0 = 0 from by decide]; exact k31) ?_
  refine lv_if_eq (tgt := 81) hx hb dX4_explore_70 (by decide) (fun h => absurd h (by decide)) (fun _ => ?_)
  refine lv_aload_n hx hb dX4_explore_73 rfl (lv_at hl 3 rfl) ?_
  refine lv_aload_n hx hb dX4_explore_74 rfl (lv_at hl 4 rfl) ?_
  refine lv_iload hx hb dX4_explore_75 (lv_at hl 0 rfl) ?_
  refine lv_iload_n hx hb dX4_explore_77 rfl (lv_at hl 5 rfl) ?_
  have hPr := ((zo_R hR0 hS hAr)).sub (ws' := [(st, .inr (6, [.ref a1, .ref a2, .ref a3])), (rm, .inr (5, [.ref lk, .ref th, .ref pl, .ref gm, .int 2, .int 10, .int 0, .int 0, .int 1, .int 0, .int 0, .int 0])), (lk, .inl (cL, 10, .inr (.inr (.inr (.inr fl))))), (th, .inl (cT, 12, .inr (.inr (.inr (.inr ft))))), (l0, .inr (3, [.int 0, .int 0, .int 60, .int 0, .int 0, .int 0, .int 0, .int 0, .int 0, .int 0])), (l1, .inr (3, [.int 0, .int 0, .int 60, .int 0, .int 0, .int 0, .int 0, .int 0, .int 0, .int 0])), (t0, .inr (7, [.int (-1), .int 0, .int 0, .int 0, .int 0])), (t1, .inr (7, [.int (-1), .int 0, .int 0, .int 0, .int 0])), (t2, .inr (7, [.int (-1), .int 0, .int 0, .int 0, .int 0])), (t3, .inr (7, [.int (-1), .int 0, .int 0, .int 0, .int 0])), (t4, .inr (7, [.int (-1), .int 0, .int 0, .int 0, .int 0])), (t5, .inr (7, [.int (-1), .int 0, .int 0, .int 0, .int 0])), (t6, .inr (7, [.int (-1), .int 0, .int 0, .int 0, .int 0])), (t7, .inr (7, [.int (-1), .int 0, .int 0, .int 0, .int 0])), (t8, .inr (7, [.int (-1), .int 0, .int 0, .int 0, .int 0])), (t9, .inr (7, [.int (-1), .int 0, .int 0, .int 0, .int 0]))]) [0, 1, 2, 3, 4, 5, 6, 7, 8, 9, 10, 11, 12, 13, 14, 15] rfl
  have hPc := hP.sub (ws' := [(a1, .inl (cZ, 1024, .inl f30)), (a2, .inl (cI, 1024, .inl f2))]) [0, 1] rfl
  have hDc := hD.sub (ws' := [(a1, .inl (cZ, 1024, .inl f30)), (a2, .inl (cI, 1024, .inl f2))]) [0, 1] (by decide) rfl
  have hKc := hK.sub (tys' := [(cL, .object "LockRooms$Lock"), (cT, .object "LockRooms$Thing"), (cZ, .boolean), (cI, .int)]) [0, 1, 2, 3] rfl
  have hFc := va_free (wc := [(a1, .inl (cZ, 1024, .inl f30)), (a2, .inl (cI, 1024, .inl f2))]) hD hS hA [0, 1] rfl
  refine va_callv (va_runV (As := [.ref rm, .int 0, .int x0]) (rest := []) ⟨hx, hb, hml, hown, hts⟩ (cz_QgoOn_0 l dC dI ed H35.size st a1 a2 a3 rm lk th pl gm cL fl l0 l1 cT ft t0 t1 t2 t3 t4 t5 t6 t7 t8 t9 cZ f30 cI f2 x0 hkl0 hkl1 hkt0 hkt1 hkt2 hkt3 hkt4 hkt5 hkt6 hkt7 hkt8 hkt9 k31 k32 k33 k34) (cwV 3 hts gX4_explore_X4_goOn rfl rfl rfl (by decide +kernel) ⟨Nat.le_of_ble_eq_true rfl, Nat.le_of_ble_eq_true rfl⟩) ⟨zb_blind, va_recv hK (zo_R hR0 hS hAr) (ci := 6) (q0 := 0) rfl rfl, fun U hU hW => ⟨rfl, zb_mk hU hW hPr hPc hKc hDc hN hH hS hFc (zx_cons (zx_r (hAr _ (List.mem_of_getElem? (i := 0) rfl)) hDc) (zx_cons (zx_r (hAr _ (List.mem_of_getElem? (i := 1) rfl)) hDc) (zx_cons (zx_r (hAr _ (List.mem_of_getElem? (i := 2) rfl)) hDc) (zx_cons (zx_r (hAr _ (List.mem_of_getElem? (i := 3) rfl)) hDc) (zx_cons (zx_r (hAr _ (List.mem_of_getElem? (i := 4) rfl)) hDc) (zx_cons (zx_r (hAr _ (List.mem_of_getElem? (i := 5) rfl)) hDc) (zx_cons (zx_r (hAr _ (List.mem_of_getElem? (i := 6) rfl)) hDc) (zx_cons (zx_r (hAr _ (List.mem_of_getElem? (i := 7) rfl)) hDc) (zx_cons (zx_r (hAr _ (List.mem_of_getElem? (i := 8) rfl)) hDc) (zx_cons (zx_r (hAr _ (List.mem_of_getElem? (i := 9) rfl)) hDc) (zx_cons (zx_r (hAr _ (List.mem_of_getElem? (i := 10) rfl)) hDc) (zx_cons (zx_r (hAr _ (List.mem_of_getElem? (i := 11) rfl)) hDc) (zx_cons (zx_r (hAr _ (List.mem_of_getElem? (i := 12) rfl)) hDc) (zx_cons (zx_r (hAr _ (List.mem_of_getElem? (i := 13) rfl)) hDc) (zx_cons (zx_r (hAr _ (List.mem_of_getElem? (i := 14) rfl)) hDc) (zx_cons (zx_r (hAr _ (List.mem_of_getElem? (i := 15) rfl)) hDc) zx_nil))))))))))))))))⟩⟩ rfl rfl hl.1 rfl (lv_room (Nat.le_of_ble_eq_true rfl)) dX4_explore_78 ⟨Nat.le_of_ble_eq_true rfl, Nat.le_of_ble_eq_true rfl⟩) hS (fun q _ h => hFc q h) hFc (fun u t H41 locs ht hvm hw hB hz1 hk1 hS => ?_)
  obtain ⟨g1_43, g2_43, ⟨k43_0, k43_1, k43_2, k43_3, k43_4⟩, hP1, hD1, hK1⟩ := hB
  rw [ht] at hP1
  obtain ⟨hP, hD⟩ := va_join (wr := [(a3, .inl (cJ, 1024, .inl f36))]) (w1 := [(a1, .inl (cZ, 1024, .inl g1_43)), (a2, .inl (cI, 1024, .inl g2_43))]) hP hD [0, 1] [2] rfl rfl (by decide) (by decide) hk1 hFc hP1 hD1
  have hP : va_P (dC, dI) vwCl [(a3, .inl (cJ, 1024, .inl f36)), (a1, .inl (cZ, 1024, .inl g1_43)), (a2, .inl (cI, 1024, .inl g2_43))] H41 := hP
  have hD : va_D A [(a3, .inl (cJ, 1024, .inl f36)), (a1, .inl (cZ, 1024, .inl g1_43)), (a2, .inl (cI, 1024, .inl g2_43))] := hD
  refine lv_iinc (v := 1) (lv' := [(5, .int 1), (4, .int 0), (3, .int 4), (0, .ref st), (1, .ref rm), (2, .int x0)]) hx hb dX4_explore_81 hl (k := 0) rfl (by decide) (by decide) rfl (fun ls hl => ?_)
  refine lv_goto (tgt := 57) hx hb dX4_explore_84 (by decide) ?_
  refine lv_iload hx hb dX4_explore_57 (lv_at hl 0 rfl) ?_
  refine lv_iload_n hx hb dX4_explore_59 rfl (lv_at hl 2 rfl) ?_
  refine lv_icmp_ge (tgt := 87) hx hb dX4_explore_60 (by decide) (fun h => absurd h (by decide)) (fun _ => ?_)
  refine lv_aload_n hx hb dX4_explore_63 rfl (lv_at hl 3 rfl) ?_
  refine va_get (D := (dC, dI)) (ci := 6) (v := .ref a1) (C := RX4) (T := TX4) (N := 3) hx hb hts zi_X4_explore_X4 hown hK (zo_R hR0 hS hAr) 0 rfl rfl 0 (by decide) (hts (.fieldLink RX4 9 "LockRooms$Stands" "isReached" "[Z") (by decide +kernel)) (fun _ h9 => h9) rfl dX4_explore_64 ?_
  refine lv_iload hx hb dX4_explore_67 (lv_at hl 0 rfl) ?_
  refine va_zald hx hb hK hP 1 2 rfl rfl (by unfold vp_in; decide) dX4_explore_69 ?_
  refine zo_i (v := 1) (by rw [show Int32.toNatClampNeg 1 = 1 from by decide]; exact k43_1) ?_
  refine lv_if_eq (tgt := 81) hx hb dX4_explore_70 (by decide) (fun h => absurd h (by decide)) (fun _ => ?_)
  refine lv_aload_n hx hb dX4_explore_73 rfl (lv_at hl 3 rfl) ?_
  refine lv_aload_n hx hb dX4_explore_74 rfl (lv_at hl 4 rfl) ?_
  refine lv_iload hx hb dX4_explore_75 (lv_at hl 0 rfl) ?_
  refine lv_iload_n hx hb dX4_explore_77 rfl (lv_at hl 5 rfl) ?_
  have hPr := ((zo_R hR0 hS hAr)).sub (ws' := [(st, .inr (6, [.ref a1, .ref a2, .ref a3])), (rm, .inr (5, [.ref lk, .ref th, .ref pl, .ref gm, .int 2, .int 10, .int 0, .int 0, .int 1, .int 0, .int 0, .int 0])), (lk, .inl (cL, 10, .inr (.inr (.inr (.inr fl))))), (th, .inl (cT, 12, .inr (.inr (.inr (.inr ft))))), (l0, .inr (3, [.int 0, .int 0, .int 60, .int 0, .int 0, .int 0, .int 0, .int 0, .int 0, .int 0])), (l1, .inr (3, [.int 0, .int 0, .int 60, .int 0, .int 0, .int 0, .int 0, .int 0, .int 0, .int 0])), (t0, .inr (7, [.int (-1), .int 0, .int 0, .int 0, .int 0])), (t1, .inr (7, [.int (-1), .int 0, .int 0, .int 0, .int 0])), (t2, .inr (7, [.int (-1), .int 0, .int 0, .int 0, .int 0])), (t3, .inr (7, [.int (-1), .int 0, .int 0, .int 0, .int 0])), (t4, .inr (7, [.int (-1), .int 0, .int 0, .int 0, .int 0])), (t5, .inr (7, [.int (-1), .int 0, .int 0, .int 0, .int 0])), (t6, .inr (7, [.int (-1), .int 0, .int 0, .int 0, .int 0])), (t7, .inr (7, [.int (-1), .int 0, .int 0, .int 0, .int 0])), (t8, .inr (7, [.int (-1), .int 0, .int 0, .int 0, .int 0])), (t9, .inr (7, [.int (-1), .int 0, .int 0, .int 0, .int 0]))]) [0, 1, 2, 3, 4, 5, 6, 7, 8, 9, 10, 11, 12, 13, 14, 15] rfl
  have hPc := hP.sub (ws' := [(a1, .inl (cZ, 1024, .inl g1_43)), (a2, .inl (cI, 1024, .inl g2_43))]) [1, 2] rfl
  have hDc := hD.sub (ws' := [(a1, .inl (cZ, 1024, .inl g1_43)), (a2, .inl (cI, 1024, .inl g2_43))]) [1, 2] (by decide) rfl
  have hKc := hK.sub (tys' := [(cL, .object "LockRooms$Lock"), (cT, .object "LockRooms$Thing"), (cZ, .boolean), (cI, .int)]) [0, 1, 2, 3] rfl
  have hFc := va_free (wc := [(a1, .inl (cZ, 1024, .inl g1_43)), (a2, .inl (cI, 1024, .inl g2_43))]) hD hS hA [1, 2] rfl
  refine va_callv (va_runV (As := [.ref rm, .int 1, .int x0]) (rest := []) ⟨hx, hb, hml, hown, hts⟩ (cz_QgoOn_1 l dC dI ed H41.size st a1 a2 a3 rm lk th pl gm cL fl l0 l1 cT ft t0 t1 t2 t3 t4 t5 t6 t7 t8 t9 cZ g1_43 cI g2_43 x0 hkl0 hkl1 hkt0 hkt1 hkt2 hkt3 hkt4 hkt5 hkt6 hkt7 hkt8 hkt9 k43_0 k43_1 k43_2 k43_3 k43_4) (cwV 3 hts gX4_explore_X4_goOn rfl rfl rfl (by decide +kernel) ⟨Nat.le_of_ble_eq_true rfl, Nat.le_of_ble_eq_true rfl⟩) ⟨zb_blind, va_recv hK (zo_R hR0 hS hAr) (ci := 6) (q0 := 0) rfl rfl, fun U hU hW => ⟨rfl, zb_mk hU hW hPr hPc hKc hDc hN hH hS hFc (zx_cons (zx_r (hAr _ (List.mem_of_getElem? (i := 0) rfl)) hDc) (zx_cons (zx_r (hAr _ (List.mem_of_getElem? (i := 1) rfl)) hDc) (zx_cons (zx_r (hAr _ (List.mem_of_getElem? (i := 2) rfl)) hDc) (zx_cons (zx_r (hAr _ (List.mem_of_getElem? (i := 3) rfl)) hDc) (zx_cons (zx_r (hAr _ (List.mem_of_getElem? (i := 4) rfl)) hDc) (zx_cons (zx_r (hAr _ (List.mem_of_getElem? (i := 5) rfl)) hDc) (zx_cons (zx_r (hAr _ (List.mem_of_getElem? (i := 6) rfl)) hDc) (zx_cons (zx_r (hAr _ (List.mem_of_getElem? (i := 7) rfl)) hDc) (zx_cons (zx_r (hAr _ (List.mem_of_getElem? (i := 8) rfl)) hDc) (zx_cons (zx_r (hAr _ (List.mem_of_getElem? (i := 9) rfl)) hDc) (zx_cons (zx_r (hAr _ (List.mem_of_getElem? (i := 10) rfl)) hDc) (zx_cons (zx_r (hAr _ (List.mem_of_getElem? (i := 11) rfl)) hDc) (zx_cons (zx_r (hAr _ (List.mem_of_getElem? (i := 12) rfl)) hDc) (zx_cons (zx_r (hAr _ (List.mem_of_getElem? (i := 13) rfl)) hDc) (zx_cons (zx_r (hAr _ (List.mem_of_getElem? (i := 14) rfl)) hDc) (zx_cons (zx_r (hAr _ (List.mem_of_getElem? (i := 15) rfl)) hDc) zx_nil))))))))))))))))⟩⟩ rfl rfl hl.1 rfl (lv_room (Nat.le_of_ble_eq_true rfl)) dX4_explore_78 ⟨Nat.le_of_ble_eq_true rfl, Nat.le_of_ble_eq_true rfl⟩) hS (fun q _ h => hFc q h) hFc (fun u t H44 locs ht hvm hw hB hz1 hk1 hS => ?_)
  obtain ⟨g1_46, g2_46, ⟨k46_0, k46_1, k46_2, k46_3, k46_4, k46_5⟩, hP1, hD1, hK1⟩ := hB
  rw [ht] at hP1
  obtain ⟨hP, hD⟩ := va_join (wr := [(a3, .inl (cJ, 1024, .inl f36))]) (w1 := [(a1, .inl (cZ, 1024, .inl g1_46)), (a2, .inl (cI, 1024, .inl g2_46))]) hP hD [1, 2] [0] rfl rfl (by decide) (by decide) hk1 hFc hP1 hD1
  have hP : va_P (dC, dI) vwCl [(a3, .inl (cJ, 1024, .inl f36)), (a1, .inl (cZ, 1024, .inl g1_46)), (a2, .inl (cI, 1024, .inl g2_46))] H44 := hP
  have hD : va_D A [(a3, .inl (cJ, 1024, .inl f36)), (a1, .inl (cZ, 1024, .inl g1_46)), (a2, .inl (cI, 1024, .inl g2_46))] := hD
  refine lv_iinc (v := 2) (lv' := [(5, .int 2), (4, .int 0), (3, .int 4), (0, .ref st), (1, .ref rm), (2, .int x0)]) hx hb dX4_explore_81 hl (k := 0) rfl (by decide) (by decide) rfl (fun ls hl => ?_)
  refine lv_goto (tgt := 57) hx hb dX4_explore_84 (by decide) ?_
  refine lv_iload hx hb dX4_explore_57 (lv_at hl 0 rfl) ?_
  refine lv_iload_n hx hb dX4_explore_59 rfl (lv_at hl 2 rfl) ?_
  refine lv_icmp_ge (tgt := 87) hx hb dX4_explore_60 (by decide) (fun h => absurd h (by decide)) (fun _ => ?_)
  refine lv_aload_n hx hb dX4_explore_63 rfl (lv_at hl 3 rfl) ?_
  refine va_get (D := (dC, dI)) (ci := 6) (v := .ref a1) (C := RX4) (T := TX4) (N := 3) hx hb hts zi_X4_explore_X4 hown hK (zo_R hR0 hS hAr) 0 rfl rfl 0 (by decide) (hts (.fieldLink RX4 9 "LockRooms$Stands" "isReached" "[Z") (by decide +kernel)) (fun _ h9 => h9) rfl dX4_explore_64 ?_
  refine lv_iload hx hb dX4_explore_67 (lv_at hl 0 rfl) ?_
  refine va_zald hx hb hK hP 1 2 rfl rfl (by unfold vp_in; decide) dX4_explore_69 ?_
  refine zo_i (v := 1) (by rw [show Int32.toNatClampNeg 2 = 2 from by decide]; exact k46_2) ?_
  refine lv_if_eq (tgt := 81) hx hb dX4_explore_70 (by decide) (fun h => absurd h (by decide)) (fun _ => ?_)
  refine lv_aload_n hx hb dX4_explore_73 rfl (lv_at hl 3 rfl) ?_
  refine lv_aload_n hx hb dX4_explore_74 rfl (lv_at hl 4 rfl) ?_
  refine lv_iload hx hb dX4_explore_75 (lv_at hl 0 rfl) ?_
  refine lv_iload_n hx hb dX4_explore_77 rfl (lv_at hl 5 rfl) ?_
  have hPr := ((zo_R hR0 hS hAr)).sub (ws' := [(st, .inr (6, [.ref a1, .ref a2, .ref a3])), (rm, .inr (5, [.ref lk, .ref th, .ref pl, .ref gm, .int 2, .int 10, .int 0, .int 0, .int 1, .int 0, .int 0, .int 0])), (lk, .inl (cL, 10, .inr (.inr (.inr (.inr fl))))), (th, .inl (cT, 12, .inr (.inr (.inr (.inr ft))))), (l0, .inr (3, [.int 0, .int 0, .int 60, .int 0, .int 0, .int 0, .int 0, .int 0, .int 0, .int 0])), (l1, .inr (3, [.int 0, .int 0, .int 60, .int 0, .int 0, .int 0, .int 0, .int 0, .int 0, .int 0])), (t0, .inr (7, [.int (-1), .int 0, .int 0, .int 0, .int 0])), (t1, .inr (7, [.int (-1), .int 0, .int 0, .int 0, .int 0])), (t2, .inr (7, [.int (-1), .int 0, .int 0, .int 0, .int 0])), (t3, .inr (7, [.int (-1), .int 0, .int 0, .int 0, .int 0])), (t4, .inr (7, [.int (-1), .int 0, .int 0, .int 0, .int 0])), (t5, .inr (7, [.int (-1), .int 0, .int 0, .int 0, .int 0])), (t6, .inr (7, [.int (-1), .int 0, .int 0, .int 0, .int 0])), (t7, .inr (7, [.int (-1), .int 0, .int 0, .int 0, .int 0])), (t8, .inr (7, [.int (-1), .int 0, .int 0, .int 0, .int 0])), (t9, .inr (7, [.int (-1), .int 0, .int 0, .int 0, .int 0]))]) [0, 1, 2, 3, 4, 5, 6, 7, 8, 9, 10, 11, 12, 13, 14, 15] rfl
  have hPc := hP.sub (ws' := [(a1, .inl (cZ, 1024, .inl g1_46)), (a2, .inl (cI, 1024, .inl g2_46))]) [1, 2] rfl
  have hDc := hD.sub (ws' := [(a1, .inl (cZ, 1024, .inl g1_46)), (a2, .inl (cI, 1024, .inl g2_46))]) [1, 2] (by decide) rfl
  have hKc := hK.sub (tys' := [(cL, .object "LockRooms$Lock"), (cT, .object "LockRooms$Thing"), (cZ, .boolean), (cI, .int)]) [0, 1, 2, 3] rfl
  have hFc := va_free (wc := [(a1, .inl (cZ, 1024, .inl g1_46)), (a2, .inl (cI, 1024, .inl g2_46))]) hD hS hA [1, 2] rfl
  refine va_callv (va_runV (As := [.ref rm, .int 2, .int x0]) (rest := []) ⟨hx, hb, hml, hown, hts⟩ (cz_QgoOn_2 l dC dI ed H44.size st a1 a2 a3 rm lk th pl gm cL fl l0 l1 cT ft t0 t1 t2 t3 t4 t5 t6 t7 t8 t9 cZ g1_46 cI g2_46 x0 hkl0 hkl1 hkt0 hkt1 hkt2 hkt3 hkt4 hkt5 hkt6 hkt7 hkt8 hkt9 k46_0 k46_1 k46_2 k46_3 k46_4 k46_5) (cwV 3 hts gX4_explore_X4_goOn rfl rfl rfl (by decide +kernel) ⟨Nat.le_of_ble_eq_true rfl, Nat.le_of_ble_eq_true rfl⟩) ⟨zb_blind, va_recv hK (zo_R hR0 hS hAr) (ci := 6) (q0 := 0) rfl rfl, fun U hU hW => ⟨rfl, zb_mk hU hW hPr hPc hKc hDc hN hH hS hFc (zx_cons (zx_r (hAr _ (List.mem_of_getElem? (i := 0) rfl)) hDc) (zx_cons (zx_r (hAr _ (List.mem_of_getElem? (i := 1) rfl)) hDc) (zx_cons (zx_r (hAr _ (List.mem_of_getElem? (i := 2) rfl)) hDc) (zx_cons (zx_r (hAr _ (List.mem_of_getElem? (i := 3) rfl)) hDc) (zx_cons (zx_r (hAr _ (List.mem_of_getElem? (i := 4) rfl)) hDc) (zx_cons (zx_r (hAr _ (List.mem_of_getElem? (i := 5) rfl)) hDc) (zx_cons (zx_r (hAr _ (List.mem_of_getElem? (i := 6) rfl)) hDc) (zx_cons (zx_r (hAr _ (List.mem_of_getElem? (i := 7) rfl)) hDc) (zx_cons (zx_r (hAr _ (List.mem_of_getElem? (i := 8) rfl)) hDc) (zx_cons (zx_r (hAr _ (List.mem_of_getElem? (i := 9) rfl)) hDc) (zx_cons (zx_r (hAr _ (List.mem_of_getElem? (i := 10) rfl)) hDc) (zx_cons (zx_r (hAr _ (List.mem_of_getElem? (i := 11) rfl)) hDc) (zx_cons (zx_r (hAr _ (List.mem_of_getElem? (i := 12) rfl)) hDc) (zx_cons (zx_r (hAr _ (List.mem_of_getElem? (i := 13) rfl)) hDc) (zx_cons (zx_r (hAr _ (List.mem_of_getElem? (i := 14) rfl)) hDc) (zx_cons (zx_r (hAr _ (List.mem_of_getElem? (i := 15) rfl)) hDc) zx_nil))))))))))))))))⟩⟩ rfl rfl hl.1 rfl (lv_room (Nat.le_of_ble_eq_true rfl)) dX4_explore_78 ⟨Nat.le_of_ble_eq_true rfl, Nat.le_of_ble_eq_true rfl⟩) hS (fun q _ h => hFc q h) hFc (fun u t H47 locs ht hvm hw hB hz1 hk1 hS => ?_)
  obtain ⟨g1_49, g2_49, ⟨k49_0, k49_1, k49_2, k49_3, k49_4, k49_5, k49_6⟩, hP1, hD1, hK1⟩ := hB
  rw [ht] at hP1
  obtain ⟨hP, hD⟩ := va_join (wr := [(a3, .inl (cJ, 1024, .inl f36))]) (w1 := [(a1, .inl (cZ, 1024, .inl g1_49)), (a2, .inl (cI, 1024, .inl g2_49))]) hP hD [1, 2] [0] rfl rfl (by decide) (by decide) hk1 hFc hP1 hD1
  have hP : va_P (dC, dI) vwCl [(a3, .inl (cJ, 1024, .inl f36)), (a1, .inl (cZ, 1024, .inl g1_49)), (a2, .inl (cI, 1024, .inl g2_49))] H47 := hP
  have hD : va_D A [(a3, .inl (cJ, 1024, .inl f36)), (a1, .inl (cZ, 1024, .inl g1_49)), (a2, .inl (cI, 1024, .inl g2_49))] := hD
  refine lv_iinc (v := 3) (lv' := [(5, .int 3), (4, .int 0), (3, .int 4), (0, .ref st), (1, .ref rm), (2, .int x0)]) hx hb dX4_explore_81 hl (k := 0) rfl (by decide) (by decide) rfl (fun ls hl => ?_)
  refine lv_goto (tgt := 57) hx hb dX4_explore_84 (by decide) ?_
  refine lv_iload hx hb dX4_explore_57 (lv_at hl 0 rfl) ?_
  refine lv_iload_n hx hb dX4_explore_59 rfl (lv_at hl 2 rfl) ?_
  refine lv_icmp_ge (tgt := 87) hx hb dX4_explore_60 (by decide) (fun h => absurd h (by decide)) (fun _ => ?_)
  refine lv_aload_n hx hb dX4_explore_63 rfl (lv_at hl 3 rfl) ?_
  refine va_get (D := (dC, dI)) (ci := 6) (v := .ref a1) (C := RX4) (T := TX4) (N := 3) hx hb hts zi_X4_explore_X4 hown hK (zo_R hR0 hS hAr) 0 rfl rfl 0 (by decide) (hts (.fieldLink RX4 9 "LockRooms$Stands" "isReached" "[Z") (by decide +kernel)) (fun _ h9 => h9) rfl dX4_explore_64 ?_
  refine lv_iload hx hb dX4_explore_67 (lv_at hl 0 rfl) ?_
  refine va_zald hx hb hK hP 1 2 rfl rfl (by unfold vp_in; decide) dX4_explore_69 ?_
  refine zo_i (v := 1) (by rw [show Int32.toNatClampNeg 3 = 3 from by decide]; exact k49_3) ?_
  refine lv_if_eq (tgt := 81) hx hb dX4_explore_70 (by decide) (fun h => absurd h (by decide)) (fun _ => ?_)
  refine lv_aload_n hx hb dX4_explore_73 rfl (lv_at hl 3 rfl) ?_
  refine lv_aload_n hx hb dX4_explore_74 rfl (lv_at hl 4 rfl) ?_
  refine lv_iload hx hb dX4_explore_75 (lv_at hl 0 rfl) ?_
  refine lv_iload_n hx hb dX4_explore_77 rfl (lv_at hl 5 rfl) ?_
  have hPr := ((zo_R hR0 hS hAr)).sub (ws' := [(st, .inr (6, [.ref a1, .ref a2, .ref a3])), (rm, .inr (5, [.ref lk, .ref th, .ref pl, .ref gm, .int 2, .int 10, .int 0, .int 0, .int 1, .int 0, .int 0, .int 0])), (lk, .inl (cL, 10, .inr (.inr (.inr (.inr fl))))), (th, .inl (cT, 12, .inr (.inr (.inr (.inr ft))))), (l0, .inr (3, [.int 0, .int 0, .int 60, .int 0, .int 0, .int 0, .int 0, .int 0, .int 0, .int 0])), (l1, .inr (3, [.int 0, .int 0, .int 60, .int 0, .int 0, .int 0, .int 0, .int 0, .int 0, .int 0])), (t0, .inr (7, [.int (-1), .int 0, .int 0, .int 0, .int 0])), (t1, .inr (7, [.int (-1), .int 0, .int 0, .int 0, .int 0])), (t2, .inr (7, [.int (-1), .int 0, .int 0, .int 0, .int 0])), (t3, .inr (7, [.int (-1), .int 0, .int 0, .int 0, .int 0])), (t4, .inr (7, [.int (-1), .int 0, .int 0, .int 0, .int 0])), (t5, .inr (7, [.int (-1), .int 0, .int 0, .int 0, .int 0])), (t6, .inr (7, [.int (-1), .int 0, .int 0, .int 0, .int 0])), (t7, .inr (7, [.int (-1), .int 0, .int 0, .int 0, .int 0])), (t8, .inr (7, [.int (-1), .int 0, .int 0, .int 0, .int 0])), (t9, .inr (7, [.int (-1), .int 0, .int 0, .int 0, .int 0]))]) [0, 1, 2, 3, 4, 5, 6, 7, 8, 9, 10, 11, 12, 13, 14, 15] rfl
  have hPc := hP.sub (ws' := [(a1, .inl (cZ, 1024, .inl g1_49)), (a2, .inl (cI, 1024, .inl g2_49))]) [1, 2] rfl
  have hDc := hD.sub (ws' := [(a1, .inl (cZ, 1024, .inl g1_49)), (a2, .inl (cI, 1024, .inl g2_49))]) [1, 2] (by decide) rfl
  have hKc := hK.sub (tys' := [(cL, .object "LockRooms$Lock"), (cT, .object "LockRooms$Thing"), (cZ, .boolean), (cI, .int)]) [0, 1, 2, 3] rfl
  have hFc := va_free (wc := [(a1, .inl (cZ, 1024, .inl g1_49)), (a2, .inl (cI, 1024, .inl g2_49))]) hD hS hA [1, 2] rfl
  refine va_callv (va_runV (As := [.ref rm, .int 3, .int x0]) (rest := []) ⟨hx, hb, hml, hown, hts⟩ (cz_QgoOn_3 l dC dI ed H47.size st a1 a2 a3 rm lk th pl gm cL fl l0 l1 cT ft t0 t1 t2 t3 t4 t5 t6 t7 t8 t9 cZ g1_49 cI g2_49 x0 hkl0 hkl1 hkt0 hkt1 hkt2 hkt3 hkt4 hkt5 hkt6 hkt7 hkt8 hkt9 k49_0 k49_1 k49_2 k49_3 k49_4 k49_5 k49_6) (cwV 3 hts gX4_explore_X4_goOn rfl rfl rfl (by decide +kernel) ⟨Nat.le_of_ble_eq_true rfl, Nat.le_of_ble_eq_true rfl⟩) ⟨zb_blind, va_recv hK (zo_R hR0 hS hAr) (ci := 6) (q0 := 0) rfl rfl, fun U hU hW => ⟨rfl, zb_mk hU hW hPr hPc hKc hDc hN hH hS hFc (zx_cons (zx_r (hAr _ (List.mem_of_getElem? (i := 0) rfl)) hDc) (zx_cons (zx_r (hAr _ (List.mem_of_getElem? (i := 1) rfl)) hDc) (zx_cons (zx_r (hAr _ (List.mem_of_getElem? (i := 2) rfl)) hDc) (zx_cons (zx_r (hAr _ (List.mem_of_getElem? (i := 3) rfl)) hDc) (zx_cons (zx_r (hAr _ (List.mem_of_getElem? (i := 4) rfl)) hDc) (zx_cons (zx_r (hAr _ (List.mem_of_getElem? (i := 5) rfl)) hDc) (zx_cons (zx_r (hAr _ (List.mem_of_getElem? (i := 6) rfl)) hDc) (zx_cons (zx_r (hAr _ (List.mem_of_getElem? (i := 7) rfl)) hDc) (zx_cons (zx_r (hAr _ (List.mem_of_getElem? (i := 8) rfl)) hDc) (zx_cons (zx_r (hAr _ (List.mem_of_getElem? (i := 9) rfl)) hDc) (zx_cons (zx_r (hAr _ (List.mem_of_getElem? (i := 10) rfl)) hDc) (zx_cons (zx_r (hAr _ (List.mem_of_getElem? (i := 11) rfl)) hDc) (zx_cons (zx_r (hAr _ (List.mem_of_getElem? (i := 12) rfl)) hDc) (zx_cons (zx_r (hAr _ (List.mem_of_getElem? (i := 13) rfl)) hDc) (zx_cons (zx_r (hAr _ (List.mem_of_getElem? (i := 14) rfl)) hDc) (zx_cons (zx_r (hAr _ (List.mem_of_getElem? (i := 15) rfl)) hDc) zx_nil))))))))))))))))⟩⟩ rfl rfl hl.1 rfl (lv_room (Nat.le_of_ble_eq_true rfl)) dX4_explore_78 ⟨Nat.le_of_ble_eq_true rfl, Nat.le_of_ble_eq_true rfl⟩) hS (fun q _ h => hFc q h) hFc (fun u t H50 locs ht hvm hw hB hz1 hk1 hS => ?_)
  obtain ⟨g1_52, g2_52, ⟨k52_0, k52_1, k52_2, k52_3, k52_4, k52_5, k52_6, k52_7⟩, hP1, hD1, hK1⟩ := hB
  rw [ht] at hP1
  obtain ⟨hP, hD⟩ := va_join (wr := [(a3, .inl (cJ, 1024, .inl f36))]) (w1 := [(a1, .inl (cZ, 1024, .inl g1_52)), (a2, .inl (cI, 1024, .inl g2_52))]) hP hD [1, 2] [0] rfl rfl (by decide) (by decide) hk1 hFc hP1 hD1
  have hP : va_P (dC, dI) vwCl [(a3, .inl (cJ, 1024, .inl f36)), (a1, .inl (cZ, 1024, .inl g1_52)), (a2, .inl (cI, 1024, .inl g2_52))] H50 := hP
  have hD : va_D A [(a3, .inl (cJ, 1024, .inl f36)), (a1, .inl (cZ, 1024, .inl g1_52)), (a2, .inl (cI, 1024, .inl g2_52))] := hD
  refine lv_iinc (v := 4) (lv' := [(5, .int 4), (4, .int 0), (3, .int 4), (0, .ref st), (1, .ref rm), (2, .int x0)]) hx hb dX4_explore_81 hl (k := 0) rfl (by decide) (by decide) rfl (fun ls hl => ?_)
  refine lv_goto (tgt := 57) hx hb dX4_explore_84 (by decide) ?_
  refine lv_iload hx hb dX4_explore_57 (lv_at hl 0 rfl) ?_
  refine lv_iload_n hx hb dX4_explore_59 rfl (lv_at hl 2 rfl) ?_
  refine lv_icmp_ge (tgt := 87) hx hb dX4_explore_60 (by decide) (fun _ => ?_) (fun h => absurd h (by decide))
  refine lv_iload_n hx hb dX4_explore_87 rfl (lv_at hl 2 rfl) ?_
  refine lv_iconst (v := 1) hx hb dX4_explore_88 (by decide) ?_
  refine lv_isub hx hb dX4_explore_89 ?_
  refine zo_i (v := 3) (by decide) ?_
  refine lv_istore (lv' := [(5, .int 3), (4, .int 0), (3, .int 4), (0, .ref st), (1, .ref rm), (2, .int x0)]) hx hb dX4_explore_90 hl (by decide) rfl (fun ls hl => ?_)
  refine lv_iload hx hb dX4_explore_92 (lv_at hl 0 rfl) ?_
  refine lv_if_lt (tgt := 143) hx hb dX4_explore_94 (by decide) (fun h => absurd h (by decide)) (fun _ => ?_)
  refine lv_aload_n hx hb dX4_explore_97 rfl (lv_at hl 3 rfl) ?_
  refine va_get (D := (dC, dI)) (ci := 6) (v := .ref a1) (C := RX4) (T := TX4) (N := 3) hx hb hts zi_X4_explore_X4 hown hK (zo_R hR0 hS hAr) 0 rfl rfl 0 (by decide) (hts (.fieldLink RX4 9 "LockRooms$Stands" "isReached" "[Z") (by decide +kernel)) (fun _ h9 => h9) rfl dX4_explore_98 ?_
  refine lv_iload hx hb dX4_explore_101 (lv_at hl 0 rfl) ?_
  refine va_zald hx hb hK hP 1 2 rfl rfl (by unfold vp_in; decide) dX4_explore_103 ?_
  refine zo_i (v := 1) (by rw [show Int32.toNatClampNeg 3 = 3 from by decide]; exact k52_3) ?_
  refine lv_if_eq (tgt := 137) hx hb dX4_explore_104 (by decide) (fun h => absurd h (by decide)) (fun _ => ?_)
  refine lv_aload_n hx hb dX4_explore_107 rfl (lv_at hl 3 rfl) ?_
  refine va_get (D := (dC, dI)) (ci := 6) (v := .ref a3) (C := RX4) (T := TX4) (N := 3) hx hb hts zi_X4_explore_X4 hown hK (zo_R hR0 hS hAr) 0 rfl rfl 2 (by decide) (hts (.fieldLink RX4 19 "LockRooms$Stands" "yet" "[I") (by decide +kernel)) (fun _ h9 => h9) rfl dX4_explore_108 ?_
  refine lv_iload hx hb dX4_explore_111 (lv_at hl 0 rfl) ?_
  refine lv_iload hx hb dX4_explore_113 (lv_at hl 0 rfl) ?_
  refine lv_aload_n hx hb dX4_explore_115 rfl (lv_at hl 4 rfl) ?_
  refine va_get (D := (dC, dI)) (ci := 5) (v := .int 0) (C := RX3) (T := TX3) (N := 12) hx hb hts zi_X4_explore_X3 hown hK (zo_R hR0 hS hAr) 1 rfl rfl 7 (by decide) (hts (.fieldLink RX4 68 "LockRooms$Room" "exit" "I") (by decide +kernel)) (fun _ h9 => h9) rfl dX4_explore_116 ?_
  have hPr := (zo_nil : va_P (dC, dI) vwCl [] H50)
  have hPc := hP.sub (ws' := []) [] rfl
  have hDc := hD.sub (ws' := []) [] (by decide) rfl
  have hKc := hK.sub (tys' := []) [] rfl
  have hFc := va_free (wc := []) hD hS hA [] rfl
  refine va_calli (va_runSN (As := [.int 3, .int 0]) (rest := [.int 3, .ref a3]) ⟨hx, hb, hml, hown, hts⟩ (cz_QisIn l dC dI ed H50.size 3 0) ⟨(va_cnB 2 hts gX4_explore_X6_isIn_n54 rfl rfl rfl (hN.2.1 ("LockRooms$Stands", 54, yX6_isIn, "LockRooms") (List.mem_of_getElem? (i := 6) rfl)) (hts (.initialized RX6) (by decide +kernel)) (by decide +kernel) ⟨Nat.le_of_ble_eq_true rfl, Nat.le_of_ble_eq_true rfl⟩), (hts (.static yX6_isIn) (by decide +kernel)), trivial⟩ ⟨zb_blind, fun U hU hW => ⟨rfl, zb_mk hU hW hPr hPc hKc hDc hN hH hS hFc zx_e⟩⟩ rfl rfl hl.1 rfl (lv_room (Nat.le_of_ble_eq_true rfl)) dX4_explore_119 ⟨Nat.le_of_ble_eq_true rfl, Nat.le_of_ble_eq_true rfl⟩) hS (fun q _ h => hFc q h) hFc (fun r54 u t H53 locs ht hvm hw hB hz1 hk1 hS => ?_)
  obtain rfl : r54 = 1 := hw.trans (by decide +kernel)
  have hP := zo_K hP hk1
  refine lv_if_eq (tgt := 129) hx hb dX4_explore_122 (by decide) (fun h => absurd h (by decide)) (fun _ => ?_)
  refine lv_iconst (v := 0) hx hb dX4_explore_125 (by decide) ?_
  refine lv_goto (tgt := 136) hx hb dX4_explore_126 (by decide) ?_
  refine va_iast hx hb hK hP hD hS 0 4 rfl rfl (by unfold vp_in; decide) dX4_explore_136 (fun H55 locs hP hD hS => ?_)
  obtain ⟨f56, ef56⟩ : ∃ z : Nat → Int32, z = upd f36 3 0 := ⟨_, rfl⟩
  have k57 : f56 0 = (-1) := by rw [ef56]; exact (pk_un (by decide)).trans (k37)
  have k58 : f56 1 = (-1) := by rw [ef56]; exact (pk_un (by decide)).trans (k38)
  have k59 : f56 2 = (-1) := by rw [ef56]; exact (pk_un (by decide)).trans (k39)
  have k60 : f56 3 = 0 := by rw [ef56]; exact pk_us
  have hP : va_P (dC, dI) vwCl [(a3, .inl (cJ, 1024, .inl f56)), (a1, .inl (cZ, 1024, .inl g1_52)), (a2, .inl (cI, 1024, .inl g2_52))] H55 := by rw [ef56]; exact hP
  have hD : va_D A [(a3, .inl (cJ, 1024, .inl f56)), (a1, .inl (cZ, 1024, .inl g1_52)), (a2, .inl (cI, 1024, .inl g2_52))] := by rw [ef56]; exact hD
  refine lv_iinc (v := 2) (lv' := [(5, .int 2), (4, .int 0), (3, .int 4), (0, .ref st), (1, .ref rm), (2, .int x0)]) hx hb dX4_explore_137 hl (k := 0) rfl (by decide) (by decide) rfl (fun ls hl => ?_)
  refine lv_goto (tgt := 92) hx hb dX4_explore_140 (by decide) ?_
  refine lv_iload hx hb dX4_explore_92 (lv_at hl 0 rfl) ?_
  refine lv_if_lt (tgt := 143) hx hb dX4_explore_94 (by decide) (fun h => absurd h (by decide)) (fun _ => ?_)
  refine lv_aload_n hx hb dX4_explore_97 rfl (lv_at hl 3 rfl) ?_
  refine va_get (D := (dC, dI)) (ci := 6) (v := .ref a1) (C := RX4) (T := TX4) (N := 3) hx hb hts zi_X4_explore_X4 hown hK (zo_R hR0 hS hAr) 0 rfl rfl 0 (by decide) (hts (.fieldLink RX4 9 "LockRooms$Stands" "isReached" "[Z") (by decide +kernel)) (fun _ h9 => h9) rfl dX4_explore_98 ?_
  refine lv_iload hx hb dX4_explore_101 (lv_at hl 0 rfl) ?_
  refine va_zald hx hb hK hP 1 2 rfl rfl (by unfold vp_in; decide) dX4_explore_103 ?_
  refine zo_i (v := 1) (by rw [show Int32.toNatClampNeg 2 = 2 from by decide]; exact k52_2) ?_
  refine lv_if_eq (tgt := 137) hx hb dX4_explore_104 (by decide) (fun h => absurd h (by decide)) (fun _ => ?_)
  refine lv_aload_n hx hb dX4_explore_107 rfl (lv_at hl 3 rfl) ?_
  refine va_get (D := (dC, dI)) (ci := 6) (v := .ref a3) (C := RX4) (T := TX4) (N := 3) hx hb hts zi_X4_explore_X4 hown hK (zo_R hR0 hS hAr) 0 rfl rfl 2 (by decide) (hts (.fieldLink RX4 19 "LockRooms$Stands" "yet" "[I") (by decide +kernel)) (fun _ h9 => h9) rfl dX4_explore_108 ?_
  refine lv_iload hx hb dX4_explore_111 (lv_at hl 0 rfl) ?_
  refine lv_iload hx hb dX4_explore_113 (lv_at hl 0 rfl) ?_
  refine lv_aload_n hx hb dX4_explore_115 rfl (lv_at hl 4 rfl) ?_
  refine va_get (D := (dC, dI)) (ci := 5) (v := .int 0) (C := RX3) (T := TX3) (N := 12) hx hb hts zi_X4_explore_X3 hown hK (zo_R hR0 hS hAr) 1 rfl rfl 7 (by decide) (hts (.fieldLink RX4 68 "LockRooms$Room" "exit" "I") (by decide +kernel)) (fun _ h9 => h9) rfl dX4_explore_116 ?_
  have hPr := (zo_nil : va_P (dC, dI) vwCl [] H55)
  have hPc := hP.sub (ws' := []) [] rfl
  have hDc := hD.sub (ws' := []) [] (by decide) rfl
  have hKc := hK.sub (tys' := []) [] rfl
  have hFc := va_free (wc := []) hD hS hA [] rfl
  refine va_calli (va_runSN (As := [.int 2, .int 0]) (rest := [.int 2, .ref a3]) ⟨hx, hb, hml, hown, hts⟩ (cz_QisIn l dC dI ed H55.size 2 0) ⟨(va_cnB 2 hts gX4_explore_X6_isIn_n54 rfl rfl rfl (hN.2.1 ("LockRooms$Stands", 54, yX6_isIn, "LockRooms") (List.mem_of_getElem? (i := 6) rfl)) (hts (.initialized RX6) (by decide +kernel)) (by decide +kernel) ⟨Nat.le_of_ble_eq_true rfl, Nat.le_of_ble_eq_true rfl⟩), (hts (.static yX6_isIn) (by decide +kernel)), trivial⟩ ⟨zb_blind, fun U hU hW => ⟨rfl, zb_mk hU hW hPr hPc hKc hDc hN hH hS hFc zx_e⟩⟩ rfl rfl hl.1 rfl (lv_room (Nat.le_of_ble_eq_true rfl)) dX4_explore_119 ⟨Nat.le_of_ble_eq_true rfl, Nat.le_of_ble_eq_true rfl⟩) hS (fun q _ h => hFc q h) hFc (fun r62 u t H61 locs ht hvm hw hB hz1 hk1 hS => ?_)
  obtain rfl : r62 = 0 := hw.trans (by decide +kernel)
  have hP := zo_K hP hk1
  refine lv_if_eq (tgt := 129) hx hb dX4_explore_122 (by decide) (fun _ => ?_) (fun h => absurd h (by decide))
  refine lv_aload_n hx hb dX4_explore_129 rfl (lv_at hl 3 rfl) ?_
  refine lv_aload_n hx hb dX4_explore_130 rfl (lv_at hl 4 rfl) ?_
  refine lv_iload hx hb dX4_explore_131 (lv_at hl 0 rfl) ?_
  have hPr := (show va_P (dC, dI) vwCl [(st, .inr (6, [.ref a1, .ref a2, .ref a3])), (rm, .inr (5, [.ref lk, .ref th, .ref pl, .ref gm, .int 2, .int 10, .int 0, .int 0, .int 1, .int 0, .int 0, .int 0])), (a2, .inl (cI, 1024, .inl g2_52)), (a3, .inl (cJ, 1024, .inl f56))] H61 from (zo_cons (((zo_R hR0 hS hAr)) 0 _ rfl) (zo_cons (((zo_R hR0 hS hAr)) 1 _ rfl) (zo_cons ((hP) 2 _ rfl) (zo_cons ((hP) 0 _ rfl) (zo_nil : va_P (dC, dI) vwCl [] H61))))))
  have hPc := hP.sub (ws' := []) [] rfl
  have hDc := hD.sub (ws' := []) [] (by decide) rfl
  have hKc := hK.sub (tys' := [(cI, .int), (cJ, .int)]) [3, 4] rfl
  have hFc := va_free (wc := []) hD hS hA [] rfl
  refine va_calli (va_runV (As := [.ref rm, .int 2]) (rest := [.int 2, .ref a3]) ⟨hx, hb, hml, hown, hts⟩ (cz_QleastYet_2 l dC dI ed H61.size st a1 a2 a3 rm lk th pl gm cI g2_52 cJ f56 k52_6 k60) (cwV 2 hts gX4_explore_X4_leastYet rfl rfl rfl (by decide +kernel) ⟨Nat.le_of_ble_eq_true rfl, Nat.le_of_ble_eq_true rfl⟩) ⟨zb_blind, va_recv hK (zo_R hR0 hS hAr) (ci := 6) (q0 := 0) rfl rfl, fun U hU hW => ⟨rfl, zb_mk hU hW hPr hPc hKc hDc hN hH hS hFc zx_e⟩⟩ rfl rfl hl.1 rfl (lv_room (Nat.le_of_ble_eq_true rfl)) dX4_explore_133 ⟨Nat.le_of_ble_eq_true rfl, Nat.le_of_ble_eq_true rfl⟩) hS (fun q _ h => hFc q h) hFc (fun r64 u t H63 locs ht hvm hw hB hz1 hk1 hS => ?_)
  obtain rfl : r64 = 1 := hw
  have hP := zo_K hP hk1
  refine va_iast hx hb hK hP hD hS 0 4 rfl rfl (by unfold vp_in; decide) dX4_explore_136 (fun H65 locs hP hD hS => ?_)
  obtain ⟨f66, ef66⟩ : ∃ z : Nat → Int32, z = upd f56 2 1 := ⟨_, rfl⟩
  have k67 : f66 0 = (-1) := by rw [ef66]; exact (pk_un (by decide)).trans (k57)
  have k68 : f66 1 = (-1) := by rw [ef66]; exact (pk_un (by decide)).trans (k58)
  have k69 : f66 3 = 0 := by rw [ef66]; exact (pk_un (by decide)).trans (k60)
  have k70 : f66 2 = 1 := by rw [ef66]; exact pk_us
  have hP : va_P (dC, dI) vwCl [(a3, .inl (cJ, 1024, .inl f66)), (a1, .inl (cZ, 1024, .inl g1_52)), (a2, .inl (cI, 1024, .inl g2_52))] H65 := by rw [ef66]; exact hP
  have hD : va_D A [(a3, .inl (cJ, 1024, .inl f66)), (a1, .inl (cZ, 1024, .inl g1_52)), (a2, .inl (cI, 1024, .inl g2_52))] := by rw [ef66]; exact hD
  refine lv_iinc (v := 1) (lv' := [(5, .int 1), (4, .int 0), (3, .int 4), (0, .ref st), (1, .ref rm), (2, .int x0)]) hx hb dX4_explore_137 hl (k := 0) rfl (by decide) (by decide) rfl (fun ls hl => ?_)
  refine lv_goto (tgt := 92) hx hb dX4_explore_140 (by decide) ?_
  refine lv_iload hx hb dX4_explore_92 (lv_at hl 0 rfl) ?_
  refine lv_if_lt (tgt := 143) hx hb dX4_explore_94 (by decide) (fun h => absurd h (by decide)) (fun _ => ?_)
  refine lv_aload_n hx hb dX4_explore_97 rfl (lv_at hl 3 rfl) ?_
  refine va_get (D := (dC, dI)) (ci := 6) (v := .ref a1) (C := RX4) (T := TX4) (N := 3) hx hb hts zi_X4_explore_X4 hown hK (zo_R hR0 hS hAr) 0 rfl rfl 0 (by decide) (hts (.fieldLink RX4 9 "LockRooms$Stands" "isReached" "[Z") (by decide +kernel)) (fun _ h9 => h9) rfl dX4_explore_98 ?_
  refine lv_iload hx hb dX4_explore_101 (lv_at hl 0 rfl) ?_
  refine va_zald hx hb hK hP 1 2 rfl rfl (by unfold vp_in; decide) dX4_explore_103 ?_
  refine zo_i (v := 1) (by rw [show Int32.toNatClampNeg 1 = 1 from by decide]; exact k52_1) ?_
  refine lv_if_eq (tgt := 137) hx hb dX4_explore_104 (by decide) (fun h => absurd h (by decide)) (fun _ => ?_)
  refine lv_aload_n hx hb dX4_explore_107 rfl (lv_at hl 3 rfl) ?_
  refine va_get (D := (dC, dI)) (ci := 6) (v := .ref a3) (C := RX4) (T := TX4) (N := 3) hx hb hts zi_X4_explore_X4 hown hK (zo_R hR0 hS hAr) 0 rfl rfl 2 (by decide) (hts (.fieldLink RX4 19 "LockRooms$Stands" "yet" "[I") (by decide +kernel)) (fun _ h9 => h9) rfl dX4_explore_108 ?_
  refine lv_iload hx hb dX4_explore_111 (lv_at hl 0 rfl) ?_
  refine lv_iload hx hb dX4_explore_113 (lv_at hl 0 rfl) ?_
  refine lv_aload_n hx hb dX4_explore_115 rfl (lv_at hl 4 rfl) ?_
  refine va_get (D := (dC, dI)) (ci := 5) (v := .int 0) (C := RX3) (T := TX3) (N := 12) hx hb hts zi_X4_explore_X3 hown hK (zo_R hR0 hS hAr) 1 rfl rfl 7 (by decide) (hts (.fieldLink RX4 68 "LockRooms$Room" "exit" "I") (by decide +kernel)) (fun _ h9 => h9) rfl dX4_explore_116 ?_
  have hPr := (zo_nil : va_P (dC, dI) vwCl [] H65)
  have hPc := hP.sub (ws' := []) [] rfl
  have hDc := hD.sub (ws' := []) [] (by decide) rfl
  have hKc := hK.sub (tys' := []) [] rfl
  have hFc := va_free (wc := []) hD hS hA [] rfl
  refine va_calli (va_runSN (As := [.int 1, .int 0]) (rest := [.int 1, .ref a3]) ⟨hx, hb, hml, hown, hts⟩ (cz_QisIn l dC dI ed H65.size 1 0) ⟨(va_cnB 2 hts gX4_explore_X6_isIn_n54 rfl rfl rfl (hN.2.1 ("LockRooms$Stands", 54, yX6_isIn, "LockRooms") (List.mem_of_getElem? (i := 6) rfl)) (hts (.initialized RX6) (by decide +kernel)) (by decide +kernel) ⟨Nat.le_of_ble_eq_true rfl, Nat.le_of_ble_eq_true rfl⟩), (hts (.static yX6_isIn) (by decide +kernel)), trivial⟩ ⟨zb_blind, fun U hU hW => ⟨rfl, zb_mk hU hW hPr hPc hKc hDc hN hH hS hFc zx_e⟩⟩ rfl rfl hl.1 rfl (lv_room (Nat.le_of_ble_eq_true rfl)) dX4_explore_119 ⟨Nat.le_of_ble_eq_true rfl, Nat.le_of_ble_eq_true rfl⟩) hS (fun q _ h => hFc q h) hFc (fun r72 u t H71 locs ht hvm hw hB hz1 hk1 hS => ?_)
  obtain rfl : r72 = 1 := hw.trans (by decide +kernel)
  have hP := zo_K hP hk1
  refine lv_if_eq (tgt := 129) hx hb dX4_explore_122 (by decide) (fun h => absurd h (by decide)) (fun _ => ?_)
  refine lv_iconst (v := 0) hx hb dX4_explore_125 (by decide) ?_
  refine lv_goto (tgt := 136) hx hb dX4_explore_126 (by decide) ?_
  refine va_iast hx hb hK hP hD hS 0 4 rfl rfl (by unfold vp_in; decide) dX4_explore_136 (fun H73 locs hP hD hS => ?_)
  obtain ⟨f74, ef74⟩ : ∃ z : Nat → Int32, z = upd f66 1 0 := ⟨_, rfl⟩
  have k75 : f74 0 = (-1) := by rw [ef74]; exact (pk_un (by decide)).trans (k67)
  have k76 : f74 3 = 0 := by rw [ef74]; exact (pk_un (by decide)).trans (k69)
  have k77 : f74 2 = 1 := by rw [ef74]; exact (pk_un (by decide)).trans (k70)
  have k78 : f74 1 = 0 := by rw [ef74]; exact pk_us
  have hP : va_P (dC, dI) vwCl [(a3, .inl (cJ, 1024, .inl f74)), (a1, .inl (cZ, 1024, .inl g1_52)), (a2, .inl (cI, 1024, .inl g2_52))] H73 := by rw [ef74]; exact hP
  have hD : va_D A [(a3, .inl (cJ, 1024, .inl f74)), (a1, .inl (cZ, 1024, .inl g1_52)), (a2, .inl (cI, 1024, .inl g2_52))] := by rw [ef74]; exact hD
  refine lv_iinc (v := 0) (lv' := [(5, .int 0), (4, .int 0), (3, .int 4), (0, .ref st), (1, .ref rm), (2, .int x0)]) hx hb dX4_explore_137 hl (k := 0) rfl (by decide) (by decide) rfl (fun ls hl => ?_)
  refine lv_goto (tgt := 92) hx hb dX4_explore_140 (by decide) ?_
  refine lv_iload hx hb dX4_explore_92 (lv_at hl 0 rfl) ?_
  refine lv_if_lt (tgt := 143) hx hb dX4_explore_94 (by decide) (fun h => absurd h (by decide)) (fun _ => ?_)
  refine lv_aload_n hx hb dX4_explore_97 rfl (lv_at hl 3 rfl) ?_
  refine va_get (D := (dC, dI)) (ci := 6) (v := .ref a1) (C := RX4) (T := TX4) (N := 3) hx hb hts zi_X4_explore_X4 hown hK (zo_R hR0 hS hAr) 0 rfl rfl 0 (by decide) (hts (.fieldLink RX4 9 "LockRooms$Stands" "isReached" "[Z") (by decide +kernel)) (fun _ h9 => h9) rfl dX4_explore_98 ?_
  refine lv_iload hx hb dX4_explore_101 (lv_at hl 0 rfl) ?_
  refine va_zald hx hb hK hP 1 2 rfl rfl (by unfold vp_in; decide) dX4_explore_103 ?_
  refine zo_i (v := 1) (by rw [show Int32.toNatClampNeg 0 = 0 from by decide]; exact k52_0) ?_
  refine lv_if_eq (tgt := 137) hx hb dX4_explore_104 (by decide) (fun h => absurd h (by decide)) (fun _ => ?_)
  refine lv_aload_n hx hb dX4_explore_107 rfl (lv_at hl 3 rfl) ?_
  refine va_get (D := (dC, dI)) (ci := 6) (v := .ref a3) (C := RX4) (T := TX4) (N := 3) hx hb hts zi_X4_explore_X4 hown hK (zo_R hR0 hS hAr) 0 rfl rfl 2 (by decide) (hts (.fieldLink RX4 19 "LockRooms$Stands" "yet" "[I") (by decide +kernel)) (fun _ h9 => h9) rfl dX4_explore_108 ?_
  refine lv_iload hx hb dX4_explore_111 (lv_at hl 0 rfl) ?_
  refine lv_iload hx hb dX4_explore_113 (lv_at hl 0 rfl) ?_
  refine lv_aload_n hx hb dX4_explore_115 rfl (lv_at hl 4 rfl) ?_
  refine va_get (D := (dC, dI)) (ci := 5) (v := .int 0) (C := RX3) (T := TX3) (N := 12) hx hb hts zi_X4_explore_X3 hown hK (zo_R hR0 hS hAr) 1 rfl rfl 7 (by decide) (hts (.fieldLink RX4 68 "LockRooms$Room" "exit" "I") (by decide +kernel)) (fun _ h9 => h9) rfl dX4_explore_116 ?_
  have hPr := (zo_nil : va_P (dC, dI) vwCl [] H73)
  have hPc := hP.sub (ws' := []) [] rfl
  have hDc := hD.sub (ws' := []) [] (by decide) rfl
  have hKc := hK.sub (tys' := []) [] rfl
  have hFc := va_free (wc := []) hD hS hA [] rfl
  refine va_calli (va_runSN (As := [.int 0, .int 0]) (rest := [.int 0, .ref a3]) ⟨hx, hb, hml, hown, hts⟩ (cz_QisIn l dC dI ed H73.size 0 0) ⟨(va_cnB 2 hts gX4_explore_X6_isIn_n54 rfl rfl rfl (hN.2.1 ("LockRooms$Stands", 54, yX6_isIn, "LockRooms") (List.mem_of_getElem? (i := 6) rfl)) (hts (.initialized RX6) (by decide +kernel)) (by decide +kernel) ⟨Nat.le_of_ble_eq_true rfl, Nat.le_of_ble_eq_true rfl⟩), (hts (.static yX6_isIn) (by decide +kernel)), trivial⟩ ⟨zb_blind, fun U hU hW => ⟨rfl, zb_mk hU hW hPr hPc hKc hDc hN hH hS hFc zx_e⟩⟩ rfl rfl hl.1 rfl (lv_room (Nat.le_of_ble_eq_true rfl)) dX4_explore_119 ⟨Nat.le_of_ble_eq_true rfl, Nat.le_of_ble_eq_true rfl⟩) hS (fun q _ h => hFc q h) hFc (fun r80 u t H79 locs ht hvm hw hB hz1 hk1 hS => ?_)
  obtain rfl : r80 = 0 := hw.trans (by decide +kernel)
  have hP := zo_K hP hk1
  refine lv_if_eq (tgt := 129) hx hb dX4_explore_122 (by decide) (fun _ => ?_) (fun h => absurd h (by decide))
  refine lv_aload_n hx hb dX4_explore_129 rfl (lv_at hl 3 rfl) ?_
  refine lv_aload_n hx hb dX4_explore_130 rfl (lv_at hl 4 rfl) ?_
  refine lv_iload hx hb dX4_explore_131 (lv_at hl 0 rfl) ?_
  have hPr := (show va_P (dC, dI) vwCl [(st, .inr (6, [.ref a1, .ref a2, .ref a3])), (rm, .inr (5, [.ref lk, .ref th, .ref pl, .ref gm, .int 2, .int 10, .int 0, .int 0, .int 1, .int 0, .int 0, .int 0])), (a2, .inl (cI, 1024, .inl g2_52)), (a3, .inl (cJ, 1024, .inl f74))] H79 from (zo_cons (((zo_R hR0 hS hAr)) 0 _ rfl) (zo_cons (((zo_R hR0 hS hAr)) 1 _ rfl) (zo_cons ((hP) 2 _ rfl) (zo_cons ((hP) 0 _ rfl) (zo_nil : va_P (dC, dI) vwCl [] H79))))))
  have hPc := hP.sub (ws' := []) [] rfl
  have hDc := hD.sub (ws' := []) [] (by decide) rfl
  have hKc := hK.sub (tys' := [(cI, .int), (cJ, .int)]) [3, 4] rfl
  have hFc := va_free (wc := []) hD hS hA [] rfl
  refine va_calli (va_runV (As := [.ref rm, .int 0]) (rest := [.int 0, .ref a3]) ⟨hx, hb, hml, hown, hts⟩ (cz_QleastYet_0 l dC dI ed H79.size st a1 a2 a3 rm lk th pl gm cI g2_52 cJ f74 k52_4 k78 k77) (cwV 2 hts gX4_explore_X4_leastYet rfl rfl rfl (by decide +kernel) ⟨Nat.le_of_ble_eq_true rfl, Nat.le_of_ble_eq_true rfl⟩) ⟨zb_blind, va_recv hK (zo_R hR0 hS hAr) (ci := 6) (q0 := 0) rfl rfl, fun U hU hW => ⟨rfl, zb_mk hU hW hPr hPc hKc hDc hN hH hS hFc zx_e⟩⟩ rfl rfl hl.1 rfl (lv_room (Nat.le_of_ble_eq_true rfl)) dX4_explore_133 ⟨Nat.le_of_ble_eq_true rfl, Nat.le_of_ble_eq_true rfl⟩) hS (fun q _ h => hFc q h) hFc (fun r82 u t H81 locs ht hvm hw hB hz1 hk1 hS => ?_)
  obtain rfl : r82 = 1 := hw
  have hP := zo_K hP hk1
  refine va_iast hx hb hK hP hD hS 0 4 rfl rfl (by unfold vp_in; decide) dX4_explore_136 (fun H83 locs hP hD hS => ?_)
  obtain ⟨f84, ef84⟩ : ∃ z : Nat → Int32, z = upd f74 0 1 := ⟨_, rfl⟩
  have k85 : f84 3 = 0 := by rw [ef84]; exact (pk_un (by decide)).trans (k76)
  have k86 : f84 2 = 1 := by rw [ef84]; exact (pk_un (by decide)).trans (k77)
  have k87 : f84 1 = 0 := by rw [ef84]; exact (pk_un (by decide)).trans (k78)
  have k88 : f84 0 = 1 := by rw [ef84]; exact pk_us
  have hP : va_P (dC, dI) vwCl [(a3, .inl (cJ, 1024, .inl f84)), (a1, .inl (cZ, 1024, .inl g1_52)), (a2, .inl (cI, 1024, .inl g2_52))] H83 := by rw [ef84]; exact hP
  have hD : va_D A [(a3, .inl (cJ, 1024, .inl f84)), (a1, .inl (cZ, 1024, .inl g1_52)), (a2, .inl (cI, 1024, .inl g2_52))] := by rw [ef84]; exact hD
  refine lv_iinc (v := (-1)) (lv' := [(5, .int (-1)), (4, .int 0), (3, .int 4), (0, .ref st), (1, .ref rm), (2, .int x0)]) hx hb dX4_explore_137 hl (k := 0) rfl (by decide) (by decide) rfl (fun ls hl => ?_)
  refine lv_goto (tgt := 92) hx hb dX4_explore_140 (by decide) ?_
  refine lv_iload hx hb dX4_explore_92 (lv_at hl 0 rfl) ?_
  refine lv_if_lt (tgt := 143) hx hb dX4_explore_94 (by decide) (fun _ => ?_) (fun h => absurd h (by decide))
  refine W.widen (k := 0) (n := 0) (Nat.le_of_ble_eq_true rfl) (Nat.le_of_ble_eq_true rfl) ?_
  have hP9 := hP.sub (ws' := [(a1, .inl (cZ, 1024, .inl g1_52)), (a2, .inl (cI, 1024, .inl g2_52)), (a3, .inl (cJ, 1024, .inl f84))]) [1, 2, 0] rfl
  have hD9 := hD.sub (ws' := [(a1, .inl (cZ, 1024, .inl g1_52)), (a2, .inl (cI, 1024, .inl g2_52)), (a3, .inl (cJ, 1024, .inl f84))]) [1, 2, 0] (by decide) rfl
  have hK9 := hK.sub (tys' := [(cZ, .boolean), (cI, .int), (cJ, .int)]) [2, 3, 4] rfl
  exact W.vret hx hb hr (fun t ht hW => ⟨⟨(), rfl, trivial, ⟨g1_52, g2_52, f84, ⟨k52_0, k52_1, k52_2, k52_3, k88, k87, k86, k85⟩, by rw [ht]; exact hP9, hD9, va_K.moved hW.alike hK9⟩⟩, hS.F ht⟩) hS.2.2 dX4_explore_143

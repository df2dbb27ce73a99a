set_option maxHeartbeats 4000000 in
set_option maxRecDepth 100000 in
theorem cz_QfindDepth (l : Launch) (dC : Nat → ClassId) (dI : Nat → Nat → Nat) (ed sz : Nat) (st : Nat) (a1 : Nat) (a2 : Nat) (a3 : Nat) (rm : Nat) (lk : Nat) (th : Nat) (pl : Nat) (gm : Nat) (cL : ClassId) (fl : Nat → Option Nat) (l0 : Nat) (l1 : Nat) (cT : ClassId) (ft : Nat → Option Nat) (t0 : Nat) (t1 : Nat) (t2 : Nat) (t3 : Nat) (t4 : Nat) (t5 : Nat) (t6 : Nat) (t7 : Nat) (t8 : Nat) (t9 : Nat) (cZ : ClassId) (f1 : Nat → Int32) (cI : ClassId) (f2 : Nat → Int32) (cJ : ClassId) (f3 : Nat → Int32) (hkl0 : fl 0 = some l0) (hkl1 : fl 1 = some l1) (hkt0 : ft 0 = some t0) (hkt1 : ft 1 = some t1) (hkt2 : ft 2 = some t2) (hkt3 : ft 3 = some t3) (hkt4 : ft 4 = some t4) (hkt5 : ft 5 = some t5) (hkt6 : ft 6 = some t6) (hkt7 : ft 7 = some t7) (hkt8 : ft 8 = some t8) (hkt9 : ft 9 = some t9) : Met l yX4_findDepth wsX4_findDepth ({ frames := 4, cells := 0, slots := 0, locals := 98 } : Jvm.Room) (va_Pc [.ref st, .ref rm] (zB dC dI ed sz [(st, .inr (6, [.ref a1, .ref a2, .ref a3])), (rm, .inr (5, [.ref lk, .ref th, .ref pl, .ref gm, .int 2, .int 10, .int 0, .int 0, .int 1, .int 0, .int 0, .int 0])), (lk, .inl (cL, 10, .inr (.inr (.inr (.inr fl))))), (th, .inl (cT, 12, .inr (.inr (.inr (.inr ft))))), (l0, .inr (3, [.int 0, .int 0, .int 60, .int 0, .int 0, .int 0, .int 0, .int 0, .int 0, .int 0])), (l1, .inr (3, [.int 0, .int 0, .int 60, .int 0, .int 0, .int 0, .int 0, .int 0, .int 0, .int 0])), (t0, .inr (7, [.int (-1), .int 0, .int 0, .int 0, .int 0])), (t1, .inr (7, [.int (-1), .int 0, .int 0, .int 0, .int 0])), (t2, .inr (7, [.int (-1), .int 0, .int 0, .int 0, .int 0])), (t3, .inr (7, [.int (-1), .int 0, .int 0, .int 0, .int 0])), (t4, .inr (7, [.int (-1), .int 0, .int 0, .int 0, .int 0])), (t5, .inr (7, [.int (-1), .int 0, .int 0, .int 0, .int 0])), (t6, .inr (7, [.int (-1), .int 0, .int 0, .int 0, .int 0])), (t7, .inr (7, [.int (-1), .int 0, .int 0, .int 0, .int 0])), (t8, .inr (7, [.int (-1), .int 0, .int 0, .int 0, .int 0])), (t9, .inr (7, [.int (-1), .int 0, .int 0, .int 0, .int 0]))] [(a1, .inl (cZ, 1024, .inl f1)), (a2, .inl (cI, 1024, .inl f2)), (a3, .inl (cJ, 1024, .inl f3))] [(cL, .object "LockRooms$Lock"), (cT, .object "LockRooms$Thing"), (cZ, .boolean), (cI, .int), (cJ, .int)])) (va_Qi (fun (r : Int32) (_ : Unit) => r = 1) (fun (_ : Unit) (t : State) => ∃ (g1 : Nat → Int32), ∃ (g2 : Nat → Int32), ∃ (g3 : Nat → Int32), va_P (dC, dI) vwCl [(a1, .inl (cZ, 1024, .inl g1)), (a2, .inl (cI, 1024, .inl g2)), (a3, .inl (cJ, 1024, .inl g3))] t.heap ∧ va_D (va_A [(a1, .inl (cZ, 1024, .inl f1)), (a2, .inl (cI, 1024, .inl f2)), (a3, .inl (cJ, 1024, .inl f3))] sz) [(a1, .inl (cZ, 1024, .inl g1)), (a2, .inl (cI, 1024, .inl g2)), (a3, .inl (cJ, 1024, .inl g3))] ∧ va_K (dC, dI) vwCl [(cZ, .boolean), (cI, .int), (cJ, .int)] t) (va_A [(a1, .inl (cZ, 1024, .inl f1)), (a2, .inl (cI, 1024, .inl f2)), (a3, .inl (cJ, 1024, .inl f3))] sz)) 0 0 (va_A [(a1, .inl (cZ, 1024, .inl f1)), (a2, .inl (cI, 1024, .inl f2)), (a3, .inl (cJ, 1024, .inl f3))] sz) := by
  refine Met.ofW (cc := cX4_findDepth) (maxL := 2) (ret := (some .int)) (by decide) rfl ?_
  intro p e s m args below meth c s₁ B hml hv
  obtain ⟨rfl, hsz, hR0, hP, hK, hD0, hN, hH, hX0⟩ := hv
  have hx := B.exec
  have hb := B.bytes
  have hr := B.returns
  have hts := atoms_spec (ws := wsX4_findDepth) B.pre
  have hown : s.vm.findClass RX4 = some m.cls := findClass_of_methodNamed B.named
  have hlocks := B.notSynchronized
  subst hsz
  have hD := hD0.self (sz := s.heap.size)
  have hAr := zx_A hX0 hR0
  generalize hAe : va_A [(a1, .inl (cZ, 1024, .inl f1)), (a2, .inl (cI, 1024, .inl f2)), (a3, .inl (cJ, 1024, .inl f3))] s.heap.size = A at hD hAr hH ⊢
  have hA : ∀ q : Nat, s.heap.size ≤ q → A q := fun q h => by rw [← hAe]; exact Or.inr h
  have hS : va_S A s.heap s.heap [] := va_S.rf
  have hl := lv_entry ([.ref st, .ref rm]) (n := 2) (Nat.le_of_ble_eq_true rfl)
  rw [lg_entry_eq]
  generalize (lg_sl ([.ref st, .ref rm]) ++ List.replicate (2 - (lg_sl ([.ref st, .ref rm])).length) Slot.unset).toArray = ls at hl ⊢
  have hl : lv_has ls 2 [(0, .ref st), (1, .ref rm)] := hl
  refine lv_aload_n hx hb dX4_findDepth_0 rfl (lv_at hl 0 rfl) ?_
  refine lv_aload_n hx hb dX4_findDepth_1 rfl (lv_at hl 1 rfl) ?_
  refine lv_iconst (v := 0) hx hb dX4_findDepth_2 (by decide) ?_
  have hPr := (hR0).sub (ws' := [(st, .inr (6, [.ref a1, .ref a2, .ref a3])), (rm, .inr (5, [.ref lk, .ref th, .ref pl, .ref gm, .int 2, .int 10, .int 0, .int 0, .int 1, .int 0, .int 0, .int 0])), (lk, .inl (cL, 10, .inr (.inr (.inr (.inr fl))))), (th, .inl (cT, 12, .inr (.inr (.inr (.inr ft))))), (l0, .inr (3, [.int 0, .int 0, .int 60, .int 0, .int 0, .int 0, .int 0, .int 0, .int 0, .int 0])), (l1, .inr (3, [.int 0, .int 0, .int 60, .int 0, .int 0, .int 0, .int 0, .int 0, .int 0, .int 0])), (t0, .inr (7, [.int (-1), .int 0, .int 0, .int 0, .int 0])), (t1, .inr (7, [.int (-1), .int 0, .int 0, .int 0, .int 0])), (t2, .inr (7, [.int (-1), .int 0, .int 0, .int 0, .int 0])), (t3, .inr (7, [.int (-1), .int 0, .int 0, .int 0, .int 0])), (t4, .inr (7, [.int (-1), .int 0, .int 0, .int 0, .int 0])), (t5, .inr (7, [.int (-1), .int 0, .int 0, .int 0, .int 0])), (t6, .inr (7, [.int (-1), .int 0, .int 0, .int 0, .int 0])), (t7, .inr (7, [.int (-1), .int 0, .int 0, .int 0, .int 0])), (t8, .inr (7, [.int (-1), .int 0, .int 0, .int 0, .int 0])), (t9, .inr (7, [.int (-1), .int 0, .int 0, .int 0, .int 0]))]) [0, 1, 2, 3, 4, 5, 6, 7, 8, 9, 10, 11, 12, 13, 14, 15] rfl
  have hPc := hP.sub (ws' := [(a1, .inl (cZ, 1024, .inl f1)), (a2, .inl (cI, 1024, .inl f2)), (a3, .inl (cJ, 1024, .inl f3))]) [0, 1, 2] rfl
  have hDc := hD.sub (ws' := [(a1, .inl (cZ, 1024, .inl f1)), (a2, .inl (cI, 1024, .inl f2)), (a3, .inl (cJ, 1024, .inl f3))]) [0, 1, 2] (by decide) rfl
  have hKc := hK.sub (tys' := [(cL, .object "LockRooms$Lock"), (cT, .object "LockRooms$Thing"), (cZ, .boolean), (cI, .int), (cJ, .int)]) [0, 1, 2, 3, 4] rfl
  have hFc := va_free (wc := [(a1, .inl (cZ, 1024, .inl f1)), (a2, .inl (cI, 1024, .inl f2)), (a3, .inl (cJ, 1024, .inl f3))]) hD hS hA [0, 1, 2] rfl
  refine va_callv (va_runV (As := [.ref rm, .int 0]) (rest := []) ⟨hx, hb, hml, hown, hts⟩ (cz_Qexplore l dC dI ed s.heap.size st a1 a2 a3 rm lk th pl gm cL fl l0 l1 cT ft t0 t1 t2 t3 t4 t5 t6 t7 t8 t9 cZ f1 cI f2 cJ f3 0 hkl0 hkl1 hkt0 hkt1 hkt2 hkt3 hkt4 hkt5 hkt6 hkt7 hkt8 hkt9) (cwV 2 hts gX4_findDepth_X4_explore rfl rfl rfl (by decide +kernel) ⟨Nat.le_of_ble_eq_true rfl, Nat.le_of_ble_eq_true rfl⟩) ⟨zb_blind, va_recv hK hR0 (ci := 6) (q0 := 0) rfl rfl, fun U hU hW => ⟨rfl, zb_mk hU hW hPr hPc hKc hDc hN hH hS hFc (zx_cons (zx_r (hAr _ (List.mem_of_getElem? (i := 0) rfl)) hDc) (zx_cons (zx_r (hAr _ (List.mem_of_getElem? (i := 1) rfl)) hDc) (zx_cons (zx_r (hAr _ (List.mem_of_getElem? (i := 2) rfl)) hDc) (zx_cons (zx_r (hAr _ (List.mem_of_getElem? (i := 3) rfl)) hDc) (zx_cons (zx_r (hAr _ (List.mem_of_getElem? (i := 4) rfl)) hDc) (zx_cons (zx_r (hAr _ (List.mem_of_getElem? (i := 5) rfl)) hDc) (zx_cons (zx_r (hAr _ (List.mem_of_getElem? (i := 6) rfl)) hDc) (zx_cons (zx_r (hAr _ (List.mem_of_getElem? (i := 7) rfl)) hDc) (zx_cons (zx_r (hAr _ (List.mem_of_getElem? (i := 8) rfl)) hDc) (zx_cons (zx_r (hAr _ (List.mem_of_getElem? (i := 9) rfl)) hDc) (zx_cons (zx_r (hAr _ (List.mem_of_getElem? (i := 10) rfl)) hDc) (zx_cons (zx_r (hAr _ (List.mem_of_getElem? (i := 11) rfl)) hDc) (zx_cons (zx_r (hAr _ (List.mem_of_getElem? (i := 12) rfl)) hDc) (zx_cons (zx_r (hAr _ (List.mem_of_getElem? (i := 13) rfl)) hDc) (zx_cons (zx_r (hAr _ (List.mem_of_getElem? (i := 14) rfl)) hDc) (zx_cons (zx_r (hAr _ (List.mem_of_getElem? (i := 15) rfl)) hDc) zx_nil))))))))))))))))⟩⟩ rfl rfl hl.1 rfl (lv_room (Nat.le_of_ble_eq_true rfl)) dX4_findDepth_3 ⟨Nat.le_of_ble_eq_true rfl, Nat.le_of_ble_eq_true rfl⟩) hS (fun q _ h => hFc q h) hFc (fun u t H1 locs ht hvm hw hB hz1 hk1 hS => ?_)
  obtain ⟨g1_3, g2_3, g3_3, ⟨k3_0, k3_1, k3_2, k3_3, k3_4, k3_5, k3_6, k3_7⟩, hP1, hD1, hK1⟩ := hB
  rw [ht] at hP1
  obtain ⟨hP, hD⟩ := va_join (wr := []) (w1 := [(a1, .inl (cZ, 1024, .inl g1_3)), (a2, .inl (cI, 1024, .inl g2_3)), (a3, .inl (cJ, 1024, .inl g3_3))]) hP hD [0, 1, 2] [] rfl rfl (by decide) (by decide) hk1 hFc hP1 hD1
  have hP : va_P (dC, dI) vwCl [(a1, .inl (cZ, 1024, .inl g1_3)), (a2, .inl (cI, 1024, .inl g2_3)), (a3, .inl (cJ, 1024, .inl g3_3))] H1 := hP
  have hD : va_D A [(a1, .inl (cZ, 1024, .inl g1_3)), (a2, .inl (cI, 1024, .inl g2_3)), (a3, .inl (cJ, 1024, .inl g3_3))] := hD
  refine lv_aload_n hx hb dX4_findDepth_6 rfl (lv_at hl 0 rfl) ?_
  refine lv_aload_n hx hb dX4_findDepth_7 rfl (lv_at hl 1 rfl) ?_
  have hPr := ((zo_R hR0 hS hAr)).sub (ws' := [(rm, .inr (5, [.ref lk, .ref th, .ref pl, .ref gm, .int 2, .int 10, .int 0, .int 0, .int 1, .int 0, .int 0, .int 0])), (lk, .inl (cL, 10, .inr (.inr (.inr (.inr fl))))), (l0, .inr (3, [.int 0, .int 0, .int 60, .int 0, .int 0, .int 0, .int 0, .int 0, .int 0, .int 0])), (l1, .inr (3, [.int 0, .int 0, .int 60, .int 0, .int 0, .int 0, .int 0, .int 0, .int 0, .int 0]))]) [1, 2, 4, 5] rfl
  have hPc := hP.sub (ws' := []) [] rfl
  have hDc := hD.sub (ws' := []) [] (by decide) rfl
  have hKc := hK.sub (tys' := [(cL, .object "LockRooms$Lock")]) [0] rfl
  have hFc := va_free (wc := []) hD hS hA [] rfl
  refine va_calli (va_runV (As := []) (rest := [.ref st]) ⟨hx, hb, hml, hown, hts⟩ (cz_QopenLocks l dC dI ed H1.size rm lk th pl gm cL fl l0 l1 hkl0 hkl1) (cwV 0 hts gX4_findDepth_X3_openLocks rfl rfl rfl (by decide +kernel) ⟨Nat.le_of_ble_eq_true rfl, Nat.le_of_ble_eq_true rfl⟩) ⟨zb_blind, va_recv hK (zo_R hR0 hS hAr) (ci := 5) (q0 := 1) rfl rfl, fun U hU hW => ⟨rfl, zb_mk hU hW hPr hPc hKc hDc hN hH hS hFc zx_e⟩⟩ rfl rfl hl.1 rfl (lv_room (Nat.le_of_ble_eq_true rfl)) dX4_findDepth_8 ⟨Nat.le_of_ble_eq_true rfl, Nat.le_of_ble_eq_true rfl⟩) hS (fun q _ h => hFc q h) hFc (fun r5 u t H4 locs ht hvm hw hB hz1 hk1 hS => ?_)
  obtain rfl : r5 = 0 := hw
  have hP := zo_K hP hk1
  have hPr := (show va_P (dC, dI) vwCl [(st, .inr (6, [.ref a1, .ref a2, .ref a3])), (a3, .inl (cJ, 1024, .inl g3_3))] H4 from (zo_cons (((zo_R hR0 hS hAr)) 0 _ rfl) (zo_cons ((hP) 2 _ rfl) (zo_nil : va_P (dC, dI) vwCl [] H4))))
  have hPc := hP.sub (ws' := []) [] rfl
  have hDc := hD.sub (ws' := []) [] (by decide) rfl
  have hKc := hK.sub (tys' := [(cJ, .int)]) [4] rfl
  have hFc := va_free (wc := []) hD hS hA [] rfl
  refine va_calli (va_runV (As := [.int 0]) (rest := []) ⟨hx, hb, hml, hown, hts⟩ (cz_QyetBehind_0 l dC dI ed H4.size st a1 a2 a3 cJ g3_3 k3_4) (cwV 1 hts gX4_findDepth_X4_yetBehind rfl rfl rfl (by decide +kernel) ⟨Nat.le_of_ble_eq_true rfl, Nat.le_of_ble_eq_true rfl⟩) ⟨zb_blind, va_recv hK (zo_R hR0 hS hAr) (ci := 6) (q0 := 0) rfl rfl, fun U hU hW => ⟨rfl, zb_mk hU hW hPr hPc hKc hDc hN hH hS hFc zx_e⟩⟩ rfl rfl hl.1 rfl (lv_room (Nat.le_of_ble_eq_true rfl)) dX4_findDepth_11 ⟨Nat.le_of_ble_eq_true rfl, Nat.le_of_ble_eq_true rfl⟩) hS (fun q _ h => hFc q h) hFc (fun r7 u t H6 locs ht hvm hw hB hz1 hk1 hS => ?_)
  obtain rfl : r7 = 1 := hw
  have hP := zo_K hP hk1
  refine W.widen (k := 0) (n := 0) (Nat.le_of_ble_eq_true rfl) (Nat.le_of_ble_eq_true rfl) ?_
  have hP9 := hP.sub (ws' := [(a1, .inl (cZ, 1024, .inl g1_3)), (a2, .inl (cI, 1024, .inl g2_3)), (a3, .inl (cJ, 1024, .inl g3_3))]) [0, 1, 2] rfl
  have hD9 := hD.sub (ws' := [(a1, .inl (cZ, 1024, .inl g1_3)), (a2, .inl (cI, 1024, .inl g2_3)), (a3, .inl (cJ, 1024, .inl g3_3))]) [0, 1, 2] (by decide) rfl
  have hK9 := hK.sub (tys' := [(cZ, .boolean), (cI, .int), (cJ, .int)]) [2, 3, 4] rfl
  exact W.iret hx hb hr (fun t ht hW => ⟨⟨1, (), rfl, rfl, ⟨g1_3, g2_3, g3_3, by rw [ht]; exact hP9, hD9, va_K.moved hW.alike hK9⟩⟩, hS.F ht⟩) hS.2.2 dX4_findDepth_14
set_option maxHeartbeats 4000000 in
set_option maxRecDepth 100000 in
theorem cz_QcountReached (l : Launch) (dC : Nat → ClassId) (dI : Nat → Nat → Nat) (ed sz : Nat) (st : Nat) (a1 : Nat) (a2 : Nat) (a3 : Nat) (rm : Nat) (lk : Nat) (th : Nat) (pl : Nat) (gm : Nat) (cL : ClassId) (fl : Nat → Option Nat) (l0 : Nat) (l1 : Nat) (cT : ClassId) (ft : Nat → Option Nat) (t0 : Nat) (t1 : Nat) (t2 : Nat) (t3 : Nat) (t4 : Nat) (t5 : Nat) (t6 : Nat) (t7 : Nat) (t8 : Nat) (t9 : Nat) (cZ : ClassId) (f1 : Nat → Int32) (cI : ClassId) (f2 : Nat → Int32) (cJ : ClassId) (f3 : Nat → Int32) (hkl0 : fl 0 = some l0) (hkl1 : fl 1 = some l1) (hkt0 : ft 0 = some t0) (hkt1 : ft 1 = some t1) (hkt2 : ft 2 = some t2) (hkt3 : ft 3 = some t3) (hkt4 : ft 4 = some t4) (hkt5 : ft 5 = some t5) (hkt6 : ft 6 = some t6) (hkt7 : ft 7 = some t7) (hkt8 : ft 8 = some t8) (hkt9 : ft 9 = some t9) : Met l yX4_countReached wsX4_countReached ({ frames := 4, cells := 0, slots := 0, locals := 98 } : Jvm.Room) (va_Pc [.ref st, .ref rm] (zB dC dI ed sz [(st, .inr (6, [.ref a1, .ref a2, .ref a3])), (rm, .inr (5, [.ref lk, .ref th, .ref pl, .ref gm, .int 2, .int 10, .int 0, .int 0, .int 1, .int 0, .int 0, .int 0])), (lk, .inl (cL, 10, .inr (.inr (.inr (.inr fl))))), (th, .inl (cT, 12, .inr (.inr (.inr (.inr ft))))), (l0, .inr (3, [.int 0, .int 0, .int 60, .int 0, .int 0, .int 0, .int 0, .int 0, .int 0, .int 0])), (l1, .inr (3, [.int 0, .int 0, .int 60, .int 0, .int 0, .int 0, .int 0, .int 0, .int 0, .int 0])), (t0, .inr (7, [.int (-1), .int 0, .int 0, .int 0, .int 0])), (t1, .inr (7, [.int (-1), .int 0, .int 0, .int 0, .int 0])), (t2, .inr (7, [.int (-1), .int 0, .int 0, .int 0, .int 0])), (t3, .inr (7, [.int (-1), .int 0, .int 0, .int 0, .int 0])), (t4, .inr (7, [.int (-1), .int 0, .int 0, .int 0, .int 0])), (t5, .inr (7, [.int (-1), .int 0, .int 0, .int 0, .int 0])), (t6, .inr (7, [.int (-1), .int 0, .int 0, .int 0, .int 0])), (t7, .inr (7, [.int (-1), .int 0, .int 0, .int 0, .int 0])), (t8, .inr (7, [.int (-1), .int 0, .int 0, .int 0, .int 0])), (t9, .inr (7, [.int (-1), .int 0, .int 0, .int 0, .int 0]))] [(a1, .inl (cZ, 1024, .inl f1)), (a2, .inl (cI, 1024, .inl f2)), (a3, .inl (cJ, 1024, .inl f3))] [(cL, .object "LockRooms$Lock"), (cT, .object "LockRooms$Thing"), (cZ, .boolean), (cI, .int), (cJ, .int)])) (va_Qi (fun (r : Int32) (_ : Unit) => r = 4) (fun (_ : Unit) (t : State) => ∃ (g1 : Nat → Int32), ∃ (g2 : Nat → Int32), ∃ (g3 : Nat → Int32), va_P (dC, dI) vwCl [(a1, .inl (cZ, 1024, .inl g1)), (a2, .inl (cI, 1024, .inl g2)), (a3, .inl (cJ, 1024, .inl g3))] t.heap ∧ va_D (va_A [(a1, .inl (cZ, 1024, .inl f1)), (a2, .inl (cI, 1024, .inl f2)), (a3, .inl (cJ, 1024, .inl f3))] sz) [(a1, .inl (cZ, 1024, .inl g1)), (a2, .inl (cI, 1024, .inl g2)), (a3, .inl (cJ, 1024, .inl g3))] ∧ va_K (dC, dI) vwCl [(cZ, .boolean), (cI, .int), (cJ, .int)] t) (va_A [(a1, .inl (cZ, 1024, .inl f1)), (a2, .inl (cI, 1024, .inl f2)), (a3, .inl (cJ, 1024, .inl f3))] sz)) 0 0 (va_A [(a1, .inl (cZ, 1024, .inl f1)), (a2, .inl (cI, 1024, .inl f2)), (a3, .inl (cJ, 1024, .inl f3))] sz) := by
  refine Met.ofW (cc := cX4_countReached) (maxL := 4) (ret := (some .int)) (by decide) rfl ?_
  intro p e s m args below meth c s₁ B hml hv
  obtain ⟨rfl, hsz, hR0, hP, hK, hD0, hN, hH, hX0⟩ := hv
  have hx := B.exec
  have hb := B.bytes
  have hr := B.returns
  have hts := atoms_spec (ws := wsX4_countReached) B.pre
  have hown : s.vm.findClass RX4 = some m.cls := findClass_of_methodNamed B.named
  have hlocks := B.notSynchronized
  subst hsz
  have hD := hD0.self (sz := s.heap.size)
  have hAr := zx_A hX0 hR0
  generalize hAe : va_A [(a1, .inl (cZ, 1024, .inl f1)), (a2, .inl (cI, 1024, .inl f2)), (a3, .inl (cJ, 1024, .inl f3))] s.heap.size = A at hD hAr hH ⊢
  have hA : ∀ q : Nat, s.heap.size ≤ q → A q := fun q h => by rw [← hAe]; exact Or.inr h
  have hS : va_S A s.heap s.heap [] := va_S.rf
  have hl := lv_entry ([.ref st, .ref rm]) (n := 4) (Nat.le_of_ble_eq_true rfl)
  rw [lg_entry_eq]
  generalize (lg_sl ([.ref st, .ref rm]) ++ List.replicate (4 - (lg_sl ([.ref st, .ref rm])).length) Slot.unset).toArray = ls at hl ⊢
  have hl : lv_has ls 4 [(0, .ref st), (1, .ref rm)] := hl
  refine lv_aload_n hx hb dX4_countReached_0 rfl (lv_at hl 0 rfl) ?_
  refine lv_aload_n hx hb dX4_countReached_1 rfl (lv_at hl 1 rfl) ?_
  refine lv_iconst (v := 0) hx hb dX4_countReached_2 (by decide) ?_
  have hPr := (hR0).sub (ws' := [(st, .inr (6, [.ref a1, .ref a2, .ref a3])), (rm, .inr (5, [.ref lk, .ref th, .ref pl, .ref gm, .int 2, .int 10, .int 0, .int 0, .int 1, .int 0, .int 0, .int 0])), (lk, .inl (cL, 10, .inr (.inr (.inr (.inr fl))))), (th, .inl (cT, 12, .inr (.inr (.inr (.inr ft))))), (l0, .inr (3, [.int 0, .int 0, .int 60, .int 0, .int 0, .int 0, .int 0, .int 0, .int 0, .int 0])), (l1, .inr (3, [.int 0, .int 0, .int 60, .int 0, .int 0, .int 0, .int 0, .int 0, .int 0, .int 0])), (t0, .inr (7, [.int (-1), .int 0, .int 0, .int 0, .int 0])), (t1, .inr (7, [.int (-1), .int 0, .int 0, .int 0, .int 0])), (t2, .inr (7, [.int (-1), .int 0, .int 0, .int 0, .int 0])), (t3, .inr (7, [.int (-1), .int 0, .int 0, .int 0, .int 0])), (t4, .inr (7, [.int (-1), .int 0, .int 0, .int 0, .int 0])), (t5, .inr (7, [.int (-1), .int 0, .int 0, .int 0, .int 0])), (t6, .inr (7, [.int (-1), .int 0, .int 0, .int 0, .int 0])), (t7, .inr (7, [.int (-1), .int 0, .int 0, .int 0, .int 0])), (t8, .inr (7, [.int (-1), .int 0, .int 0, .int 0, .int 0])), (t9, .inr (7, [.int (-1), .int 0, .int 0, .int 0, .int 0]))]) [0, 1, 2, 3, 4, 5, 6, 7, 8, 9, 10, 11, 12, 13, 14, 15] rfl
  have hPc := hP.sub (ws' := [(a1, .inl (cZ, 1024, .inl f1)), (a2, .inl (cI, 1024, .inl f2)), (a3, .inl (cJ, 1024, .inl f3))]) [0, 1, 2] rfl
  have hDc := hD.sub (ws' := [(a1, .inl (cZ, 1024, .inl f1)), (a2, .inl (cI, 1024, .inl f2)), (a3, .inl (cJ, 1024, .inl f3))]) [0, 1, 2] (by decide) rfl
  have hKc := hK.sub (tys' := [(cL, .object "LockRooms$Lock"), (cT, .object "LockRooms$Thing"), (cZ, .boolean), (cI, .int), (cJ, .int)]) [0, 1, 2, 3, 4] rfl
  have hFc := va_free (wc := [(a1, .inl (cZ, 1024, .inl f1)), (a2, .inl (cI, 1024, .inl f2)), (a3, .inl (cJ, 1024, .inl f3))]) hD hS hA [0, 1, 2] rfl
  refine va_callv (va_runV (As := [.ref rm, .int 0]) (rest := []) ⟨hx, hb, hml, hown, hts⟩ (cz_Qexplore l dC dI ed s.heap.size st a1 a2 a3 rm lk th pl gm cL fl l0 l1 cT ft t0 t1 t2 t3 t4 t5 t6 t7 t8 t9 cZ f1 cI f2 cJ f3 0 hkl0 hkl1 hkt0 hkt1 hkt2 hkt3 hkt4 hkt5 hkt6 hkt7 hkt8 hkt9) (cwV 2 hts gX4_countReached_X4_explore rfl rfl rfl (by decide +kernel) ⟨Nat.le_of_ble_eq_true rfl, Nat.le_of_ble_eq_true rfl⟩) ⟨zb_blind, va_recv hK hR0 (ci := 6) (q0 := 0) rfl rfl, fun U hU hW => ⟨rfl, zb_mk hU hW hPr hPc hKc hDc hN hH hS hFc (zx_cons (zx_r (hAr _ (List.mem_of_getElem? (i := 0) rfl)) hDc) (zx_cons (zx_r (hAr _ (List.mem_of_getElem? (i := 1) rfl)) hDc) (zx_cons (zx_r (hAr _ (List.mem_of_getElem? (i := 2) rfl)) hDc) (zx_cons (zx_r (hAr _ (List.mem_of_getElem? (i := 3) rfl)) hDc) (zx_cons (zx_r (hAr _ (List.mem_of_getElem? (i := 4) rfl)) hDc) (zx_cons (zx_r (hAr _ (List.mem_of_getElem? (i := 5) rfl)) hDc) (zx_cons (zx_r (hAr _ (List.mem_of_getElem? (i := 6) rfl)) hDc) (zx_cons (zx_r (hAr _ (List.mem_of_getElem? (i := 7) rfl)) hDc) (zx_cons (zx_r (hAr _ (List.mem_of_getElem? (i := 8) rfl)) hDc) (zx_cons (zx_r (hAr _ (List.mem_of_getElem? (i := 9) rfl)) hDc) (zx_cons (zx_r (hAr _ (List.mem_of_getElem? (i := 10) rfl)) hDc) (zx_cons (zx_r (hAr _ (List.mem_of_getElem? (i := 11) rfl)) hDc) (zx_cons (zx_r (hAr _ (List.mem_of_getElem? (i := 12) rfl)) hDc) (zx_cons (zx_r (hAr _ (List.mem_of_getElem? (i := 13) rfl)) hDc) (zx_cons (zx_r (hAr _ (List.mem_of_getElem? (i := 14) rfl)) hDc) (zx_cons (zx_r (hAr _ (List.mem_of_getElem? (i := 15) rfl)) hDc) zx_nil))))))))))))))))⟩⟩ rfl rfl hl.1 rfl (lv_room (Nat.le_of_ble_eq_true rfl)) dX4_countReached_3 ⟨Nat.le_of_ble_eq_true rfl, Nat.le_of_ble_eq_true rfl⟩) hS (fun q _ h => hFc q h) hFc (fun u t H1 locs ht hvm hw hB hz1 hk1 hS => ?_)
  obtain ⟨g1_3, g2_3, g3_3, ⟨k3_0, k3_1, k3_2, k3_3, k3_4, k3_5, k3_6, k3_7⟩, hP1, hD1, hK1⟩ := hB
  rw [ht] at hP1
  obtain ⟨hP, hD⟩ := va_join (wr := []) (w1 := [(a1, .inl (cZ, 1024, .inl g1_3)), (a2, .inl (cI, 1024, .inl g2_3)), (a3, .inl (cJ, 1024, .inl g3_3))]) hP hD [0, 1, 2] [] rfl rfl (by decide) (by decide) hk1 hFc hP1 hD1
  have hP : va_P (dC, dI) vwCl [(a1, .inl (cZ, 1024, .inl g1_3)), (a2, .inl (cI, 1024, .inl g2_3)), (a3, .inl (cJ, 1024, .inl g3_3))] H1 := hP
  have hD : va_D A [(a1, .inl (cZ, 1024, .inl g1_3)), (a2, .inl (cI, 1024, .inl g2_3)), (a3, .inl (cJ, 1024, .inl g3_3))] := hD
  refine lv_iconst (v := 0) hx hb dX4_countReached_6 (by decide) ?_
  refine lv_istore_n (lv' := [(2, .int 0), (0, .ref st), (1, .ref rm)]) hx hb dX4_countReached_7 rfl hl (by decide) rfl (fun ls hl => ?_)
  refine lv_iconst (v := 0) hx hb dX4_countReached_8 (by decide) ?_
  refine lv_istore_n (lv' := [(3, .int 0), (2, .int 0), (0, .ref st), (1, .ref rm)]) hx hb dX4_countReached_9 rfl hl (by decide) rfl (fun ls hl => ?_)
  refine lv_iload_n hx hb dX4_countReached_10 rfl (lv_at hl 0 rfl) ?_
  refine lv_aload_n hx hb dX4_countReached_11 rfl (lv_at hl 2 rfl) ?_
  refine lv_aload_n hx hb dX4_countReached_12 rfl (lv_at hl 3 rfl) ?_
  have hPr := ((zo_R hR0 hS hAr)).sub (ws' := [(rm, .inr (5, [.ref lk, .ref th, .ref pl, .ref gm, .int 2, .int 10, .int 0, .int 0, .int 1, .int 0, .int 0, .int 0]))]) [1] rfl
  have hPc := hP.sub (ws' := []) [] rfl
  have hDc := hD.sub (ws' := []) [] (by decide) rfl
  have hKc := hK.sub (tys' := []) [] rfl
  have hFc := va_free (wc := []) hD hS hA [] rfl
  refine va_calli (va_runV (As := [.ref rm]) (rest := [.int 0]) ⟨hx, hb, hml, hown, hts⟩ (cz_QendOfStands l dC dI ed H1.size rm lk th pl gm st) (cwV 1 hts gX4_countReached_X4_endOfStands rfl rfl rfl (by decide +kernel) ⟨Nat.le_of_ble_eq_true rfl, Nat.le_of_ble_eq_true rfl⟩) ⟨zb_blind, va_recv hK (zo_R hR0 hS hAr) (ci := 6) (q0 := 0) rfl rfl, fun U hU hW => ⟨rfl, zb_mk hU hW hPr hPc hKc hDc hN hH hS hFc zx_e⟩⟩ rfl rfl hl.1 rfl (lv_room (Nat.le_of_ble_eq_true rfl)) dX4_countReached_13 ⟨Nat.le_of_ble_eq_true rfl, Nat.le_of_ble_eq_true rfl⟩) hS (fun q _ h => hFc q h) hFc (fun r5 u t H4 locs ht hvm hw hB hz1 hk1 hS => ?_)
  obtain rfl : r5 = 4 := hw
  have hP := zo_K hP hk1
  refine lv_icmp_ge (tgt := 37) hx hb dX4_countReached_16 (by decide) (fun h => absurd h (by decide)) (fun _ => ?_)
  refine lv_iload_n hx hb dX4_countReached_19 rfl (lv_at hl 1 rfl) ?_
  refine lv_aload_n hx hb dX4_countReached_20 rfl (lv_at hl 2 rfl) ?_
  refine va_get (D := (dC, dI)) (ci := 6) (v := .ref a1) (C := RX4) (T := TX4) (N := 3) hx hb hts zi_X4_countReached_X4 hown hK (zo_R hR0 hS hAr) 0 rfl rfl 0 (by decide) (hts (.fieldLink RX4 9 "LockRooms$Stands" "isReached" "[Z") (by decide +kernel)) (fun _ h9 => h9) rfl dX4_countReached_21 ?_
  refine lv_iload_n hx hb dX4_countReached_24 rfl (lv_at hl 0 rfl) ?_
  refine va_zald hx hb hK hP 0 2 rfl rfl (by unfold vp_in; decide) dX4_countReached_25 ?_
  refine zo_i (v := 1) (by rw [show Int32.toNatClampNeg 0 = 0 from by decide]; exact k3_0) ?_
  have hPr := (zo_nil : va_P (dC, dI) vwCl [] H4)
  have hPc := hP.sub (ws' := []) [] rfl
  have hDc := hD.sub (ws' := []) [] (by decide) rfl
  have hKc := hK.sub (tys' := []) [] rfl
  have hFc := va_free (wc := []) hD hS hA [] rfl
  refine va_calli (va_runSN (As := [.int 1]) (rest := [.int 0]) ⟨hx, hb, hml, hown, hts⟩ (cz_oneIf_1 l dC dI ed H4.size ) ⟨(va_cnB 1 hts gX4_countReached_X6_oneIf_n30 rfl rfl rfl (hN.2.1 ("LockRooms$Stands", 30, yX6_oneIf, "LockRooms") (List.mem_of_getElem? (i := 7) rfl)) (hts (.initialized RX6) (by decide +kernel)) (by decide +kernel) ⟨Nat.le_of_ble_eq_true rfl, Nat.le_of_ble_eq_true rfl⟩), (hts (.static yX6_oneIf) (by decide +kernel)), trivial⟩ ⟨zb_blind, fun U hU hW => ⟨rfl, zb_mk hU hW hPr hPc hKc hDc hN hH hS hFc zx_e⟩⟩ rfl rfl hl.1 rfl (lv_room (Nat.le_of_ble_eq_true rfl)) dX4_countReached_26 ⟨Nat.le_of_ble_eq_true rfl, Nat.le_of_ble_eq_true rfl⟩) hS (fun q _ h => hFc q h) hFc (fun r7 u t H6 locs ht hvm hw hB hz1 hk1 hS => ?_)
  obtain rfl : r7 = 1 := hw
  have hP := zo_K hP hk1
  refine lv_iadd hx hb dX4_countReached_29 ?_
  refine zo_i (v := 1) (by decide) ?_
  refine lv_istore_n (lv' := [(2, .int 1), (3, .int 0), (0, .ref st), (1, .ref rm)]) hx hb dX4_countReached_30 rfl hl (by decide) rfl (fun ls hl => ?_)
  refine lv_iinc (v := 1) (lv' := [(3, .int 1), (2, .int 1), (0, .ref st), (1, .ref rm)]) hx hb dX4_countReached_31 hl (k := 1) rfl (by decide) (by decide) rfl (fun ls hl => ?_)
  refine lv_goto (tgt := 10) hx hb dX4_countReached_34 (by decide) ?_
  refine lv_iload_n hx hb dX4_countReached_10 rfl (lv_at hl 0 rfl) ?_
  refine lv_aload_n hx hb dX4_countReached_11 rfl (lv_at hl 2 rfl) ?_
  refine lv_aload_n hx hb dX4_countReached_12 rfl (lv_at hl 3 rfl) ?_
  have hPr := ((zo_R hR0 hS hAr)).sub (ws' := [(rm, .inr (5, [.ref lk, .ref th, .ref pl, .ref gm, .int 2, .int 10, .int 0, .int 0, .int 1, .int 0, .int 0, .int 0]))]) [1] rfl
  have hPc := hP.sub (ws' := []) [] rfl
  have hDc := hD.sub (ws' := []) [] (by decide) rfl
  have hKc := hK.sub (tys' := []) [] rfl
  have hFc := va_free (wc := []) hD hS hA [] rfl
  refine va_calli (va_runV (As := [.ref rm]) (rest := [.int 1]) ⟨hx, hb, hml, hown, hts⟩ (cz_QendOfStands l dC dI ed H6.size rm lk th pl gm st) (cwV 1 hts gX4_countReached_X4_endOfStands rfl rfl rfl (by decide +kernel) ⟨Nat.le_of_ble_eq_true rfl, Nat.le_of_ble_eq_true rfl⟩) ⟨zb_blind, va_recv hK (zo_R hR0 hS hAr) (ci := 6) (q0 := 0) rfl rfl, fun U hU hW => ⟨rfl, zb_mk hU hW hPr hPc hKc hDc hN hH hS hFc zx_e⟩⟩ rfl rfl hl.1 rfl (lv_room (Nat.le_of_ble_eq_true rfl)) dX4_countReached_13 ⟨Nat.le_of_ble_eq_true rfl, Nat.le_of_ble_eq_true rfl⟩) hS (fun q _ h => hFc q h) hFc (fun r9 u t H8 locs ht hvm hw hB hz1 hk1 hS => ?_)
  obtain rfl : r9 = 4 := hw
  have hP := zo_K hP hk1
  refine lv_icmp_ge (tgt := 37) hx hb dX4_countReached_16 (by decide) (fun h => absurd h (by decide)) (fun _ => ?_)
  refine lv_iload_n hx hb dX4_countReached_19 rfl (lv_at hl 1 rfl) ?_
  refine lv_aload_n hx hb dX4_countReached_20 rfl (lv_at hl 2 rfl) ?_
  refine va_get (D := (dC, dI)) (ci := 6) (v := .ref a1) (C := RX4) (T := TX4) (N := 3) hx hb hts zi_X4_countReached_X4 hown hK (zo_R hR0 hS hAr) 0 rfl rfl 0 (by decide) (hts (.fieldLink RX4 9 "LockRooms$Stands" "isReached" "[Z") (by decide +kernel)) (fun _ h9 => h9) rfl dX4_countReached_21 ?_
  refine lv_iload_n hx hb dX4_countReached_24 rfl (lv_at hl 0 rfl) ?_
  refine va_zald hx hb hK hP 0 2 rfl rfl (by unfold vp_in; decide) dX4_countReached_25 ?_
  refine zo_i (v := 1) (by rw [show Int32.toNatClampNeg 1 = 1 from by decide]; exact k3_1) ?_
  have hPr := (zo_nil : va_P (dC, dI) vwCl [] H8)
  have hPc := hP.sub (ws' := []) [] rfl
  have hDc := hD.sub (ws' := []) [] (by decide) rfl
  have hKc := hK.sub (tys' := []) [] rfl
  have hFc := va_free (wc := []) hD hS hA [] rfl
  refine va_calli (va_runSN (As := [.int 1]) (rest := [.int 1]) ⟨hx, hb, hml, hown, hts⟩ (cz_oneIf_1 l dC dI ed H8.size ) ⟨(va_cnB 1 hts gX4_countReached_X6_oneIf_n30 rfl rfl rfl (hN.2.1 ("LockRooms$Stands", 30, yX6_oneIf, "LockRooms") (List.mem_of_getElem? (i := 7) rfl)) (hts (.initialized RX6) (by decide +kernel)) (by decide +kernel) ⟨Nat.le_of_ble_eq_true rfl, Nat.le_of_ble_eq_true rfl⟩), (hts (.static yX6_oneIf) (by decide +kernel)), trivial⟩ ⟨zb_blind, fun U hU hW => ⟨rfl, zb_mk hU hW hPr hPc hKc hDc hN hH hS hFc zx_e⟩⟩ rfl rfl hl.1 rfl (lv_room (Nat.le_of_ble_eq_true rfl)) dX4_countReached_26 ⟨Nat.le_of_ble_eq_true rfl, Nat.le_of_ble_eq_true rfl⟩) hS (fun q _ h => hFc q h) hFc (fun r11 u t H10 locs ht hvm hw hB hz1 hk1 hS => ?_)
  obtain rfl : r11 = 1 := hw
  have hP := zo_K hP hk1
  refine lv_iadd hx hb dX4_countReached_29 ?_
  refine zo_i (v := 2) (by decide) ?_
  refine lv_istore_n (lv' := [(2, .int 2), (3, .int 1), (0, .ref st), (1, .ref rm)]) hx hb dX4_countReached_30 rfl hl (by decide) rfl (fun ls hl => ?_)
  refine lv_iinc (v := 2) (lv' := [(3, .int 2), (2, .int 2), (0, .ref st), (1, .ref rm)]) hx hb dX4_countReached_31 hl (k := 1) rfl (by decide) (by decide) rfl (fun ls hl => ?_)
  refine lv_goto (tgt := 10) hx hb dX4_countReached_34 (by decide) ?_
  refine lv_iload_n hx hb dX4_countReached_10 rfl (lv_at hl 0 rfl) ?_
  refine lv_aload_n hx hb dX4_countReached_11 rfl (lv_at hl 2 rfl) ?_
  refine lv_aload_n hx hb dX4_countReached_12 rfl (lv_at hl 3 rfl) ?_
  have hPr := ((zo_R hR0 hS hAr)).sub (ws' := [(rm, .inr (5, [.ref lk, .ref th, .ref pl, .ref gm, .int 2, .int 10, .int 0, .int 0, .int 1, .int 0, .int 0, .int 0]))]) [1] rfl
  have hPc := hP.sub (ws' := []) [] rfl
  have hDc := hD.sub (ws' := []) [] (by decide) rfl
  have hKc := hK.sub (tys' := []) [] rfl
  have hFc := va_free (wc := []) hD hS hA [] rfl
  refine va_calli (va_runV (As := [.ref rm]) (rest := [.int 2]) ⟨hx, hb, hml, hown, hts⟩ (cz_QendOfStands l dC dI ed H10.size rm lk th pl gm st) (cwV 1 hts gX4_countReached_X4_endOfStands rfl rfl rfl (by decide +kernel) ⟨Nat.le_of_ble_eq_true rfl, Nat.le_of_ble_eq_true rfl⟩) ⟨zb_blind, va_recv hK (zo_R hR0 hS hAr) (ci := 6) (q0 := 0) rfl rfl, fun U hU hW => ⟨rfl, zb_mk hU hW hPr hPc hKc hDc hN hH hS hFc zx_e⟩⟩ rfl rfl hl.1 rfl (lv_room (Nat.le_of_ble_eq_true rfl)) dX4_countReached_13 ⟨Nat.le_of_ble_eq_true rfl, Nat.le_of_ble_eq_true rfl⟩) hS (fun q _ h => hFc q h) hFc (fun r13 u t H12 locs ht hvm hw hB hz1 hk1 hS => ?_)
  obtain rfl : r13 = 4 := hw
  have hP := zo_K hP hk1
  refine lv_icmp_ge (tgt := 37) hx hb dX4_countReached_16 (by decide) (fun h => absurd h (by decide)) (fun _ => ?_)
  refine lv_iload_n hx hb dX4_countReached_19 rfl (lv_at hl 1 rfl) ?_
  refine lv_aload_n hx hb dX4_countReached_20 rfl (lv_at hl 2 rfl) ?_
  refine va_get (D := (dC, dI)) (ci := 6) (v := .ref a1) (C := RX4) (T := TX4) (N := 3) hx hb hts zi_X4_countReached_X4 hown hK (zo_R hR0 hS hAr) 0 rfl rfl 0 (by decide) (hts (.fieldLink RX4 9 "LockRooms$Stands" "isReached" "[Z") (by decide +kernel)) (fun _ h9 => h9) rfl dX4_countReached_21 ?_
  refine lv_iload_n hx hb dX4_countReached_24 rfl (lv_at hl 0 rfl) ?_
  refine va_zald hx hb hK hP 0 2 rfl rfl (by unfold vp_in; decide) dX4_countReached_25 ?_
  refine zo_i (v := 1) (by rw [show Int32.toNatClampNeg 2 = 2 from by decide]; exact k3_2) ?_
  have hPr := (zo_nil : va_P (dC, dI) vwCl [] H12)
  have hPc := hP.sub (ws' := []) [] rfl
  have hDc := hD.sub (ws' := []) [] (by decide) rfl
  have hKc := hK.sub (tys' := []) [] rfl
  have hFc := va_free (wc := []) hD hS hA [] rfl
  refine va_calli (va_runSN (As := [.int 1]) (rest := [.int 2]) ⟨hx, hb, hml, hown, hts⟩ (cz_oneIf_1 l dC dI ed H12.size ) ⟨(va_cnB 1 hts gX4_countReached_X6_oneIf_n30 rfl rfl rfl (hN.2.1 ("LockRooms$Stands", 30, yX6_oneIf, "LockRooms") (List.mem_of_getElem? (i := 7) rfl)) (hts (.initialized RX6) (by decide +kernel)) (by decide +kernel) ⟨Nat.le_of_ble_eq_true rfl, Nat.le_of_ble_eq_true rfl⟩), (hts (.static yX6_oneIf) (by decide +kernel)), trivial⟩ ⟨zb_blind, fun U hU hW => ⟨rfl, zb_mk hU hW hPr hPc hKc hDc hN hH hS hFc zx_e⟩⟩ rfl rfl hl.1 rfl (lv_room (Nat.le_of_ble_eq_true rfl)) dX4_countReached_26 ⟨Nat.le_of_ble_eq_true rfl, Nat.le_of_ble_eq_true rfl⟩) hS (fun q _ h => hFc q h) hFc (fun r15 u t H14 locs ht hvm hw hB hz1 hk1 hS => ?_)
  obtain rfl : r15 = 1 := hw
  have hP := zo_K hP hk1
  refine lv_iadd hx hb dX4_countReached_29 ?_
  refine zo_i (v := 3) (by decide) ?_
  refine lv_istore_n (lv' := [(2, .int 3), (3, .int 2), (0, .ref st), (1, .ref rm)]) hx hb dX4_countReached_30 rfl hl (by decide) rfl (fun ls hl => ?_)
  refine lv_iinc (v := 3) (lv' := [(3, .int 3), (2, .int 3), (0, .ref st), (1, .ref rm)]) hx hb dX4_countReached_31 hl (k := 1) rfl (by decide) (by decide) rfl (fun ls hl => ?_)
  refine lv_goto (tgt := 10) hx hb dX4_countReached_34 (by decide) ?_
  refine lv_iload_n hx hb dX4_countReached_10 rfl (lv_at hl 0 rfl) ?_
  refine lv_aload_n hx hb dX4_countReached_11 rfl (lv_at hl 2 rfl) ?_
  refine lv_aload_n hx hb dX4_countReached_12 rfl (lv_at hl 3 rfl) ?_
  have hPr := ((zo_R hR0 hS hAr)).sub (ws' := [(rm, .inr (5, [.ref lk, .ref th, .ref pl, .ref gm, .int 2, .int 10, .int 0, .int 0, .int 1, .int 0, .int 0, .int 0]))]) [1] rfl
  have hPc := hP.sub (ws' := []) [] rfl
  have hDc := hD.sub (ws' := []) [] (by decide) rfl
  have hKc := hK.sub (tys' := []) [] rfl
  have hFc := va_free (wc := []) hD hS hA [] rfl
  refine va_calli (va_runV (As := [.ref rm]) (rest := [.int 3]) ⟨hx, hb, hml, hown, hts⟩ (cz_QendOfStands l dC dI ed H14.size rm lk th pl gm st) (cwV 1 hts gX4_countReached_X4_endOfStands rfl rfl rfl (by decide +kernel) ⟨Nat.le_of_ble_eq_true rfl, Nat.le_of_ble_eq_true rfl⟩) ⟨zb_blind, va_recv hK (zo_R hR0 hS hAr) (ci := 6) (q0 := 0) rfl rfl, fun U hU hW => ⟨rfl, zb_mk hU hW hPr hPc hKc hDc hN hH hS hFc zx_e⟩⟩ rfl rfl hl.1 rfl (lv_room (Nat.le_of_ble_eq_true rfl)) dX4_countReached_13 ⟨Nat.le_of_ble_eq_true rfl, Nat.le_of_ble_eq_true rfl⟩) hS (fun q _ h => hFc q h) hFc (fun r17 u t H16 locs ht hvm hw hB hz1 hk1 hS => ?_)
  obtain rfl : r17 = 4 := hw
  have hP := zo_K hP hk1
  refine lv_icmp_ge (tgt := 37) hx hb dX4_countReached_16 (by decide) (fun h => absurd h (by decide)) (fun _ => ?_)
  refine lv_iload_n hx hb dX4_countReached_19 rfl (lv_at hl 1 rfl) ?_
  refine lv_aload_n hx hb dX4_countReached_20 rfl (lv_at hl 2 rfl) ?_
  refine va_get (D := (dC, dI)) (ci := 6) (v := .ref a1) (C := RX4) (T := TX4) (N := 3) hx hb hts zi_X4_countReached_X4 hown hK (zo_R hR0 hS hAr) 0 rfl rfl 0 (by decide) (hts (.fieldLink RX4 9 "LockRooms$Stands" "isReached" "[Z") (by decide +kernel)) (fun _ h9 => h9) rfl dX4_countReached_21 ?_
  refine lv_iload_n hx hb dX4_countReached_24 rfl (lv_at hl 0 rfl) ?_
  refine va_zald hx hb hK hP 0 2 rfl rfl (by unfold vp_in; decide) dX4_countReached_25 ?_
  refine zo_i (v := 1) (by rw [show Int32.toNatClampNeg 3 = 3 from by decide]; exact k3_3) ?_
  have hPr := (zo_nil : va_P (dC, dI) vwCl [] H16)
  have hPc := hP.sub (ws' := []) [] rfl
  have hDc := hD.sub (ws' := []) [] (by decide) rfl
  have hKc := hK.sub (tys' := []) [] rfl
  have hFc := va_free (wc := []) hD hS hA [] rfl
  refine va_calli (va_runSN (As := [.int 1]) (rest := [.int 3]) ⟨hx, hb, hml, hown, hts⟩ (cz_oneIf_1 l dC dI ed H16.size ) ⟨(va_cnB 1 hts gX4_countReached_X6_oneIf_n30 rfl rfl rfl (hN.2.1 ("LockRooms$Stands", 30, yX6_oneIf, "LockRooms") (List.mem_of_getElem? (i := 7) rfl)) (hts (.initialized RX6) (by decide +kernel)) (by decide +kernel) ⟨Nat.le_of_ble_eq_true rfl, Nat.le_of_ble_eq_true rfl⟩), (hts (.static yX6_oneIf) (by decide +kernel)), trivial⟩ ⟨zb_blind, fun U hU hW => ⟨rfl, zb_mk hU hW hPr hPc hKc hDc hN hH hS hFc zx_e⟩⟩ rfl rfl hl.1 rfl (lv_room (Nat.le_of_ble_eq_true rfl)) dX4_countReached_26 ⟨Nat.le_of_ble_eq_true rfl, Nat.le_of_ble_eq_true rfl⟩) hS (fun q _ h => hFc q h) hFc (fun r19 u t H18 locs ht hvm hw hB hz1 hk1 hS => ?_)
  obtain rfl : r19 = 1 := hw
  have hP := zo_K hP hk1
  refine lv_iadd hx hb dX4_countReached_29 ?_
  refine zo_i (v := 4) (by decide) ?_
  refine lv_istore_n (lv' := [(2, .int 4), (3, .int 3), (0, .ref st), (1, .ref rm)]) hx hb dX4_countReached_30 rfl hl (by decide) rfl (fun ls hl => ?_)
  refine lv_iinc (v := 4) (lv' := [(3, .int 4), (2, .int 4), (0, .ref st), (1, .ref rm)]) hx hb dX4_countReached_31 hl (k := 1) rfl (by decide) (by decide) rfl (fun ls hl => ?_)
  refine lv_goto (tgt := 10) hx hb dX4_countReached_34 (by decide) ?_
  refine lv_iload_n hx hb dX4_countReached_10 rfl (lv_at hl 0 rfl) ?_
  refine lv_aload_n hx hb dX4_countReached_11 rfl (lv_at hl 2 rfl) ?_
  refine lv_aload_n hx hb dX4_countReached_12 rfl (lv_at hl 3 rfl) ?_
  have hPr := ((zo_R hR0 hS hAr)).sub (ws' := [(rm, .inr (5, [.ref lk, .ref th, .ref pl, .ref gm, .int 2, .int 10, .int 0, .int 0, .int 1, .int 0, .int 0, .int 0]))]) [1] rfl
  have hPc := hP.sub (ws' := []) [] rfl
  have hDc := hD.sub (ws' := []) [] (by decide) rfl
  have hKc := hK.sub (tys' := []) [] rfl
  have hFc := va_free (wc := []) hD hS hA [] rfl
  refine va_calli (va_runV (As := [.ref rm]) (rest := [.int 4]) ⟨hx, hb, hml, hown, hts⟩ (cz_QendOfStands l dC dI ed H18.size rm lk th pl gm st) (cwV 1 hts gX4_countReached_X4_endOfStands rfl rfl rfl (by decide +kernel) ⟨Nat.le_of_ble_eq_true rfl, Nat.le_of_ble_eq_true rfl⟩) ⟨zb_blind, va_recv hK (zo_R hR0 hS hAr) (ci := 6) (q0 := 0) rfl rfl, fun U hU hW => ⟨rfl, zb_mk hU hW hPr hPc hKc hDc hN hH hS hFc zx_e⟩⟩ rfl rfl hl.1 rfl (lv_room (Nat.le_of_ble_eq_true rfl)) dX4_countReached_13 ⟨Nat.le_of_ble_eq_true rfl, Nat.le_of_ble_eq_true rfl⟩) hS (fun q _ h => hFc q h) hFc (fun r21 u t H20 locs ht hvm hw hB hz1 hk1 hS => ?_)
  obtain rfl : r21 = 4 := hw
  have hP := zo_K hP hk1
  refine lv_icmp_ge (tgt := 37) hx hb dX4_countReached_16 (by decide) (fun _ => ?_) (fun h => absurd h (by decide))
  refine lv_iload_n hx hb dX4_countReached_37 rfl (lv_at hl 1 rfl) ?_
  refine W.widen (k := 0) (n := 0) (Nat.le_of_ble_eq_true rfl) (Nat.le_of_ble_eq_true rfl) ?_
  have hP9 := hP.sub (ws' := [(a1, .inl (cZ, 1024, .inl g1_3)), (a2, .inl (cI, 1024, .inl g2_3)), (a3, .inl (cJ, 1024, .inl g3_3))]) [0, 1, 2] rfl
  have hD9 := hD.sub (ws' := [(a1, .inl (cZ, 1024, .inl g1_3)), (a2, .inl (cI, 1024, .inl g2_3)), (a3, .inl (cJ, 1024, .inl g3_3))]) [0, 1, 2] (by decide) rfl
  have hK9 := hK.sub (tys' := [(cZ, .boolean), (cI, .int), (cJ, .int)]) [2, 3, 4] rfl
  exact W.iret hx hb hr (fun t ht hW => ⟨⟨4, (), rfl, rfl, ⟨g1_3, g2_3, g3_3, by rw [ht]; exact hP9, hD9, va_K.moved hW.alike hK9⟩⟩, hS.F ht⟩) hS.2.2 dX4_countReached_38
set_option maxHeartbeats 4000000 in
set_option maxRecDepth 100000 in
theorem cz_QcountDeadEnds (l : Launch) (dC : Nat → ClassId) (dI : Nat → Nat → Nat) (ed sz : Nat) (st : Nat) (a1 : Nat) (a2 : Nat) (a3 : Nat) (rm : Nat) (lk : Nat) (th : Nat) (pl : Nat) (gm : Nat) (cL : ClassId) (fl : Nat → Option Nat) (l0 : Nat) (l1 : Nat) (cT : ClassId) (ft : Nat → Option Nat) (t0 : Nat) (t1 : Nat) (t2 : Nat) (t3 : Nat) (t4 : Nat) (t5 : Nat) (t6 : Nat) (t7 : Nat) (t8 : Nat) (t9 : Nat) (cZ : ClassId) (f1 : Nat → Int32) (cI : ClassId) (f2 : Nat → Int32) (cJ : ClassId) (f3 : Nat → Int32) (hkl0 : fl 0 = some l0) (hkl1 : fl 1 = some l1) (hkt0 : ft 0 = some t0) (hkt1 : ft 1 = some t1) (hkt2 : ft 2 = some t2) (hkt3 : ft 3 = some t3) (hkt4 : ft 4 = some t4) (hkt5 : ft 5 = some t5) (hkt6 : ft 6 = some t6) (hkt7 : ft 7 = some t7) (hkt8 : ft 8 = some t8) (hkt9 : ft 9 = some t9) : Met l yX4_countDeadEnds wsX4_countDeadEnds ({ frames := 4, cells := 0, slots := 0, locals := 98 } : Jvm.Room) (va_Pc [.ref st, .ref rm] (zB dC dI ed sz [(st, .inr (6, [.ref a1, .ref a2, .ref a3])), (rm, .inr (5, [.ref lk, .ref th, .ref pl, .ref gm, .int 2, .int 10, .int 0, .int 0, .int 1, .int 0, .int 0, .int 0])), (lk, .inl (cL, 10, .inr (.inr (.inr (.inr fl))))), (th, .inl (cT, 12, .inr (.inr (.inr (.inr ft))))), (l0, .inr (3, [.int 0, .int 0, .int 60, .int 0, .int 0, .int 0, .int 0, .int 0, .int 0, .int 0])), (l1, .inr (3, [.int 0, .int 0, .int 60, .int 0, .int 0, .int 0, .int 0, .int 0, .int 0, .int 0])), (t0, .inr (7, [.int (-1), .int 0, .int 0, .int 0, .int 0])), (t1, .inr (7, [.int (-1), .int 0, .int 0, .int 0, .int 0])), (t2, .inr (7, [.int (-1), .int 0, .int 0, .int 0, .int 0])), (t3, .inr (7, [.int (-1), .int 0, .int 0, .int 0, .int 0])), (t4, .inr (7, [.int (-1), .int 0, .int 0, .int 0, .int 0])), (t5, .inr (7, [.int (-1), .int 0, .int 0, .int 0, .int 0])), (t6, .inr (7, [.int (-1), .int 0, .int 0, .int 0, .int 0])), (t7, .inr (7, [.int (-1), .int 0, .int 0, .int 0, .int 0])), (t8, .inr (7, [.int (-1), .int 0, .int 0, .int 0, .int 0])), (t9, .inr (7, [.int (-1), .int 0, .int 0, .int 0, .int 0]))] [(a1, .inl (cZ, 1024, .inl f1)), (a2, .inl (cI, 1024, .inl f2)), (a3, .inl (cJ, 1024, .inl f3))] [(cL, .object "LockRooms$Lock"), (cT, .object "LockRooms$Thing"), (cZ, .boolean), (cI, .int), (cJ, .int)])) (va_Qi (fun (r : Int32) (_ : Unit) => r = 0) (fun (_ : Unit) (t : State) => ∃ (g1 : Nat → Int32), ∃ (g2 : Nat → Int32), ∃ (g3 : Nat → Int32), va_P (dC, dI) vwCl [(a1, .inl (cZ, 1024, .inl g1)), (a2, .inl (cI, 1024, .inl g2)), (a3, .inl (cJ, 1024, .inl g3))] t.heap ∧ va_D (va_A [(a1, .inl (cZ, 1024, .inl f1)), (a2, .inl (cI, 1024, .inl f2)), (a3, .inl (cJ, 1024, .inl f3))] sz) [(a1, .inl (cZ, 1024, .inl g1)), (a2, .inl (cI, 1024, .inl g2)), (a3, .inl (cJ, 1024, .inl g3))] ∧ va_K (dC, dI) vwCl [(cZ, .boolean), (cI, .int), (cJ, .int)] t) (va_A [(a1, .inl (cZ, 1024, .inl f1)), (a2, .inl (cI, 1024, .inl f2)), (a3, .inl (cJ, 1024, .inl f3))] sz)) 0 0 (va_A [(a1, .inl (cZ, 1024, .inl f1)), (a2, .inl (cI, 1024, .inl f2)), (a3, .inl (cJ, 1024, .inl f3))] sz) := by
  refine Met.ofW (cc := cX4_countDeadEnds) (maxL := 4) (ret := (some .int)) (by decide) rfl ?_
  intro p e s m args below meth c s₁ B hml hv
  obtain ⟨rfl, hsz, hR0, hP, hK, hD0, hN, hH, hX0⟩ := hv
  have hx := B.exec
  have hb := B.bytes
  have hr := B.returns
  have hts := atoms_spec (ws := wsX4_countDeadEnds) B.pre
  have hown : s.vm.findClass RX4 = some m.cls := findClass_of_methodNamed B.named
  have hlocks := B.notSynchronized
  subst hsz
  have hD := hD0.self (sz := s.heap.size)
  have hAr := zx_A hX0 hR0
  generalize hAe : va_A [(a1, .inl (cZ, 1024, .inl f1)), (a2, .inl (cI, 1024, .inl f2)), (a3, .inl (cJ, 1024, .inl f3))] s.heap.size = A at hD hAr hH ⊢
  have hA : ∀ q : Nat, s.heap.size ≤ q → A q := fun q h => by rw [← hAe]; exact Or.inr h
  have hS : va_S A s.heap s.heap [] := va_S.rf
  have hl := lv_entry ([.ref st, .ref rm]) (n := 4) (Nat.le_of_ble_eq_true rfl)
  rw [lg_entry_eq]
  generalize (lg_sl ([.ref st, .ref rm]) ++ List.replicate (4 - (lg_sl ([.ref st, .ref rm])).length) Slot.unset).toArray = ls at hl ⊢
  have hl : lv_has ls 4 [(0, .ref st), (1, .ref rm)] := hl
  refine lv_aload_n hx hb dX4_countDeadEnds_0 rfl (lv_at hl 0 rfl) ?_
  refine lv_aload_n hx hb dX4_countDeadEnds_1 rfl (lv_at hl 1 rfl) ?_
  refine lv_iconst (v := 0) hx hb dX4_countDeadEnds_2 (by decide) ?_
  have hPr := (hR0).sub (ws' := [(st, .inr (6, [.ref a1, .ref a2, .ref a3])), (rm, .inr (5, [.ref lk, .ref th, .ref pl, .ref gm, .int 2, .int 10, .int 0, .int 0, .int 1, .int 0, .int 0, .int 0])), (lk, .inl (cL, 10, .inr (.inr (.inr (.inr fl))))), (th, .inl (cT, 12, .inr (.inr (.inr (.inr ft))))), (l0, .inr (3, [.int 0, .int 0, .int 60, .int 0, .int 0, .int 0, .int 0, .int 0, .int 0, .int 0])), (l1, .inr (3, [.int 0, .int 0, .int 60, .int 0, .int 0, .int 0, .int 0, .int 0, .int 0, .int 0])), (t0, .inr (7, [.int (-1), .int 0, .int 0, .int 0, .int 0])), (t1, .inr (7, [.int (-1), .int 0, .int 0, .int 0, .int 0])), (t2, .inr (7, [.int (-1), .int 0, .int 0, .int 0, .int 0])), (t3, .inr (7, [.int (-1), .int 0, .int 0, .int 0, .int 0])), (t4, .inr (7, [.int (-1), .int 0, .int 0, .int 0, .int 0])), (t5, .inr (7, [.int (-1), .int 0, .int 0, .int 0, .int 0])), (t6, .inr (7, [.int (-1), .int 0, .int 0, .int 0, .int 0])), (t7, .inr (7, [.int (-1), .int 0, .int 0, .int 0, .int 0])), (t8, .inr (7, [.int (-1), .int 0, .int 0, .int 0, .int 0])), (t9, .inr (7, [.int (-1), .int 0, .int 0, .int 0, .int 0]))]) [0, 1, 2, 3, 4, 5, 6, 7, 8, 9, 10, 11, 12, 13, 14, 15] rfl
  have hPc := hP.sub (ws' := [(a1, .inl (cZ, 1024, .inl f1)), (a2, .inl (cI, 1024, .inl f2)), (a3, .inl (cJ, 1024, .inl f3))]) [0, 1, 2] rfl
  have hDc := hD.sub (ws' := [(a1, .inl (cZ, 1024, .inl f1)), (a2, .inl (cI, 1024, .inl f2)), (a3, .inl (cJ, 1024, .inl f3))]) [0, 1, 2] (by decide) rfl
  have hKc := hK.sub (tys' := [(cL, .object "LockRooms$Lock"), (cT, .object "LockRooms$Thing"), (cZ, .boolean), (cI, .int), (cJ, .int)]) [0, 1, 2, 3, 4] rfl
  have hFc := va_free (wc := [(a1, .inl (cZ, 1024, .inl f1)), (a2, .inl (cI, 1024, .inl f2)), (a3, .inl (cJ, 1024, .inl f3))]) hD hS hA [0, 1, 2] rfl
  refine va_callv (va_runV (As := [.ref rm, .int 0]) (rest := []) ⟨hx, hb, hml, hown, hts⟩ (cz_Qexplore l dC dI ed s.heap.size st a1 a2 a3 rm lk th pl gm cL fl l0 l1 cT ft t0 t1 t2 t3 t4 t5 t6 t7 t8 t9 cZ f1 cI f2 cJ f3 0 hkl0 hkl1 hkt0 hkt1 hkt2 hkt3 hkt4 hkt5 hkt6 hkt7 hkt8 hkt9) (cwV 2 hts gX4_countDeadEnds_X4_explore rfl rfl rfl (by decide +kernel) ⟨Nat.le_of_ble_eq_true rfl, Nat.le_of_ble_eq_true rfl⟩) ⟨zb_blind, va_recv hK hR0 (ci := 6) (q0 := 0) rfl rfl, fun U hU hW => ⟨rfl, zb_mk hU hW hPr hPc hKc hDc hN hH hS hFc (zx_cons (zx_r (hAr _ (List.mem_of_getElem? (i := 0) rfl)) hDc) (zx_cons (zx_r (hAr _ (List.mem_of_getElem? (i := 1) rfl)) hDc) (zx_cons (zx_r (hAr _ (List.mem_of_getElem? (i := 2) rfl)) hDc) (zx_cons (zx_r (hAr _ (List.mem_of_getElem? (i := 3) rfl)) hDc) (zx_cons (zx_r (hAr _ (List.mem_of_getElem? (i := 4) rfl)) hDc) (zx_cons (zx_r (hAr _ (List.mem_of_getElem? (i := 5) rfl)) hDc) (zx_cons (zx_r (hAr _ (List.mem_of_getElem? (i := 6) rfl)) hDc) (zx_cons (zx_r (hAr _ (List.mem_of_getElem? (i := 7) rfl)) hDc) (zx_cons (zx_r (hAr _ (List.mem_of_getElem? (i := 8) rfl)) hDc) (zx_cons (zx_r (hAr _ (List.mem_of_getElem? (i := 9) rfl)) hDc) (zx_cons (zx_r (hAr _ (List.mem_of_getElem? (i := 10) rfl)) hDc) (zx_cons (zx_r (hAr _ (List.mem_of_getElem? (i := 11) rfl)) hDc) (zx_cons (zx_r (hAr _ (List.mem_of_getElem? (i := 12) rfl)) hDc) (zx_cons (zx_r (hAr _ (List.mem_of_getElem? (i := 13) rfl)) hDc) (zx_cons (zx_r (hAr _ (List.mem_of_getElem? (i := 14) rfl)) hDc) (zx_cons (zx_r (hAr _ (List.mem_of_getElem? (i := 15) rfl)) hDc) zx_nil))))))))))))))))⟩⟩ rfl rfl hl.1 rfl (lv_room (Nat.le_of_ble_eq_true rfl)) dX4_countDeadEnds_3 ⟨Nat.le_of_ble_eq_true rfl, Nat.le_of_ble_eq_true rfl⟩) hS (fun q _ h => hFc q h) hFc (fun u t H1 locs ht hvm hw hB hz1 hk1 hS => ?_)
  obtain ⟨g1_3, g2_3, g3_3, ⟨k3_0, k3_1, k3_2, k3_3, k3_4, k3_5, k3_6, k3_7⟩, hP1, hD1, hK1⟩ := hB
  rw [ht] at hP1
  obtain ⟨hP, hD⟩ := va_join (wr := []) (w1 := [(a1, .inl (cZ, 1024, .inl g1_3)), (a2, .inl (cI, 1024, .inl g2_3)), (a3, .inl (cJ, 1024, .inl g3_3))]) hP hD [0, 1, 2] [] rfl rfl (by decide) (by decide) hk1 hFc hP1 hD1
  have hP : va_P (dC, dI) vwCl [(a1, .inl (cZ, 1024, .inl g1_3)), (a2, .inl (cI, 1024, .inl g2_3)), (a3, .inl (cJ, 1024, .inl g3_3))] H1 := hP
  have hD : va_D A [(a1, .inl (cZ, 1024, .inl g1_3)), (a2, .inl (cI, 1024, .inl g2_3)), (a3, .inl (cJ, 1024, .inl g3_3))] := hD
  refine lv_iconst (v := 0) hx hb dX4_countDeadEnds_6 (by decide) ?_
  refine lv_istore_n (lv' := [(2, .int 0), (0, .ref st), (1, .ref rm)]) hx hb dX4_countDeadEnds_7 rfl hl (by decide) rfl (fun ls hl => ?_)
  refine lv_iconst (v := 0) hx hb dX4_countDeadEnds_8 (by decide) ?_
  refine lv_istore_n (lv' := [(3, .int 0), (2, .int 0), (0, .ref st), (1, .ref rm)]) hx hb dX4_countDeadEnds_9 rfl hl (by decide) rfl (fun ls hl => ?_)
  refine lv_iload_n hx hb dX4_countDeadEnds_10 rfl (lv_at hl 0 rfl) ?_
  refine lv_aload_n hx hb dX4_countDeadEnds_11 rfl (lv_at hl 2 rfl) ?_
  refine lv_aload_n hx hb dX4_countDeadEnds_12 rfl (lv_at hl 3 rfl) ?_
  have hPr := ((zo_R hR0 hS hAr)).sub (ws' := [(rm, .inr (5, [.ref lk, .ref th, .ref pl, .ref gm, .int 2, .int 10, .int 0, .int 0, .int 1, .int 0, .int 0, .int 0]))]) [1] rfl
  have hPc := hP.sub (ws' := []) [] rfl
  have hDc := hD.sub (ws' := []) [] (by decide) rfl
  have hKc := hK.sub (tys' := []) [] rfl
  have hFc := va_free (wc := []) hD hS hA [] rfl
  refine va_calli (va_runV (As := [.ref rm]) (rest := [.int 0]) ⟨hx, hb, hml, hown, hts⟩ (cz_QendOfStands l dC dI ed H1.size rm lk th pl gm st) (cwV 1 hts gX4_countDeadEnds_X4_endOfStands rfl rfl rfl (by decide +kernel) ⟨Nat.le_of_ble_eq_true rfl, Nat.le_of_ble_eq_true rfl⟩) ⟨zb_blind, va_recv hK (zo_R hR0 hS hAr) (ci := 6) (q0 := 0) rfl rfl, fun U hU hW => ⟨rfl, zb_mk hU hW hPr hPc hKc hDc hN hH hS hFc zx_e⟩⟩ rfl rfl hl.1 rfl (lv_room (Nat.le_of_ble_eq_true rfl)) dX4_countDeadEnds_13 ⟨Nat.le_of_ble_eq_true rfl, Nat.le_of_ble_eq_true rfl⟩) hS (fun q _ h => hFc q h) hFc (fun r5 u t H4 locs ht hvm hw hB hz1 hk1 hS => ?_)
  obtain rfl : r5 = 4 := hw
  have hP := zo_K hP hk1
  refine lv_icmp_ge (tgt := 55) hx hb dX4_countDeadEnds_16 (by decide) (fun h => absurd h (by decide)) (fun _ => ?_)
  refine lv_iload_n hx hb dX4_countDeadEnds_19 rfl (lv_at hl 1 rfl) ?_
  refine lv_aload_n hx hb dX4_countDeadEnds_20 rfl (lv_at hl 2 rfl) ?_
  refine va_get (D := (dC, dI)) (ci := 6) (v := .ref a1) (C := RX4) (T := TX4) (N := 3) hx hb hts zi_X4_countDeadEnds_X4 hown hK (zo_R hR0 hS hAr) 0 rfl rfl 0 (by decide) (hts (.fieldLink RX4 9 "LockRooms$Stands" "isReached" "[Z") (by decide +kernel)) (fun _ h9 => h9) rfl dX4_countDeadEnds_21 ?_
  refine lv_iload_n hx hb dX4_countDeadEnds_24 rfl (lv_at hl 0 rfl) ?_
  refine va_zald hx hb hK hP 0 2 rfl rfl (by unfold vp_in; decide) dX4_countDeadEnds_25 ?_
  refine zo_i (v := 1) (by rw [show Int32.toNatClampNeg 0 = 0 from by decide]; exact k3_0) ?_
  refine lv_if_eq (tgt := 43) hx hb dX4_countDeadEnds_26 (by decide) (fun h => absurd h (by decide)) (fun _ => ?_)
  refine lv_aload_n hx hb dX4_countDeadEnds_29 rfl (lv_at hl 2 rfl) ?_
  refine va_get (D := (dC, dI)) (ci := 6) (v := .ref a3) (C := RX4) (T := TX4) (N := 3) hx hb hts zi_X4_countDeadEnds_X4 hown hK (zo_R hR0 hS hAr) 0 rfl rfl 2 (by decide) (hts (.fieldLink RX4 19 "LockRooms$Stands" "yet" "[I") (by decide +kernel)) (fun _ h9 => h9) rfl dX4_countDeadEnds_30 ?_
  refine lv_iload_n hx hb dX4_countDeadEnds_33 rfl (lv_at hl 0 rfl) ?_
  refine va_iald hx hb hK hP 2 4 rfl rfl (by unfold vp_in; decide) dX4_countDeadEnds_34 ?_
  refine zo_i (v := 1) (by rw [show Int32.toNatClampNeg 0 = 0 from by decide]; exact k3_4) ?_
  refine lv_iconst (v := (-1)) hx hb dX4_countDeadEnds_35 (by decide) ?_
  refine lv_icmp_ne (tgt := 43) hx hb dX4_countDeadEnds_36 (by decide) (fun _ => ?_) (fun h => absurd h (by decide))
  refine lv_iconst (v := 0) hx hb dX4_countDeadEnds_43 (by decide) ?_
  have hPr := (zo_nil : va_P (dC, dI) vwCl [] H4)
  have hPc := hP.sub (ws' := []) [] rfl
  have hDc := hD.sub (ws' := []) [] (by decide) rfl
  have hKc := hK.sub (tys' := []) [] rfl
  have hFc := va_free (wc := []) hD hS hA [] rfl
  refine va_calli (va_runSN (As := [.int 0]) (rest := [.int 0]) ⟨hx, hb, hml, hown, hts⟩ (cz_oneIf_0 l dC dI ed H4.size ) ⟨(va_cnB 1 hts gX4_countDeadEnds_X6_oneIf_n30 rfl rfl rfl (hN.2.1 ("LockRooms$Stands", 30, yX6_oneIf, "LockRooms") (List.mem_of_getElem? (i := 7) rfl)) (hts (.initialized RX6) (by decide +kernel)) (by decide +kernel) ⟨Nat.le_of_ble_eq_true rfl, Nat.le_of_ble_eq_true rfl⟩), (hts (.static yX6_oneIf) (by decide +kernel)), trivial⟩ ⟨zb_blind, fun U hU hW => ⟨rfl, zb_mk hU hW hPr hPc hKc hDc hN hH hS hFc zx_e⟩⟩ rfl rfl hl.1 rfl (lv_room (Nat.le_of_ble_eq_true rfl)) dX4_countDeadEnds_44 ⟨Nat.le_of_ble_eq_true rfl, Nat.le_of_ble_eq_true rfl⟩) hS (fun q _ h => hFc q h) hFc (fun r7 u t H6 locs ht hvm hw hB hz1 hk1 hS => ?_)
  obtain rfl : r7 = 0 := hw
  have hP := zo_K hP hk1
  refine lv_iadd hx hb dX4_countDeadEnds_47 ?_
  refine zo_i (v := 0) (by decide) ?_
  refine lv_istore_n (lv' := [(2, .int 0), (3, .int 0), (0, .ref st), (1, .ref rm)]) hx hb dX4_countDeadEnds_48 rfl hl (by decide) rfl (fun ls hl => ?_)
  refine lv_iinc (v := 1) (lv' := [(3, .int 1), (2, .int 0), (0, .ref st), (1, .ref rm)]) hx hb dX4_countDeadEnds_49 hl (k := 1) rfl (by decide) (by decide) rfl (fun ls hl => ?_)
  refine lv_goto (tgt := 10) hx hb dX4_countDeadEnds_52 (by decide) ?_
  refine lv_iload_n hx hb dX4_countDeadEnds_10 rfl (lv_at hl 0 rfl) ?_
  refine lv_aload_n hx hb dX4_countDeadEnds_11 rfl (lv_at hl 2 rfl) ?_
  refine lv_aload_n hx hb dX4_countDeadEnds_12 rfl (lv_at hl 3 rfl) ?_
  have hPr := ((zo_R hR0 hS hAr)).sub (ws' := [(rm, .inr (5, [.ref lk, .ref th, .ref pl, .ref gm, .int 2, .int 10, .int 0, .int 0, .int 1, .int 0, .int 0, .int 0]))]) [1] rfl
  have hPc := hP.sub (ws' := []) [] rfl
  have hDc := hD.sub (ws' := []) [] (by decide) rfl
  have hKc := hK.sub (tys' := []) [] rfl
  have hFc := va_free (wc := []) hD hS hA [] rfl
  refine va_calli (va_runV (As := [.ref rm]) (rest := [.int 1]) ⟨hx, hb, hml, hown, hts⟩ (cz_QendOfStands l dC dI ed H6.size rm lk th pl gm st) (cwV 1 hts gX4_countDeadEnds_X4_endOfStands rfl rfl rfl (by decide +kernel) ⟨Nat.le_of_ble_eq_true rfl, Nat.le_of_ble_eq_true rfl⟩) ⟨zb_blind, va_recv hK (zo_R hR0 hS hAr) (ci := 6) (q0 := 0) rfl rfl, fun U hU hW => ⟨rfl, zb_mk hU hW hPr hPc hKc hDc hN hH hS hFc zx_e⟩⟩ rfl rfl hl.1 rfl (lv_room (Nat.le_of_ble_eq_true rfl)) dX4_countDeadEnds_13 ⟨Nat.le_of_ble_eq_true rfl, Nat.le_of_ble_eq_true rfl⟩) hS (fun q _ h => hFc q h) hFc (fun r9 u t H8 locs ht hvm hw hB hz1 hk1 hS => ?_)
  obtain rfl : r9 = 4 := hw
  have hP := zo_K hP hk1
  refine lv_icmp_ge (tgt := 55) hx hb dX4_countDeadEnds_16 (by decide) (fun h => absurd h (by decide)) (fun _ => ?_)
  refine lv_iload_n hx hb dX4_countDeadEnds_19 rfl (lv_at hl 1 rfl) ?_
  refine lv_aload_n hx hb dX4_countDeadEnds_20 rfl (lv_at hl 2 rfl) ?_
  refine va_get (D := (dC, dI)) (ci := 6) (v := .ref a1) (C := RX4) (T := TX4) (N := 3) hx hb hts zi_X4_countDeadEnds_X4 hown hK (zo_R hR0 hS hAr) 0 rfl rfl 0 (by decide) (hts (.fieldLink RX4 9 "LockRooms$Stands" "isReached" "[Z") (by decide +kernel)) (fun _ h9 => h9) rfl dX4_countDeadEnds_21 ?_
  refine lv_iload_n hx hb dX4_countDeadEnds_24 rfl (lv_at hl 0 rfl) ?_
  refine va_zald hx hb hK hP 0 2 rfl rfl (by unfold vp_in; decide) dX4_countDeadEnds_25 ?_
  refine zo_i (v := 1) (by rw [show Int32.toNatClampNeg 1 = 1 from by decide]; exact k3_1) ?_
  refine lv_if_eq (tgt := 43) hx hb dX4_countDeadEnds_26 (by decide) (fun h => absurd h (by decide)) (fun _ => ?_)
  refine lv_aload_n hx hb dX4_countDeadEnds_29 rfl (lv_at hl 2 rfl) ?_
  refine va_get (D := (dC, dI)) (ci := 6) (v := .ref a3) (C := RX4) (T := TX4) (N := 3) hx hb hts zi_X4_countDeadEnds_X4 hown hK (zo_R hR0 hS hAr) 0 rfl rfl 2 (by decide) (hts (.fieldLink RX4 19 "LockRooms$Stands" "yet" "[I") (by decide +kernel)) (fun _ h9 => h9) rfl dX4_countDeadEnds_30 ?_
  refine lv_iload_n hx hb dX4_countDeadEnds_33 rfl (lv_at hl 0 rfl) ?_
  refine va_iald hx hb hK hP 2 4 rfl rfl (by unfold vp_in; decide) dX4_countDeadEnds_34 ?_
  refine zo_i (v := 0) (by rw [show Int32.toNatClampNeg 1 = 1 from by decide]; exact k3_5) ?_
  refine lv_iconst (v := (-1)) hx hb dX4_countDeadEnds_35 (by decide) ?_
  refine lv_icmp_ne (tgt := 43) hx hb dX4_countDeadEnds_36 (by decide) (fun _ => ?_) (fun h => absurd h (by decide))
  refine lv_iconst (v := 0) hx hb dX4_countDeadEnds_43 (by decide) ?_
  have hPr := (zo_nil : va_P (dC, dI) vwCl [] H8)
  have hPc := hP.sub (ws' := []) [] rfl
  have hDc := hD.sub (ws' := []) [] (by decide) rfl
  have hKc := hK.sub (tys' := []) [] rfl
  have hFc := va_free (wc := []) hD hS hA [] rfl
  refine va_calli (va_runSN (As := [.int 0]) (rest := [.int 0]) ⟨hx, hb, hml, hown, hts⟩ (cz_oneIf_0 l dC dI ed H8.size ) ⟨(va_cnB 1 hts gX4_countDeadEnds_X6_oneIf_n30 rfl rfl rfl (hN.2.1 ("LockRooms$Stands", 30, yX6_oneIf, "LockRooms") (List.mem_of_getElem? (i := 7) rfl)) (hts (.initialized RX6) (by decide +kernel)) (by decide +kernel) ⟨Nat.le_of_ble_eq_true rfl, Nat.le_of_ble_eq_true rfl⟩), (hts (.static yX6_oneIf) (by decide +kernel)), trivial⟩ ⟨zb_blind, fun U hU hW => ⟨rfl, zb_mk hU hW hPr hPc hKc hDc hN hH hS hFc zx_e⟩⟩ rfl rfl hl.1 rfl (lv_room (Nat.le_of_ble_eq_true rfl)) dX4_countDeadEnds_44 ⟨Nat.le_of_ble_eq_true rfl, Nat.le_of_ble_eq_true rfl⟩) hS (fun q _ h => hFc q h) hFc (fun r11 u t H10 locs ht hvm hw hB hz1 hk1 hS => ?_)
  obtain rfl : r11 = 0 := hw
  have hP := zo_K hP hk1
  refine lv_iadd hx hb dX4_countDeadEnds_47 ?_
  refine zo_i (v := 0) (by decide) ?_
  refine lv_istore_n (lv' := [(2, .int 0), (3, .int 1), (0, .ref st), (1, .ref rm)]) hx hb dX4_countDeadEnds_48 rfl hl (by decide) rfl (fun ls hl => ?_)
  refine lv_iinc (v := 2) (lv' := [(3, .int 2), (2, .int 0), (0, .ref st), (1, .ref rm)]) hx hb dX4_countDeadEnds_49 hl (k := 1) rfl (by decide) (by decide) rfl (fun ls hl => ?_)
  refine lv_goto (tgt := 10) hx hb dX4_countDeadEnds_52 (by decide) ?_
  refine lv_iload_n hx hb dX4_countDeadEnds_10 rfl (lv_at hl 0 rfl) ?_
  refine lv_aload_n hx hb dX4_countDeadEnds_11 rfl (lv_at hl 2 rfl) ?_
  refine lv_aload_n hx hb dX4_countDeadEnds_12 rfl (lv_at hl 3 rfl) ?_
  have hPr := ((zo_R hR0 hS hAr)).sub (ws' := [(rm, .inr (5, [.ref lk, .ref th, .ref pl, .ref gm, .int 2, .int 10, .int 0, .int 0, .int 1, .int 0, .int 0, .int 0]))]) [1] rfl
  have hPc := hP.sub (ws' := []) [] rfl
  have hDc := hD.sub (ws' := []) [] (by decide) rfl
  have hKc := hK.sub (tys' := []) [] rfl
  have hFc := va_free (wc := []) hD hS hA [] rfl
  refine va_calli (va_runV (As := [.ref rm]) (rest := [.int 2]) ⟨hx, hb, hml, hown, hts⟩ (cz_QendOfStands l dC dI ed H10.size rm lk th pl gm st) (cwV 1 hts gX4_countDeadEnds_X4_endOfStands rfl rfl rfl (by decide +kernel) ⟨Nat.le_of_ble_eq_true rfl, Nat.le_of_ble_eq_true rfl⟩) ⟨zb_blind, va_recv hK (zo_R hR0 hS hAr) (ci := 6) (q0 := 0) rfl rfl, fun U hU hW => ⟨rfl, zb_mk hU hW hPr hPc hKc hDc hN hH hS hFc zx_e⟩⟩ rfl rfl hl.1 rfl (lv_room (Nat.le_of_ble_eq_true rfl)) dX4_countDeadEnds_13 ⟨Nat.le_of_ble_eq_true rfl, Nat.le_of_ble_eq_true rfl⟩) hS (fun q _ h => hFc q h) hFc (fun r13 u t H12 locs ht hvm hw hB hz1 hk1 hS => ?_)
  obtain rfl : r13 = 4 := hw
  have hP := zo_K hP hk1
  refine lv_icmp_ge (tgt := 55) hx hb dX4_countDeadEnds_16 (by decide) (fun h => absurd h (by decide)) (fun _ => ?_)
  refine lv_iload_n hx hb dX4_countDeadEnds_19 rfl (lv_at hl 1 rfl) ?_
  refine lv_aload_n hx hb dX4_countDeadEnds_20 rfl (lv_at hl 2 rfl) ?_
  refine va_get (D := (dC, dI)) (ci := 6) (v := .ref a1) (C := RX4) (T := TX4) (N := 3) hx hb hts zi_X4_countDeadEnds_X4 hown hK (zo_R hR0 hS hAr) 0 rfl rfl 0 (by decide) (hts (.fieldLink RX4 9 "LockRooms$Stands" "isReached" "[Z") (by decide +kernel)) (fun _ h9 => h9) rfl dX4_countDeadEnds_21 ?_
  refine lv_iload_n hx hb dX4_countDeadEnds_24 rfl (lv_at hl 0 rfl) ?_
  refine va_zald hx hb hK hP 0 2 rfl rfl (by unfold vp_in; decide) dX4_countDeadEnds_25 ?_
  refine zo_i (v := 1) (by rw [show Int32.toNatClampNeg 2 = 2 from by decide]; exact k3_2) ?_
  refine lv_if_eq (tgt := 43) hx hb dX4_countDeadEnds_26 (by decide) (fun h => absurd h (by decide)) (fun _ => ?_)
  refine lv_aload_n hx hb dX4_countDeadEnds_29 rfl (lv_at hl 2 rfl) ?_
  refine va_get (D := (dC, dI)) (ci := 6) (v := .ref a3) (C := RX4) (T := TX4) (N := 3) hx hb hts zi_X4_countDeadEnds_X4 hown hK (zo_R hR0 hS hAr) 0 rfl rfl 2 (by decide) (hts (.fieldLink RX4 19 "LockRooms$Stands" "yet" "[I") (by decide +kernel)) (fun _ h9 => h9) rfl dX4_countDeadEnds_30 ?_
  refine lv_iload_n hx hb dX4_countDeadEnds_33 rfl (lv_at hl 0 rfl) ?_
  refine va_iald hx hb hK hP 2 4 rfl rfl (by unfold vp_in; decide) dX4_countDeadEnds_34 ?_
  refine zo_i (v := 1) (by rw [show Int32.toNatClampNeg 2 = 2 from by decide]; exact k3_6) ?_
  refine lv_iconst (v := (-1)) hx hb dX4_countDeadEnds_35 (by decide) ?_
  refine lv_icmp_ne (tgt := 43) hx hb dX4_countDeadEnds_36 (by decide) (fun _ => ?_) (fun h => absurd h (by decide))
  refine lv_iconst (v := 0) hx hb dX4_countDeadEnds_43 (by decide) ?_
  have hPr := (zo_nil : va_P (dC, dI) vwCl [] H12)
  have hPc := hP.sub (ws' := []) [] rfl
  have hDc := hD.sub (ws' := []) [] (by decide) rfl
  have hKc := hK.sub (tys' := []) [] rfl
  have hFc := va_free (wc := []) hD hS hA [] rfl
  refine va_calli (va_runSN (As := [.int 0]) (rest := [.int 0]) ⟨hx, hb, hml, hown, hts⟩ (cz_oneIf_0 l dC dI ed H12.size ) ⟨(va_cnB 1 hts gX4_countDeadEnds_X6_oneIf_n30 rfl rfl rfl (hN.2.1 ("LockRooms$Stands", 30, yX6_oneIf, "LockRooms") (List.mem_of_getElem? (i := 7) rfl)) (hts (.initialized RX6) (by decide +kernel)) (by decide +kernel) ⟨Nat.le_of_ble_eq_true rfl, Nat.le_of_ble_eq_true rfl⟩), (hts (.static yX6_oneIf) (by decide +kernel)), trivial⟩ ⟨zb_blind, fun U hU hW => ⟨rfl, zb_mk hU hW hPr hPc hKc hDc hN hH hS hFc zx_e⟩⟩ rfl rfl hl.1 rfl (lv_room (Nat.le_of_ble_eq_true rfl)) dX4_countDeadEnds_44 ⟨Nat.le_of_ble_eq_true rfl, Nat.le_of_ble_eq_true rfl⟩) hS (fun q _ h => hFc q h) hFc (fun r15 u t H14 locs ht hvm hw hB hz1 hk1 hS => ?_)
  obtain rfl : r15 = 0 := hw
  have hP := zo_K hP hk1
  refine lv_iadd hx hb dX4_countDeadEnds_47 ?_
  refine zo_i (v := 0) (by decide) ?_
  refine lv_istore_n (lv' := [(2, .int 0), (3, .int 2), (0, .ref st), (1, .ref rm)]) hx hb dX4_countDeadEnds_48 rfl hl (by decide) rfl (fun ls hl => ?_)
  refine lv_iinc (v := 3) (lv' := [(3, .int 3), (2, .int 0), (0, .ref st), (1, .ref rm)]) hx hb dX4_countDeadEnds_49 hl (k := 1) rfl (by decide) (by decide) rfl (fun ls hl => ?_)
  refine lv_goto (tgt := 10) hx hb dX4_countDeadEnds_52 (by decide) ?_
  refine lv_iload_n hx hb dX4_countDeadEnds_10 rfl (lv_at hl 0 rfl) ?_
  refine lv_aload_n hx hb dX4_countDeadEnds_11 rfl (lv_at hl 2 rfl) ?_
  refine lv_aload_n hx hb dX4_countDeadEnds_12 rfl (lv_at hl 3 rfl) ?_
  have hPr := ((zo_R hR0 hS hAr)).sub (ws' := [(rm, .inr (5, [.ref lk, .ref th, .ref pl, .ref gm, .int 2, .int 10, .int 0, .int 0, .int 1, .int 0, .int 0, .int 0]))]) [1] rfl
  have hPc := hP.sub (ws' := []) [] rfl
  have hDc := hD.sub (ws' := []) [] (by decide) rfl
  have hKc := hK.sub (tys' := []) [] rfl
  have hFc := va_free (wc := []) hD hS hA [] rfl
  refine va_calli (va_runV (As := [.ref rm]) (rest := [.int 3]) ⟨hx, hb, hml, hown, hts⟩ (cz_QendOfStands l dC dI ed H14.size rm lk th pl gm st) (cwV 1 hts gX4_countDeadEnds_X4_endOfStands rfl rfl rfl (by decide +kernel) ⟨Nat.le_of_ble_eq_true rfl, Nat.le_of_ble_eq_true rfl⟩) ⟨zb_blind, va_recv hK (zo_R hR0 hS hAr) (ci := 6) (q0 := 0) rfl rfl, fun U hU hW => ⟨rfl, zb_mk hU hW hPr hPc hKc hDc hN hH hS hFc zx_e⟩⟩ rfl rfl hl.1 rfl (lv_room (Nat.le_of_ble_eq_true rfl)) dX4_countDeadEnds_13 ⟨Nat.le_of_ble_eq_true rfl, Nat.le_of_ble_eq_true rfl⟩) hS (fun q _ h => hFc q h) hFc (fun r17 u t H16 locs ht hvm hw hB hz1 hk1 hS => ?_)
  obtain rfl : r17 = 4 := hw
  have hP := zo_K hP hk1
  refine lv_icmp_ge (tgt := 55) hx hb dX4_countDeadEnds_16 (by decide) (fun h => absurd h (by decide)) (fun _ => ?_)
  refine lv_iload_n hx hb dX4_countDeadEnds_19 rfl (lv_at hl 1 rfl) ?_
  refine lv_aload_n hx hb dX4_countDeadEnds_20 rfl (lv_at hl 2 rfl) ?_
  refine va_get (D := (dC, dI)) (ci := 6) (v := .ref a1) (C := RX4) (T := TX4) (N := 3) hx hb hts zi_X4_countDeadEnds_X4 hown hK (zo_R hR0 hS hAr) 0 rfl rfl 0 (by decide) (hts (.fieldLink RX4 9 "LockRooms$Stands" "isReached" "[Z") (by decide +kernel)) (fun _ h9 => h9) rfl dX4_countDeadEnds_21 ?_
  refine lv_iload_n hx hb dX4_countDeadEnds_24 rfl (lv_at hl 0 rfl) ?_
  refine va_zald hx hb hK hP 0 2 rfl rfl (by unfold vp_in; decide) dX4_countDeadEnds_25 ?_
  refine zo_i (v := 1) (by rw [show Int32.toNatClampNeg 3 = 3 from by decide]; exact k3_3) ?_
  refine lv_if_eq (tgt := 43) hx hb dX4_countDeadEnds_26 (by decide) (fun h => absurd h (by decide)) (fun _ => ?_)
  refine lv_aload_n hx hb dX4_countDeadEnds_29 rfl (lv_at hl 2 rfl) ?_
  refine va_get (D := (dC, dI)) (ci := 6) (v := .ref a3) (C := RX4) (T := TX4) (N := 3) hx hb hts zi_X4_countDeadEnds_X4 hown hK (zo_R hR0 hS hAr) 0 rfl rfl 2 (by decide) (hts (.fieldLink RX4 19 "LockRooms$Stands" "yet" "[I") (by decide +kernel)) (fun _ h9 => h9) rfl dX4_countDeadEnds_30 ?_
  refine lv_iload_n hx hb dX4_countDeadEnds_33 rfl (lv_at hl 0 rfl) ?_
  refine va_iald hx hb hK hP 2 4 rfl rfl (by unfold vp_in; decide) dX4_countDeadEnds_34 ?_
  refine zo_i (v := 0) (by rw [show Int32.toNatClampNeg 3 = 3 from by decide]; exact k3_7) ?_
  refine lv_iconst (v := (-1)) hx hb dX4_countDeadEnds_35 (by decide) ?_
  refine lv_icmp_ne (tgt := 43) hx hb dX4_countDeadEnds_36 (by decide) (fun _ => ?_) (fun h => absurd h (by decide))
  refine lv_iconst (v := 0) hx hb dX4_countDeadEnds_43 (by decide) ?_
  have hPr := (zo_nil : va_P (dC, dI) vwCl [] H16)
  have hPc := hP.sub (ws' := []) [] rfl
  have hDc := hD.sub (ws' := []) [] (by decide) rfl
  have hKc := hK.sub (tys' := []) [] rfl
  have hFc := va_free (wc := []) hD hS hA [] rfl
  refine va_calli (va_runSN (As := [.int 0]) (rest := [.int 0]) ⟨hx, hb, hml, hown, hts⟩ (cz_oneIf_0 l dC dI ed H16.size ) ⟨(va_cnB 1 hts gX4_countDeadEnds_X6_oneIf_n30 rfl rfl rfl (hN.2.1 ("LockRooms$Stands", 30, yX6_oneIf, "LockRooms") (List.mem_of_getElem? (i := 7) rfl)) (hts (.initialized RX6) (by decide +kernel)) (by decide +kernel) ⟨Nat.le_of_ble_eq_true rfl, Nat.le_of_ble_eq_true rfl⟩), (hts (.static yX6_oneIf) (by decide +kernel)), trivial⟩ ⟨zb_blind, fun U hU hW => ⟨rfl, zb_mk hU hW hPr hPc hKc hDc hN hH hS hFc zx_e⟩⟩ rfl rfl hl.1 rfl (lv_room (Nat.le_of_ble_eq_true rfl)) dX4_countDeadEnds_44 ⟨Nat.le_of_ble_eq_true rfl, Nat.le_of_ble_eq_true rfl⟩) hS (fun q _ h => hFc q h) hFc (fun r19 u t H18 locs ht hvm hw hB hz1 hk1 hS => ?_)
  obtain rfl : r19 = 0 := hw
  have hP := zo_K hP hk1
  refine lv_iadd hx hb dX4_countDeadEnds_47 ?_
  refine zo_i (v := 0) (by decide) ?_
  refine lv_istore_n (lv' := [(2, .int 0), (3, .int 3), (0, .ref st), (1, .ref rm)]) hx hb dX4_countDeadEnds_48 rfl hl (by decide) rfl (fun ls hl => ?_)
  refine lv_iinc (v := 4) (lv' := [(3, .int 4), (2, .int 0), (0, .ref st), (1, .ref rm)]) hx hb dX4_countDeadEnds_49 hl (k := 1) rfl (by decide) (by decide) rfl (fun ls hl => ?_)
  refine lv_goto (tgt := 10) hx hb dX4_countDeadEnds_52 (by decide) ?_
  refine lv_iload_n hx hb dX4_countDeadEnds_10 rfl (lv_at hl 0 rfl) ?_
  refine lv_aload_n hx hb dX4_countDeadEnds_11 rfl (lv_at hl 2 rfl) ?_
  refine lv_aload_n hx hb dX4_countDeadEnds_12 rfl (lv_at hl 3 rfl) ?_
  have hPr := ((zo_R hR0 hS hAr)).sub (ws' := [(rm, .inr (5, [.ref lk, .ref th, .ref pl, .ref gm, .int 2, .int 10, .int 0, .int 0, .int 1, .int 0, .int 0, .int 0]))]) [1] rfl
  have hPc := hP.sub (ws' := []) [] rfl
  have hDc := hD.sub (ws' := []) [] (by decide) rfl
  have hKc := hK.sub (tys' := []) [] rfl
  have hFc := va_free (wc := []) hD hS hA [] rfl
  refine va_calli (va_runV (As := [.ref rm]) (rest := [.int 4]) ⟨hx, hb, hml, hown, hts⟩ (cz_QendOfStands l dC dI ed H18.size rm lk th pl gm st) (cwV 1 hts gX4_countDeadEnds_X4_endOfStands rfl rfl rfl (by decide +kernel) ⟨Nat.le_of_ble_eq_true rfl, Nat.le_of_ble_eq_true rfl⟩) ⟨zb_blind, va_recv hK (zo_R hR0 hS hAr) (ci := 6) (q0 := 0) rfl rfl, fun U hU hW => ⟨rfl, zb_mk hU hW hPr hPc hKc hDc hN hH hS hFc zx_e⟩⟩ rfl rfl hl.1 rfl (lv_room (Nat.le_of_ble_eq_true rfl)) dX4_countDeadEnds_13 ⟨Nat.le_of_ble_eq_true rfl, Nat.le_of_ble_eq_true rfl⟩) hS (fun q _ h => hFc q h) hFc (fun r21 u t H20 locs ht hvm hw hB hz1 hk1 hS => ?_)
  obtain rfl : r21 = 4 := hw
  have hP := zo_K hP hk1
  refine lv_icmp_ge (tgt := 55) hx hb dX4_countDeadEnds_16 (by decide) (fun _ => ?_) (fun h => absurd h (by decide))
  refine lv_iload_n hx hb dX4_countDeadEnds_55 rfl (lv_at hl 1 rfl) ?_
  refine W.widen (k := 0) (n := 0) (Nat.le_of_ble_eq_true rfl) (Nat.le_of_ble_eq_true rfl) ?_
  have hP9 := hP.sub (ws' := [(a1, .inl (cZ, 1024, .inl g1_3)), (a2, .inl (cI, 1024, .inl g2_3)), (a3, .inl (cJ, 1024, .inl g3_3))]) [0, 1, 2] rfl
  have hD9 := hD.sub (ws' := [(a1, .inl (cZ, 1024, .inl g1_3)), (a2, .inl (cI, 1024, .inl g2_3)), (a3, .inl (cJ, 1024, .inl g3_3))]) [0, 1, 2] (by decide) rfl
  have hK9 := hK.sub (tys' := [(cZ, .boolean), (cI, .int), (cJ, .int)]) [2, 3, 4] rfl
  exact W.iret hx hb hr (fun t ht hW => ⟨⟨0, (), rfl, rfl, ⟨g1_3, g2_3, g3_3, by rw [ht]; exact hP9, hD9, va_K.moved hW.alike hK9⟩⟩, hS.F ht⟩) hS.2.2 dX4_countDeadEnds_56
set_option maxRecDepth 20000 in
theorem zi_X4_findMusts_X3 : ∀ w ∈ u_ws RX3 TX3 12, w ∈ wsX4_findMusts := by decide +kernel
set_option maxHeartbeats 4000000 in
set_option maxRecDepth 100000 in
theorem cz_QfindMusts (l : Launch) (dC : Nat → ClassId) (dI : Nat → Nat → Nat) (ed sz : Nat) (st : Nat) (a1 : Nat) (a2 : Nat) (a3 : Nat) (rm : Nat) (lk : Nat) (th : Nat) (pl : Nat) (gm : Nat) (cL : ClassId) (fl : Nat → Option Nat) (l0 : Nat) (l1 : Nat) (cT : ClassId) (ft : Nat → Option Nat) (t0 : Nat) (t1 : Nat) (t2 : Nat) (t3 : Nat) (t4 : Nat) (t5 : Nat) (t6 : Nat) (t7 : Nat) (t8 : Nat) (t9 : Nat) (cZ : ClassId) (f1 : Nat → Int32) (cI : ClassId) (f2 : Nat → Int32) (cJ : ClassId) (f3 : Nat → Int32) (hkl0 : fl 0 = some l0) (hkl1 : fl 1 = some l1) (hkt0 : ft 0 = some t0) (hkt1 : ft 1 = some t1) (hkt2 : ft 2 = some t2) (hkt3 : ft 3 = some t3) (hkt4 : ft 4 = some t4) (hkt5 : ft 5 = some t5) (hkt6 : ft 6 = some t6) (hkt7 : ft 7 = some t7) (hkt8 : ft 8 = some t8) (hkt9 : ft 9 = some t9) : Met l yX4_findMusts wsX4_findMusts ({ frames := 4, cells := 0, slots := 0, locals := 98 } : Jvm.Room) (va_Pc [.ref st, .ref rm] (zB dC dI ed sz [(st, .inr (6, [.ref a1, .ref a2, .ref a3])), (rm, .inr (5, [.ref lk, .ref th, .ref pl, .ref gm, .int 2, .int 10, .int 0, .int 0, .int 1, .int 0, .int 0, .int 0])), (lk, .inl (cL, 10, .inr (.inr (.inr (.inr fl))))), (th, .inl (cT, 12, .inr (.inr (.inr (.inr ft))))), (l0, .inr (3, [.int 0, .int 0, .int 60, .int 0, .int 0, .int 0, .int 0, .int 0, .int 0, .int 0])), (l1, .inr (3, [.int 0, .int 0, .int 60, .int 0, .int 0, .int 0, .int 0, .int 0, .int 0, .int 0])), (t0, .inr (7, [.int (-1), .int 0, .int 0, .int 0, .int 0])), (t1, .inr (7, [.int (-1), .int 0, .int 0, .int 0, .int 0])), (t2, .inr (7, [.int (-1), .int 0, .int 0, .int 0, .int 0])), (t3, .inr (7, [.int (-1), .int 0, .int 0, .int 0, .int 0])), (t4, .inr (7, [.int (-1), .int 0, .int 0, .int 0, .int 0])), (t5, .inr (7, [.int (-1), .int 0, .int 0, .int 0, .int 0])), (t6, .inr (7, [.int (-1), .int 0, .int 0, .int 0, .int 0])), (t7, .inr (7, [.int (-1), .int 0, .int 0, .int 0, .int 0])), (t8, .inr (7, [.int (-1), .int 0, .int 0, .int 0, .int 0])), (t9, .inr (7, [.int (-1), .int 0, .int 0, .int 0, .int 0]))] [(a1, .inl (cZ, 1024, .inl f1)), (a2, .inl (cI, 1024, .inl f2)), (a3, .inl (cJ, 1024, .inl f3))] [(cL, .object "LockRooms$Lock"), (cT, .object "LockRooms$Thing"), (cZ, .boolean), (cI, .int), (cJ, .int)])) (va_Qi (fun (r : Int32) (_ : Unit) => r = 0) (fun (_ : Unit) (t : State) => ∃ (g1 : Nat → Int32), ∃ (g2 : Nat → Int32), ∃ (g3 : Nat → Int32), va_P (dC, dI) vwCl [(a1, .inl (cZ, 1024, .inl g1)), (a2, .inl (cI, 1024, .inl g2)), (a3, .inl (cJ, 1024, .inl g3))] t.heap ∧ va_D (va_A [(a1, .inl (cZ, 1024, .inl f1)), (a2, .inl (cI, 1024, .inl f2)), (a3, .inl (cJ, 1024, .inl f3))] sz) [(a1, .inl (cZ, 1024, .inl g1)), (a2, .inl (cI, 1024, .inl g2)), (a3, .inl (cJ, 1024, .inl g3))] ∧ va_K (dC, dI) vwCl [(cZ, .boolean), (cI, .int), (cJ, .int)] t) (va_A [(a1, .inl (cZ, 1024, .inl f1)), (a2, .inl (cI, 1024, .inl f2)), (a3, .inl (cJ, 1024, .inl f3))] sz)) 0 0 (va_A [(a1, .inl (cZ, 1024, .inl f1)), (a2, .inl (cI, 1024, .inl f2)), (a3, .inl (cJ, 1024, .inl f3))] sz) := by
  refine Met.ofW (cc := cX4_findMusts) (maxL := 5) (ret := (some .int)) (by decide) rfl ?_
  intro p e s m args below meth c s₁ B hml hv
  obtain ⟨rfl, hsz, hR0, hP, hK, hD0, hN, hH, hX0⟩ := hv
  have hx := B.exec
  have hb := B.bytes
  have hr := B.returns
  have hts := atoms_spec (ws := wsX4_findMusts) B.pre
  have hown : s.vm.findClass RX4 = some m.cls := findClass_of_methodNamed B.named
  have hlocks := B.notSynchronized
  subst hsz
  have hD := hD0.self (sz := s.heap.size)
  have hAr := zx_A hX0 hR0
  generalize hAe : va_A [(a1, .inl (cZ, 1024, .inl f1)), (a2, .inl (cI, 1024, .inl f2)), (a3, .inl (cJ, 1024, .inl f3))] s.heap.size = A at hD hAr hH ⊢
  have hA : ∀ q : Nat, s.heap.size ≤ q → A q := fun q h => by rw [← hAe]; exact Or.inr h
  have hS : va_S A s.heap s.heap [] := va_S.rf
  have hl := lv_entry ([.ref st, .ref rm]) (n := 5) (Nat.le_of_ble_eq_true rfl)
  rw [lg_entry_eq]
  generalize (lg_sl ([.ref st, .ref rm]) ++ List.replicate (5 - (lg_sl ([.ref st, .ref rm])).length) Slot.unset).toArray = ls at hl ⊢
  have hl : lv_has ls 5 [(0, .ref st), (1, .ref rm)] := hl
  refine lv_aload_n hx hb dX4_findMusts_0 rfl (lv_at hl 1 rfl) ?_
  have hPr := (hR0).sub (ws' := [(rm, .inr (5, [.ref lk, .ref th, .ref pl, .ref gm, .int 2, .int 10, .int 0, .int 0, .int 1, .int 0, .int 0, .int 0])), (lk, .inl (cL, 10, .inr (.inr (.inr (.inr fl))))), (l0, .inr (3, [.int 0, .int 0, .int 60, .int 0, .int 0, .int 0, .int 0, .int 0, .int 0, .int 0])), (l1, .inr (3, [.int 0, .int 0, .int 60, .int 0, .int 0, .int 0, .int 0, .int 0, .int 0, .int 0]))]) [1, 2, 4, 5] rfl
  have hPc := hP.sub (ws' := []) [] rfl
  have hDc := hD.sub (ws' := []) [] (by decide) rfl
  have hKc := hK.sub (tys' := [(cL, .object "LockRooms$Lock")]) [0] rfl
  have hFc := va_free (wc := []) hD hS hA [] rfl
  refine va_calli (va_runV (As := []) (rest := []) ⟨hx, hb, hml, hown, hts⟩ (cz_QopenLocks l dC dI ed s.heap.size rm lk th pl gm cL fl l0 l1 hkl0 hkl1) (cwV 0 hts gX4_findMusts_X3_openLocks rfl rfl rfl (by decide +kernel) ⟨Nat.le_of_ble_eq_true rfl, Nat.le_of_ble_eq_true rfl⟩) ⟨zb_blind, va_recv hK hR0 (ci := 5) (q0 := 1) rfl rfl, fun U hU hW => ⟨rfl, zb_mk hU hW hPr hPc hKc hDc hN hH hS hFc zx_e⟩⟩ rfl rfl hl.1 rfl (lv_room (Nat.le_of_ble_eq_true rfl)) dX4_findMusts_1 ⟨Nat.le_of_ble_eq_true rfl, Nat.le_of_ble_eq_true rfl⟩) hS (fun q _ h => hFc q h) hFc (fun r2 u t H1 locs ht hvm hw hB hz1 hk1 hS => ?_)
  obtain rfl : r2 = 0 := hw
  have hP := zo_K hP hk1
  refine lv_istore_n (lv' := [(2, .int 0), (0, .ref st), (1, .ref rm)]) hx hb dX4_findMusts_4 rfl hl (by decide) rfl (fun ls hl => ?_)
  refine lv_aload_n hx hb dX4_findMusts_5 rfl (lv_at hl 1 rfl) ?_
  refine lv_aload_n hx hb dX4_findMusts_6 rfl (lv_at hl 2 rfl) ?_
  refine lv_iconst (v := 0) hx hb dX4_findMusts_7 (by decide) ?_
  have hPr := ((zo_R hR0 hS hAr)).sub (ws' := [(st, .inr (6, [.ref a1, .ref a2, .ref a3])), (rm, .inr (5, [.ref lk, .ref th, .ref pl, .ref gm, .int 2, .int 10, .int 0, .int 0, .int 1, .int 0, .int 0, .int 0])), (lk, .inl (cL, 10, .inr (.inr (.inr (.inr fl))))), (th, .inl (cT, 12, .inr (.inr (.inr (.inr ft))))), (l0, .inr (3, [.int 0, .int 0, .int 60, .int 0, .int 0, .int 0, .int 0, .int 0, .int 0, .int 0])), (l1, .inr (3, [.int 0, .int 0, .int 60, .int 0, .int 0, .int 0, .int 0, .int 0, .int 0, .int 0])), (t0, .inr (7, [.int (-1), .int 0, .int 0, .int 0, .int 0])), (t1, .inr (7, [.int (-1), .int 0, .int 0, .int 0, .int 0])), (t2, .inr (7, [.int (-1), .int 0, .int 0, .int 0, .int 0])), (t3, .inr (7, [.int (-1), .int 0, .int 0, .int 0, .int 0])), (t4, .inr (7, [.int (-1), .int 0, .int 0, .int 0, .int 0])), (t5, .inr (7, [.int (-1), .int 0, .int 0, .int 0, .int 0])), (t6, .inr (7, [.int (-1), .int 0, .int 0, .int 0, .int 0])), (t7, .inr (7, [.int (-1), .int 0, .int 0, .int 0, .int 0])), (t8, .inr (7, [.int (-1), .int 0, .int 0, .int 0, .int 0])), (t9, .inr (7, [.int (-1), .int 0, .int 0, .int 0, .int 0]))]) [0, 1, 2, 3, 4, 5, 6, 7, 8, 9, 10, 11, 12, 13, 14, 15] rfl
  have hPc := hP.sub (ws' := [(a1, .inl (cZ, 1024, .inl f1)), (a2, .inl (cI, 1024, .inl f2)), (a3, .inl (cJ, 1024, .inl f3))]) [0, 1, 2] rfl
  have hDc := hD.sub (ws' := [(a1, .inl (cZ, 1024, .inl f1)), (a2, .inl (cI, 1024, .inl f2)), (a3, .inl (cJ, 1024, .inl f3))]) [0, 1, 2] (by decide) rfl
  have hKc := hK.sub (tys' := [(cL, .object "LockRooms$Lock"), (cT, .object "LockRooms$Thing"), (cZ, .boolean), (cI, .int), (cJ, .int)]) [0, 1, 2, 3, 4] rfl
  have hFc := va_free (wc := [(a1, .inl (cZ, 1024, .inl f1)), (a2, .inl (cI, 1024, .inl f2)), (a3, .inl (cJ, 1024, .inl f3))]) hD hS hA [0, 1, 2] rfl
  refine va_callv (va_runV (As := [.ref rm, .int 0]) (rest := []) ⟨hx, hb, hml, hown, hts⟩ (cz_Qexplore l dC dI ed H1.size st a1 a2 a3 rm lk th pl gm cL fl l0 l1 cT ft t0 t1 t2 t3 t4 t5 t6 t7 t8 t9 cZ f1 cI f2 cJ f3 0 hkl0 hkl1 hkt0 hkt1 hkt2 hkt3 hkt4 hkt5 hkt6 hkt7 hkt8 hkt9) (cwV 2 hts gX4_findMusts_X4_explore rfl rfl rfl (by decide +kernel) ⟨Nat.le_of_ble_eq_true rfl, Nat.le_of_ble_eq_true rfl⟩) ⟨zb_blind, va_recv hK (zo_R hR0 hS hAr) (ci := 6) (q0 := 0) rfl rfl, fun U hU hW => ⟨rfl, zb_mk hU hW hPr hPc hKc hDc hN hH hS hFc (zx_cons (zx_r (hAr _ (List.mem_of_getElem? (i := 0) rfl)) hDc) (zx_cons (zx_r (hAr _ (List.mem_of_getElem? (i := 1) rfl)) hDc) (zx_cons (zx_r (hAr _ (List.mem_of_getElem? (i := 2) rfl)) hDc) (zx_cons (zx_r (hAr _ (List.mem_of_getElem? (i := 3) rfl)) hDc) (zx_cons (zx_r (hAr _ (List.mem_of_getElem? (i := 4) rfl)) hDc) (zx_cons (zx_r (hAr _ (List.mem_of_getElem? (i := 5) rfl)) hDc) (zx_cons (zx_r (hAr _ (List.mem_of_getElem? (i := 6) rfl)) hDc) (zx_cons (zx_r (hAr _ (List.mem_of_getElem? (i := 7) rfl)) hDc) (zx_cons (zx_r (hAr _ (List.mem_of_getElem? (i := 8) rfl)) hDc) (zx_cons (zx_r (hAr _ (List.mem_of_getElem? (i := 9) rfl)) hDc) (zx_cons (zx_r (hAr _ (List.mem_of_getElem? (i := 10) rfl)) hDc) (zx_cons (zx_r (hAr _ (List.mem_of_getElem? (i := 11) rfl)) hDc) (zx_cons (zx_r (hAr _ (List.mem_of_getElem? (i := 12) rfl)) hDc) (zx_cons (zx_r (hAr _ (List.mem_of_getElem? (i := 13) rfl)) hDc) (zx_cons (zx_r (hAr _ (List.mem_of_getElem? (i := 14) rfl)) hDc) (zx_cons (zx_r (hAr _ (List.mem_of_getElem? (i := 15) rfl)) hDc) zx_nil))))))))))))))))⟩⟩ rfl rfl hl.1 rfl (lv_room (Nat.le_of_ble_eq_true rfl)) dX4_findMusts_8 ⟨Nat.le_of_ble_eq_true rfl, Nat.le_of_ble_eq_true rfl⟩) hS (fun q _ h => hFc q h) hFc (fun u t H3 locs ht hvm hw hB hz1 hk1 hS => ?_)
  obtain ⟨g1_5, g2_5, g3_5, ⟨k5_0, k5_1, k5_2, k5_3, k5_4, k5_5, k5_6, k5_7⟩, hP1, hD1, hK1⟩ := hB
  rw [ht] at hP1
  obtain ⟨hP, hD⟩ := va_join (wr := []) (w1 := [(a1, .inl (cZ, 1024, .inl g1_5)), (a2, .inl (cI, 1024, .inl g2_5)), (a3, .inl (cJ, 1024, .inl g3_5))]) hP hD [0, 1, 2] [] rfl rfl (by decide) (by decide) hk1 hFc hP1 hD1
  have hP : va_P (dC, dI) vwCl [(a1, .inl (cZ, 1024, .inl g1_5)), (a2, .inl (cI, 1024, .inl g2_5)), (a3, .inl (cJ, 1024, .inl g3_5))] H3 := hP
  have hD : va_D A [(a1, .inl (cZ, 1024, .inl g1_5)), (a2, .inl (cI, 1024, .inl g2_5)), (a3, .inl (cJ, 1024, .inl g3_5))] := hD
  refine lv_aload_n hx hb dX4_findMusts_11 rfl (lv_at hl 1 rfl) ?_
  refine lv_iload_n hx hb dX4_findMusts_12 rfl (lv_at hl 0 rfl) ?_
  have hPr := (show va_P (dC, dI) vwCl [(st, .inr (6, [.ref a1, .ref a2, .ref a3])), (a3, .inl (cJ, 1024, .inl g3_5))] H3 from (zo_cons (((zo_R hR0 hS hAr)) 0 _ rfl) (zo_cons ((hP) 2 _ rfl) (zo_nil : va_P (dC, dI) vwCl [] H3))))
  have hPc := hP.sub (ws' := []) [] rfl
  have hDc := hD.sub (ws' := []) [] (by decide) rfl
  have hKc := hK.sub (tys' := [(cJ, .int)]) [4] rfl
  have hFc := va_free (wc := []) hD hS hA [] rfl
  refine va_calli (va_runV (As := [.int 0]) (rest := []) ⟨hx, hb, hml, hown, hts⟩ (cz_QyetBehind_0 l dC dI ed H3.size st a1 a2 a3 cJ g3_5 k5_4) (cwV 1 hts gX4_findMusts_X4_yetBehind rfl rfl rfl (by decide +kernel) ⟨Nat.le_of_ble_eq_true rfl, Nat.le_of_ble_eq_true rfl⟩) ⟨zb_blind, va_recv hK (zo_R hR0 hS hAr) (ci := 6) (q0 := 0) rfl rfl, fun U hU hW => ⟨rfl, zb_mk hU hW hPr hPc hKc hDc hN hH hS hFc zx_e⟩⟩ rfl rfl hl.1 rfl (lv_room (Nat.le_of_ble_eq_true rfl)) dX4_findMusts_13 ⟨Nat.le_of_ble_eq_true rfl, Nat.le_of_ble_eq_true rfl⟩) hS (fun q _ h => hFc q h) hFc (fun r7 u t H6 locs ht hvm hw hB hz1 hk1 hS => ?_)
  obtain rfl : r7 = 1 := hw
  have hP := zo_K hP hk1
  refine lv_iconst (v := (-1)) hx hb dX4_findMusts_16 (by decide) ?_
  refine lv_icmp_ne (tgt := 22) hx hb dX4_findMusts_17 (by decide) (fun _ => ?_) (fun h => absurd h (by decide))
  refine lv_iconst (v := 0) hx hb dX4_findMusts_22 (by decide) ?_
  refine lv_istore_n (lv' := [(3, .int 0), (2, .int 0), (0, .ref st), (1, .ref rm)]) hx hb dX4_findMusts_23 rfl hl (by decide) rfl (fun ls hl => ?_)
  refine lv_iconst (v := 0) hx hb dX4_findMusts_24 (by decide) ?_
  refine lv_istore (lv' := [(4, .int 0), (3, .int 0), (2, .int 0), (0, .ref st), (1, .ref rm)]) hx hb dX4_findMusts_25 hl (by decide) rfl (fun ls hl => ?_)
  refine lv_iload hx hb dX4_findMusts_27 (lv_at hl 0 rfl) ?_
  refine lv_aload_n hx hb dX4_findMusts_29 rfl (lv_at hl 4 rfl) ?_
  refine va_get (D := (dC, dI)) (ci := 5) (v := .int 10) (C := RX3) (T := TX3) (N := 12) hx hb hts zi_X4_findMusts_X3 hown hK (zo_R hR0 hS hAr) 1 rfl rfl 5 (by decide) (hts (.fieldLink RX4 44 "LockRooms$Room" "thingCount" "I") (by decide +kernel)) (fun _ h9 => h9) rfl dX4_findMusts_30 ?_
  refine lv_icmp_ge (tgt := 67) hx hb dX4_findMusts_33 (by decide) (fun h => absurd h (by decide)) (fun _ => ?_)
  refine lv_aload_n hx hb dX4_findMusts_36 rfl (lv_at hl 3 rfl) ?_
  refine lv_aload_n hx hb dX4_findMusts_37 rfl (lv_at hl 4 rfl) ?_
  refine lv_iconst (v := 1) hx hb dX4_findMusts_38 (by decide) ?_
  refine lv_iload hx hb dX4_findMusts_39 (lv_at hl 0 rfl) ?_
  refine lv_ishl hx hb dX4_findMusts_41 ?_
  refine zo_i (v := 1) (by decide) ?_
  have hPr := ((zo_R hR0 hS hAr)).sub (ws' := [(st, .inr (6, [.ref a1, .ref a2, .ref a3])), (rm, .inr (5, [.ref lk, .ref th, .ref pl, .ref gm, .int 2, .int 10, .int 0, .int 0, .int 1, .int 0, .int 0, .int 0])), (lk, .inl (cL, 10, .inr (.inr (.inr (.inr fl))))), (th, .inl (cT, 12, .inr (.inr (.inr (.inr ft))))), (l0, .inr (3, [.int 0, .int 0, .int 60, .int 0, .int 0, .int 0, .int 0, .int 0, .int 0, .int 0])), (l1, .inr (3, [.int 0, .int 0, .int 60, .int 0, .int 0, .int 0, .int 0, .int 0, .int 0, .int 0])), (t0, .inr (7, [.int (-1), .int 0, .int 0, .int 0, .int 0])), (t1, .inr (7, [.int (-1), .int 0, .int 0, .int 0, .int 0])), (t2, .inr (7, [.int (-1), .int 0, .int 0, .int 0, .int 0])), (t3, .inr (7, [.int (-1), .int 0, .int 0, .int 0, .int 0])), (t4, .inr (7, [.int (-1), .int 0, .int 0, .int 0, .int 0])), (t5, .inr (7, [.int (-1), .int 0, .int 0, .int 0, .int 0])), (t6, .inr (7, [.int (-1), .int 0, .int 0, .int 0, .int 0])), (t7, .inr (7, [.int (-1), .int 0, .int 0, .int 0, .int 0])), (t8, .inr (7, [.int (-1), .int 0, .int 0, .int 0, .int 0])), (t9, .inr (7, [.int (-1), .int 0, .int 0, .int 0, .int 0]))]) [0, 1, 2, 3, 4, 5, 6, 7, 8, 9, 10, 11, 12, 13, 14, 15] rfl
  have hPc := hP.sub (ws' := [(a1, .inl (cZ, 1024, .inl g1_5)), (a2, .inl (cI, 1024, .inl g2_5)), (a3, .inl (cJ, 1024, .inl g3_5))]) [0, 1, 2] rfl
  have hDc := hD.sub (ws' := [(a1, .inl (cZ, 1024, .inl g1_5)), (a2, .inl (cI, 1024, .inl g2_5)), (a3, .inl (cJ, 1024, .inl g3_5))]) [0, 1, 2] (by decide) rfl
  have hKc := hK.sub (tys' := [(cL, .object "LockRooms$Lock"), (cT, .object "LockRooms$Thing"), (cZ, .boolean), (cI, .int), (cJ, .int)]) [0, 1, 2, 3, 4] rfl
  have hFc := va_free (wc := [(a1, .inl (cZ, 1024, .inl g1_5)), (a2, .inl (cI, 1024, .inl g2_5)), (a3, .inl (cJ, 1024, .inl g3_5))]) hD hS hA [0, 1, 2] rfl
  refine va_callv (va_runV (As := [.ref rm, .int 1]) (rest := []) ⟨hx, hb, hml, hown, hts⟩ (cz_Qexplore l dC dI ed H6.size st a1 a2 a3 rm lk th pl gm cL fl l0 l1 cT ft t0 t1 t2 t3 t4 t5 t6 t7 t8 t9 cZ g1_5 cI g2_5 cJ g3_5 1 hkl0 hkl1 hkt0 hkt1 hkt2 hkt3 hkt4 hkt5 hkt6 hkt7 hkt8 hkt9) (cwV 2 hts gX4_findMusts_X4_explore rfl rfl rfl (by decide +kernel) ⟨Nat.le_of_ble_eq_true rfl, Nat.le_of_ble_eq_true rfl⟩) ⟨zb_blind, va_recv hK (zo_R hR0 hS hAr) (ci := 6) (q0 := 0) rfl rfl, fun U hU hW => ⟨rfl, zb_mk hU hW hPr hPc hKc hDc hN hH hS hFc (zx_cons (zx_r (hAr _ (List.mem_of_getElem? (i := 0) rfl)) hDc) (zx_cons (zx_r (hAr _ (List.mem_of_getElem? (i := 1) rfl)) hDc) (zx_cons (zx_r (hAr _ (List.mem_of_getElem? (i := 2) rfl)) hDc) (zx_cons (zx_r (hAr _ (List.mem_of_getElem? (i := 3) rfl)) hDc) (zx_cons (zx_r (hAr _ (List.mem_of_getElem? (i := 4) rfl)) hDc) (zx_cons (zx_r (hAr _ (List.mem_of_getElem? (i := 5) rfl)) hDc) (zx_cons (zx_r (hAr _ (List.mem_of_getElem? (i := 6) rfl)) hDc) (zx_cons (zx_r (hAr _ (List.mem_of_getElem? (i := 7) rfl)) hDc) (zx_cons (zx_r (hAr _ (List.mem_of_getElem? (i := 8) rfl)) hDc) (zx_cons (zx_r (hAr _ (List.mem_of_getElem? (i := 9) rfl)) hDc) (zx_cons (zx_r (hAr _ (List.mem_of_getElem? (i := 10) rfl)) hDc) (zx_cons (zx_r (hAr _ (List.mem_of_getElem? (i := 11) rfl)) hDc) (zx_cons (zx_r (hAr _ (List.mem_of_getElem? (i := 12) rfl)) hDc) (zx_cons (zx_r (hAr _ (List.mem_of_getElem? (i := 13) rfl)) hDc) (zx_cons (zx_r (hAr _ (List.mem_of_getElem? (i := 14) rfl)) hDc) (zx_cons (zx_r (hAr _ (List.mem_of_getElem? (i := 15) rfl)) hDc) zx_nil))))))))))))))))⟩⟩ rfl rfl hl.1 rfl (lv_room (Nat.le_of_ble_eq_true rfl)) dX4_findMusts_42 ⟨Nat.le_of_ble_eq_true rfl, Nat.le_of_ble_eq_true rfl⟩) hS (fun q _ h => hFc q h) hFc (fun u t H8 locs ht hvm hw hB hz1 hk1 hS => ?_)
  obtain ⟨g1_10, g2_10, g3_10, ⟨k10_0, k10_1, k10_2, k10_3, k10_4, k10_5, k10_6, k10_7⟩, hP1, hD1, hK1⟩ := hB
  rw [ht] at hP1
  obtain ⟨hP, hD⟩ := va_join (wr := []) (w1 := [(a1, .inl (cZ, 1024, .inl g1_10)), (a2, .inl (cI, 1024, .inl g2_10)), (a3, .inl (cJ, 1024, .inl g3_10))]) hP hD [0, 1, 2] [] rfl rfl (by decide) (by decide) hk1 hFc hP1 hD1
  have hP : va_P (dC, dI) vwCl [(a1, .inl (cZ, 1024, .inl g1_10)), (a2, .inl (cI, 1024, .inl g2_10)), (a3, .inl (cJ, 1024, .inl g3_10))] H8 := hP
  have hD : va_D A [(a1, .inl (cZ, 1024, .inl g1_10)), (a2, .inl (cI, 1024, .inl g2_10)), (a3, .inl (cJ, 1024, .inl g3_10))] := hD
  refine lv_aload_n hx hb dX4_findMusts_45 rfl (lv_at hl 3 rfl) ?_
  refine lv_iload_n hx hb dX4_findMusts_46 rfl (lv_at hl 2 rfl) ?_
  have hPr := (show va_P (dC, dI) vwCl [(st, .inr (6, [.ref a1, .ref a2, .ref a3])), (a3, .inl (cJ, 1024, .inl g3_10))] H8 from (zo_cons (((zo_R hR0 hS hAr)) 0 _ rfl) (zo_cons ((hP) 2 _ rfl) (zo_nil : va_P (dC, dI) vwCl [] H8))))
  have hPc := hP.sub (ws' := []) [] rfl
  have hDc := hD.sub (ws' := []) [] (by decide) rfl
  have hKc := hK.sub (tys' := [(cJ, .int)]) [4] rfl
  have hFc := va_free (wc := []) hD hS hA [] rfl
  refine va_calli (va_runV (As := [.int 0]) (rest := []) ⟨hx, hb, hml, hown, hts⟩ (cz_QyetBehind_0 l dC dI ed H8.size st a1 a2 a3 cJ g3_10 k10_4) (cwV 1 hts gX4_findMusts_X4_yetBehind rfl rfl rfl (by decide +kernel) ⟨Nat.le_of_ble_eq_true rfl, Nat.le_of_ble_eq_true rfl⟩) ⟨zb_blind, va_recv hK (zo_R hR0 hS hAr) (ci := 6) (q0 := 0) rfl rfl, fun U hU hW => ⟨rfl, zb_mk hU hW hPr hPc hKc hDc hN hH hS hFc zx_e⟩⟩ rfl rfl hl.1 rfl (lv_room (Nat.le_of_ble_eq_true rfl)) dX4_findMusts_47 ⟨Nat.le_of_ble_eq_true rfl, Nat.le_of_ble_eq_true rfl⟩) hS (fun q _ h => hFc q h) hFc (fun r12 u t H11 locs ht hvm hw hB hz1 hk1 hS => ?_)
  obtain rfl : r12 = 1 := hw
  have hP := zo_K hP hk1
  refine lv_iconst (v := (-1)) hx hb dX4_findMusts_50 (by decide) ?_
  refine lv_icmp_ne (tgt := 61) hx hb dX4_findMusts_51 (by decide) (fun _ => ?_) (fun h => absurd h (by decide))
  refine lv_iinc (v := 1) (lv' := [(4, .int 1), (3, .int 0), (2, .int 0), (0, .ref st), (1, .ref rm)]) hx hb dX4_findMusts_61 hl (k := 0) rfl (by decide) (by decide) rfl (fun ls hl => ?_)
  refine lv_goto (tgt := 27) hx hb dX4_findMusts_64 (by decide) ?_
  refine lv_iload hx hb dX4_findMusts_27 (lv_at hl 0 rfl) ?_
  refine lv_aload_n hx hb dX4_findMusts_29 rfl (lv_at hl 4 rfl) ?_
  refine va_get (D := (dC, dI)) (ci := 5) (v := .int 10) (C := RX3) (T := TX3) (N := 12) hx hb hts zi_X4_findMusts_X3 hown hK (zo_R hR0 hS hAr) 1 rfl rfl 5 (by decide) (hts (.fieldLink RX4 44 "LockRooms$Room" "thingCount" "I") (by decide +kernel)) (fun _ h9 => h9) rfl dX4_findMusts_30 ?_
  refine lv_icmp_ge (tgt := 67) hx hb dX4_findMusts_33 (by decide) (fun h => absurd h (by decide)) (fun _ => ?_)
  refine lv_aload_n hx hb dX4_findMusts_36 rfl (lv_at hl 3 rfl) ?_
  refine lv_aload_n hx hb dX4_findMusts_37 rfl (lv_at hl 4 rfl) ?_
  refine lv_iconst (v := 1) hx hb dX4_findMusts_38 (by decide) ?_
  refine lv_iload hx hb dX4_findMusts_39 (lv_at hl 0 rfl) ?_
  refine lv_ishl hx hb dX4_findMusts_41 ?_
  refine zo_i (v := 2) (by decide) ?_
  have hPr := ((zo_R hR0 hS hAr)).sub (ws' := [(st, .inr (6, [.ref a1, .ref a2, .ref a3])), (rm, .inr (5, [.ref lk, .ref th, .ref pl, .ref gm, .int 2, .int 10, .int 0, .int 0, .int 1, .int 0, .int 0, .int 0])), (lk, .inl (cL, 10, .inr (.inr (.inr (.inr fl))))), (th, .inl (cT, 12, .inr (.inr (.inr (.inr ft))))), (l0, .inr (3, [.int 0, .int 0, .int 60, .int 0, .int 0, .int 0, .int 0, .int 0, .int 0, .int 0])), (l1, .inr (3, [.int 0, .int 0, .int 60, .int 0, .int 0, .int 0, .int 0, .int 0, .int 0, .int 0])), (t0, .inr (7, [.int (-1), .int 0, .int 0, .int 0, .int 0])), (t1, .inr (7, [.int (-1), .int 0, .int 0, .int 0, .int 0])), (t2, .inr (7, [.int (-1), .int 0, .int 0, .int 0, .int 0])), (t3, .inr (7, [.int (-1), .int 0, .int 0, .int 0, .int 0])), (t4, .inr (7, [.int (-1), .int 0, .int 0, .int 0, .int 0])), (t5, .inr (7, [.int (-1), .int 0, .int 0, .int 0, .int 0])), (t6, .inr (7, [.int (-1), .int 0, .int 0, .int 0, .int 0])), (t7, .inr (7, [.int (-1), .int 0, .int 0, .int 0, .int 0])), (t8, .inr (7, [.int (-1), .int 0, .int 0, .int 0, .int 0])), (t9, .inr (7, [.int (-1), .int 0, .int 0, .int 0, .int 0]))]) [0, 1, 2, 3, 4, 5, 6, 7, 8, 9, 10, 11, 12, 13, 14, 15] rfl
  have hPc := hP.sub (ws' := [(a1, .inl (cZ, 1024, .inl g1_10)), (a2, .inl (cI, 1024, .inl g2_10)), (a3, .inl (cJ, 1024, .inl g3_10))]) [0, 1, 2] rfl
  have hDc := hD.sub (ws' := [(a1, .inl (cZ, 1024, .inl g1_10)), (a2, .inl (cI, 1024, .inl g2_10)), (a3, .inl (cJ, 1024, .inl g3_10))]) [0, 1, 2] (by decide) rfl
  have hKc := hK.sub (tys' := [(cL, .object "LockRooms$Lock"), (cT, .object "LockRooms$Thing"), (cZ, .boolean), (cI, .int), (cJ, .int)]) [0, 1, 2, 3, 4] rfl
  have hFc := va_free (wc := [(a1, .inl (cZ, 1024, .inl g1_10)), (a2, .inl (cI, 1024, .inl g2_10)), (a3, .inl (cJ, 1024, .inl g3_10))]) hD hS hA [0, 1, 2] rfl
  refine va_callv (va_runV (As := [.ref rm, .int 2]) (rest := []) ⟨hx, hb, hml, hown, hts⟩ (cz_Qexplore l dC dI ed H11.size st a1 a2 a3 rm lk th pl gm cL fl l0 l1 cT ft t0 t1 t2 t3 t4 t5 t6 t7 t8 t9 cZ g1_10 cI g2_10 cJ g3_10 2 hkl0 hkl1 hkt0 hkt1 hkt2 hkt3 hkt4 hkt5 hkt6 hkt7 hkt8 hkt9) (cwV 2 hts gX4_findMusts_X4_explore rfl rfl rfl (by decide +kernel) ⟨Nat.le_of_ble_eq_true rfl, Nat.le_of_ble_eq_true rfl⟩) ⟨zb_blind, va_recv hK (zo_R hR0 hS hAr) (ci := 6) (q0 := 0) rfl rfl, fun U hU hW => ⟨rfl, zb_mk hU hW hPr hPc hKc hDc hN hH hS hFc (zx_cons (zx_r (hAr _ (List.mem_of_getElem? (i := 0) rfl)) hDc) (zx_cons (zx_r (hAr _ (List.mem_of_getElem? (i := 1) rfl)) hDc) (zx_cons (zx_r (hAr _ (List.mem_of_getElem? (i := 2) rfl)) hDc) (zx_cons (zx_r (hAr _ (List.mem_of_getElem? (i := 3) rfl)) hDc) (zx_cons (zx_r (hAr _ (List.mem_of_getElem? (i := 4) rfl)) hDc) (zx_cons (zx_r (hAr _ (List.mem_of_getElem? (i := 5) rfl)) hDc) (zx_cons (zx_r (hAr _ (List.mem_of_getElem? (i := 6) rfl)) hDc) (zx_cons (zx_r (hAr _ (List.mem_of_getElem? (i := 7) rfl)) hDc) (zx_cons (zx_r (hAr _ (List.mem_of_getElem? (i := 8) rfl)) hDc) (zx_cons (zx_r (hAr _ (List.mem_of_getElem? (i := 9) rfl)) hDc) (zx_cons (zx_r (hAr _ (List.mem_of_getElem? (i := 10) rfl)) hDc) (zx_cons (zx_r (hAr _ (List.mem_of_getElem? (i := 11) rfl)) hDc) (zx_cons (zx_r (hAr _ (List.mem_of_getElem? (i := 12) rfl)) hDc) (zx_cons (zx_r (hAr _ (List.mem_of_getElem? (i := 13) rfl)) hDc) (zx_cons (zx_r (hAr _ (List.mem_of_getElem? (i := 14) rfl)) hDc) (zx_cons (zx_r (hAr _ (List.mem_of_getElem? (i := 15) rfl)) hDc) zx_nil))))))))))))))))⟩⟩ rfl rfl hl.1 rfl (lv_room (Nat.le_of_ble_eq_true rfl)) dX4_findMusts_42 ⟨Nat.le_of_ble_eq_true rfl, Nat.le_of_ble_eq_true rfl⟩) hS (fun q _ h => hFc q h) hFc (fun u t H13 locs ht hvm hw hB hz1 hk1 hS => ?_)
  obtain ⟨g1_15, g2_15, g3_15, ⟨k15_0, k15_1, k15_2, k15_3, k15_4, k15_5, k15_6, k15_7⟩, hP1, hD1, hK1⟩ := hB
  rw [ht] at hP1
  obtain ⟨hP, hD⟩ := va_join (wr := []) (w1 := [(a1, .inl (cZ, 1024, .inl g1_15)), (a2, .inl (cI, 1024, .inl g2_15)), (a3, .inl (cJ, 1024, .inl g3_15))]) hP hD [0, 1, 2] [] rfl rfl (by decide) (by decide) hk1 hFc hP1 hD1
  have hP : va_P (dC, dI) vwCl [(a1, .inl (cZ, 1024, .inl g1_15)), (a2, .inl (cI, 1024, .inl g2_15)), (a3, .inl (cJ, 1024, .inl g3_15))] H13 := hP
  have hD : va_D A [(a1, .inl (cZ, 1024, .inl g1_15)), (a2, .inl (cI, 1024, .inl g2_15)), (a3, .inl (cJ, 1024, .inl g3_15))] := hD
  refine lv_aload_n hx hb dX4_findMusts_45 rfl (lv_at hl 3 rfl) ?_
  refine lv_iload_n hx hb dX4_findMusts_46 rfl (lv_at hl 2 rfl) ?_
  have hPr := (show va_P (dC, dI) vwCl [(st, .inr (6, [.ref a1, .ref a2, .ref a3])), (a3, .inl (cJ, 1024, .inl g3_15))] H13 from (zo_cons (((zo_R hR0 hS hAr)) 0 _ rfl) (zo_cons ((hP) 2 _ rfl) (zo_nil : va_P (dC, dI) vwCl [] H13))))
  have hPc := hP.sub (ws' := []) [] rfl
  have hDc := hD.sub (ws' := []) [] (by decide) rfl
  have hKc := hK.sub (tys' := [(cJ, .int)]) [4] rfl
  have hFc := va_free (wc := []) hD hS hA [] rfl
  refine va_calli (va_runV (As := [.int 0]) (rest := []) ⟨hx, hb, hml, hown, hts⟩ (cz_QyetBehind_0 l dC dI ed H13.size st a1 a2 a3 cJ g3_15 k15_4) (cwV 1 hts gX4_findMusts_X4_yetBehind rfl rfl rfl (by decide +kernel) ⟨Nat.le_of_ble_eq_true rfl, Nat.le_of_ble_eq_true rfl⟩) ⟨zb_blind, va_recv hK (zo_R hR0 hS hAr) (ci := 6) (q0 := 0) rfl rfl, fun U hU hW => ⟨rfl, zb_mk hU hW hPr hPc hKc hDc hN hH hS hFc zx_e⟩⟩ rfl rfl hl.1 rfl (lv_room (Nat.le_of_ble_eq_true rfl)) dX4_findMusts_47 ⟨Nat.le_of_ble_eq_true rfl, Nat.le_of_ble_eq_true rfl⟩) hS (fun q _ h => hFc q h) hFc (fun r17 u t H16 locs ht hvm hw hB hz1 hk1 hS => ?_)
  obtain rfl : r17 = 1 := hw
  have hP := zo_K hP hk1
  refine lv_iconst (v := (-1)) hx hb dX4_findMusts_50 (by decide) ?_
  refine lv_icmp_ne (tgt := 61) hx hb dX4_findMusts_51 (by decide) (fun _ => ?_) (fun h => absurd h (by decide))
  refine lv_iinc (v := 2) (lv' := [(4, .int 2), (3, .int 0), (2, .int 0), (0, .ref st), (1, .ref rm)]) hx hb dX4_findMusts_61 hl (k := 0) rfl (by decide) (by decide) rfl (fun ls hl => ?_)
  refine lv_goto (tgt := 27) hx hb dX4_findMusts_64 (by decide) ?_
  refine lv_iload hx hb dX4_findMusts_27 (lv_at hl 0 rfl) ?_
  refine lv_aload_n hx hb dX4_findMusts_29 rfl (lv_at hl 4 rfl) ?_
  refine va_get (D := (dC, dI)) (ci := 5) (v := .int 10) (C := RX3) (T := TX3) (N := 12) hx hb hts zi_X4_findMusts_X3 hown hK (zo_R hR0 hS hAr) 1 rfl rfl 5 (by decide) (hts (.fieldLink RX4 44 "LockRooms$Room" "thingCount" "I") (by decide +kernel)) (fun _ h9 => h9) rfl dX4_findMusts_30 ?_
  refine lv_icmp_ge (tgt := 67) hx hb dX4_findMusts_33 (by decide) (fun h => absurd h (by decide)) (fun _ => ?_)
  refine lv_aload_n hx hb dX4_findMusts_36 rfl (lv_at hl 3 rfl) ?_
  refine lv_aload_n hx hb dX4_findMusts_37 rfl (lv_at hl 4 rfl) ?_
  refine lv_iconst (v := 1) hx hb dX4_findMusts_38 (by decide) ?_
  refine lv_iload hx hb dX4_findMusts_39 (lv_at hl 0 rfl) ?_
  refine lv_ishl hx hb dX4_findMusts_41 ?_
  refine zo_i (v := 4) (by decide) ?_
  have hPr := ((zo_R hR0 hS hAr)).sub (ws' := [(st, .inr (6, [.ref a1, .ref a2, .ref a3])), (rm, .inr (5, [.ref lk, .ref th, .ref pl, .ref gm, .int 2, .int 10, .int 0, .int 0, .int 1, .int 0, .int 0, .int 0])), (lk, .inl (cL, 10, .inr (.inr (.inr (.inr fl))))), (th, .inl (cT, 12, .inr (.inr (.inr (.inr ft))))), (l0, .inr (3, [.int 0, .int 0, .int 60, .int 0, .int 0, .int 0, .int 0, .int 0, .int 0, .int 0])), (l1, .inr (3, [.int 0, .int 0, .int 60, .int 0, .int 0, .int 0, .int 0, .int 0, .int 0, .int 0])), (t0, .inr (7, [.int (-1), .int 0, .int 0, .int 0, .int 0])), (t1, .inr (7, [.int (-1), .int 0, .int 0, .int 0, .int 0])), (t2, .inr (7, [.int (-1), .int 0, .int 0, .int 0, .int 0])), (t3, .inr (7, [.int (-1), .int 0, .int 0, .int 0, .int 0])), (t4, .inr (7, [.int (-1), .int 0, .int 0, .int 0, .int 0])), (t5, .inr (7, [.int (-1), .int 0, .int 0, .int 0, .int 0])), (t6, .inr (7, [.int (-1), .int 0, .int 0, .int 0, .int 0])), (t7, .inr (7, [.int (-1), .int 0, .int 0, .int 0, .int 0])), (t8, .inr (7, [.int (-1), .int 0, .int 0, .int 0, .int 0])), (t9, .inr (7, [.int (-1), .int 0, .int 0, .int 0, .int 0]))]) [0, 1, 2, 3, 4, 5, 6, 7, 8, 9, 10, 11, 12, 13, 14, 15] rfl
  have hPc := hP.sub (ws' := [(a1, .inl (cZ, 1024, .inl g1_15)), (a2, .inl (cI, 1024, .inl g2_15)), (a3, .inl (cJ, 1024, .inl g3_15))]) [0, 1, 2] rfl
  have hDc := hD.sub (ws' := [(a1, .inl (cZ, 1024, .inl g1_15)), (a2, .inl (cI, 1024, .inl g2_15)), (a3, .inl (cJ, 1024, .inl g3_15))]) [0, 1, 2] (by decide) rfl
  have hKc := hK.sub (tys' := [(cL, .object "LockRooms$Lock"), (cT, .object "LockRooms$Thing"), (cZ, .boolean), (cI, .int), (cJ, .int)]) [0, 1, 2, 3, 4] rfl
  have hFc := va_free (wc := [(a1, .inl (cZ, 1024, .inl g1_15)), (a2, .inl (cI, 1024, .inl g2_15)), (a3, .inl (cJ, 1024, .inl g3_15))]) hD hS hA [0, 1, 2] rfl
  refine va_callv (va_runV (As := [.ref rm, .int 4]) (rest := []) ⟨hx, hb, hml, hown, hts⟩ (cz_Qexplore l dC dI ed H16.size st a1 a2 a3 rm lk th pl gm cL fl l0 l1 cT ft t0 t1 t2 t3 t4 t5 t6 t7 t8 t9 cZ g1_15 cI g2_15 cJ g3_15 4 hkl0 hkl1 hkt0 hkt1 hkt2 hkt3 hkt4 hkt5 hkt6 hkt7 hkt8 hkt9) (cwV 2 hts gX4_findMusts_X4_explore rfl rfl rfl (by decide +kernel) ⟨Nat.le_of_ble_eq_true rfl, Nat.le_of_ble_eq_true rfl⟩) ⟨zb_blind, va_recv hK (zo_R hR0 hS hAr) (ci := 6) (q0 := 0) rfl rfl, fun U hU hW => ⟨rfl, zb_mk hU hW hPr hPc hKc hDc hN hH hS hFc (zx_cons (zx_r (hAr _ (List.mem_of_getElem? (i := 0) rfl)) hDc) (zx_cons (zx_r (hAr _ (List.mem_of_getElem? (i := 1) rfl)) hDc) (zx_cons (zx_r (hAr _ (List.mem_of_getElem? (i := 2) rfl)) hDc) (zx_cons (zx_r (hAr _ (List.mem_of_getElem? (i := 3) rfl)) hDc) (zx_cons (zx_r (hAr _ (List.mem_of_getElem? (i := 4) rfl)) hDc) (zx_cons (zx_r (hAr _ (List.mem_of_getElem? (i := 5) rfl)) hDc) (zx_cons (zx_r (hAr _ (List.mem_of_getElem? (i := 6) rfl)) hDc) (zx_cons (zx_r (hAr _ (List.mem_of_getElem? (i := 7) rfl)) hDc) (zx_cons (zx_r (hAr _ (List.mem_of_getElem? (i := 8) rfl)) hDc) (zx_cons (zx_r (hAr _ (List.mem_of_getElem? (i := 9) rfl)) hDc) (zx_cons (zx_r (hAr _ (List.mem_of_getElem? (i := 10) rfl)) hDc) (zx_cons (zx_r (hAr _ (List.mem_of_getElem? (i := 11) rfl)) hDc) (zx_cons (zx_r (hAr _ (List.mem_of_getElem? (i := 12) rfl)) hDc) (zx_cons (zx_r (hAr _ (List.mem_of_getElem? (i := 13) rfl)) hDc) (zx_cons (zx_r (hAr _ (List.mem_of_getElem? (i := 14) rfl)) hDc) (zx_cons (zx_r (hAr _ (List.mem_of_getElem? (i := 15) rfl)) hDc) zx_nil))))))))))))))))⟩⟩ rfl rfl hl.1 rfl (lv_room (Nat.le_of_ble_eq_true rfl)) dX4_findMusts_42 ⟨Nat.le_of_ble_eq_true rfl, Nat.le_of_ble_eq_true rfl⟩) hS (fun q _ h => hFc q h) hFc (fun u t H18 locs ht hvm hw hB hz1 hk1 hS => ?_)
  obtain ⟨g1_20, g2_20, g3_20, ⟨k20_0, k20_1, k20_2, k20_3, k20_4, k20_5, k20_6, k20_7⟩, hP1, hD1, hK1⟩ := hB
  rw [ht] at hP1
  obtain ⟨hP, hD⟩ := va_join (wr := []) (w1 := [(a1, .inl (cZ, 1024, .inl g1_20)), (a2, .inl (cI, 1024, .inl g2_20)), (a3, .inl (cJ, 1024, .inl g3_20))]) hP hD [0, 1, 2] [] rfl rfl (by decide) (by decide) hk1 hFc hP1 hD1
  have hP : va_P (dC, dI) vwCl [(a1, .inl (cZ, 1024, .inl g1_20)), (a2, .inl (cI, 1024, .inl g2_20)), (a3, .inl (cJ, 1024, .inl g3_20))] H18 := hP
  have hD : va_D A [(a1, .inl (cZ, 1024, .inl g1_20)), (a2, .inl (cI, 1024, .inl g2_20)), (a3, .inl (cJ, 1024, .inl g3_20))] := hD
  refine lv_aload_n hx hb dX4_findMusts_45 rfl (lv_at hl 3 rfl) ?_
  refine lv_iload_n hx hb dX4_findMusts_46 rfl (lv_at hl 2 rfl) ?_
  have hPr := (show va_P (dC, dI) vwCl [(st, .inr (6, [.ref a1, .ref a2, .ref a3])), (a3, .inl (cJ, 1024, .inl g3_20))] H18 from (zo_cons (((zo_R hR0 hS hAr)) 0 _ rfl) (zo_cons ((hP) 2 _ rfl) (zo_nil : va_P (dC, dI) vwCl [] H18))))
  have hPc := hP.sub (ws' := []) [] rfl
  have hDc := hD.sub (ws' := []) [] (by decide) rfl
  have hKc := hK.sub (tys' := [(cJ, .int)]) [4] rfl
  have hFc := va_free (wc := []) hD hS hA [] rfl
  refine va_calli (va_runV (As := [.int 0]) (rest := []) ⟨hx, hb, hml, hown, hts⟩ (cz_QyetBehind_0 l dC dI ed H18.size st a1 a2 a3 cJ g3_20 k20_4) (cwV 1 hts gX4_findMusts_X4_yetBehind rfl rfl rfl (by decide +kernel) ⟨Nat.le_of_ble_eq_true rfl, Nat.le_of_ble_eq_true rfl⟩) ⟨zb_blind, va_recv hK (zo_R hR0 hS hAr) (ci := 6) (q0 := 0) rfl rfl, fun U hU hW => ⟨rfl, zb_mk hU hW hPr hPc hKc hDc hN hH hS hFc zx_e⟩⟩ rfl rfl hl.1 rfl (lv_room (Nat.le_of_ble_eq_true rfl)) dX4_findMusts_47 ⟨Nat.le_of_ble_eq_true rfl, Nat.le_of_ble_eq_true rfl⟩) hS (fun q _ h => hFc q h) hFc (fun r22 u t H21 locs ht hvm hw hB hz1 hk1 hS => ?_)
  obtain rfl : r22 = 1 := hw
  have hP := zo_K hP hk1
  refine lv_iconst (v := (-1)) hx hb dX4_findMusts_50 (by decide) ?_
  refine lv_icmp_ne (tgt := 61) hx hb dX4_findMusts_51 (by decide) (fun _ => ?_) (fun h => absurd h (by decide))
  refine lv_iinc (v := 3) (lv' := [(4, .int 3), (3, .int 0), (2, .int 0), (0, .ref st), (1, .ref rm)]) hx hb dX4_findMusts_61 hl (k := 0) rfl (by decide) (by decide) rfl (fun ls hl => ?_)
  refine lv_goto (tgt := 27) hx hb dX4_findMusts_64 (by decide) ?_
  refine lv_iload hx hb dX4_findMusts_27 (lv_at hl 0 rfl) ?_
  refine lv_aload_n hx hb dX4_findMusts_29 rfl (lv_at hl 4 rfl) ?_
  refine va_get (D := (dC, dI)) (ci := 5) (v := .int 10) (C := RX3) (T := TX3) (N := 12) hx hb hts zi_X4_findMusts_X3 hown hK (zo_R hR0 hS hAr) 1 rfl rfl 5 (by decide) (hts (.fieldLink RX4 44 "LockRooms$Room" "thingCount" "I") (by decide +kernel)) (fun _ h9 => h9) rfl dX4_findMusts_30 ?_
  refine lv_icmp_ge (tgt := 67) hx hb dX4_findMusts_33 (by decide) (fun h => absurd h (by decide)) (fun _ => ?_)
  refine lv_aload_n hx hb dX4_findMusts_36 rfl (lv_at hl 3 rfl) ?_
  refine lv_aload_n hx hb dX4_findMusts_37 rfl (lv_at hl 4 rfl) ?_
  refine lv_iconst (v := 1) hx hb dX4_findMusts_38 (by decide) ?_
  refine lv_iload hx hb dX4_findMusts_39 (lv_at hl 0 rfl) ?_
  refine lv_ishl hx hb dX4_findMusts_41 ?_
  refine zo_i (v := 8) (by decide) ?_
  have hPr := ((zo_R hR0 hS hAr)).sub (ws' := [(st, .inr (6, [.ref a1, .ref a2, .ref a3])), (rm, .inr (5, [.ref lk, .ref th, .ref pl, .ref gm, .int 2, .int 10, .int 0, .int 0, .int 1, .int 0, .int 0, .int 0])), (lk, .inl (cL, 10, .inr (.inr (.inr (.inr fl))))), (th, .inl (cT, 12, .inr (.inr (.inr (.inr ft))))), (l0, .inr (3, [.int 0, .int 0, .int 60, .int 0, .int 0, .int 0, .int 0, .int 0, .int 0, .int 0])), (l1, .inr (3, [.int 0, .int 0, .int 60, .int 0, .int 0, .int 0, .int 0, .int 0, .int 0, .int 0])), (t0, .inr (7, [.int (-1), .int 0, .int 0, .int 0, .int 0])), (t1, .inr (7, [.int (-1), .int 0, .int 0, .int 0, .int 0])), (t2, .inr (7, [.int (-1), .int 0, .int 0, .int 0, .int 0])), (t3, .inr (7, [.int (-1), .int 0, .int 0, .int 0, .int 0])), (t4, .inr (7, [.int (-1), .int 0, .int 0, .int 0, .int 0])), (t5, .inr (7, [.int (-1), .int 0, .int 0, .int 0, .int 0])), (t6, .inr (7, [.int (-1), .int 0, .int 0, .int 0, .int 0])), (t7, .inr (7, [.int (-1), .int 0, .int 0, .int 0, .int 0])), (t8, .inr (7, [.int (-1), .int 0, .int 0, .int 0, .int 0])), (t9, .inr (7, [.int (-1), .int 0, .int 0, .int 0, .int 0]))]) [0, 1, 2, 3, 4, 5, 6, 7, 8, 9, 10, 11, 12, 13, 14, 15] rfl
  have hPc := hP.sub (ws' := [(a1, .inl (cZ, 1024, .inl g1_20)), (a2, .inl (cI, 1024, .inl g2_20)), (a3, .inl (cJ, 1024, .inl g3_20))]) [0, 1, 2] rfl
  have hDc := hD.sub (ws' := [(a1, .inl (cZ, 1024, .inl g1_20)), (a2, .inl (cI, 1024, .inl g2_20)), (a3, .inl (cJ, 1024, .inl g3_20))]) [0, 1, 2] (by decide) rfl
  have hKc := hK.sub (tys' := [(cL, .object "LockRooms$Lock"), (cT, .object "LockRooms$Thing"), (cZ, .boolean), (cI, .int), (cJ, .int)]) [0, 1, 2, 3, 4] rfl
  have hFc := va_free (wc := [(a1, .inl (cZ, 1024, .inl g1_20)), (a2, .inl (cI, 1024, .inl g2_20)), (a3, .inl (cJ, 1024, .inl g3_20))]) hD hS hA [0, 1, 2] rfl
  refine va_callv (va_runV (As := [.ref rm, .int 8]) (rest := []) ⟨hx, hb, hml, hown, hts⟩ (cz_Qexplore l dC dI ed H21.size st a1 a2 a3 rm lk th pl gm cL fl l0 l1 cT ft t0 t1 t2 t3 t4 t5 t6 t7 t8 t9 cZ g1_20 cI g2_20 cJ g3_20 8 hkl0 hkl1 hkt0 hkt1 hkt2 hkt3 hkt4 hkt5 hkt6 hkt7 hkt8 hkt9) (cwV 2 hts gX4_findMusts_X4_explore rfl rfl rfl (by decide +kernel) ⟨Nat.le_of_ble_eq_true rfl, Nat.le_of_ble_eq_true rfl⟩) ⟨zb_blind, va_recv hK (zo_R hR0 hS hAr) (ci := 6) (q0 := 0) rfl rfl, fun U hU hW => ⟨rfl, zb_mk hU hW hPr hPc hKc hDc hN hH hS hFc (zx_cons (zx_r (hAr _ (List.mem_of_getElem? (i := 0) rfl)) hDc) (zx_cons (zx_r (hAr _ (List.mem_of_getElem? (i := 1) rfl)) hDc) (zx_cons (zx_r (hAr _ (List.mem_of_getElem? (i := 2) rfl)) hDc) (zx_cons (zx_r (hAr _ (List.mem_of_getElem? (i := 3) rfl)) hDc) (zx_cons (zx_r (hAr _ (List.mem_of_getElem? (i := 4) rfl)) hDc) (zx_cons (zx_r (hAr _ (List.mem_of_getElem? (i := 5) rfl)) hDc) (zx_cons (zx_r (hAr _ (List.mem_of_getElem? (i := 6) rfl)) hDc) (zx_cons (zx_r (hAr _ (List.mem_of_getElem? (i := 7) rfl)) hDc) (zx_cons (zx_r (hAr _ (List.mem_of_getElem? (i := 8) rfl)) hDc) (zx_cons (zx_r (hAr _ (List.mem_of_getElem? (i := 9) rfl)) hDc) (zx_cons (zx_r (hAr _ (List.mem_of_getElem? (i := 10) rfl)) hDc) (zx_cons (zx_r (hAr _ (List.mem_of_getElem? (i := 11) rfl)) hDc) (zx_cons (zx_r (hAr _ (List.mem_of_getElem? (i := 12) rfl)) hDc) (zx_cons (zx_r (hAr _ (List.mem_of_getElem? (i := 13) rfl)) hDc) (zx_cons (zx_r (hAr _ (List.mem_of_getElem? (i := 14) rfl)) hDc) (zx_cons (zx_r (hAr _ (List.mem_of_getElem? (i := 15) rfl)) hDc) zx_nil))))))))))))))))⟩⟩ rfl rfl hl.1 rfl (lv_room (Nat.le_of_ble_eq_true rfl)) dX4_findMusts_42 ⟨Nat.le_of_ble_eq_true rfl, Nat.le_of_ble_eq_true rfl⟩) hS (fun q _ h => hFc q h) hFc (fun u t H23 locs ht hvm hw hB hz1 hk1 hS => ?_)
  obtain ⟨g1_25, g2_25, g3_25, ⟨k25_0, k25_1, k25_2, k25_3, k25_4, k25_5, k25_6, k25_7⟩, hP1, hD1, hK1⟩ := hB
  rw [ht] at hP1
  obtain ⟨hP, hD⟩ := va_join (wr := []) (w1 := [(a1, .inl (cZ, 1024, .inl g1_25)), (a2, .inl (cI, 1024, .inl g2_25)), (a3, .inl (cJ, 1024, .inl g3_25))]) hP hD [0, 1, 2] [] rfl rfl (by decide) (by decide) hk1 hFc hP1 hD1
  have hP : va_P (dC, dI) vwCl [(a1, .inl (cZ, 1024, .inl g1_25)), (a2, .inl (cI, 1024, .inl g2_25)), (a3, .inl (cJ, 1024, .inl g3_25))] H23 := hP
  have hD : va_D A [(a1, .inl (cZ, 1024, .inl g1_25)), (a2, .inl (cI, 1024, .inl g2_25)), (a3, .inl (cJ, 1024, .inl g3_25))] := hD
  refine lv_aload_n hx hb dX4_findMusts_45 rfl (lv_at hl 3 rfl) ?_
  refine lv_iload_n hx hb dX4_findMusts_46 rfl (lv_at hl 2 rfl) ?_
  have hPr := (show va_P (dC, dI) vwCl [(st, .inr (6, [.ref a1, .ref a2, .ref a3])), (a3, .inl (cJ, 1024, .inl g3_25))] H23 from (zo_cons (((zo_R hR0 hS hAr)) 0 _ rfl) (zo_cons ((hP) 2 _ rfl) (zo_nil : va_P (dC, dI) vwCl [] H23))))
  have hPc := hP.sub (ws' := []) [] rfl
  have hDc := hD.sub (ws' := []) [] (by decide) rfl
  have hKc := hK.sub (tys' := [(cJ, .int)]) [4] rfl
  have hFc := va_free (wc := []) hD hS hA [] rfl
  refine va_calli (va_runV (As := [.int 0]) (rest := []) ⟨hx, hb, hml, hown, hts⟩ (cz_QyetBehind_0 l dC dI ed H23.size st a1 a2 a3 cJ g3_25 k25_4) (cwV 1 hts gX4_findMusts_X4_yetBehind rfl rfl rfl (by decide +kernel) ⟨Nat.le_of_ble_eq_true rfl, Nat.le_of_ble_eq_true rfl⟩) ⟨zb_blind, va_recv hK (zo_R hR0 hS hAr) (ci := 6) (q0 := 0) rfl rfl, fun U hU hW => ⟨rfl, zb_mk hU hW hPr hPc hKc hDc hN hH hS hFc zx_e⟩⟩ rfl rfl hl.1 rfl (lv_room (Nat.le_of_ble_eq_true rfl)) dX4_findMusts_47 ⟨Nat.le_of_ble_eq_true rfl, Nat.le_of_ble_eq_true rfl⟩) hS (fun q _ h => hFc q h) hFc (fun r27 u t H26 locs ht hvm hw hB hz1 hk1 hS => ?_)
  obtain rfl : r27 = 1 := hw
  have hP := zo_K hP hk1
  refine lv_iconst (v := (-1)) hx hb dX4_findMusts_50 (by decide) ?_
  refine lv_icmp_ne (tgt := 61) hx hb dX4_findMusts_51 (by decide) (fun _ => ?_) (fun h => absurd h (by decide))
  refine lv_iinc (v := 4) (lv' := [(4, .int 4), (3, .int 0), (2, .int 0), (0, .ref st), (1, .ref rm)]) hx hb dX4_findMusts_61 hl (k := 0) rfl (by decide) (by decide) rfl (fun ls hl => ?_)
  refine lv_goto (tgt := 27) hx hb dX4_findMusts_64 (by decide) ?_
  refine lv_iload hx hb dX4_findMusts_27 (lv_at hl 0 rfl) ?_
  refine lv_aload_n hx hb dX4_findMusts_29 rfl (lv_at hl 4 rfl) ?_
  refine va_get (D := (dC, dI)) (ci := 5) (v := .int 10) (C := RX3) (T := TX3) (N := 12) hx hb hts zi_X4_findMusts_X3 hown hK (zo_R hR0 hS hAr) 1 rfl rfl 5 (by decide) (hts (.fieldLink RX4 44 "LockRooms$Room" "thingCount" "I") (by decide +kernel)) (fun _ h9 => h9) rfl dX4_findMusts_30 ?_
  refine lv_icmp_ge (tgt := 67) hx hb dX4_findMusts_33 (by decide) (fun h => absurd h (by decide)) (fun _ => ?_)
  refine lv_aload_n hx hb dX4_findMusts_36 rfl (lv_at hl 3 rfl) ?_
  refine lv_aload_n hx hb dX4_findMusts_37 rfl (lv_at hl 4 rfl) ?_
  refine lv_iconst (v := 1) hx hb dX4_findMusts_38 (by decide) ?_
  refine lv_iload hx hb dX4_findMusts_39 (lv_at hl 0 rfl) ?_
  refine lv_ishl hx hb dX4_findMusts_41 ?_
  refine zo_i (v := 16) (by decide) ?_
  have hPr := ((zo_R hR0 hS hAr)).sub (ws' := [(st, .inr (6, [.ref a1, .ref a2, .ref a3])), (rm, .inr (5, [.ref lk, .ref th, .ref pl, .ref gm, .int 2, .int 10, .int 0, .int 0, .int 1, .int 0, .int 0, .int 0])), (lk, .inl (cL, 10, .inr (.inr (.inr (.inr fl))))), (th, .inl (cT, 12, .inr (.inr (.inr (.inr ft))))), (l0, .inr (3, [.int 0, .int 0, .int 60, .int 0, .int 0, .int 0, .int 0, .int 0, .int 0, .int 0])), (l1, .inr (3, [.int 0, .int 0, .int 60, .int 0, .int 0, .int 0, .int 0, .int 0, .int 0, .int 0])), (t0, .inr (7, [.int (-1), .int 0, .int 0, .int 0, .int 0])), (t1, .inr (7, [.int (-1), .int 0, .int 0, .int 0, .int 0])), (t2, .inr (7, [.int (-1), .int 0, .int 0, .int 0, .int 0])), (t3, .inr (7, [.int (-1), .int 0, .int 0, .int 0, .int 0])), (t4, .inr (7, [.int (-1), .int 0, .int 0, .int 0, .int 0])), (t5, .inr (7, [.int (-1), .int 0, .int 0, .int 0, .int 0])), (t6, .inr (7, [.int (-1), .int 0, .int 0, .int 0, .int 0])), (t7, .inr (7, [.int (-1), .int 0, .int 0, .int 0, .int 0])), (t8, .inr (7, [.int (-1), .int 0, .int 0, .int 0, .int 0])), (t9, .inr (7, [.int (-1), .int 0, .int 0, .int 0, .int 0]))]) [0, 1, 2, 3, 4, 5, 6, 7, 8, 9, 10, 11, 12, 13, 14, 15] rfl
  have hPc := hP.sub (ws' := [(a1, .inl (cZ, 1024, .inl g1_25)), (a2, .inl (cI, 1024, .inl g2_25)), (a3, .inl (cJ, 1024, .inl g3_25))]) [0, 1, 2] rfl
  have hDc := hD.sub (ws' := [(a1, .inl (cZ, 1024, .inl g1_25)), (a2, .inl (cI, 1024, .inl g2_25)), (a3, .inl (cJ, 1024, .inl g3_25))]) [0, 1, 2] (by decide) rfl
  have hKc := hK.sub (tys' := [(cL, .object "LockRooms$Lock"), (cT, .object "LockRooms$Thing"), (cZ, .boolean), (cI, .int), (cJ, .int)]) [0, 1, 2, 3, 4] rfl
  have hFc := va_free (wc := [(a1, .inl (cZ, 1024, .inl g1_25)), (a2, .inl (cI, 1024, .inl g2_25)), (a3, .inl (cJ, 1024, .inl g3_25))]) hD hS hA [0, 1, 2] rfl
  refine va_callv (va_runV (As := [.ref rm, .int 16]) (rest := []) ⟨hx, hb, hml, hown, hts⟩ (cz_Qexplore l dC dI ed H26.size st a1 a2 a3 rm lk th pl gm cL fl l0 l1 cT ft t0 t1 t2 t3 t4 t5 t6 t7 t8 t9 cZ g1_25 cI g2_25 cJ g3_25 16 hkl0 hkl1 hkt0 hkt1 hkt2 hkt3 hkt4 hkt5 hkt6 hkt7 hkt8 hkt9) (cwV 2 hts gX4_findMusts_X4_explore rfl rfl rfl (by decide +kernel) ⟨Nat.le_of_ble_eq_true rfl, Nat.le_of_ble_eq_true rfl⟩) ⟨zb_blind, va_recv hK (zo_R hR0 hS hAr) (ci := 6) (q0 := 0) rfl rfl, fun U hU hW => ⟨rfl, zb_mk hU hW hPr hPc hKc hDc hN hH hS hFc (zx_cons (zx_r (hAr _ (List.mem_of_getElem? (i := 0) rfl)) hDc) (zx_cons (zx_r (hAr _ (List.mem_of_getElem? (i := 1) rfl)) hDc) (zx_cons (zx_r (hAr _ (List.mem_of_getElem? (i := 2) rfl)) hDc) (zx_cons (zx_r (hAr _ (List.mem_of_getElem? (i := 3) rfl)) hDc) (zx_cons (zx_r (hAr _ (List.mem_of_getElem? (i := 4) rfl)) hDc) (zx_cons (zx_r (hAr _ (List.mem_of_getElem? (i := 5) rfl)) hDc) (zx_cons (zx_r (hAr _ (List.mem_of_getElem? (i := 6) rfl)) hDc) (zx_cons (zx_r (hAr _ (List.mem_of_getElem? (i := 7) rfl)) hDc) (zx_cons (zx_r (hAr _ (List.mem_of_getElem? (i := 8) rfl)) hDc) (zx_cons (zx_r (hAr _ (List.mem_of_getElem? (i := 9) rfl)) hDc) (zx_cons (zx_r (hAr _ (List.mem_of_getElem? (i := 10) rfl)) hDc) (zx_cons (zx_r (hAr _ (List.mem_of_getElem? (i := 11) rfl)) hDc) (zx_cons (zx_r (hAr _ (List.mem_of_getElem? (i := 12) rfl)) hDc) (zx_cons (zx_r (hAr _ (List.mem_of_getElem? (i := 13) rfl)) hDc) (zx_cons (zx_r (hAr _ (List.mem_of_getElem? (i := 14) rfl)) hDc) (zx_cons (zx_r (hAr _ (List.mem_of_getElem? (i := 15) rfl)) hDc) zx_nil))))))))))))))))⟩⟩ rfl rfl hl.1 rfl (lv_room (Nat.le_of_ble_eq_true rfl)) dX4_findMusts_42 ⟨Nat.le_of_ble_eq_true rfl, Nat.le_of_ble_eq_true rfl⟩) hS (fun q _ h => hFc q h) hFc (fun u t H28 locs ht hvm hw hB hz1 hk1 hS => ?_)
  obtain ⟨g1_30, g2_30, g3_30, ⟨k30_0, k30_1, k30_2, k30_3, k30_4, k30_5, k30_6, k30_7⟩, hP1, hD1, hK1⟩ := hB
  rw [ht] at hP1
  obtain ⟨hP, hD⟩ := va_join (wr := []) (w1 := [(a1, .inl (cZ, 1024, .inl g1_30)), (a2, .inl (cI, 1024, .inl g2_30)), (a3, .inl (cJ, 1024, .inl g3_30))]) hP hD [0, 1, 2] [] rfl rfl (by decide) (by decide) hk1 hFc hP1 hD1
  have hP : va_P (dC, dI) vwCl [(a1, .inl (cZ, 1024, .inl g1_30)), (a2, .inl (cI, 1024, .inl g2_30)), (a3, .inl (cJ, 1024, .inl g3_30))] H28 := hP
  have hD : va_D A [(a1, .inl (cZ, 1024, .inl g1_30)), (a2, .inl (cI, 1024, .inl g2_30)), (a3, .inl (cJ, 1024, .inl g3_30))] := hD
  refine lv_aload_n hx hb dX4_findMusts_45 rfl (lv_at hl 3 rfl) ?_
  refine lv_iload_n hx hb dX4_findMusts_46 rfl (lv_at hl 2 rfl) ?_
  have hPr := (show va_P (dC, dI) vwCl [(st, .inr (6, [.ref a1, .ref a2, .ref a3])), (a3, .inl (cJ, 1024, .inl g3_30))] H28 from (zo_cons (((zo_R hR0 hS hAr)) 0 _ rfl) (zo_cons ((hP) 2 _ rfl) (zo_nil : va_P (dC, dI) vwCl [] H28))))
  have hPc := hP.sub (ws' := []) [] rfl
  have hDc := hD.sub (ws' := []) [] (by decide) rfl
  have hKc := hK.sub (tys' := [(cJ, .int)]) [4] rfl
  have hFc := va_free (wc := []) hD hS hA [] rfl
  refine va_calli (va_runV (As := [.int 0]) (rest := []) ⟨hx, hb, hml, hown, hts⟩ (cz_QyetBehind_0 l dC dI ed H28.size st a1 a2 a3 cJ g3_30 k30_4) (cwV 1 hts gX4_findMusts_X4_yetBehind rfl rfl rfl (by decide +kernel) ⟨Nat.le_of_ble_eq_true rfl, Nat.le_of_ble_eq_true rfl⟩) ⟨zb_blind, va_recv hK (zo_R hR0 hS hAr) (ci := 6) (q0 := 0) rfl rfl, fun U hU hW => ⟨rfl, zb_mk hU hW hPr hPc hKc hDc hN hH hS hFc zx_e⟩⟩ rfl rfl hl.1 rfl (lv_room (Nat.le_of_ble_eq_true rfl)) dX4_findMusts_47 ⟨Nat.le_of_ble_eq_true rfl, Nat.le_of_ble_eq_true rfl⟩) hS (fun q _ h => hFc q h) hFc (fun r32 u t H31 locs ht hvm hw hB hz1 hk1 hS => ?_)
  obtain rfl : r32 = 1 := hw
  have hP := zo_K hP hk1
  refine lv_iconst (v := (-1)) hx hb dX4_findMusts_50 (by decide) ?_
  refine lv_icmp_ne (tgt := 61) hx hb dX4_findMusts_51 (by decide) (fun _ => ?_) (fun h => absurd h (by decide))
  refine lv_iinc (v := 5) (lv' := [(4, .int 5), (3, .int 0), (2, .int 0), (0, .ref st), (1, .ref rm)]) hx hb dX4_findMusts_61 hl (k := 0) rfl (by decide) (by decide) rfl (fun ls hl => ?_)
  refine lv_goto (tgt := 27) hx hb dX4_findMusts_64 (by decide) ?_
  refine lv_iload hx hb dX4_findMusts_27 (lv_at hl 0 rfl) ?_
  refine lv_aload_n hx hb dX4_findMusts_29 rfl (lv_at hl 4 rfl) ?_
  refine va_get (D := (dC, dI)) (ci := 5) (v := .int 10) (C := RX3) (T := TX3) (N := 12) hx hb hts zi_X4_findMusts_X3 hown hK (zo_R hR0 hS hAr) 1 rfl rfl 5 (by decide) (hts (.fieldLink RX4 44 "LockRooms$Room" "thingCount" "I") (by decide +kernel)) (fun _ h9 => h9) rfl dX4_findMusts_30 ?_
  refine lv_icmp_ge (tgt := 67) hx hb dX4_findMusts_33 (by decide) (fun h => absurd h (by decide)) (fun _ => ?_)
  refine lv_aload_n hx hb dX4_findMusts_36 rfl (lv_at hl 3 rfl) ?_
  refine lv_aload_n hx hb dX4_findMusts_37 rfl (lv_at hl 4 rfl) ?_
  refine lv_iconst (v := 1) hx hb dX4_findMusts_38 (by decide) ?_
  refine lv_iload hx hb dX4_findMusts_39 (lv_at hl 0 rfl) ?_
  refine lv_ishl hx hb dX4_findMusts_41 ?_
  refine zo_i (v := 32) (by decide) ?_
  have hPr := ((zo_R hR0 hS hAr)).sub (ws' := [(st, .inr (6, [.ref a1, .ref a2, .ref a3])), (rm, .inr (5, [.ref lk, .ref th, .ref pl, .ref gm, .int 2, .int 10, .int 0, .int 0, .int 1, .int 0, .int 0, .int 0])), (lk, .inl (cL, 10, .inr (.inr (.inr (.inr fl))))), (th, .inl (cT, 12, .inr (.inr (.inr (.inr ft))))), (l0, .inr (3, [.int 0, .int 0, .int 60, .int 0, .int 0, .int 0, .int 0, .int 0, .int 0, .int 0])), (l1, .inr (3, [.int 0, .int 0, .int 60, .int 0, .int 0, .int 0, .int 0, .int 0, .int 0, .int 0])), (t0, .inr (7, [.int (-1), .int 0, .int 0, .int 0, .int 0])), (t1, .inr (7, [.int (-1), .int 0, .int 0, .int 0, .int 0])), (t2, .inr (7, [.int (-1), .int 0, .int 0, .int 0, .int 0])), (t3, .inr (7, [.int (-1), .int 0, .int 0, .int 0, .int 0])), (t4, .inr (7, [.int (-1), .int 0, .int 0, .int 0, .int 0])), (t5, .inr (7, [.int (-1), .int 0, .int 0, .int 0, .int 0])), (t6, .inr (7, [.int (-1), .int 0, .int 0, .int 0, .int 0])), (t7, .inr (7, [.int (-1), .int 0, .int 0, .int 0, .int 0])), (t8, .inr (7, [.int (-1), .int 0, .int 0, .int 0, .int 0])), (t9, .inr (7, [.int (-1), .int 0, .int 0, .int 0, .int 0]))]) [0, 1, 2, 3, 4, 5, 6, 7, 8, 9, 10, 11, 12, 13, 14, 15] rfl
  have hPc := hP.sub (ws' := [(a1, .inl (cZ, 1024, .inl g1_30)), (a2, .inl (cI, 1024, .inl g2_30)), (a3, .inl (cJ, 1024, .inl g3_30))]) [0, 1, 2] rfl
  have hDc := hD.sub (ws' := [(a1, .inl (cZ, 1024, .inl g1_30)), (a2, .inl (cI, 1024, .inl g2_30)), (a3, .inl (cJ, 1024, .inl g3_30))]) [0, 1, 2] (by decide) rfl
  have hKc := hK.sub (tys' := [(cL, .object "LockRooms$Lock"), (cT, .object "LockRooms$Thing"), (cZ, .boolean), (cI, .int), (cJ, .int)]) [0, 1, 2, 3, 4] rfl
  have hFc := va_free (wc := [(a1, .inl (cZ, 1024, .inl g1_30)), (a2, .inl (cI, 1024, .inl g2_30)), (a3, .inl (cJ, 1024, .inl g3_30))]) hD hS hA [0, 1, 2] rfl
  refine va_callv (va_runV (As := [.ref rm, .int 32]) (rest := []) ⟨hx, hb, hml, hown, hts⟩ (cz_Qexplore l dC dI ed H31.size st a1 a2 a3 rm lk th pl gm cL fl l0 l1 cT ft t0 t1 t2 t3 t4 t5 t6 t7 t8 t9 cZ g1_30 cI g2_30 cJ g3_30 32 hkl0 hkl1 hkt0 hkt1 hkt2 hkt3 hkt4 hkt5 hkt6 hkt7 hkt8 hkt9) (cwV 2 hts gX4_findMusts_X4_explore rfl rfl rfl (by decide +kernel) ⟨Nat.le_of_ble_eq_true rfl, Nat.le_of_ble_eq_true rfl⟩) ⟨zb_blind, va_recv hK (zo_R hR0 hS hAr) (ci := 6) (q0 := 0) rfl rfl, fun U hU hW => ⟨rfl, zb_mk hU hW hPr hPc hKc hDc hN hH hS hFc (zx_cons (zx_r (hAr _ (List.mem_of_getElem? (i := 0) rfl)) hDc) (zx_cons (zx_r (hAr _ (List.mem_of_getElem? (i := 1) rfl)) hDc) (zx_cons (zx_r (hAr _ (List.mem_of_getElem? (i := 2) rfl)) hDc) (zx_cons (zx_r (hAr _ (List.mem_of_getElem? (i := 3) rfl)) hDc) (zx_cons (zx_r (hAr _ (List.mem_of_getElem? (i := 4) rfl)) hDc) (zx_cons (zx_r (hAr _ (List.mem_of_getElem? (i := 5) rfl)) hDc) (zx_cons (zx_r (hAr _ (List.mem_of_getElem? (i := 6) rfl)) hDc) (zx_cons (zx_r (hAr _ (List.mem_of_getElem? (i := 7) rfl)) hDc) (zx_cons (zx_r (hAr _ (List.mem_of_getElem? (i := 8) rfl)) hDc) (zx_cons (zx_r (hAr _ (List.mem_of_getElem? (i := 9) rfl)) hDc) (zx_cons (zx_r (hAr _ (List.mem_of_getElem? (i := 10) rfl)) hDc) (zx_cons (zx_r (hAr _ (List.mem_of_getElem? (i := 11) rfl)) hDc) (zx_cons (zx_r (hAr _ (List.mem_of_getElem? (i := 12) rfl)) hDc) (zx_cons (zx_r (hAr _ (List.mem_of_getElem? (i := 13) rfl)) hDc) (zx_cons (zx_r (hAr _ (List.mem_of_getElem? (i := 14) rfl)) hDc) (zx_cons (zx_r (hAr _ (List.mem_of_getElem? (i := 15) rfl)) hDc) zx_nil))))))))))))))))⟩⟩ rfl rfl hl.1 rfl (lv_room (Nat.le_of_ble_eq_true rfl)) dX4_findMusts_42 ⟨Nat.le_of_ble_eq_true rfl, Nat.le_of_ble_eq_true rfl⟩) hS (fun q _ h => hFc q h) hFc (fun u t H33 locs ht hvm hw hB hz1 hk1 hS => ?_)
  obtain ⟨g1_35, g2_35, g3_35, ⟨k35_0, k35_1, k35_2, k35_3, k35_4, k35_5, k35_6, k35_7⟩, hP1, hD1, hK1⟩ := hB
  rw [ht] at hP1
  obtain ⟨hP, hD⟩ := va_join (wr := []) (w1 := [(a1, .inl (cZ, 1024, .inl g1_35)), (a2, .inl (cI, 1024, .inl g2_35)), (a3, .inl (cJ, 1024, .inl g3_35))]) hP hD [0, 1, 2] [] rfl rfl (by decide) (by decide) hk1 hFc hP1 hD1
  have hP : va_P (dC, dI) vwCl [(a1, .inl (cZ, 1024, .inl g1_35)), (a2, .inl (cI, 1024, .inl g2_35)), (a3, .inl (cJ, 1024, .inl g3_35))] H33 := hP
  have hD : va_D A [(a1, .inl (cZ, 1024, .inl g1_35)), (a2, .inl (cI, 1024, .inl g2_35)), (a3, .inl (cJ, 1024, .inl g3_35))] := hD
  refine lv_aload_n hx hb dX4_findMusts_45 rfl (lv_at hl 3 rfl) ?_
  refine lv_iload_n hx hb dX4_findMusts_46 rfl (lv_at hl 2 rfl) ?_
  have hPr := (show va_P (dC, dI) vwCl [(st, .inr (6, [.ref a1, .ref a2, .ref a3])), (a3, .inl (cJ, 1024, .inl g3_35))] H33 from (zo_cons (((zo_R hR0 hS hAr)) 0 _ rfl) (zo_cons ((hP) 2 _ rfl) (zo_nil : va_P (dC, dI) vwCl [] H33))))
  have hPc := hP.sub (ws' := []) [] rfl
  have hDc := hD.sub (ws' := []) [] (by decide) rfl
  have hKc := hK.sub (tys' := [(cJ, .int)]) [4] rfl
  have hFc := va_free (wc := []) hD hS hA [] rfl
  refine va_calli (va_runV (As := [.int 0]) (rest := []) ⟨hx, hb, hml, hown, hts⟩ (cz_QyetBehind_0 l dC dI ed H33.size st a1 a2 a3 cJ g3_35 k35_4) (cwV 1 hts gX4_findMusts_X4_yetBehind rfl rfl rfl (by decide +kernel) ⟨Nat.le_of_ble_eq_true rfl, Nat.le_of_ble_eq_true rfl⟩) ⟨zb_blind, va_recv hK (zo_R hR0 hS hAr) (ci := 6) (q0 := 0) rfl rfl, fun U hU hW => ⟨rfl, zb_mk hU hW hPr hPc hKc hDc hN hH hS hFc zx_e⟩⟩ rfl rfl hl.1 rfl (lv_room (Nat.le_of_ble_eq_true rfl)) dX4_findMusts_47 ⟨Nat.le_of_ble_eq_true rfl, Nat.le_of_ble_eq_true rfl⟩) hS (fun q _ h => hFc q h) hFc (fun r37 u t H36 locs ht hvm hw hB hz1 hk1 hS => ?_)
  obtain rfl : r37 = 1 := hw
  have hP := zo_K hP hk1
  refine lv_iconst (v := (-1)) hx hb dX4_findMusts_50 (by decide) ?_
  refine lv_icmp_ne (tgt := 61) hx hb dX4_findMusts_51 (by decide) (fun _ => ?_) (fun h => absurd h (by decide))
  refine lv_iinc (v := 6) (lv' := [(4, .int 6), (3, .int 0), (2, .int 0), (0, .ref st), (1, .ref rm)]) hx hb dX4_findMusts_61 hl (k := 0) rfl (by decide) (by decide) rfl (fun ls hl => ?_)
  refine lv_goto (tgt := 27) hx hb dX4_findMusts_64 (by decide) ?_
  refine lv_iload hx hb dX4_findMusts_27 (lv_at hl 0 rfl) ?_
  refine lv_aload_n hx hb dX4_findMusts_29 rfl (lv_at hl 4 rfl) ?_
  refine va_get (D := (dC, dI)) (ci := 5) (v := .int 10) (C := RX3) (T := TX3) (N := 12) hx hb hts zi_X4_findMusts_X3 hown hK (zo_R hR0 hS hAr) 1 rfl rfl 5 (by decide) (hts (.fieldLink RX4 44 "LockRooms$Room" "thingCount" "I") (by decide +kernel)) (fun _ h9 => h9) rfl dX4_findMusts_30 ?_
  refine lv_icmp_ge (tgt := 67) hx hb dX4_findMusts_33 (by decide) (fun h => absurd h (by decide)) (fun _ => ?_)
  refine lv_aload_n hx hb dX4_findMusts_36 rfl (lv_at hl 3 rfl) ?_
  refine lv_aload_n hx hb dX4_findMusts_37 rfl (lv_at hl 4 rfl) ?_
  refine lv_iconst (v := 1) hx hb dX4_findMusts_38 (by decide) ?_
  refine lv_iload hx hb dX4_findMusts_39 (lv_at hl 0 rfl) ?_
  refine lv_ishl hx hb dX4_findMusts_41 ?_
  refine zo_i (v := 64) (by decide) ?_
  have hPr := ((zo_R hR0 hS hAr)).sub (ws' := [(st, .inr (6, [.ref a1, .ref a2, .ref a3])), (rm, .inr (5, [.ref lk, .ref th, .ref pl, .ref gm, .int 2, .int 10, .int 0, .int 0, .int 1, .int 0, .int 0, .int 0])), (lk, .inl (cL, 10, .inr (.inr (.inr (.inr fl))))), (th, .inl (cT, 12, .inr (.inr (.inr (.inr ft))))), (l0, .inr (3, [.int 0, .int 0, .int 60, .int 0, .int 0, .int 0, .int 0, .int 0, .int 0, .int 0])), (l1, .inr (3, [.int 0, .int 0, .int 60, .int 0, .int 0, .int 0, .int 0, .int 0, .int 0, .int 0])), (t0, .inr (7, [.int (-1), .int 0, .int 0, .int 0, .int 0])), (t1, .inr (7, [.int (-1), .int 0, .int 0, .int 0, .int 0])), (t2, .inr (7, [.int (-1), .int 0, .int 0, .int 0, .int 0])), (t3, .inr (7, [.int (-1), .int 0, .int 0, .int 0, .int 0])), (t4, .inr (7, [.int (-1), .int 0, .int 0, .int 0, .int 0])), (t5, .inr (7, [.int (-1), .int 0, .int 0, .int 0, .int 0])), (t6, .inr (7, [.int (-1), .int 0, .int 0, .int 0, .int 0])), (t7, .inr (7, [.int (-1), .int 0, .int 0, .int 0, .int 0])), (t8, .inr (7, [.int (-1), .int 0, .int 0, .int 0, .int 0])), (t9, .inr (7, [.int (-1), .int 0, .int 0, .int 0, .int 0]))]) [0, 1, 2, 3, 4, 5, 6, 7, 8, 9, 10, 11, 12, 13, 14, 15] rfl
  have hPc := hP.sub (ws' := [(a1, .inl (cZ, 1024, .inl g1_35)), (a2, .inl (cI, 1024, .inl g2_35)), (a3, .inl (cJ, 1024, .inl g3_35))]) [0, 1, 2] rfl
  have hDc := hD.sub (ws' := [(a1, .inl (cZ, 1024, .inl g1_35)), (a2, .inl (cI, 1024, .inl g2_35)), (a3, .inl (cJ, 1024, .inl g3_35))]) [0, 1, 2] (by decide) rfl
  have hKc := hK.sub (tys' := [(cL, .object "LockRooms$Lock"), (cT, .object "LockRooms$Thing"), (cZ, .boolean), (cI, .int), (cJ, .int)]) [0, 1, 2, 3, 4] rfl
  have hFc := va_free (wc := [(a1, .inl (cZ, 1024, .inl g1_35)), (a2, .inl (cI, 1024, .inl g2_35)), (a3, .inl (cJ, 1024, .inl g3_35))]) hD hS hA [0, 1, 2] rfl
  refine va_callv (va_runV (As := [.ref rm, .int 64]) (rest := []) ⟨hx, hb, hml, hown, hts⟩ (cz_Qexplore l dC dI ed H36.size st a1 a2 a3 rm lk th pl gm cL fl l0 l1 cT ft t0 t1 t2 t3 t4 t5 t6 t7 t8 t9 cZ g1_35 cI g2_35 cJ g3_35 64 hkl0 hkl1 hkt0 hkt1 hkt2 hkt3 hkt4 hkt5 hkt6 hkt7 hkt8 hkt9) (cwV 2 hts gX4_findMusts_X4_explore rfl rfl rfl (by decide +kernel) ⟨Nat.le_of_ble_eq_true rfl, Nat.le_of_ble_eq_true rfl⟩) ⟨zb_blind, va_recv hK (zo_R hR0 hS hAr) (ci := 6) (q0 := 0) rfl rfl, fun U hU hW => ⟨rfl, zb_mk hU hW hPr hPc hKc hDc hN hH hS hFc (zx_cons (zx_r (hAr _ (List.mem_of_getElem? (i := 0) rfl)) hDc) (zx_cons (zx_r (hAr _ (List.mem_of_getElem? (i := 1) rfl)) hDc) (zx_cons (zx_r (hAr _ (List.mem_of_getElem? (i := 2) rfl)) hDc) (zx_cons (zx_r (hAr _ (List.mem_of_getElem? (i := 3) rfl)) hDc) (zx_cons (zx_r (hAr _ (List.mem_of_getElem? (i := 4) rfl)) hDc) (zx_cons (zx_r (hAr _ (List.mem_of_getElem? (i := 5) rfl)) hDc) (zx_cons (zx_r (hAr _ (List.mem_of_getElem? (i := 6) rfl)) hDc) (zx_cons (zx_r (hAr _ (List.mem_of_getElem? (i := 7) rfl)) hDc) (zx_cons (zx_r (hAr _ (List.mem_of_getElem? (i := 8) rfl)) hDc) (zx_cons (zx_r (hAr _ (List.mem_of_getElem? (i := 9) rfl)) hDc) (zx_cons (zx_r (hAr _ (List.mem_of_getElem? (i := 10) rfl)) hDc) (zx_cons (zx_r (hAr _ (List.mem_of_getElem? (i := 11) rfl)) hDc) (zx_cons (zx_r (hAr _ (List.mem_of_getElem? (i := 12) rfl)) hDc) (zx_cons (zx_r (hAr _ (List.mem_of_getElem? (i := 13) rfl)) hDc) (zx_cons (zx_r (hAr _ (List.mem_of_getElem? (i := 14) rfl)) hDc) (zx_cons (zx_r (hAr _ (List.mem_of_getElem? (i := 15) rfl)) hDc) zx_nil))))))))))))))))⟩⟩ rfl rfl hl.1 rfl (lv_room (Nat.le_of_ble_eq_true rfl)) dX4_findMusts_42 ⟨Nat.le_of_ble_eq_true rfl, Nat.le_of_ble_eq_true rfl⟩) hS (fun q _ h => hFc q h) hFc (fun u t H38 locs ht hvm hw hB hz1 hk1 hS => ?_)
  obtain ⟨g1_40, g2_40, g3_40, ⟨k40_0, k40_1, k40_2, k40_3, k40_4, k40_5, k40_6, k40_7⟩, hP1, hD1, hK1⟩ := hB
  rw [ht] at hP1
  obtain ⟨hP, hD⟩ := va_join (wr := []) (w1 := [(a1, .inl (cZ, 1024, .inl g1_40)), (a2, .inl (cI, 1024, .inl g2_40)), (a3, .inl (cJ, 1024, .inl g3_40))]) hP hD [0, 1, 2] [] rfl rfl (by decide) (by decide) hk1 hFc hP1 hD1
  have hP : va_P (dC, dI) vwCl [(a1, .inl (cZ, 1024, .inl g1_40)), (a2, .inl (cI, 1024, .inl g2_40)), (a3, .inl (cJ, 1024, .inl g3_40))] H38 := hP
  have hD : va_D A [(a1, .inl (cZ, 1024, .inl g1_40)), (a2, .inl (cI, 1024, .inl g2_40)), (a3, .inl (cJ, 1024, .inl g3_40))] := hD
  refine lv_aload_n hx hb dX4_findMusts_45 rfl (lv_at hl 3 rfl) ?_
  refine lv_iload_n hx hb dX4_findMusts_46 rfl (lv_at hl 2 rfl) ?_
  have hPr := (show va_P (dC, dI) vwCl [(st, .inr (6, [.ref a1, .ref a2, .ref a3])), (a3, .inl (cJ, 1024, .inl g3_40))] H38 from (zo_cons (((zo_R hR0 hS hAr)) 0 _ rfl) (zo_cons ((hP) 2 _ rfl) (zo_nil : va_P (dC, dI) vwCl [] H38))))
  have hPc := hP.sub (ws' := []) [] rfl
  have hDc := hD.sub (ws' := []) [] (by decide) rfl
  have hKc := hK.sub (tys' := [(cJ, .int)]) [4] rfl
  have hFc := va_free (wc := []) hD hS hA [] rfl
  refine va_calli (va_runV (As := [.int 0]) (rest := []) ⟨hx, hb, hml, hown, hts⟩ (cz_QyetBehind_0 l dC dI ed H38.size st a1 a2 a3 cJ g3_40 k40_4) (cwV 1 hts gX4_findMusts_X4_yetBehind rfl rfl rfl (by decide +kernel) ⟨Nat.le_of_ble_eq_true rfl, Nat.le_of_ble_eq_true rfl⟩) ⟨zb_blind, va_recv hK (zo_R hR0 hS hAr) (ci := 6) (q0 := 0) rfl rfl, fun U hU hW => ⟨rfl, zb_mk hU hW hPr hPc hKc hDc hN hH hS hFc zx_e⟩⟩ rfl rfl hl.1 rfl (lv_room (Nat.le_of_ble_eq_true rfl)) dX4_findMusts_47 ⟨Nat.le_of_ble_eq_true rfl, Nat.le_of_ble_eq_true rfl⟩) hS (fun q _ h => hFc q h) hFc (fun r42 u t H41 locs ht hvm hw hB hz1 hk1 hS => ?_)
  obtain rfl : r42 = 1 := hw
  have hP := zo_K hP hk1
  refine lv_iconst (v := (-1)) hx hb dX4_findMusts_50 (by decide) ?_
  refine lv_icmp_ne (tgt := 61) hx hb dX4_findMusts_51 (by decide) (fun _ => ?_) (fun h => absurd h (by decide))
  refine lv_iinc (v := 7) (lv' := [(4, .int 7), (3, .int 0), (2, .int 0), (0, .ref st), (1, .ref rm)]) hx hb dX4_findMusts_61 hl (k := 0) rfl (by decide) (by decide) rfl (fun ls hl => ?_)
  refine lv_goto (tgt := 27) hx hb dX4_findMusts_64 (by decide) ?_
  refine lv_iload hx hb dX4_findMusts_27 (lv_at hl 0 rfl) ?_
  refine lv_aload_n hx hb dX4_findMusts_29 rfl (lv_at hl 4 rfl) ?_
  refine va_get (D := (dC, dI)) (ci := 5) (v := .int 10) (C := RX3) (T := TX3) (N := 12) hx hb hts zi_X4_findMusts_X3 hown hK (zo_R hR0 hS hAr) 1 rfl rfl 5 (by decide) (hts (.fieldLink RX4 44 "LockRooms$Room" "thingCount" "I") (by decide +kernel)) (fun _ h9 => h9) rfl dX4_findMusts_30 ?_
  refine lv_icmp_ge (tgt := 67) hx hb dX4_findMusts_33 (by decide) (fun h => absurd h (by decide)) (fun _ => ?_)
  refine lv_aload_n hx hb dX4_findMusts_36 rfl (lv_at hl 3 rfl) ?_
  refine lv_aload_n hx hb dX4_findMusts_37 rfl (lv_at hl 4 rfl) ?_
  refine lv_iconst (v := 1) hx hb dX4_findMusts_38 (by decide) ?_
  refine lv_iload hx hb dX4_findMusts_39 (lv_at hl 0 rfl) ?_
  refine lv_ishl hx hb dX4_findMusts_41 ?_
  refine zo_i (v := 128) (by decide) ?_
  have hPr := ((zo_R hR0 hS hAr)).sub (ws' := [(st, .inr (6, [.ref a1, .ref a2, .ref a3])), (rm, .inr (5, [.ref lk, .ref th, .ref pl, .ref gm, .int 2, .int 10, .int 0, .int 0, .int 1, .int 0, .int 0, .int 0])), (lk, .inl (cL, 10, .inr (.inr (.inr (.inr fl))))), (th, .inl (cT, 12, .inr (.inr (.inr (.inr ft))))), (l0, .inr (3, [.int 0, .int 0, .int 60, .int 0, .int 0, .int 0, .int 0, .int 0, .int 0, .int 0])), (l1, .inr (3, [.int 0, .int 0, .int 60, .int 0, .int 0, .int 0, .int 0, .int 0, .int 0, .int 0])), (t0, .inr (7, [.int (-1), .int 0, .int 0, .int 0, .int 0])), (t1, .inr (7, [.int (-1), .int 0, .int 0, .int 0, .int 0])), (t2, .inr (7, [.int (-1), .int 0, .int 0, .int 0, .int 0])), (t3, .inr (7, [.int (-1), .int 0, .int 0, .int 0, .int 0])), (t4, .inr (7, [.int (-1), .int 0, .int 0, .int 0, .int 0])), (t5, .inr (7, [.int (-1), .int 0, .int 0, .int 0, .int 0])), (t6, .inr (7, [.int (-1), .int 0, .int 0, .int 0, .int 0])), (t7, .inr (7, [.int (-1), .int 0, .int 0, .int 0, .int 0])), (t8, .inr (7, [.int (-1), .int 0, .int 0, .int 0, .int 0])), (t9, .inr (7, [.int (-1), .int 0, .int 0, .int 0, .int 0]))]) [0, 1, 2, 3, 4, 5, 6, 7, 8, 9, 10, 11, 12, 13, 14, 15] rfl
  have hPc := hP.sub (ws' := [(a1, .inl (cZ, 1024, .inl g1_40)), (a2, .inl (cI, 1024, .inl g2_40)), (a3, .inl (cJ, 1024, .inl g3_40))]) [0, 1, 2] rfl
  have hDc := hD.sub (ws' := [(a1, .inl (cZ, 1024, .inl g1_40)), (a2, .inl (cI, 1024, .inl g2_40)), (a3, .inl (cJ, 1024, .inl g3_40))]) [0, 1, 2] (by decide) rfl
  have hKc := hK.sub (tys' := [(cL, .object "LockRooms$Lock"), (cT, .object "LockRooms$Thing"), (cZ, .boolean), (cI, .int), (cJ, .int)]) [0, 1, 2, 3, 4] rfl
  have hFc := va_free (wc := [(a1, .inl (cZ, 1024, .inl g1_40)), (a2, .inl (cI, 1024, .inl g2_40)), (a3, .inl (cJ, 1024, .inl g3_40))]) hD hS hA [0, 1, 2] rfl
  refine va_callv (va_runV (As := [.ref rm, .int 128]) (rest := []) ⟨hx, hb, hml, hown, hts⟩ (cz_Qexplore l dC dI ed H41.size st a1 a2 a3 rm lk th pl gm cL fl l0 l1 cT ft t0 t1 t2 t3 t4 t5 t6 t7 t8 t9 cZ g1_40 cI g2_40 cJ g3_40 128 hkl0 hkl1 hkt0 hkt1 hkt2 hkt3 hkt4 hkt5 hkt6 hkt7 hkt8 hkt9) (cwV 2 hts gX4_findMusts_X4_explore rfl rfl rfl (by decide +kernel) ⟨Nat.le_of_ble_eq_true rfl, Nat.le_of_ble_eq_true rfl⟩) ⟨zb_blind, va_recv hK (zo_R hR0 hS hAr) (ci := 6) (q0 := 0) rfl rfl, fun U hU hW => ⟨rfl, zb_mk hU hW hPr hPc hKc hDc hN hH hS hFc (zx_cons (zx_r (hAr _ (List.mem_of_getElem? (i := 0) rfl)) hDc) (zx_cons (zx_r (hAr _ (List.mem_of_getElem? (i := 1) rfl)) hDc) (zx_cons (zx_r (hAr _ (List.mem_of_getElem? (i := 2) rfl)) hDc) (zx_cons (zx_r (hAr _ (List.mem_of_getElem? (i := 3) rfl)) hDc) (zx_cons (zx_r (hAr _ (List.mem_of_getElem? (i := 4) rfl)) hDc) (zx_cons (zx_r (hAr _ (List.mem_of_getElem? (i := 5) rfl)) hDc) (zx_cons (zx_r (hAr _ (List.mem_of_getElem? (i := 6) rfl)) hDc) (zx_cons (zx_r (hAr _ (List.mem_of_getElem? (i := 7) rfl)) hDc) (zx_cons (zx_r (hAr _ (List.mem_of_getElem? (i := 8) rfl)) hDc) (zx_cons (zx_r (hAr _ (List.mem_of_getElem? (i := 9) rfl)) hDc) (zx_cons (zx_r (hAr _ (List.mem_of_getElem? (i := 10) rfl)) hDc) (zx_cons (zx_r (hAr _ (List.mem_of_getElem? (i := 11) rfl)) hDc) (zx_cons (zx_r (hAr _ (List.mem_of_getElem? (i := 12) rfl)) hDc) (zx_cons (zx_r (hAr _ (List.mem_of_getElem? (i := 13) rfl)) hDc) (zx_cons (zx_r (hAr _ (List.mem_of_getElem? (i := 14) rfl)) hDc) (zx_cons (zx_r (hAr _ (List.mem_of_getElem? (i := 15) rfl)) hDc) zx_nil))))))))))))))))⟩⟩ rfl rfl hl.1 rfl (lv_room (Nat.le_of_ble_eq_true rfl)) dX4_findMusts_42 ⟨Nat.le_of_ble_eq_true rfl, Nat.le_of_ble_eq_true rfl⟩) hS (fun q _ h => hFc q h) hFc (fun u t H43 locs ht hvm hw hB hz1 hk1 hS => ?_)
  obtain ⟨g1_45, g2_45, g3_45, ⟨k45_0, k45_1, k45_2, k45_3, k45_4, k45_5, k45_6, k45_7⟩, hP1, hD1, hK1⟩ := hB
  rw [ht] at hP1
  obtain ⟨hP, hD⟩ := va_join (wr := []) (w1 := [(a1, .inl (cZ, 1024, .inl g1_45)), (a2, .inl (cI, 1024, .inl g2_45)), (a3, .inl (cJ, 1024, .inl g3_45))]) hP hD [0, 1, 2] [] rfl rfl (by decide) (by decide) hk1 hFc hP1 hD1
  have hP : va_P (dC, dI) vwCl [(a1, .inl (cZ, 1024, .inl g1_45)), (a2, .inl (cI, 1024, .inl g2_45)), (a3, .inl (cJ, 1024, .inl g3_45))] H43 := hP
  have hD : va_D A [(a1, .inl (cZ, 1024, .inl g1_45)), (a2, .inl (cI, 1024, .inl g2_45)), (a3, .inl (cJ, 1024, .inl g3_45))] := hD
  refine lv_aload_n hx hb dX4_findMusts_45 rfl (lv_at hl 3 rfl) ?_
  refine lv_iload_n hx hb dX4_findMusts_46 rfl (lv_at hl 2 rfl) ?_
  have hPr := (show va_P (dC, dI) vwCl [(st, .inr (6, [.ref a1, .ref a2, .ref a3])), (a3, .inl (cJ, 1024, .inl g3_45))] H43 from (zo_cons (((zo_R hR0 hS hAr)) 0 _ rfl) (zo_cons ((hP) 2 _ rfl) (zo_nil : va_P (dC, dI) vwCl [] H43))))
  have hPc := hP.sub (ws' := []) [] rfl
  have hDc := hD.sub (ws' := []) [] (by decide) rfl
  have hKc := hK.sub (tys' := [(cJ, .int)]) [4] rfl
  have hFc := va_free (wc := []) hD hS hA [] rfl
  refine va_calli (va_runV (As := [.int 0]) (rest := []) ⟨hx, hb, hml, hown, hts⟩ (cz_QyetBehind_0 l dC dI ed H43.size st a1 a2 a3 cJ g3_45 k45_4) (cwV 1 hts gX4_findMusts_X4_yetBehind rfl rfl rfl (by decide +kernel) ⟨Nat.le_of_ble_eq_true rfl, Nat.le_of_ble_eq_true rfl⟩) ⟨zb_blind, va_recv hK (zo_R hR0 hS hAr) (ci := 6) (q0 := 0) rfl rfl, fun U hU hW => ⟨rfl, zb_mk hU hW hPr hPc hKc hDc hN hH hS hFc zx_e⟩⟩ rfl rfl hl.1 rfl (lv_room (Nat.le_of_ble_eq_true rfl)) dX4_findMusts_47 ⟨Nat.le_of_ble_eq_true rfl, Nat.le_of_ble_eq_true rfl⟩) hS (fun q _ h => hFc q h) hFc (fun r47 u t H46 locs ht hvm hw hB hz1 hk1 hS => ?_)
  obtain rfl : r47 = 1 := hw
  have hP := zo_K hP hk1
  refine lv_iconst (v := (-1)) hx hb dX4_findMusts_50 (by decide) ?_
  refine lv_icmp_ne (tgt := 61) hx hb dX4_findMusts_51 (by decide) (fun _ => ?_) (fun h => absurd h (by decide))
  refine lv_iinc (v := 8) (lv' := [(4, .int 8), (3, .int 0), (2, .int 0), (0, .ref st), (1, .ref rm)]) hx hb dX4_findMusts_61 hl (k := 0) rfl (by decide) (by decide) rfl (fun ls hl => ?_)
  refine lv_goto (tgt := 27) hx hb dX4_findMusts_64 (by decide) ?_
  refine lv_iload hx hb dX4_findMusts_27 (lv_at hl 0 rfl) ?_
  refine lv_aload_n hx hb dX4_findMusts_29 rfl (lv_at hl 4 rfl) ?_
  refine va_get (D := (dC, dI)) (ci := 5) (v := .int 10) (C := RX3) (T := TX3) (N := 12) hx hb hts zi_X4_findMusts_X3 hown hK (zo_R hR0 hS hAr) 1 rfl rfl 5 (by decide) (hts (.fieldLink RX4 44 "LockRooms$Room" "thingCount" "I") (by decide +kernel)) (fun _ h9 => h9) rfl dX4_findMusts_30 ?_
  refine lv_icmp_ge (tgt := 67) hx hb dX4_findMusts_33 (by decide) (fun h => absurd h (by decide)) (fun _ => ?_)
  refine lv_aload_n hx hb dX4_findMusts_36 rfl (lv_at hl 3 rfl) ?_
  refine lv_aload_n hx hb dX4_findMusts_37 rfl (lv_at hl 4 rfl) ?_
  refine lv_iconst (v := 1) hx hb dX4_findMusts_38 (by decide) ?_
  refine lv_iload hx hb dX4_findMusts_39 (lv_at hl 0 rfl) ?_
  refine lv_ishl hx hb dX4_findMusts_41 ?_
  refine zo_i (v := 256) (by decide) ?_
  have hPr := ((zo_R hR0 hS hAr)).sub (ws' := [(st, .inr (6, [.ref a1, .ref a2, .ref a3])), (rm, .inr (5, [.ref lk, .ref th, .ref pl, .ref gm, .int 2, .int 10, .int 0, .int 0, .int 1, .int 0, .int 0, .int 0])), (lk, .inl (cL, 10, .inr (.inr (.inr (.inr fl))))), (th, .inl (cT, 12, .inr (.inr (.inr (.inr ft))))), (l0, .inr (3, [.int 0, .int 0, .int 60, .int 0, .int 0, .int 0, .int 0, .int 0, .int 0, .int 0])), (l1, .inr (3, [.int 0, .int 0, .int 60, .int 0, .int 0, .int 0, .int 0, .int 0, .int 0, .int 0])), (t0, .inr (7, [.int (-1), .int 0, .int 0, .int 0, .int 0])), (t1, .inr (7, [.int (-1), .int 0, .int 0, .int 0, .int 0])), (t2, .inr (7, [.int (-1), .int 0, .int 0, .int 0, .int 0])), (t3, .inr (7, [.int (-1), .int 0, .int 0, .int 0, .int 0])), (t4, .inr (7, [.int (-1), .int 0, .int 0, .int 0, .int 0])), (t5, .inr (7, [.int (-1), .int 0, .int 0, .int 0, .int 0])), (t6, .inr (7, [.int (-1), .int 0, .int 0, .int 0, .int 0])), (t7, .inr (7, [.int (-1), .int 0, .int 0, .int 0, .int 0])), (t8, .inr (7, [.int (-1), .int 0, .int 0, .int 0, .int 0])), (t9, .inr (7, [.int (-1), .int 0, .int 0, .int 0, .int 0]))]) [0, 1, 2, 3, 4, 5, 6, 7, 8, 9, 10, 11, 12, 13, 14, 15] rfl
  have hPc := hP.sub (ws' := [(a1, .inl (cZ, 1024, .inl g1_45)), (a2, .inl (cI, 1024, .inl g2_45)), (a3, .inl (cJ, 1024, .inl g3_45))]) [0, 1, 2] rfl
  have hDc := hD.sub (ws' := [(a1, .inl (cZ, 1024, .inl g1_45)), (a2, .inl (cI, 1024, .inl g2_45)), (a3, .inl (cJ, 1024, .inl g3_45))]) [0, 1, 2] (by decide) rfl
  have hKc := hK.sub (tys' := [(cL, .object "LockRooms$Lock"), (cT, .object "LockRooms$Thing"), (cZ, .boolean), (cI, .int), (cJ, .int)]) [0, 1, 2, 3, 4] rfl
  have hFc := va_free (wc := [(a1, .inl (cZ, 1024, .inl g1_45)), (a2, .inl (cI, 1024, .inl g2_45)), (a3, .inl (cJ, 1024, .inl g3_45))]) hD hS hA [0, 1, 2] rfl
  refine va_callv (va_runV (As := [.ref rm, .int 256]) (rest := []) ⟨hx, hb, hml, hown, hts⟩ (cz_Qexplore l dC dI ed H46.size st a1 a2 a3 rm lk th pl gm cL fl l0 l1 cT ft t0 t1 t2 t3 t4 t5 t6 t7 t8 t9 cZ g1_45 cI g2_45 cJ g3_45 256 hkl0 hkl1 hkt0 hkt1 hkt2 hkt3 hkt4 hkt5 hkt6 hkt7 hkt8 hkt9) (cwV 2 hts gX4_findMusts_X4_explore rfl rfl rfl (by decide +kernel) ⟨Nat.le_of_ble_eq_true rfl, Nat.le_of_ble_eq_true rfl⟩) ⟨zb_blind, va_recv hK (zo_R hR0 hS hAr) (ci := 6) (q0 := 0) rfl rfl, fun U hU hW => ⟨rfl, zb_mk hU hW hPr hPc hKc hDc hN hH hS hFc (zx_cons (zx_r (hAr _ (List.mem_of_getElem? (i := 0) rfl)) hDc) (zx_cons (zx_r (hAr _ (List.mem_of_getElem? (i := 1) rfl)) hDc) (zx_cons (zx_r (hAr _ (List.mem_of_getElem? (i := 2) rfl)) hDc) (zx_cons (zx_r (hAr _ (List.mem_of_getElem? (i := 3) rfl)) hDc) (zx_cons (zx_r (hAr _ (List.mem_of_getElem? (i := 4) rfl)) hDc) (zx_cons (zx_r (hAr _ (List.mem_of_getElem? (i := 5) rfl)) hDc) (zx_cons (zx_r (hAr _ (List.mem_of_getElem? (i := 6) rfl)) hDc) (zx_cons (zx_r (hAr _ (List.mem_of_getElem? (i := 7) rfl)) hDc) (zx_cons (zx_r (hAr _ (List.mem_of_getElem? (i := 8) rfl)) hDc) (zx_cons (zx_r (hAr _ (List.mem_of_getElem? (i := 9) rfl)) hDc) (zx_cons (zx_r (hAr _ (List.mem_of_getElem? (i := 10) rfl)) hDc) (zx_cons (zx_r (hAr _ (List.mem_of_getElem? (i := 11) rfl)) hDc) (zx_cons (zx_r (hAr _ (List.mem_of_getElem? (i := 12) rfl)) hDc) (zx_cons (zx_r (hAr _ (List.mem_of_getElem? (i := 13) rfl)) hDc) (zx_cons (zx_r (hAr _ (List.mem_of_getElem? (i := 14) rfl)) hDc) (zx_cons (zx_r (hAr _ (List.mem_of_getElem? (i := 15) rfl)) hDc) zx_nil))))))))))))))))⟩⟩ rfl rfl hl.1 rfl (lv_room (Nat.le_of_ble_eq_true rfl)) dX4_findMusts_42 ⟨Nat.le_of_ble_eq_true rfl, Nat.le_of_ble_eq_true rfl⟩) hS (fun q _ h => hFc q h) hFc (fun u t H48 locs ht hvm hw hB hz1 hk1 hS => ?_)
  obtain ⟨g1_50, g2_50, g3_50, ⟨k50_0, k50_1, k50_2, k50_3, k50_4, k50_5, k50_6, k50_7⟩, hP1, hD1, hK1⟩ := hB
  rw [ht] at hP1
  obtain ⟨hP, hD⟩ := va_join (wr := []) (w1 := [(a1, .inl (cZ, 1024, .inl g1_50)), (a2, .inl (cI, 1024, .inl g2_50)), (a3, .inl (cJ, 1024, .inl g3_50))]) hP hD [0, 1, 2] [] rfl rfl (by decide) (by decide) hk1 hFc hP1 hD1
  have hP : va_P (dC, dI) vwCl [(a1, .inl (cZ, 1024, .inl g1_50)), (a2, .inl (cI, 1024, .inl g2_50)), (a3, .inl (cJ, 1024, .inl g3_50))] H48 := hP
  have hD : va_D A [(a1, .inl (cZ, 1024, .inl g1_50)), (a2, .inl (cI, 1024, .inl g2_50)), (a3, .inl (cJ, 1024, .inl g3_50))] := hD
  refine lv_aload_n hx hb dX4_findMusts_45 rfl (lv_at hl 3 rfl) ?_
  refine lv_iload_n hx hb dX4_findMusts_46 rfl (lv_at hl 2 rfl) ?_
  have hPr := (show va_P (dC, dI) vwCl [(st, .inr (6, [.ref a1, .ref a2, .ref a3])), (a3, .inl (cJ, 1024, .inl g3_50))] H48 from (zo_cons (((zo_R hR0 hS hAr)) 0 _ rfl) (zo_cons ((hP) 2 _ rfl) (zo_nil : va_P (dC, dI) vwCl [] H48))))
  have hPc := hP.sub (ws' := []) [] rfl
  have hDc := hD.sub (ws' := []) [] (by decide) rfl
  have hKc := hK.sub (tys' := [(cJ, .int)]) [4] rfl
  have hFc := va_free (wc := []) hD hS hA [] rfl
  refine va_calli (va_runV (As := [.int 0]) (rest := []) ⟨hx, hb, hml, hown, hts⟩ (cz_QyetBehind_0 l dC dI ed H48.size st a1 a2 a3 cJ g3_50 k50_4) (cwV 1 hts gX4_findMusts_X4_yetBehind rfl rfl rfl (by decide +kernel) ⟨Nat.le_of_ble_eq_true rfl, Nat.le_of_ble_eq_true rfl⟩) ⟨zb_blind, va_recv hK (zo_R hR0 hS hAr) (ci := 6) (q0 := 0) rfl rfl, fun U hU hW => ⟨rfl, zb_mk hU hW hPr hPc hKc hDc hN hH hS hFc zx_e⟩⟩ rfl rfl hl.1 rfl (lv_room (Nat.le_of_ble_eq_true rfl)) dX4_findMusts_47 ⟨Nat.le_of_ble_eq_true rfl, Nat.le_of_ble_eq_true rfl⟩) hS (fun q _ h => hFc q h) hFc (fun r52 u t H51 locs ht hvm hw hB hz1 hk1 hS => ?_)
  obtain rfl : r52 = 1 := hw
  have hP := zo_K hP hk1
  refine lv_iconst (v := (-1)) hx hb dX4_findMusts_50 (by decide) ?_
  refine lv_icmp_ne (tgt := 61) hx hb dX4_findMusts_51 (by decide) (fun _ => ?_) (fun h => absurd h (by decide))
  refine lv_iinc (v := 9) (lv' := [(4, .int 9), (3, .int 0), (2, .int 0), (0, .ref st), (1, .ref rm)]) hx hb dX4_findMusts_61 hl (k := 0) rfl (by decide) (by decide) rfl (fun ls hl => ?_)
  refine lv_goto (tgt := 27) hx hb dX4_findMusts_64 (by decide) ?_
  refine lv_iload hx hb dX4_findMusts_27 (lv_at hl 0 rfl) ?_
  refine lv_aload_n hx hb dX4_findMusts_29 rfl (lv_at hl 4 rfl) ?_
  refine va_get (D := (dC, dI)) (ci := 5) (v := .int 10) (C := RX3) (T := TX3) (N := 12) hx hb hts zi_X4_findMusts_X3 hown hK (zo_R hR0 hS hAr) 1 rfl rfl 5 (by decide) (hts (.fieldLink RX4 44 "LockRooms$Room" "thingCount" "I") (by decide +kernel)) (fun _ h9 => h9) rfl dX4_findMusts_30 ?_
  refine lv_icmp_ge (tgt := 67) hx hb dX4_findMusts_33 (by decide) (fun h => absurd h (by decide)) (fun _ => ?_)
  refine lv_aload_n hx hb dX4_findMusts_36 rfl (lv_at hl 3 rfl) ?_
  refine lv_aload_n hx hb dX4_findMusts_37 rfl (lv_at hl 4 rfl) ?_
  refine lv_iconst (v := 1) hx hb dX4_findMusts_38 (by decide) ?_
  refine lv_iload hx hb dX4_findMusts_39 (lv_at hl 0 rfl) ?_
  refine lv_ishl hx hb dX4_findMusts_41 ?_
  refine zo_i (v := 512) (by decide) ?_
  have hPr := ((zo_R hR0 hS hAr)).sub (ws' := [(st, .inr (6, [.ref a1, .ref a2, .ref a3])), (rm, .inr (5, [.ref lk, .ref th, .ref pl, .ref gm, .int 2, .int 10, .int 0, .int 0, .int 1, .int 0, .int 0, .int 0])), (lk, .inl (cL, 10, .inr (.inr (.inr (.inr fl))))), (th, .inl (cT, 12, .inr (.inr (.inr (.inr ft))))), (l0, .inr (3, [.int 0, .int 0, .int 60, .int 0, .int 0, .int 0, .int 0, .int 0, .int 0, .int 0])), (l1, .inr (3, [.int 0, .int 0, .int 60, .int 0, .int 0, .int 0, .int 0, .int 0, .int 0, .int 0])), (t0, .inr (7, [.int (-1), .int 0, .int 0, .int 0, .int 0])), (t1, .inr (7, [.int (-1), .int 0, .int 0, .int 0, .int 0])), (t2, .inr (7, [.int (-1), .int 0, .int 0, .int 0, .int 0])), (t3, .inr (7, [.int (-1), .int 0, .int 0, .int 0, .int 0])), (t4, .inr (7, [.int (-1), .int 0, .int 0, .int 0, .int 0])), (t5, .inr (7, [.int (-1), .int 0, .int 0, .int 0, .int 0])), (t6, .inr (7, [.int (-1), .int 0, .int 0, .int 0, .int 0])), (t7, .inr (7, [.int (-1), .int 0, .int 0, .int 0, .int 0])), (t8, .inr (7, [.int (-1), .int 0, .int 0, .int 0, .int 0])), (t9, .inr (7, [.int (-1), .int 0, .int 0, .int 0, .int 0]))]) [0, 1, 2, 3, 4, 5, 6, 7, 8, 9, 10, 11, 12, 13, 14, 15] rfl
  have hPc := hP.sub (ws' := [(a1, .inl (cZ, 1024, .inl g1_50)), (a2, .inl (cI, 1024, .inl g2_50)), (a3, .inl (cJ, 1024, .inl g3_50))]) [0, 1, 2] rfl
  have hDc := hD.sub (ws' := [(a1, .inl (cZ, 1024, .inl g1_50)), (a2, .inl (cI, 1024, .inl g2_50)), (a3, .inl (cJ, 1024, .inl g3_50))]) [0, 1, 2] (by decide) rfl
  have hKc := hK.sub (tys' := [(cL, .object "LockRooms$Lock"), (cT, .object "LockRooms$Thing"), (cZ, .boolean), (cI, .int), (cJ, .int)]) [0, 1, 2, 3, 4] rfl
  have hFc := va_free (wc := [(a1, .inl (cZ, 1024, .inl g1_50)), (a2, .inl (cI, 1024, .inl g2_50)), (a3, .inl (cJ, 1024, .inl g3_50))]) hD hS hA [0, 1, 2] rfl
  refine va_callv (va_runV (As := [.ref rm, .int 512]) (rest := []) ⟨hx, hb, hml, hown, hts⟩ (cz_Qexplore l dC dI ed H51.size st a1 a2 a3 rm lk th pl gm cL fl l0 l1 cT ft t0 t1 t2 t3 t4 t5 t6 t7 t8 t9 cZ g1_50 cI g2_50 cJ g3_50 512 hkl0 hkl1 hkt0 hkt1 hkt2 hkt3 hkt4 hkt5 hkt6 hkt7 hkt8 hkt9) (cwV 2 hts gX4_findMusts_X4_explore rfl rfl rfl (by decide +kernel) ⟨Nat.le_of_ble_eq_true rfl, Nat.le_of_ble_eq_true rfl⟩) ⟨zb_blind, va_recv hK (zo_R hR0 hS hAr) (ci := 6) (q0 := 0) rfl rfl, fun U hU hW => ⟨rfl, zb_mk hU hW hPr hPc hKc hDc hN hH hS hFc (zx_cons (zx_r (hAr _ (List.mem_of_getElem? (i := 0) rfl)) hDc) (zx_cons (zx_r (hAr _ (List.mem_of_getElem? (i := 1) rfl)) hDc) (zx_cons (zx_r (hAr _ (List.mem_of_getElem? (i := 2) rfl)) hDc) (zx_cons (zx_r (hAr _ (List.mem_of_getElem? (i := 3) rfl)) hDc) (zx_cons (zx_r (hAr _ (List.mem_of_getElem? (i := 4) rfl)) hDc) (zx_cons (zx_r (hAr _ (List.mem_of_getElem? (i := 5) rfl)) hDc) (zx_cons (zx_r (hAr _ (List.mem_of_getElem? (i := 6) rfl)) hDc) (zx_cons (zx_r (hAr _ (List.mem_of_getElem? (i := 7) rfl)) hDc) (zx_cons (zx_r (hAr _ (List.mem_of_getElem? (i := 8) rfl)) hDc) (zx_cons (zx_r (hAr _ (List.mem_of_getElem? (i := 9) rfl)) hDc) (zx_cons (zx_r (hAr _ (List.mem_of_getElem? (i := 10) rfl)) hDc) (zx_cons (zx_r (hAr _ (List.mem_of_getElem? (i := 11) rfl)) hDc) (zx_cons (zx_r (hAr _ (List.mem_of_getElem? (i := 12) rfl)) hDc) (zx_cons (zx_r (hAr _ (List.mem_of_getElem? (i := 13) rfl)) hDc) (zx_cons (zx_r (hAr _ (List.mem_of_getElem? (i := 14) rfl)) hDc) (zx_cons (zx_r (hAr _ (List.mem_of_getElem? (i := 15) rfl)) hDc) zx_nil))))))))))))))))⟩⟩ rfl rfl hl.1 rfl (lv_room (Nat.le_of_ble_eq_true rfl)) dX4_findMusts_42 ⟨Nat.le_of_ble_eq_true rfl, Nat.le_of_ble_eq_true rfl⟩) hS (fun q _ h => hFc q h) hFc (fun u t H53 locs ht hvm hw hB hz1 hk1 hS => ?_)
  obtain ⟨g1_55, g2_55, g3_55, ⟨k55_0, k55_1, k55_2, k55_3, k55_4, k55_5, k55_6, k55_7⟩, hP1, hD1, hK1⟩ := hB
  rw [ht] at hP1
  obtain ⟨hP, hD⟩ := va_join (wr := []) (w1 := [(a1, .inl (cZ, 1024, .inl g1_55)), (a2, .inl (cI, 1024, .inl g2_55)), (a3, .inl (cJ, 1024, .inl g3_55))]) hP hD [0, 1, 2] [] rfl rfl (by decide) (by decide) hk1 hFc hP1 hD1
  have hP : va_P (dC, dI) vwCl [(a1, .inl (cZ, 1024, .inl g1_55)), (a2, .inl (cI, 1024, .inl g2_55)), (a3, .inl (cJ, 1024, .inl g3_55))] H53 := hP
  have hD : va_D A [(a1, .inl (cZ, 1024, .inl g1_55)), (a2, .inl (cI, 1024, .inl g2_55)), (a3, .inl (cJ, 1024, .inl g3_55))] := hD
  refine lv_aload_n hx hb dX4_findMusts_45 rfl (lv_at hl 3 rfl) ?_
  refine lv_iload_n hx hb dX4_findMusts_46 rfl (lv_at hl 2 rfl) ?_
  have hPr := (show va_P (dC, dI) vwCl [(st, .inr (6, [.ref a1, .ref a2, .ref a3])), (a3, .inl (cJ, 1024, .inl g3_55))] H53 from (zo_cons (((zo_R hR0 hS hAr)) 0 _ rfl) (zo_cons ((hP) 2 _ rfl) (zo_nil : va_P (dC, dI) vwCl [] H53))))
  have hPc := hP.sub (ws' := []) [] rfl
  have hDc := hD.sub (ws' := []) [] (by decide) rfl
  have hKc := hK.sub (tys' := [(cJ, .int)]) [4] rfl
  have hFc := va_free (wc := []) hD hS hA [] rfl
  refine va_calli (va_runV (As := [.int 0]) (rest := []) ⟨hx, hb, hml, hown, hts⟩ (cz_QyetBehind_0 l dC dI ed H53.size st a1 a2 a3 cJ g3_55 k55_4) (cwV 1 hts gX4_findMusts_X4_yetBehind rfl rfl rfl (by decide +kernel) ⟨Nat.le_of_ble_eq_true rfl, Nat.le_of_ble_eq_true rfl⟩) ⟨zb_blind, va_recv hK (zo_R hR0 hS hAr) (ci := 6) (q0 := 0) rfl rfl, fun U hU hW => ⟨rfl, zb_mk hU hW hPr hPc hKc hDc hN hH hS hFc zx_e⟩⟩ rfl rfl hl.1 rfl (lv_room (Nat.le_of_ble_eq_true rfl)) dX4_findMusts_47 ⟨Nat.le_of_ble_eq_true rfl, Nat.le_of_ble_eq_true rfl⟩) hS (fun q _ h => hFc q h) hFc (fun r57 u t H56 locs ht hvm hw hB hz1 hk1 hS => ?_)
  obtain rfl : r57 = 1 := hw
  have hP := zo_K hP hk1
  refine lv_iconst (v := (-1)) hx hb dX4_findMusts_50 (by decide) ?_
  refine lv_icmp_ne (tgt := 61) hx hb dX4_findMusts_51 (by decide) (fun _ => ?_) (fun h => absurd h (by decide))
  refine lv_iinc (v := 10) (lv' := [(4, .int 10), (3, .int 0), (2, .int 0), (0, .ref st), (1, .ref rm)]) hx hb dX4_findMusts_61 hl (k := 0) rfl (by decide) (by decide) rfl (fun ls hl => ?_)
  refine lv_goto (tgt := 27) hx hb dX4_findMusts_64 (by decide) ?_
  refine lv_iload hx hb dX4_findMusts_27 (lv_at hl 0 rfl) ?_
  refine lv_aload_n hx hb dX4_findMusts_29 rfl (lv_at hl 4 rfl) ?_
  refine va_get (D := (dC, dI)) (ci := 5) (v := .int 10) (C := RX3) (T := TX3) (N := 12) hx hb hts zi_X4_findMusts_X3 hown hK (zo_R hR0 hS hAr) 1 rfl rfl 5 (by decide) (hts (.fieldLink RX4 44 "LockRooms$Room" "thingCount" "I") (by decide +kernel)) (fun _ h9 => h9) rfl dX4_findMusts_30 ?_
  refine lv_icmp_ge (tgt := 67) hx hb dX4_findMusts_33 (by decide) (fun _ => ?_) (fun h => absurd h (by decide))
  refine lv_iload_n hx hb dX4_findMusts_67 rfl (lv_at hl 1 rfl) ?_
  refine W.widen (k := 0) (n := 0) (Nat.le_of_ble_eq_true rfl) (Nat.le_of_ble_eq_true rfl) ?_
  have hP9 := hP.sub (ws' := [(a1, .inl (cZ, 1024, .inl g1_55)), (a2, .inl (cI, 1024, .inl g2_55)), (a3, .inl (cJ, 1024, .inl g3_55))]) [0, 1, 2] rfl
  have hD9 := hD.sub (ws' := [(a1, .inl (cZ, 1024, .inl g1_55)), (a2, .inl (cI, 1024, .inl g2_55)), (a3, .inl (cJ, 1024, .inl g3_55))]) [0, 1, 2] (by decide) rfl
  have hK9 := hK.sub (tys' := [(cZ, .boolean), (cI, .int), (cJ, .int)]) [2, 3, 4] rfl
  exact W.iret hx hb hr (fun t ht hW => ⟨⟨0, (), rfl, rfl, ⟨g1_55, g2_55, g3_55, by rw [ht]; exact hP9, hD9, va_K.moved hW.alike hK9⟩⟩, hS.F ht⟩) hS.2.2 dX4_findMusts_68
set_option maxHeartbeats 4000000 in
set_option maxRecDepth 100000 in
theorem cz_QfindBestReady (l : Launch) (dC : Nat → ClassId) (dI : Nat → Nat → Nat) (ed sz : Nat) (st : Nat) (a1 : Nat) (a2 : Nat) (a3 : Nat) (rm : Nat) (lk : Nat) (th : Nat) (pl : Nat) (gm : Nat) (cL : ClassId) (fl : Nat → Option Nat) (l0 : Nat) (l1 : Nat) (cT : ClassId) (ft : Nat → Option Nat) (t0 : Nat) (t1 : Nat) (t2 : Nat) (t3 : Nat) (t4 : Nat) (t5 : Nat) (t6 : Nat) (t7 : Nat) (t8 : Nat) (t9 : Nat) (cZ : ClassId) (f1 : Nat → Int32) (cI : ClassId) (f2 : Nat → Int32) (cJ : ClassId) (f3 : Nat → Int32) (hkl0 : fl 0 = some l0) (hkl1 : fl 1 = some l1) (hkt0 : ft 0 = some t0) (hkt1 : ft 1 = some t1) (hkt2 : ft 2 = some t2) (hkt3 : ft 3 = some t3) (hkt4 : ft 4 = some t4) (hkt5 : ft 5 = some t5) (hkt6 : ft 6 = some t6) (hkt7 : ft 7 = some t7) (hkt8 : ft 8 = some t8) (hkt9 : ft 9 = some t9) : Met l yX4_findBestReady wsX4_findBestReady ({ frames := 4, cells := 0, slots := 0, locals := 98 } : Jvm.Room) (va_Pc [.ref st, .ref rm] (zB dC dI ed sz [(st, .inr (6, [.ref a1, .ref a2, .ref a3])), (rm, .inr (5, [.ref lk, .ref th, .ref pl, .ref gm, .int 2, .int 10, .int 0, .int 0, .int 1, .int 0, .int 0, .int 0])), (lk, .inl (cL, 10, .inr (.inr (.inr (.inr fl))))), (th, .inl (cT, 12, .inr (.inr (.inr (.inr ft))))), (l0, .inr (3, [.int 0, .int 0, .int 60, .int 0, .int 0, .int 0, .int 0, .int 0, .int 0, .int 0])), (l1, .inr (3, [.int 0, .int 0, .int 60, .int 0, .int 0, .int 0, .int 0, .int 0, .int 0, .int 0])), (t0, .inr (7, [.int (-1), .int 0, .int 0, .int 0, .int 0])), (t1, .inr (7, [.int (-1), .int 0, .int 0, .int 0, .int 0])), (t2, .inr (7, [.int (-1), .int 0, .int 0, .int 0, .int 0])), (t3, .inr (7, [.int (-1), .int 0, .int 0, .int 0, .int 0])), (t4, .inr (7, [.int (-1), .int 0, .int 0, .int 0, .int 0])), (t5, .inr (7, [.int (-1), .int 0, .int 0, .int 0, .int 0])), (t6, .inr (7, [.int (-1), .int 0, .int 0, .int 0, .int 0])), (t7, .inr (7, [.int (-1), .int 0, .int 0, .int 0, .int 0])), (t8, .inr (7, [.int (-1), .int 0, .int 0, .int 0, .int 0])), (t9, .inr (7, [.int (-1), .int 0, .int 0, .int 0, .int 0]))] [(a1, .inl (cZ, 1024, .inl f1)), (a2, .inl (cI, 1024, .inl f2)), (a3, .inl (cJ, 1024, .inl f3))] [(cL, .object "LockRooms$Lock"), (cT, .object "LockRooms$Thing"), (cZ, .boolean), (cI, .int), (cJ, .int)])) (va_Qi (fun (r : Int32) (_ : Unit) => r = 0) (fun (_ : Unit) (t : State) => ∃ (g1 : Nat → Int32), ∃ (g2 : Nat → Int32), ∃ (g3 : Nat → Int32), va_P (dC, dI) vwCl [(a1, .inl (cZ, 1024, .inl g1)), (a2, .inl (cI, 1024, .inl g2)), (a3, .inl (cJ, 1024, .inl g3))] t.heap ∧ va_D (va_A [(a1, .inl (cZ, 1024, .inl f1)), (a2, .inl (cI, 1024, .inl f2)), (a3, .inl (cJ, 1024, .inl f3))] sz) [(a1, .inl (cZ, 1024, .inl g1)), (a2, .inl (cI, 1024, .inl g2)), (a3, .inl (cJ, 1024, .inl g3))] ∧ va_K (dC, dI) vwCl [(cZ, .boolean), (cI, .int), (cJ, .int)] t) (va_A [(a1, .inl (cZ, 1024, .inl f1)), (a2, .inl (cI, 1024, .inl f2)), (a3, .inl (cJ, 1024, .inl f3))] sz)) 0 0 (va_A [(a1, .inl (cZ, 1024, .inl f1)), (a2, .inl (cI, 1024, .inl f2)), (a3, .inl (cJ, 1024, .inl f3))] sz) := by
  refine Met.ofW (cc := cX4_findBestReady) (maxL := 8) (ret := (some .int)) (by decide) rfl ?_
  intro p e s m args below meth c s₁ B hml hv
  obtain ⟨rfl, hsz, hR0, hP, hK, hD0, hN, hH, hX0⟩ := hv
  have hx := B.exec
  have hb := B.bytes
  have hr := B.returns
  have hts := atoms_spec (ws := wsX4_findBestReady) B.pre
  have hown : s.vm.findClass RX4 = some m.cls := findClass_of_methodNamed B.named
  have hlocks := B.notSynchronized
  subst hsz
  have hD := hD0.self (sz := s.heap.size)
  have hAr := zx_A hX0 hR0
  generalize hAe : va_A [(a1, .inl (cZ, 1024, .inl f1)), (a2, .inl (cI, 1024, .inl f2)), (a3, .inl (cJ, 1024, .inl f3))] s.heap.size = A at hD hAr hH ⊢
  have hA : ∀ q : Nat, s.heap.size ≤ q → A q := fun q h => by rw [← hAe]; exact Or.inr h
  have hS : va_S A s.heap s.heap [] := va_S.rf
  have hl := lv_entry ([.ref st, .ref rm]) (n := 8) (Nat.le_of_ble_eq_true rfl)
  rw [lg_entry_eq]
  generalize (lg_sl ([.ref st, .ref rm]) ++ List.replicate (8 - (lg_sl ([.ref st, .ref rm])).length) Slot.unset).toArray = ls at hl ⊢
  have hl : lv_has ls 8 [(0, .ref st), (1, .ref rm)] := hl
  refine lv_aload_n hx hb dX4_findBestReady_0 rfl (lv_at hl 0 rfl) ?_
  refine lv_aload_n hx hb dX4_findBestReady_1 rfl (lv_at hl 1 rfl) ?_
  refine lv_iconst (v := 0) hx hb dX4_findBestReady_2 (by decide) ?_
  have hPr := (hR0).sub (ws' := [(st, .inr (6, [.ref a1, .ref a2, .ref a3])), (rm, .inr (5, [.ref lk, .ref th, .ref pl, .ref gm, .int 2, .int 10, .int 0, .int 0, .int 1, .int 0, .int 0, .int 0])), (lk, .inl (cL, 10, .inr (.inr (.inr (.inr fl))))), (th, .inl (cT, 12, .inr (.inr (.inr (.inr ft))))), (l0, .inr (3, [.int 0, .int 0, .int 60, .int 0, .int 0, .int 0, .int 0, .int 0, .int 0, .int 0])), (l1, .inr (3, [.int 0, .int 0, .int 60, .int 0, .int 0, .int 0, .int 0, .int 0, .int 0, .int 0])), (t0, .inr (7, [.int (-1), .int 0, .int 0, .int 0, .int 0])), (t1, .inr (7, [.int (-1), .int 0, .int 0, .int 0, .int 0])), (t2, .inr (7, [.int (-1), .int 0, .int 0, .int 0, .int 0])), (t3, .inr (7, [.int (-1), .int 0, .int 0, .int 0, .int 0])), (t4, .inr (7, [.int (-1), .int 0, .int 0, .int 0, .int 0])), (t5, .inr (7, [.int (-1), .int 0, .int 0, .int 0, .int 0])), (t6, .inr (7, [.int (-1), .int 0, .int 0, .int 0, .int 0])), (t7, .inr (7, [.int (-1), .int 0, .int 0, .int 0, .int 0])), (t8, .inr (7, [.int (-1), .int 0, .int 0, .int 0, .int 0])), (t9, .inr (7, [.int (-1), .int 0, .int 0, .int 0, .int 0]))]) [0, 1, 2, 3, 4, 5, 6, 7, 8, 9, 10, 11, 12, 13, 14, 15] rfl
  have hPc := hP.sub (ws' := [(a1, .inl (cZ, 1024, .inl f1)), (a2, .inl (cI, 1024, .inl f2)), (a3, .inl (cJ, 1024, .inl f3))]) [0, 1, 2] rfl
  have hDc := hD.sub (ws' := [(a1, .inl (cZ, 1024, .inl f1)), (a2, .inl (cI, 1024, .inl f2)), (a3, .inl (cJ, 1024, .inl f3))]) [0, 1, 2] (by decide) rfl
  have hKc := hK.sub (tys' := [(cL, .object "LockRooms$Lock"), (cT, .object "LockRooms$Thing"), (cZ, .boolean), (cI, .int), (cJ, .int)]) [0, 1, 2, 3, 4] rfl
  have hFc := va_free (wc := [(a1, .inl (cZ, 1024, .inl f1)), (a2, .inl (cI, 1024, .inl f2)), (a3, .inl (cJ, 1024, .inl f3))]) hD hS hA [0, 1, 2] rfl
  refine va_callv (va_runV (As := [.ref rm, .int 0]) (rest := []) ⟨hx, hb, hml, hown, hts⟩ (cz_Qexplore l dC dI ed s.heap.size st a1 a2 a3 rm lk th pl gm cL fl l0 l1 cT ft t0 t1 t2 t3 t4 t5 t6 t7 t8 t9 cZ f1 cI f2 cJ f3 0 hkl0 hkl1 hkt0 hkt1 hkt2 hkt3 hkt4 hkt5 hkt6 hkt7 hkt8 hkt9) (cwV 2 hts gX4_findBestReady_X4_explore rfl rfl rfl (by decide +kernel) ⟨Nat.le_of_ble_eq_true rfl, Nat.le_of_ble_eq_true rfl⟩) ⟨zb_blind, va_recv hK hR0 (ci := 6) (q0 := 0) rfl rfl, fun U hU hW => ⟨rfl, zb_mk hU hW hPr hPc hKc hDc hN hH hS hFc (zx_cons (zx_r (hAr _ (List.mem_of_getElem? (i := 0) rfl)) hDc) (zx_cons (zx_r (hAr _ (List.mem_of_getElem? (i := 1) rfl)) hDc) (zx_cons (zx_r (hAr _ (List.mem_of_getElem? (i := 2) rfl)) hDc) (zx_cons (zx_r (hAr _ (List.mem_of_getElem? (i := 3) rfl)) hDc) (zx_cons (zx_r (hAr _ (List.mem_of_getElem? (i := 4) rfl)) hDc) (zx_cons (zx_r (hAr _ (List.mem_of_getElem? (i := 5) rfl)) hDc) (zx_cons (zx_r (hAr _ (List.mem_of_getElem? (i := 6) rfl)) hDc) (zx_cons (zx_r (hAr _ (List.mem_of_getElem? (i := 7) rfl)) hDc) (zx_cons (zx_r (hAr _ (List.mem_of_getElem? (i := 8) rfl)) hDc) (zx_cons (zx_r (hAr _ (List.mem_of_getElem? (i := 9) rfl)) hDc) (zx_cons (zx_r (hAr _ (List.mem_of_getElem? (i := 10) rfl)) hDc) (zx_cons (zx_r (hAr _ (List.mem_of_getElem? (i := 11) rfl)) hDc) (zx_cons (zx_r (hAr _ (List.mem_of_getElem? (i := 12) rfl)) hDc) (zx_cons (zx_r (hAr _ (List.mem_of_getElem? (i := 13) rfl)) hDc) (zx_cons (zx_r (hAr _ (List.mem_of_getElem? (i := 14) rfl)) hDc) (zx_cons (zx_r (hAr _ (List.mem_of_getElem? (i := 15) rfl)) hDc) zx_nil))))))))))))))))⟩⟩ rfl rfl hl.1 rfl (lv_room (Nat.le_of_ble_eq_true rfl)) dX4_findBestReady_3 ⟨Nat.le_of_ble_eq_true rfl, Nat.le_of_ble_eq_true rfl⟩) hS (fun q _ h => hFc q h) hFc (fun u t H1 locs ht hvm hw hB hz1 hk1 hS => ?_)
  obtain ⟨g1_3, g2_3, g3_3, ⟨k3_0, k3_1, k3_2, k3_3, k3_4, k3_5, k3_6, k3_7⟩, hP1, hD1, hK1⟩ := hB
  rw [ht] at hP1
  obtain ⟨hP, hD⟩ := va_join (wr := []) (w1 := [(a1, .inl (cZ, 1024, .inl g1_3)), (a2, .inl (cI, 1024, .inl g2_3)), (a3, .inl (cJ, 1024, .inl g3_3))]) hP hD [0, 1, 2] [] rfl rfl (by decide) (by decide) hk1 hFc hP1 hD1
  have hP : va_P (dC, dI) vwCl [(a1, .inl (cZ, 1024, .inl g1_3)), (a2, .inl (cI, 1024, .inl g2_3)), (a3, .inl (cJ, 1024, .inl g3_3))] H1 := hP
  have hD : va_D A [(a1, .inl (cZ, 1024, .inl g1_3)), (a2, .inl (cI, 1024, .inl g2_3)), (a3, .inl (cJ, 1024, .inl g3_3))] := hD
  refine lv_aload_n hx hb dX4_findBestReady_6 rfl (lv_at hl 1 rfl) ?_
  have hPr := ((zo_R hR0 hS hAr)).sub (ws' := [(rm, .inr (5, [.ref lk, .ref th, .ref pl, .ref gm, .int 2, .int 10, .int 0, .int 0, .int 1, .int 0, .int 0, .int 0])), (lk, .inl (cL, 10, .inr (.inr (.inr (.inr fl))))), (l0, .inr (3, [.int 0, .int 0, .int 60, .int 0, .int 0, .int 0, .int 0, .int 0, .int 0, .int 0])), (l1, .inr (3, [.int 0, .int 0, .int 60, .int 0, .int 0, .int 0, .int 0, .int 0, .int 0, .int 0]))]) [1, 2, 4, 5] rfl
  have hPc := hP.sub (ws' := []) [] rfl
  have hDc := hD.sub (ws' := []) [] (by decide) rfl
  have hKc := hK.sub (tys' := [(cL, .object "LockRooms$Lock")]) [0] rfl
  have hFc := va_free (wc := []) hD hS hA [] rfl
  refine va_calli (va_runV (As := []) (rest := []) ⟨hx, hb, hml, hown, hts⟩ (cz_QopenLocks l dC dI ed H1.size rm lk th pl gm cL fl l0 l1 hkl0 hkl1) (cwV 0 hts gX4_findBestReady_X3_openLocks rfl rfl rfl (by decide +kernel) ⟨Nat.le_of_ble_eq_true rfl, Nat.le_of_ble_eq_true rfl⟩) ⟨zb_blind, va_recv hK (zo_R hR0 hS hAr) (ci := 5) (q0 := 1) rfl rfl, fun U hU hW => ⟨rfl, zb_mk hU hW hPr hPc hKc hDc hN hH hS hFc zx_e⟩⟩ rfl rfl hl.1 rfl (lv_room (Nat.le_of_ble_eq_true rfl)) dX4_findBestReady_7 ⟨Nat.le_of_ble_eq_true rfl, Nat.le_of_ble_eq_true rfl⟩) hS (fun q _ h => hFc q h) hFc (fun r5 u t H4 locs ht hvm hw hB hz1 hk1 hS => ?_)
  obtain rfl : r5 = 0 := hw
  have hP := zo_K hP hk1
  refine lv_istore_n (lv' := [(2, .int 0), (0, .ref st), (1, .ref rm)]) hx hb dX4_findBestReady_10 rfl hl (by decide) rfl (fun ls hl => ?_)
  refine lv_aload_n hx hb dX4_findBestReady_11 rfl (lv_at hl 2 rfl) ?_
  have hPr := ((zo_R hR0 hS hAr)).sub (ws' := [(rm, .inr (5, [.ref lk, .ref th, .ref pl, .ref gm, .int 2, .int 10, .int 0, .int 0, .int 1, .int 0, .int 0, .int 0])), (lk, .inl (cL, 10, .inr (.inr (.inr (.inr fl))))), (th, .inl (cT, 12, .inr (.inr (.inr (.inr ft))))), (l0, .inr (3, [.int 0, .int 0, .int 60, .int 0, .int 0, .int 0, .int 0, .int 0, .int 0, .int 0])), (l1, .inr (3, [.int 0, .int 0, .int 60, .int 0, .int 0, .int 0, .int 0, .int 0, .int 0, .int 0])), (t0, .inr (7, [.int (-1), .int 0, .int 0, .int 0, .int 0])), (t1, .inr (7, [.int (-1), .int 0, .int 0, .int 0, .int 0])), (t2, .inr (7, [.int (-1), .int 0, .int 0, .int 0, .int 0])), (t3, .inr (7, [.int (-1), .int 0, .int 0, .int 0, .int 0])), (t4, .inr (7, [.int (-1), .int 0, .int 0, .int 0, .int 0])), (t5, .inr (7, [.int (-1), .int 0, .int 0, .int 0, .int 0])), (t6, .inr (7, [.int (-1), .int 0, .int 0, .int 0, .int 0])), (t7, .inr (7, [.int (-1), .int 0, .int 0, .int 0, .int 0])), (t8, .inr (7, [.int (-1), .int 0, .int 0, .int 0, .int 0])), (t9, .inr (7, [.int (-1), .int 0, .int 0, .int 0, .int 0]))]) [1, 2, 3, 4, 5, 6, 7, 8, 9, 10, 11, 12, 13, 14, 15] rfl
  have hPc := hP.sub (ws' := []) [] rfl
  have hDc := hD.sub (ws' := []) [] (by decide) rfl
  have hKc := hK.sub (tys' := [(cL, .object "LockRooms$Lock"), (cT, .object "LockRooms$Thing")]) [0, 1] rfl
  have hFc := va_free (wc := []) hD hS hA [] rfl
  refine va_calli (va_runV (As := []) (rest := []) ⟨hx, hb, hml, hown, hts⟩ (cz_QreadyLocks l dC dI ed H4.size rm lk th pl gm cL fl l0 l1 cT ft t0 t1 t2 t3 t4 t5 t6 t7 t8 t9 hkl0 hkl1 hkt0 hkt1 hkt2 hkt3 hkt4 hkt5 hkt6 hkt7 hkt8 hkt9) (cwV 0 hts gX4_findBestReady_X3_readyLocks rfl rfl rfl (by decide +kernel) ⟨Nat.le_of_ble_eq_true rfl, Nat.le_of_ble_eq_true rfl⟩) ⟨zb_blind, va_recv hK (zo_R hR0 hS hAr) (ci := 5) (q0 := 1) rfl rfl, fun U hU hW => ⟨rfl, zb_mk hU hW hPr hPc hKc hDc hN hH hS hFc zx_e⟩⟩ rfl rfl hl.1 rfl (lv_room (Nat.le_of_ble_eq_true rfl)) dX4_findBestReady_12 ⟨Nat.le_of_ble_eq_true rfl, Nat.le_of_ble_eq_true rfl⟩) hS (fun q _ h => hFc q h) hFc (fun r7 u t H6 locs ht hvm hw hB hz1 hk1 hS => ?_)
  obtain rfl : r7 = 3 := hw
  have hP := zo_K hP hk1
  refine lv_istore_n (lv' := [(3, .int 3), (2, .int 0), (0, .ref st), (1, .ref rm)]) hx hb dX4_findBestReady_15 rfl hl (by decide) rfl (fun ls hl => ?_)
  refine lv_iconst (v := (-1)) hx hb dX4_findBestReady_16 (by decide) ?_
  refine lv_istore (lv' := [(4, .int (-1)), (3, .int 3), (2, .int 0), (0, .ref st), (1, .ref rm)]) hx hb dX4_findBestReady_17 hl (by decide) rfl (fun ls hl => ?_)
  refine lv_iconst (v := (-1)) hx hb dX4_findBestReady_19 (by decide) ?_
  refine lv_istore (lv' := [(5, .int (-1)), (4, .int (-1)), (3, .int 3), (2, .int 0), (0, .ref st), (1, .ref rm)]) hx hb dX4_findBestReady_20 hl (by decide) rfl (fun ls hl => ?_)
  refine lv_iconst (v := 0) hx hb dX4_findBestReady_22 (by decide) ?_
  refine lv_istore (lv' := [(6, .int 0), (5, .int (-1)), (4, .int (-1)), (3, .int 3), (2, .int 0), (0, .ref st), (1, .ref rm)]) hx hb dX4_findBestReady_23 hl (by decide) rfl (fun ls hl => ?_)
  refine lv_iload hx hb dX4_findBestReady_25 (lv_at hl 0 rfl) ?_
  refine lv_aload_n hx hb dX4_findBestReady_27 rfl (lv_at hl 6 rfl) ?_
  refine va_get (D := (dC, dI)) (ci := 5) (v := .int 2) (C := RX3) (T := TX3) (N := 12) hx hb hts zi_X4_findBestReady_X3 hown hK (zo_R hR0 hS hAr) 1 rfl rfl 4 (by decide) (hts (.fieldLink RX4 51 "LockRooms$Room" "lockCount" "I") (by decide +kernel)) (fun _ h9 => h9) rfl dX4_findBestReady_28 ?_
  refine lv_icmp_ge (tgt := 92) hx hb dX4_findBestReady_31 (by decide) (fun h => absurd h (by decide)) (fun _ => ?_)
  refine lv_iload_n hx hb dX4_findBestReady_34 rfl (lv_at hl 3 rfl) ?_
  refine lv_iload hx hb dX4_findBestReady_35 (lv_at hl 0 rfl) ?_
  have hPr := (zo_nil : va_P (dC, dI) vwCl [] H6)
  have hPc := hP.sub (ws' := []) [] rfl
  have hDc := hD.sub (ws' := []) [] (by decide) rfl
  have hKc := hK.sub (tys' := []) [] rfl
  have hFc := va_free (wc := []) hD hS hA [] rfl
  refine va_calli (va_runSN (As := [.int 3, .int 0]) (rest := []) ⟨hx, hb, hml, hown, hts⟩ (cz_QisIn l dC dI ed H6.size 3 0) ⟨(va_cnB 2 hts gX4_findBestReady_X6_isIn_n54 rfl rfl rfl (hN.2.1 ("LockRooms$Stands", 54, yX6_isIn, "LockRooms") (List.mem_of_getElem? (i := 6) rfl)) (hts (.initialized RX6) (by decide +kernel)) (by decide +kernel) ⟨Nat.le_of_ble_eq_true rfl, Nat.le_of_ble_eq_true rfl⟩), (hts (.static yX6_isIn) (by decide +kernel)), trivial⟩ ⟨zb_blind, fun U hU hW => ⟨rfl, zb_mk hU hW hPr hPc hKc hDc hN hH hS hFc zx_e⟩⟩ rfl rfl hl.1 rfl (lv_room (Nat.le_of_ble_eq_true rfl)) dX4_findBestReady_37 ⟨Nat.le_of_ble_eq_true rfl, Nat.le_of_ble_eq_true rfl⟩) hS (fun q _ h => hFc q h) hFc (fun r9 u t H8 locs ht hvm hw hB hz1 hk1 hS => ?_)
  obtain rfl : r9 = 1 := hw.trans (by decide +kernel)
  have hP := zo_K hP hk1
  refine lv_if_eq (tgt := 56) hx hb dX4_findBestReady_40 (by decide) (fun h => absurd h (by decide)) (fun _ => ?_)
  refine lv_aload_n hx hb dX4_findBestReady_43 rfl (lv_at hl 5 rfl) ?_
  refine lv_iload_n hx hb dX4_findBestReady_44 rfl (lv_at hl 4 rfl) ?_
  refine lv_iconst (v := 1) hx hb dX4_findBestReady_45 (by decide) ?_
  refine lv_iload hx hb dX4_findBestReady_46 (lv_at hl 0 rfl) ?_
  refine lv_ishl hx hb dX4_findBestReady_48 ?_
  refine zo_i (v := 1) (by decide) ?_
  refine lv_ior hx hb dX4_findBestReady_49 ?_
  refine zo_i (v := 1) (by decide) ?_
  have hPr := (show va_P (dC, dI) vwCl [(st, .inr (6, [.ref a1, .ref a2, .ref a3])), (a3, .inl (cJ, 1024, .inl g3_3))] H8 from (zo_cons (((zo_R hR0 hS hAr)) 0 _ rfl) (zo_cons ((hP) 2 _ rfl) (zo_nil : va_P (dC, dI) vwCl [] H8))))
  have hPc := hP.sub (ws' := []) [] rfl
  have hDc := hD.sub (ws' := []) [] (by decide) rfl
  have hKc := hK.sub (tys' := [(cJ, .int)]) [4] rfl
  have hFc := va_free (wc := []) hD hS hA [] rfl
  refine va_calli (va_runV (As := [.int 1]) (rest := []) ⟨hx, hb, hml, hown, hts⟩ (cz_QyetBehind_1 l dC dI ed H8.size st a1 a2 a3 cJ g3_3 k3_5) (cwV 1 hts gX4_findBestReady_X4_yetBehind rfl rfl rfl (by decide +kernel) ⟨Nat.le_of_ble_eq_true rfl, Nat.le_of_ble_eq_true rfl⟩) ⟨zb_blind, va_recv hK (zo_R hR0 hS hAr) (ci := 6) (q0 := 0) rfl rfl, fun U hU hW => ⟨rfl, zb_mk hU hW hPr hPc hKc hDc hN hH hS hFc zx_e⟩⟩ rfl rfl hl.1 rfl (lv_room (Nat.le_of_ble_eq_true rfl)) dX4_findBestReady_50 ⟨Nat.le_of_ble_eq_true rfl, Nat.le_of_ble_eq_true rfl⟩) hS (fun q _ h => hFc q h) hFc (fun r11 u t H10 locs ht hvm hw hB hz1 hk1 hS => ?_)
  obtain rfl : r11 = 0 := hw
  have hP := zo_K hP hk1
  refine lv_goto (tgt := 57) hx hb dX4_findBestReady_53 (by decide) ?_
  refine lv_istore (lv' := [(7, .int 0), (6, .int 0), (5, .int (-1)), (4, .int (-1)), (3, .int 3), (2, .int 0), (0, .ref st), (1, .ref rm)]) hx hb dX4_findBestReady_57 hl (by decide) rfl (fun ls hl => ?_)
  refine lv_iload hx hb dX4_findBestReady_59 (lv_at hl 0 rfl) ?_
  refine lv_iconst (v := (-1)) hx hb dX4_findBestReady_61 (by decide) ?_
  refine lv_icmp_eq (tgt := 86) hx hb dX4_findBestReady_62 (by decide) (fun h => absurd h (by decide)) (fun _ => ?_)
  refine lv_iload hx hb dX4_findBestReady_65 (lv_at hl 3 rfl) ?_
  refine lv_iconst (v := (-1)) hx hb dX4_findBestReady_67 (by decide) ?_
  refine lv_icmp_eq (tgt := 78) hx hb dX4_findBestReady_68 (by decide) (fun _ => ?_) (fun h => absurd h (by decide))
  refine lv_iload hx hb dX4_findBestReady_78 (lv_at hl 1 rfl) ?_
  refine lv_istore (lv' := [(4, .int 0), (7, .int 0), (6, .int 0), (5, .int (-1)), (3, .int 3), (2, .int 0), (0, .ref st), (1, .ref rm)]) hx hb dX4_findBestReady_80 hl (by decide) rfl (fun ls hl => ?_)
  refine lv_iload hx hb dX4_findBestReady_82 (lv_at hl 1 rfl) ?_
  refine lv_istore (lv' := [(5, .int 0), (4, .int 0), (7, .int 0), (6, .int 0), (3, .int 3), (2, .int 0), (0, .ref st), (1, .ref rm)]) hx hb dX4_findBestReady_84 hl (by decide) rfl (fun ls hl => ?_)
  refine lv_iinc (v := 1) (lv' := [(6, .int 1), (5, .int 0), (4, .int 0), (7, .int 0), (3, .int 3), (2, .int 0), (0, .ref st), (1, .ref rm)]) hx hb dX4_findBestReady_86 hl (k := 3) rfl (by decide) (by decide) rfl (fun ls hl => ?_)
  refine lv_goto (tgt := 25) hx hb dX4_findBestReady_89 (by decide) ?_
  refine lv_iload hx hb dX4_findBestReady_25 (lv_at hl 0 rfl) ?_
  refine lv_aload_n hx hb dX4_findBestReady_27 rfl (lv_at hl 7 rfl) ?_
  refine va_get (D := (dC, dI)) (ci := 5) (v := .int 2) (C := RX3) (T := TX3) (N := 12) hx hb hts zi_X4_findBestReady_X3 hown hK (zo_R hR0 hS hAr) 1 rfl rfl 4 (by decide) (hts (.fieldLink RX4 51 "LockRooms$Room" "lockCount" "I") (by decide +kernel)) (fun _ h9 => h9) rfl dX4_findBestReady_28 ?_
  refine lv_icmp_ge (tgt := 92) hx hb dX4_findBestReady_31 (by decide) (fun h => absurd h (by decide)) (fun _ => ?_)
  refine lv_iload_n hx hb dX4_findBestReady_34 rfl (lv_at hl 4 rfl) ?_
  refine lv_iload hx hb dX4_findBestReady_35 (lv_at hl 0 rfl) ?_
  have hPr := (zo_nil : va_P (dC, dI) vwCl [] H10)
  have hPc := hP.sub (ws' := []) [] rfl
  have hDc := hD.sub (ws' := []) [] (by decide) rfl
  have hKc := hK.sub (tys' := []) [] rfl
  have hFc := va_free (wc := []) hD hS hA [] rfl
  refine va_calli (va_runSN (As := [.int 3, .int 1]) (rest := []) ⟨hx, hb, hml, hown, hts⟩ (cz_QisIn l dC dI ed H10.size 3 1) ⟨(va_cnB 2 hts gX4_findBestReady_X6_isIn_n54 rfl rfl rfl (hN.2.1 ("LockRooms$Stands", 54, yX6_isIn, "LockRooms") (List.mem_of_getElem? (i := 6) rfl)) (hts (.initialized RX6) (by decide +kernel)) (by decide +kernel) ⟨Nat.le_of_ble_eq_true rfl, Nat.le_of_ble_eq_true rfl⟩), (hts (.static yX6_isIn) (by decide +kernel)), trivial⟩ ⟨zb_blind, fun U hU hW => ⟨rfl, zb_mk hU hW hPr hPc hKc hDc hN hH hS hFc zx_e⟩⟩ rfl rfl hl.1 rfl (lv_room (Nat.le_of_ble_eq_true rfl)) dX4_findBestReady_37 ⟨Nat.le_of_ble_eq_true rfl, Nat.le_of_ble_eq_true rfl⟩) hS (fun q _ h => hFc q h) hFc (fun r13 u t H12 locs ht hvm hw hB hz1 hk1 hS => ?_)
  obtain rfl : r13 = 1 := hw.trans (by decide +kernel)
  have hP := zo_K hP hk1
  refine lv_if_eq (tgt := 56) hx hb dX4_findBestReady_40 (by decide) (fun h => absurd h (by decide)) (fun _ => ?_)
  refine lv_aload_n hx hb dX4_findBestReady_43 rfl (lv_at hl 6 rfl) ?_
  refine lv_iload_n hx hb dX4_findBestReady_44 rfl (lv_at hl 5 rfl) ?_
  refine lv_iconst (v := 1) hx hb dX4_findBestReady_45 (by decide) ?_
  refine lv_iload hx hb dX4_findBestReady_46 (lv_at hl 0 rfl) ?_
  refine lv_ishl hx hb dX4_findBestReady_48 ?_
  refine zo_i (v := 2) (by decide) ?_
  refine lv_ior hx hb dX4_findBestReady_49 ?_
  refine zo_i (v := 2) (by decide) ?_
  have hPr := (show va_P (dC, dI) vwCl [(st, .inr (6, [.ref a1, .ref a2, .ref a3])), (a3, .inl (cJ, 1024, .inl g3_3))] H12 from (zo_cons (((zo_R hR0 hS hAr)) 0 _ rfl) (zo_cons ((hP) 2 _ rfl) (zo_nil : va_P (dC, dI) vwCl [] H12))))
  have hPc := hP.sub (ws' := []) [] rfl
  have hDc := hD.sub (ws' := []) [] (by decide) rfl
  have hKc := hK.sub (tys' := [(cJ, .int)]) [4] rfl
  have hFc := va_free (wc := []) hD hS hA [] rfl
  refine va_calli (va_runV (As := [.int 2]) (rest := []) ⟨hx, hb, hml, hown, hts⟩ (cz_QyetBehind_2 l dC dI ed H12.size st a1 a2 a3 cJ g3_3 k3_6) (cwV 1 hts gX4_findBestReady_X4_yetBehind rfl rfl rfl (by decide +kernel) ⟨Nat.le_of_ble_eq_true rfl, Nat.le_of_ble_eq_true rfl⟩) ⟨zb_blind, va_recv hK (zo_R hR0 hS hAr) (ci := 6) (q0 := 0) rfl rfl, fun U hU hW => ⟨rfl, zb_mk hU hW hPr hPc hKc hDc hN hH hS hFc zx_e⟩⟩ rfl rfl hl.1 rfl (lv_room (Nat.le_of_ble_eq_true rfl)) dX4_findBestReady_50 ⟨Nat.le_of_ble_eq_true rfl, Nat.le_of_ble_eq_true rfl⟩) hS (fun q _ h => hFc q h) hFc (fun r15 u t H14 locs ht hvm hw hB hz1 hk1 hS => ?_)
  obtain rfl : r15 = 1 := hw
  have hP := zo_K hP hk1
  refine lv_goto (tgt := 57) hx hb dX4_findBestReady_53 (by decide) ?_
  refine lv_istore (lv' := [(7, .int 1), (6, .int 1), (5, .int 0), (4, .int 0), (3, .int 3), (2, .int 0), (0, .ref st), (1, .ref rm)]) hx hb dX4_findBestReady_57 hl (by decide) rfl (fun ls hl => ?_)
  refine lv_iload hx hb dX4_findBestReady_59 (lv_at hl 0 rfl) ?_
  refine lv_iconst (v := (-1)) hx hb dX4_findBestReady_61 (by decide) ?_
  refine lv_icmp_eq (tgt := 86) hx hb dX4_findBestReady_62 (by decide) (fun h => absurd h (by decide)) (fun _ => ?_)
  refine lv_iload hx hb dX4_findBestReady_65 (lv_at hl 3 rfl) ?_
  refine lv_iconst (v := (-1)) hx hb dX4_findBestReady_67 (by decide) ?_
  refine lv_icmp_eq (tgt := 78) hx hb dX4_findBestReady_68 (by decide) (fun h => absurd h (by decide)) (fun _ => ?_)
  refine lv_iload hx hb dX4_findBestReady_71 (lv_at hl 0 rfl) ?_
  refine lv_iload hx hb dX4_findBestReady_73 (lv_at hl 2 rfl) ?_
  refine lv_icmp_ge (tgt := 86) hx hb dX4_findBestReady_75 (by decide) (fun _ => ?_) (fun h => absurd h (by decide))
  refine lv_iinc (v := 2) (lv' := [(6, .int 2), (7, .int 1), (5, .int 0), (4, .int 0), (3, .int 3), (2, .int 0), (0, .ref st), (1, .ref rm)]) hx hb dX4_findBestReady_86 hl (k := 1) rfl (by decide) (by decide) rfl (fun ls hl => ?_)
  refine lv_goto (tgt := 25) hx hb dX4_findBestReady_89 (by decide) ?_
  refine lv_iload hx hb dX4_findBestReady_25 (lv_at hl 0 rfl) ?_
  refine lv_aload_n hx hb dX4_findBestReady_27 rfl (lv_at hl 7 rfl) ?_
  refine va_get (D := (dC, dI)) (ci := 5) (v := .int 2) (C := RX3) (T := TX3) (N := 12) hx hb hts zi_X4_findBestReady_X3 hown hK (zo_R hR0 hS hAr) 1 rfl rfl 4 (by decide) (hts (.fieldLink RX4 51 "LockRooms$Room" "lockCount" "I") (by decide +kernel)) (fun _ h9 => h9) rfl dX4_findBestReady_28 ?_
  refine lv_icmp_ge (tgt := 92) hx hb dX4_findBestReady_31 (by decide) (fun _ => ?_) (fun h => absurd h (by decide))
  refine lv_iload hx hb dX4_findBestReady_92 (lv_at hl 3 rfl) ?_
  refine W.widen (k := 0) (n := 0) (Nat.le_of_ble_eq_true rfl) (Nat.le_of_ble_eq_true rfl) ?_
  have hP9 := hP.sub (ws' := [(a1, .inl (cZ, 1024, .inl g1_3)), (a2, .inl (cI, 1024, .inl g2_3)), (a3, .inl (cJ, 1024, .inl g3_3))]) [0, 1, 2] rfl
  have hD9 := hD.sub (ws' := [(a1, .inl (cZ, 1024, .inl g1_3)), (a2, .inl (cI, 1024, .inl g2_3)), (a3, .inl (cJ, 1024, .inl g3_3))]) [0, 1, 2] (by decide) rfl
  have hK9 := hK.sub (tys' := [(cZ, .boolean), (cI, .int), (cJ, .int)]) [2, 3, 4] rfl
  exact W.iret hx hb hr (fun t ht hW => ⟨⟨0, (), rfl, rfl, ⟨g1_3, g2_3, g3_3, by rw [ht]; exact hP9, hD9, va_K.moved hW.alike hK9⟩⟩, hS.F ht⟩) hS.2.2 dX4_findBestReady_94

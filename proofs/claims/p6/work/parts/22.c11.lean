set_option maxHeartbeats 4000000 in
set_option maxRecDepth 100000 in
theorem cz_QX6_canEnd (l : Launch) (dC : Nat → ClassId) (dI : Nat → Nat → Nat) (ed sz : Nat) (x : Nat) (rm : Nat) (tr : Nat) (st : Nat) (a1 : Nat) (a2 : Nat) (a3 : Nat) (lk : Nat) (th : Nat) (pl : Nat) (gm : Nat) (cL : ClassId) (fl : Nat → Option Nat) (l0 : Nat) (l1 : Nat) (cT : ClassId) (ft : Nat → Option Nat) (t0 : Nat) (t1 : Nat) (t2 : Nat) (t3 : Nat) (t4 : Nat) (t5 : Nat) (t6 : Nat) (t7 : Nat) (t8 : Nat) (t9 : Nat) (cZ : ClassId) (f1 : Nat → Int32) (cI : ClassId) (f2 : Nat → Int32) (cJ : ClassId) (f3 : Nat → Int32) (hkl0 : fl 0 = some l0) (hkl1 : fl 1 = some l1) (hkt0 : ft 0 = some t0) (hkt1 : ft 1 = some t1) (hkt2 : ft 2 = some t2) (hkt3 : ft 3 = some t3) (hkt4 : ft 4 = some t4) (hkt5 : ft 5 = some t5) (hkt6 : ft 6 = some t6) (hkt7 : ft 7 = some t7) (hkt8 : ft 8 = some t8) (hkt9 : ft 9 = some t9) : Met l yX6_canEnd wsX6_canEnd ({ frames := 5, cells := 0, slots := 0, locals := 119 } : Jvm.Room) (va_Pc [.ref x] (zB dC dI ed sz [(x, .inr (8, [.ref rm, .ref tr, .ref st])), (st, .inr (6, [.ref a1, .ref a2, .ref a3])), (rm, .inr (5, [.ref lk, .ref th, .ref pl, .ref gm, .int 2, .int 10, .int 0, .int 0, .int 1, .int 0, .int 0, .int 0])), (lk, .inl (cL, 10, .inr (.inr (.inr (.inr fl))))), (th, .inl (cT, 12, .inr (.inr (.inr (.inr ft))))), (l0, .inr (3, [.int 0, .int 0, .int 60, .int 0, .int 0, .int 0, .int 0, .int 0, .int 0, .int 0])), (l1, .inr (3, [.int 0, .int 0, .int 60, .int 0, .int 0, .int 0, .int 0, .int 0, .int 0, .int 0])), (t0, .inr (7, [.int (-1), .int 0, .int 0, .int 0, .int 0])), (t1, .inr (7, [.int (-1), .int 0, .int 0, .int 0, .int 0])), (t2, .inr (7, [.int (-1), .int 0, .int 0, .int 0, .int 0])), (t3, .inr (7, [.int (-1), .int 0, .int 0, .int 0, .int 0])), (t4, .inr (7, [.int (-1), .int 0, .int 0, .int 0, .int 0])), (t5, .inr (7, [.int (-1), .int 0, .int 0, .int 0, .int 0])), (t6, .inr (7, [.int (-1), .int 0, .int 0, .int 0, .int 0])), (t7, .inr (7, [.int (-1), .int 0, .int 0, .int 0, .int 0])), (t8, .inr (7, [.int (-1), .int 0, .int 0, .int 0, .int 0])), (t9, .inr (7, [.int (-1), .int 0, .int 0, .int 0, .int 0]))] [(a1, .inl (cZ, 1024, .inl f1)), (a2, .inl (cI, 1024, .inl f2)), (a3, .inl (cJ, 1024, .inl f3))] [(cL, .object "LockRooms$Lock"), (cT, .object "LockRooms$Thing"), (cZ, .boolean), (cI, .int), (cJ, .int)])) (va_Qi (fun (r : Int32) (_ : Unit) => r = 1) (fun (_ : Unit) (t : State) => ∃ (g1 : Nat → Int32), ∃ (g2 : Nat → Int32), ∃ (g3 : Nat → Int32), va_P (dC, dI) vwCl [(a1, .inl (cZ, 1024, .inl g1)), (a2, .inl (cI, 1024, .inl g2)), (a3, .inl (cJ, 1024, .inl g3))] t.heap ∧ va_D (va_A [(a1, .inl (cZ, 1024, .inl f1)), (a2, .inl (cI, 1024, .inl f2)), (a3, .inl (cJ, 1024, .inl f3))] sz) [(a1, .inl (cZ, 1024, .inl g1)), (a2, .inl (cI, 1024, .inl g2)), (a3, .inl (cJ, 1024, .inl g3))] ∧ va_K (dC, dI) vwCl [(cZ, .boolean), (cI, .int), (cJ, .int)] t) (va_A [(a1, .inl (cZ, 1024, .inl f1)), (a2, .inl (cI, 1024, .inl f2)), (a3, .inl (cJ, 1024, .inl f3))] sz)) 0 0 (va_A [(a1, .inl (cZ, 1024, .inl f1)), (a2, .inl (cI, 1024, .inl f2)), (a3, .inl (cJ, 1024, .inl f3))] sz) := by
  refine Met.ofW (cc := cX6_canEnd) (maxL := 1) (ret := (some .boolean)) (by decide) rfl ?_
  intro p e s m args below meth c s₁ B hml hv
  obtain ⟨rfl, hsz, hR0, hP, hK, hD0, hN, hH, hX0⟩ := hv
  have hx := B.exec
  have hb := B.bytes
  have hr := B.returns
  have hts := atoms_spec (ws := wsX6_canEnd) B.pre
  have hown : s.vm.findClass RX6 = some m.cls := findClass_of_methodNamed B.named
  have hlocks := B.notSynchronized
  subst hsz
  have hD := hD0.self (sz := s.heap.size)
  have hAr := zx_A hX0 hR0
  generalize hAe : va_A [(a1, .inl (cZ, 1024, .inl f1)), (a2, .inl (cI, 1024, .inl f2)), (a3, .inl (cJ, 1024, .inl f3))] s.heap.size = A at hD hAr hH ⊢
  have hA : ∀ q : Nat, s.heap.size ≤ q → A q := fun q h => by rw [← hAe]; exact Or.inr h
  have hS : va_S A s.heap s.heap [] := va_S.rf
  have hl := lv_entry ([.ref x]) (n := 1) (Nat.le_of_ble_eq_true rfl)
  rw [lg_entry_eq]
  generalize (lg_sl ([.ref x]) ++ List.replicate (1 - (lg_sl ([.ref x])).length) Slot.unset).toArray = ls at hl ⊢
  have hl : lv_has ls 1 [(0, .ref x)] := hl
  refine lv_aload_n hx hb dX6_canEnd_0 rfl (lv_at hl 0 rfl) ?_
  refine va_get (D := (dC, dI)) (ci := 8) (v := .ref st) (C := RX6) (T := TX6) (N := 3) hx hb hts zi_X6_canEnd_X6 hown hK hR0 0 rfl rfl 2 (by decide) (hts (.fieldLink RX6 22 "LockRooms" "future" "LLockRooms$Stands;") (by decide +kernel)) (fun _ h9 => h9) rfl dX6_canEnd_1 ?_
  refine lv_aload_n hx hb dX6_canEnd_4 rfl (lv_at hl 0 rfl) ?_
  refine va_get (D := (dC, dI)) (ci := 8) (v := .ref rm) (C := RX6) (T := TX6) (N := 3) hx hb hts zi_X6_canEnd_X6 hown hK hR0 0 rfl rfl 0 (by decide) (hts (.fieldLink RX6 12 "LockRooms" "room" "LLockRooms$Room;") (by decide +kernel)) (fun _ h9 => h9) rfl dX6_canEnd_5 ?_
  have hPr := (hR0).sub (ws' := [(st, .inr (6, [.ref a1, .ref a2, .ref a3])), (rm, .inr (5, [.ref lk, .ref th, .ref pl, .ref gm, .int 2, .int 10, .int 0, .int 0, .int 1, .int 0, .int 0, .int 0])), (lk, .inl (cL, 10, .inr (.inr (.inr (.inr fl))))), (th, .inl (cT, 12, .inr (.inr (.inr (.inr ft))))), (l0, .inr (3, [.int 0, .int 0, .int 60, .int 0, .int 0, .int 0, .int 0, .int 0, .int 0, .int 0])), (l1, .inr (3, [.int 0, .int 0, .int 60, .int 0, .int 0, .int 0, .int 0, .int 0, .int 0, .int 0])), (t0, .inr (7, [.int (-1), .int 0, .int 0, .int 0, .int 0])), (t1, .inr (7, [.int (-1), .int 0, .int 0, .int 0, .int 0])), (t2, .inr (7, [.int (-1), .int 0, .int 0, .int 0, .int 0])), (t3, .inr (7, [.int (-1), .int 0, .int 0, .int 0, .int 0])), (t4, .inr (7, [.int (-1), .int 0, .int 0, .int 0, .int 0])), (t5, .inr (7, [.int (-1), .int 0, .int 0, .int 0, .int 0])), (t6, .inr (7, [.int (-1), .int 0, .int 0, .int 0, .int 0])), (t7, .inr (7, [.int (-1), .int 0, .int 0, .int 0, .int 0])), (t8, .inr (7, [.int (-1), .int 0, .int 0, .int 0, .int 0])), (t9, .inr (7, [.int (-1), .int 0, .int 0, .int 0, .int 0]))]) [1, 2, 3, 4, 5, 6, 7, 8, 9, 10, 11, 12, 13, 14, 15, 16] rfl
  have hPc := hP.sub (ws' := [(a1, .inl (cZ, 1024, .inl f1)), (a2, .inl (cI, 1024, .inl f2)), (a3, .inl (cJ, 1024, .inl f3))]) [0, 1, 2] rfl
  have hDc := hD.sub (ws' := [(a1, .inl (cZ, 1024, .inl f1)), (a2, .inl (cI, 1024, .inl f2)), (a3, .inl (cJ, 1024, .inl f3))]) [0, 1, 2] (by decide) rfl
  have hKc := hK.sub (tys' := [(cL, .object "LockRooms$Lock"), (cT, .object "LockRooms$Thing"), (cZ, .boolean), (cI, .int), (cJ, .int)]) [0, 1, 2, 3, 4] rfl
  have hFc := va_free (wc := [(a1, .inl (cZ, 1024, .inl f1)), (a2, .inl (cI, 1024, .inl f2)), (a3, .inl (cJ, 1024, .inl f3))]) hD hS hA [0, 1, 2] rfl
  refine va_calli (va_runV (As := [.ref rm]) (rest := []) ⟨hx, hb, hml, hown, hts⟩ (cz_QfindDepth l dC dI ed s.heap.size st a1 a2 a3 rm lk th pl gm cL fl l0 l1 cT ft t0 t1 t2 t3 t4 t5 t6 t7 t8 t9 cZ f1 cI f2 cJ f3 hkl0 hkl1 hkt0 hkt1 hkt2 hkt3 hkt4 hkt5 hkt6 hkt7 hkt8 hkt9) (cwV 1 hts gX6_canEnd_X4_findDepth rfl rfl rfl (by decide +kernel) ⟨Nat.le_of_ble_eq_true rfl, Nat.le_of_ble_eq_true rfl⟩) ⟨zb_blind, va_recv hK hR0 (ci := 6) (q0 := 1) rfl rfl, fun U hU hW => ⟨rfl, zb_mk hU hW hPr hPc hKc hDc hN hH hS hFc (zx_cons (zx_r (hAr _ (List.mem_of_getElem? (i := 1) rfl)) hDc) (zx_cons (zx_r (hAr _ (List.mem_of_getElem? (i := 2) rfl)) hDc) (zx_cons (zx_r (hAr _ (List.mem_of_getElem? (i := 3) rfl)) hDc) (zx_cons (zx_r (hAr _ (List.mem_of_getElem? (i := 4) rfl)) hDc) (zx_cons (zx_r (hAr _ (List.mem_of_getElem? (i := 5) rfl)) hDc) (zx_cons (zx_r (hAr _ (List.mem_of_getElem? (i := 6) rfl)) hDc) (zx_cons (zx_r (hAr _ (List.mem_of_getElem? (i := 7) rfl)) hDc) (zx_cons (zx_r (hAr _ (List.mem_of_getElem? (i := 8) rfl)) hDc) (zx_cons (zx_r (hAr _ (List.mem_of_getElem? (i := 9) rfl)) hDc) (zx_cons (zx_r (hAr _ (List.mem_of_getElem? (i := 10) rfl)) hDc) (zx_cons (zx_r (hAr _ (List.mem_of_getElem? (i := 11) rfl)) hDc) (zx_cons (zx_r (hAr _ (List.mem_of_getElem? (i := 12) rfl)) hDc) (zx_cons (zx_r (hAr _ (List.mem_of_getElem? (i := 13) rfl)) hDc) (zx_cons (zx_r (hAr _ (List.mem_of_getElem? (i := 14) rfl)) hDc) (zx_cons (zx_r (hAr _ (List.mem_of_getElem? (i := 15) rfl)) hDc) (zx_cons (zx_r (hAr _ (List.mem_of_getElem? (i := 16) rfl)) hDc) zx_nil))))))))))))))))⟩⟩ rfl rfl hl.1 rfl (lv_room (Nat.le_of_ble_eq_true rfl)) dX6_canEnd_8 ⟨Nat.le_of_ble_eq_true rfl, Nat.le_of_ble_eq_true rfl⟩) hS (fun q _ h => hFc q h) hFc (fun r2 u t H1 locs ht hvm hw hB hz1 hk1 hS => ?_)
  obtain rfl : r2 = 1 := hw
  obtain ⟨g1_3, g2_3, g3_3, hP1, hD1, hK1⟩ := hB
  rw [ht] at hP1
  obtain ⟨hP, hD⟩ := va_join (wr := []) (w1 := [(a1, .inl (cZ, 1024, .inl g1_3)), (a2, .inl (cI, 1024, .inl g2_3)), (a3, .inl (cJ, 1024, .inl g3_3))]) hP hD [0, 1, 2] [] rfl rfl (by decide) (by decide) hk1 hFc hP1 hD1
  have hP : va_P (dC, dI) vwCl [(a1, .inl (cZ, 1024, .inl g1_3)), (a2, .inl (cI, 1024, .inl g2_3)), (a3, .inl (cJ, 1024, .inl g3_3))] H1 := hP
  have hD : va_D A [(a1, .inl (cZ, 1024, .inl g1_3)), (a2, .inl (cI, 1024, .inl g2_3)), (a3, .inl (cJ, 1024, .inl g3_3))] := hD
  refine lv_iconst (v := (-1)) hx hb dX6_canEnd_11 (by decide) ?_
  refine lv_icmp_eq (tgt := 19) hx hb dX6_canEnd_12 (by decide) (fun h => absurd h (by decide)) (fun _ => ?_)
  refine lv_iconst (v := 1) hx hb dX6_canEnd_15 (by decide) ?_
  refine lv_goto (tgt := 20) hx hb dX6_canEnd_16 (by decide) ?_
  refine W.widen (k := 0) (n := 0) (Nat.le_of_ble_eq_true rfl) (Nat.le_of_ble_eq_true rfl) ?_
  have hP9 := hP.sub (ws' := [(a1, .inl (cZ, 1024, .inl g1_3)), (a2, .inl (cI, 1024, .inl g2_3)), (a3, .inl (cJ, 1024, .inl g3_3))]) [0, 1, 2] rfl
  have hD9 := hD.sub (ws' := [(a1, .inl (cZ, 1024, .inl g1_3)), (a2, .inl (cI, 1024, .inl g2_3)), (a3, .inl (cJ, 1024, .inl g3_3))]) [0, 1, 2] (by decide) rfl
  have hK9 := hK.sub (tys' := [(cZ, .boolean), (cI, .int), (cJ, .int)]) [2, 3, 4] rfl
  exact W.zret hx hb hr (by decide) (fun t ht hW => ⟨⟨1, (), rfl, rfl, ⟨g1_3, g2_3, g3_3, by rw [ht]; exact hP9, hD9, va_K.moved hW.alike hK9⟩⟩, hS.F ht⟩) hS.2.2 dX6_canEnd_20
set_option maxHeartbeats 4000000 in
set_option maxRecDepth 100000 in
theorem cz_QX6_stands (l : Launch) (dC : Nat → ClassId) (dI : Nat → Nat → Nat) (ed sz : Nat) (x : Nat) (rm : Nat) (tr : Nat) (st : Nat) (a1 : Nat) (a2 : Nat) (a3 : Nat) (lk : Nat) (th : Nat) (pl : Nat) (gm : Nat) (cL : ClassId) (fl : Nat → Option Nat) (l0 : Nat) (l1 : Nat) (cT : ClassId) (ft : Nat → Option Nat) (t0 : Nat) (t1 : Nat) (t2 : Nat) (t3 : Nat) (t4 : Nat) (t5 : Nat) (t6 : Nat) (t7 : Nat) (t8 : Nat) (t9 : Nat) (cZ : ClassId) (f1 : Nat → Int32) (cI : ClassId) (f2 : Nat → Int32) (cJ : ClassId) (f3 : Nat → Int32) (hkl0 : fl 0 = some l0) (hkl1 : fl 1 = some l1) (hkt0 : ft 0 = some t0) (hkt1 : ft 1 = some t1) (hkt2 : ft 2 = some t2) (hkt3 : ft 3 = some t3) (hkt4 : ft 4 = some t4) (hkt5 : ft 5 = some t5) (hkt6 : ft 6 = some t6) (hkt7 : ft 7 = some t7) (hkt8 : ft 8 = some t8) (hkt9 : ft 9 = some t9) : Met l yX6_stands wsX6_stands ({ frames := 5, cells := 0, slots := 0, locals := 121 } : Jvm.Room) (va_Pc [.ref x] (zB dC dI ed sz [(x, .inr (8, [.ref rm, .ref tr, .ref st])), (st, .inr (6, [.ref a1, .ref a2, .ref a3])), (rm, .inr (5, [.ref lk, .ref th, .ref pl, .ref gm, .int 2, .int 10, .int 0, .int 0, .int 1, .int 0, .int 0, .int 0])), (lk, .inl (cL, 10, .inr (.inr (.inr (.inr fl))))), (th, .inl (cT, 12, .inr (.inr (.inr (.inr ft))))), (l0, .inr (3, [.int 0, .int 0, .int 60, .int 0, .int 0, .int 0, .int 0, .int 0, .int 0, .int 0])), (l1, .inr (3, [.int 0, .int 0, .int 60, .int 0, .int 0, .int 0, .int 0, .int 0, .int 0, .int 0])), (t0, .inr (7, [.int (-1), .int 0, .int 0, .int 0, .int 0])), (t1, .inr (7, [.int (-1), .int 0, .int 0, .int 0, .int 0])), (t2, .inr (7, [.int (-1), .int 0, .int 0, .int 0, .int 0])), (t3, .inr (7, [.int (-1), .int 0, .int 0, .int 0, .int 0])), (t4, .inr (7, [.int (-1), .int 0, .int 0, .int 0, .int 0])), (t5, .inr (7, [.int (-1), .int 0, .int 0, .int 0, .int 0])), (t6, .inr (7, [.int (-1), .int 0, .int 0, .int 0, .int 0])), (t7, .inr (7, [.int (-1), .int 0, .int 0, .int 0, .int 0])), (t8, .inr (7, [.int (-1), .int 0, .int 0, .int 0, .int 0])), (t9, .inr (7, [.int (-1), .int 0, .int 0, .int 0, .int 0]))] [(a1, .inl (cZ, 1024, .inl f1)), (a2, .inl (cI, 1024, .inl f2)), (a3, .inl (cJ, 1024, .inl f3))] [(cL, .object "LockRooms$Lock"), (cT, .object "LockRooms$Thing"), (cZ, .boolean), (cI, .int), (cJ, .int)])) (va_Qi (fun (r : Int32) (_ : Unit) => r = 4) (fun (_ : Unit) (t : State) => ∃ (g1 : Nat → Int32), ∃ (g2 : Nat → Int32), ∃ (g3 : Nat → Int32), va_P (dC, dI) vwCl [(a1, .inl (cZ, 1024, .inl g1)), (a2, .inl (cI, 1024, .inl g2)), (a3, .inl (cJ, 1024, .inl g3))] t.heap ∧ va_D (va_A [(a1, .inl (cZ, 1024, .inl f1)), (a2, .inl (cI, 1024, .inl f2)), (a3, .inl (cJ, 1024, .inl f3))] sz) [(a1, .inl (cZ, 1024, .inl g1)), (a2, .inl (cI, 1024, .inl g2)), (a3, .inl (cJ, 1024, .inl g3))] ∧ va_K (dC, dI) vwCl [(cZ, .boolean), (cI, .int), (cJ, .int)] t) (va_A [(a1, .inl (cZ, 1024, .inl f1)), (a2, .inl (cI, 1024, .inl f2)), (a3, .inl (cJ, 1024, .inl f3))] sz)) 0 0 (va_A [(a1, .inl (cZ, 1024, .inl f1)), (a2, .inl (cI, 1024, .inl f2)), (a3, .inl (cJ, 1024, .inl f3))] sz) := by
  refine Met.ofW (cc := cX6_stands) (maxL := 1) (ret := (some .int)) (by decide) rfl ?_
  intro p e s m args below meth c s₁ B hml hv
  obtain ⟨rfl, hsz, hR0, hP, hK, hD0, hN, hH, hX0⟩ := hv
  have hx := B.exec
  have hb := B.bytes
  have hr := B.returns
  have hts := atoms_spec (ws := wsX6_stands) B.pre
  have hown : s.vm.findClass RX6 = some m.cls := findClass_of_methodNamed B.named
  have hlocks := B.notSynchronized
  subst hsz
  have hD := hD0.self (sz := s.heap.size)
  have hAr := zx_A hX0 hR0
  generalize hAe : va_A [(a1, .inl (cZ, 1024, .inl f1)), (a2, .inl (cI, 1024, .inl f2)), (a3, .inl (cJ, 1024, .inl f3))] s.heap.size = A at hD hAr hH ⊢
  have hA : ∀ q : Nat, s.heap.size ≤ q → A q := fun q h => by rw [← hAe]; exact Or.inr h
  have hS : va_S A s.heap s.heap [] := va_S.rf
  have hl := lv_entry ([.ref x]) (n := 1) (Nat.le_of_ble_eq_true rfl)
  rw [lg_entry_eq]
  generalize (lg_sl ([.ref x]) ++ List.replicate (1 - (lg_sl ([.ref x])).length) Slot.unset).toArray = ls at hl ⊢
  have hl : lv_has ls 1 [(0, .ref x)] := hl
  refine lv_aload_n hx hb dX6_stands_0 rfl (lv_at hl 0 rfl) ?_
  refine va_get (D := (dC, dI)) (ci := 8) (v := .ref st) (C := RX6) (T := TX6) (N := 3) hx hb hts zi_X6_stands_X6 hown hK hR0 0 rfl rfl 2 (by decide) (hts (.fieldLink RX6 22 "LockRooms" "future" "LLockRooms$Stands;") (by decide +kernel)) (fun _ h9 => h9) rfl dX6_stands_1 ?_
  refine lv_aload_n hx hb dX6_stands_4 rfl (lv_at hl 0 rfl) ?_
  refine va_get (D := (dC, dI)) (ci := 8) (v := .ref rm) (C := RX6) (T := TX6) (N := 3) hx hb hts zi_X6_stands_X6 hown hK hR0 0 rfl rfl 0 (by decide) (hts (.fieldLink RX6 12 "LockRooms" "room" "LLockRooms$Room;") (by decide +kernel)) (fun _ h9 => h9) rfl dX6_stands_5 ?_
  have hPr := (hR0).sub (ws' := [(st, .inr (6, [.ref a1, .ref a2, .ref a3])), (rm, .inr (5, [.ref lk, .ref th, .ref pl, .ref gm, .int 2, .int 10, .int 0, .int 0, .int 1, .int 0, .int 0, .int 0])), (lk, .inl (cL, 10, .inr (.inr (.inr (.inr fl))))), (th, .inl (cT, 12, .inr (.inr (.inr (.inr ft))))), (l0, .inr (3, [.int 0, .int 0, .int 60, .int 0, .int 0, .int 0, .int 0, .int 0, .int 0, .int 0])), (l1, .inr (3, [.int 0, .int 0, .int 60, .int 0, .int 0, .int 0, .int 0, .int 0, .int 0, .int 0])), (t0, .inr (7, [.int (-1), .int 0, .int 0, .int 0, .int 0])), (t1, .inr (7, [.int (-1), .int 0, .int 0, .int 0, .int 0])), (t2, .inr (7, [.int (-1), .int 0, .int 0, .int 0, .int 0])), (t3, .inr (7, [.int (-1), .int 0, .int 0, .int 0, .int 0])), (t4, .inr (7, [.int (-1), .int 0, .int 0, .int 0, .int 0])), (t5, .inr (7, [.int (-1), .int 0, .int 0, .int 0, .int 0])), (t6, .inr (7, [.int (-1), .int 0, .int 0, .int 0, .int 0])), (t7, .inr (7, [.int (-1), .int 0, .int 0, .int 0, .int 0])), (t8, .inr (7, [.int (-1), .int 0, .int 0, .int 0, .int 0])), (t9, .inr (7, [.int (-1), .int 0, .int 0, .int 0, .int 0]))]) [1, 2, 3, 4, 5, 6, 7, 8, 9, 10, 11, 12, 13, 14, 15, 16] rfl
  have hPc := hP.sub (ws' := [(a1, .inl (cZ, 1024, .inl f1)), (a2, .inl (cI, 1024, .inl f2)), (a3, .inl (cJ, 1024, .inl f3))]) [0, 1, 2] rfl
  have hDc := hD.sub (ws' := [(a1, .inl (cZ, 1024, .inl f1)), (a2, .inl (cI, 1024, .inl f2)), (a3, .inl (cJ, 1024, .inl f3))]) [0, 1, 2] (by decide) rfl
  have hKc := hK.sub (tys' := [(cL, .object "LockRooms$Lock"), (cT, .object "LockRooms$Thing"), (cZ, .boolean), (cI, .int), (cJ, .int)]) [0, 1, 2, 3, 4] rfl
  have hFc := va_free (wc := [(a1, .inl (cZ, 1024, .inl f1)), (a2, .inl (cI, 1024, .inl f2)), (a3, .inl (cJ, 1024, .inl f3))]) hD hS hA [0, 1, 2] rfl
  refine va_calli (va_runV (As := [.ref rm]) (rest := []) ⟨hx, hb, hml, hown, hts⟩ (cz_QcountReached l dC dI ed s.heap.size st a1 a2 a3 rm lk th pl gm cL fl l0 l1 cT ft t0 t1 t2 t3 t4 t5 t6 t7 t8 t9 cZ f1 cI f2 cJ f3 hkl0 hkl1 hkt0 hkt1 hkt2 hkt3 hkt4 hkt5 hkt6 hkt7 hkt8 hkt9) (cwV 1 hts gX6_stands_X4_countReached rfl rfl rfl (by decide +kernel) ⟨Nat.le_of_ble_eq_true rfl, Nat.le_of_ble_eq_true rfl⟩) ⟨zb_blind, va_recv hK hR0 (ci := 6) (q0 := 1) rfl rfl, fun U hU hW => ⟨rfl, zb_mk hU hW hPr hPc hKc hDc hN hH hS hFc (zx_cons (zx_r (hAr _ (List.mem_of_getElem? (i := 1) rfl)) hDc) (zx_cons (zx_r (hAr _ (List.mem_of_getElem? (i := 2) rfl)) hDc) (zx_cons (zx_r (hAr _ (List.mem_of_getElem? (i := 3) rfl)) hDc) (zx_cons (zx_r (hAr _ (List.mem_of_getElem? (i := 4) rfl)) hDc) (zx_cons (zx_r (hAr _ (List.mem_of_getElem? (i := 5) rfl)) hDc) (zx_cons (zx_r (hAr _ (List.mem_of_getElem? (i := 6) rfl)) hDc) (zx_cons (zx_r (hAr _ (List.mem_of_getElem? (i := 7) rfl)) hDc) (zx_cons (zx_r (hAr _ (List.mem_of_getElem? (i := 8) rfl)) hDc) (zx_cons (zx_r (hAr _ (List.mem_of_getElem? (i := 9) rfl)) hDc) (zx_cons (zx_r (hAr _ (List.mem_of_getElem? (i := 10) rfl)) hDc) (zx_cons (zx_r (hAr _ (List.mem_of_getElem? (i := 11) rfl)) hDc) (zx_cons (zx_r (hAr _ (List.mem_of_getElem? (i := 12) rfl)) hDc) (zx_cons (zx_r (hAr _ (List.mem_of_getElem? (i := 13) rfl)) hDc) (zx_cons (zx_r (hAr _ (List.mem_of_getElem? (i := 14) rfl)) hDc) (zx_cons (zx_r (hAr _ (List.mem_of_getElem? (i := 15) rfl)) hDc) (zx_cons (zx_r (hAr _ (List.mem_of_getElem? (i := 16) rfl)) hDc) zx_nil))))))))))))))))⟩⟩ rfl rfl hl.1 rfl (lv_room (Nat.le_of_ble_eq_true rfl)) dX6_stands_8 ⟨Nat.le_of_ble_eq_true rfl, Nat.le_of_ble_eq_true rfl⟩) hS (fun q _ h => hFc q h) hFc (fun r2 u t H1 locs ht hvm hw hB hz1 hk1 hS => ?_)
  obtain rfl : r2 = 4 := hw
  obtain ⟨g1_3, g2_3, g3_3, hP1, hD1, hK1⟩ := hB
  rw [ht] at hP1
  obtain ⟨hP, hD⟩ := va_join (wr := []) (w1 := [(a1, .inl (cZ, 1024, .inl g1_3)), (a2, .inl (cI, 1024, .inl g2_3)), (a3, .inl (cJ, 1024, .inl g3_3))]) hP hD [0, 1, 2] [] rfl rfl (by decide) (by decide) hk1 hFc hP1 hD1
  have hP : va_P (dC, dI) vwCl [(a1, .inl (cZ, 1024, .inl g1_3)), (a2, .inl (cI, 1024, .inl g2_3)), (a3, .inl (cJ, 1024, .inl g3_3))] H1 := hP
  have hD : va_D A [(a1, .inl (cZ, 1024, .inl g1_3)), (a2, .inl (cI, 1024, .inl g2_3)), (a3, .inl (cJ, 1024, .inl g3_3))] := hD
  refine W.widen (k := 0) (n := 0) (Nat.le_of_ble_eq_true rfl) (Nat.le_of_ble_eq_true rfl) ?_
  have hP9 := hP.sub (ws' := [(a1, .inl (cZ, 1024, .inl g1_3)), (a2, .inl (cI, 1024, .inl g2_3)), (a3, .inl (cJ, 1024, .inl g3_3))]) [0, 1, 2] rfl
  have hD9 := hD.sub (ws' := [(a1, .inl (cZ, 1024, .inl g1_3)), (a2, .inl (cI, 1024, .inl g2_3)), (a3, .inl (cJ, 1024, .inl g3_3))]) [0, 1, 2] (by decide) rfl
  have hK9 := hK.sub (tys' := [(cZ, .boolean), (cI, .int), (cJ, .int)]) [2, 3, 4] rfl
  exact W.iret hx hb hr (fun t ht hW => ⟨⟨4, (), rfl, rfl, ⟨g1_3, g2_3, g3_3, by rw [ht]; exact hP9, hD9, va_K.moved hW.alike hK9⟩⟩, hS.F ht⟩) hS.2.2 dX6_stands_11
set_option maxHeartbeats 4000000 in
set_option maxRecDepth 100000 in
theorem cz_QX6_deadEnds (l : Launch) (dC : Nat → ClassId) (dI : Nat → Nat → Nat) (ed sz : Nat) (x : Nat) (rm : Nat) (tr : Nat) (st : Nat) (a1 : Nat) (a2 : Nat) (a3 : Nat) (lk : Nat) (th : Nat) (pl : Nat) (gm : Nat) (cL : ClassId) (fl : Nat → Option Nat) (l0 : Nat) (l1 : Nat) (cT : ClassId) (ft : Nat → Option Nat) (t0 : Nat) (t1 : Nat) (t2 : Nat) (t3 : Nat) (t4 : Nat) (t5 : Nat) (t6 : Nat) (t7 : Nat) (t8 : Nat) (t9 : Nat) (cZ : ClassId) (f1 : Nat → Int32) (cI : ClassId) (f2 : Nat → Int32) (cJ : ClassId) (f3 : Nat → Int32) (hkl0 : fl 0 = some l0) (hkl1 : fl 1 = some l1) (hkt0 : ft 0 = some t0) (hkt1 : ft 1 = some t1) (hkt2 : ft 2 = some t2) (hkt3 : ft 3 = some t3) (hkt4 : ft 4 = some t4) (hkt5 : ft 5 = some t5) (hkt6 : ft 6 = some t6) (hkt7 : ft 7 = some t7) (hkt8 : ft 8 = some t8) (hkt9 : ft 9 = some t9) : Met l yX6_deadEnds wsX6_deadEnds ({ frames := 5, cells := 0, slots := 0, locals := 121 } : Jvm.Room) (va_Pc [.ref x] (zB dC dI ed sz [(x, .inr (8, [.ref rm, .ref tr, .ref st])), (st, .inr (6, [.ref a1, .ref a2, .ref a3])), (rm, .inr (5, [.ref lk, .ref th, .ref pl, .ref gm, .int 2, .int 10, .int 0, .int 0, .int 1, .int 0, .int 0, .int 0])), (lk, .inl (cL, 10, .inr (.inr (.inr (.inr fl))))), (th, .inl (cT, 12, .inr (.inr (.inr (.inr ft))))), (l0, .inr (3, [.int 0, .int 0, .int 60, .int 0, .int 0, .int 0, .int 0, .int 0, .int 0, .int 0])), (l1, .inr (3, [.int 0, .int 0, .int 60, .int 0, .int 0, .int 0, .int 0, .int 0, .int 0, .int 0])), (t0, .inr (7, [.int (-1), .int 0, .int 0, .int 0, .int 0])), (t1, .inr (7, [.int (-1), .int 0, .int 0, .int 0, .int 0])), (t2, .inr (7, [.int (-1), .int 0, .int 0, .int 0, .int 0])), (t3, .inr (7, [.int (-1), .int 0, .int 0, .int 0, .int 0])), (t4, .inr (7, [.int (-1), .int 0, .int 0, .int 0, .int 0])), (t5, .inr (7, [.int (-1), .int 0, .int 0, .int 0, .int 0])), (t6, .inr (7, [.int (-1), .int 0, .int 0, .int 0, .int 0])), (t7, .inr (7, [.int (-1), .int 0, .int 0, .int 0, .int 0])), (t8, .inr (7, [.int (-1), .int 0, .int 0, .int 0, .int 0])), (t9, .inr (7, [.int (-1), .int 0, .int 0, .int 0, .int 0]))] [(a1, .inl (cZ, 1024, .inl f1)), (a2, .inl (cI, 1024, .inl f2)), (a3, .inl (cJ, 1024, .inl f3))] [(cL, .object "LockRooms$Lock"), (cT, .object "LockRooms$Thing"), (cZ, .boolean), (cI, .int), (cJ, .int)])) (va_Qi (fun (r : Int32) (_ : Unit) => r = 0) (fun (_ : Unit) (t : State) => ∃ (g1 : Nat → Int32), ∃ (g2 : Nat → Int32), ∃ (g3 : Nat → Int32), va_P (dC, dI) vwCl [(a1, .inl (cZ, 1024, .inl g1)), (a2, .inl (cI, 1024, .inl g2)), (a3, .inl (cJ, 1024, .inl g3))] t.heap ∧ va_D (va_A [(a1, .inl (cZ, 1024, .inl f1)), (a2, .inl (cI, 1024, .inl f2)), (a3, .inl (cJ, 1024, .inl f3))] sz) [(a1, .inl (cZ, 1024, .inl g1)), (a2, .inl (cI, 1024, .inl g2)), (a3, .inl (cJ, 1024, .inl g3))] ∧ va_K (dC, dI) vwCl [(cZ, .boolean), (cI, .int), (cJ, .int)] t) (va_A [(a1, .inl (cZ, 1024, .inl f1)), (a2, .inl (cI, 1024, .inl f2)), (a3, .inl (cJ, 1024, .inl f3))] sz)) 0 0 (va_A [(a1, .inl (cZ, 1024, .inl f1)), (a2, .inl (cI, 1024, .inl f2)), (a3, .inl (cJ, 1024, .inl f3))] sz) := by
  refine Met.ofW (cc := cX6_deadEnds) (maxL := 1) (ret := (some .int)) (by decide) rfl ?_
  intro p e s m args below meth c s₁ B hml hv
  obtain ⟨rfl, hsz, hR0, hP, hK, hD0, hN, hH, hX0⟩ := hv
  have hx := B.exec
  have hb := B.bytes
  have hr := B.returns
  have hts := atoms_spec (ws := wsX6_deadEnds) B.pre
  have hown : s.vm.findClass RX6 = some m.cls := findClass_of_methodNamed B.named
  have hlocks := B.notSynchronized
  subst hsz
  have hD := hD0.self (sz := s.heap.size)
  have hAr := zx_A hX0 hR0
  generalize hAe : va_A [(a1, .inl (cZ, 1024, .inl f1)), (a2, .inl (cI, 1024, .inl f2)), (a3, .inl (cJ, 1024, .inl f3))] s.heap.size = A at hD hAr hH ⊢
  have hA : ∀ q : Nat, s.heap.size ≤ q → A q := fun q h => by rw [← hAe]; exact Or.inr h
  have hS : va_S A s.heap s.heap [] := va_S.rf
  have hl := lv_entry ([.ref x]) (n := 1) (Nat.le_of_ble_eq_true rfl)
  rw [lg_entry_eq]
  generalize (lg_sl ([.ref x]) ++ List.replicate (1 - (lg_sl ([.ref x])).length) Slot.unset).toArray = ls at hl ⊢
  have hl : lv_has ls 1 [(0, .ref x)] := hl
  refine lv_aload_n hx hb dX6_deadEnds_0 rfl (lv_at hl 0 rfl) ?_
  refine va_get (D := (dC, dI)) (ci := 8) (v := .ref st) (C := RX6) (T := TX6) (N := 3) hx hb hts zi_X6_deadEnds_X6 hown hK hR0 0 rfl rfl 2 (by decide) (hts (.fieldLink RX6 22 "LockRooms" "future" "LLockRooms$Stands;") (by decide +kernel)) (fun _ h9 => h9) rfl dX6_deadEnds_1 ?_
  refine lv_aload_n hx hb dX6_deadEnds_4 rfl (lv_at hl 0 rfl) ?_
  refine va_get (D := (dC, dI)) (ci := 8) (v := .ref rm) (C := RX6) (T := TX6) (N := 3) hx hb hts zi_X6_deadEnds_X6 hown hK hR0 0 rfl rfl 0 (by decide) (hts (.fieldLink RX6 12 "LockRooms" "room" "LLockRooms$Room;") (by decide +kernel)) (fun _ h9 => h9) rfl dX6_deadEnds_5 ?_
  have hPr := (hR0).sub (ws' := [(st, .inr (6, [.ref a1, .ref a2, .ref a3])), (rm, .inr (5, [.ref lk, .ref th, .ref pl, .ref gm, .int 2, .int 10, .int 0, .int 0, .int 1, .int 0, .int 0, .int 0])), (lk, .inl (cL, 10, .inr (.inr (.inr (.inr fl))))), (th, .inl (cT, 12, .inr (.inr (.inr (.inr ft))))), (l0, .inr (3, [.int 0, .int 0, .int 60, .int 0, .int 0, .int 0, .int 0, .int 0, .int 0, .int 0])), (l1, .inr (3, [.int 0, .int 0, .int 60, .int 0, .int 0, .int 0, .int 0, .int 0, .int 0, .int 0])), (t0, .inr (7, [.int (-1), .int 0, .int 0, .int 0, .int 0])), (t1, .inr (7, [.int (-1), .int 0, .int 0, .int 0, .int 0])), (t2, .inr (7, [.int (-1), .int 0, .int 0, .int 0, .int 0])), (t3, .inr (7, [.int (-1), .int 0, .int 0, .int 0, .int 0])), (t4, .inr (7, [.int (-1), .int 0, .int 0, .int 0, .int 0])), (t5, .inr (7, [.int (-1), .int 0, .int 0, .int 0, .int 0])), (t6, .inr (7, [.int (-1), .int 0, .int 0, .int 0, .int 0])), (t7, .inr (7, [.int (-1), .int 0, .int 0, .int 0, .int 0])), (t8, .inr (7, [.int (-1), .int 0, .int 0, .int 0, .int 0])), (t9, .inr (7, [.int (-1), .int 0, .int 0, .int 0, .int 0]))]) [1, 2, 3, 4, 5, 6, 7, 8, 9, 10, 11, 12, 13, 14, 15, 16] rfl
  have hPc := hP.sub (ws' := [(a1, .inl (cZ, 1024, .inl f1)), (a2, .inl (cI, 1024, .inl f2)), (a3, .inl (cJ, 1024, .inl f3))]) [0, 1, 2] rfl
  have hDc := hD.sub (ws' := [(a1, .inl (cZ, 1024, .inl f1)), (a2, .inl (cI, 1024, .inl f2)), (a3, .inl (cJ, 1024, .inl f3))]) [0, 1, 2] (by decide) rfl
  have hKc := hK.sub (tys' := [(cL, .object "LockRooms$Lock"), (cT, .object "LockRooms$Thing"), (cZ, .boolean), (cI, .int), (cJ, .int)]) [0, 1, 2, 3, 4] rfl
  have hFc := va_free (wc := [(a1, .inl (cZ, 1024, .inl f1)), (a2, .inl (cI, 1024, .inl f2)), (a3, .inl (cJ, 1024, .inl f3))]) hD hS hA [0, 1, 2] rfl
  refine va_calli (va_runV (As := [.ref rm]) (rest := []) ⟨hx, hb, hml, hown, hts⟩ (cz_QcountDeadEnds l dC dI ed s.heap.size st a1 a2 a3 rm lk th pl gm cL fl l0 l1 cT ft t0 t1 t2 t3 t4 t5 t6 t7 t8 t9 cZ f1 cI f2 cJ f3 hkl0 hkl1 hkt0 hkt1 hkt2 hkt3 hkt4 hkt5 hkt6 hkt7 hkt8 hkt9) (cwV 1 hts gX6_deadEnds_X4_countDeadEnds rfl rfl rfl (by decide +kernel) ⟨Nat.le_of_ble_eq_true rfl, Nat.le_of_ble_eq_true rfl⟩) ⟨zb_blind, va_recv hK hR0 (ci := 6) (q0 := 1) rfl rfl, fun U hU hW => ⟨rfl, zb_mk hU hW hPr hPc hKc hDc hN hH hS hFc (zx_cons (zx_r (hAr _ (List.mem_of_getElem? (i := 1) rfl)) hDc) (zx_cons (zx_r (hAr _ (List.mem_of_getElem? (i := 2) rfl)) hDc) (zx_cons (zx_r (hAr _ (List.mem_of_getElem? (i := 3) rfl)) hDc) (zx_cons (zx_r (hAr _ (List.mem_of_getElem? (i := 4) rfl)) hDc) (zx_cons (zx_r (hAr _ (List.mem_of_getElem? (i := 5) rfl)) hDc) (zx_cons (zx_r (hAr _ (List.mem_of_getElem? (i := 6) rfl)) hDc) (zx_cons (zx_r (hAr _ (List.mem_of_getElem? (i := 7) rfl)) hDc) (zx_cons (zx_r (hAr _ (List.mem_of_getElem? (i := 8) rfl)) hDc) (zx_cons (zx_r (hAr _ (List.mem_of_getElem? (i := 9) rfl)) hDc) (zx_cons (zx_r (hAr _ (List.mem_of_getElem? (i := 10) rfl)) hDc) (zx_cons (zx_r (hAr _ (List.mem_of_getElem? (i := 11) rfl)) hDc) (zx_cons (zx_r (hAr _ (List.mem_of_getElem? (i := 12) rfl)) hDc) (zx_cons (zx_r (hAr _ (List.mem_of_getElem? (i := 13) rfl)) hDc) (zx_cons (zx_r (hAr _ (List.mem_of_getElem? (i := 14) rfl)) hDc) (zx_cons (zx_r (hAr _ (List.mem_of_getElem? (i := 15) rfl)) hDc) (zx_cons (zx_r (hAr _ (List.mem_of_getElem? (i := 16) rfl)) hDc) zx_nil))))))))))))))))⟩⟩ rfl rfl hl.1 rfl (lv_room (Nat.le_of_ble_eq_true rfl)) dX6_deadEnds_8 ⟨Nat.le_of_ble_eq_true rfl, Nat.le_of_ble_eq_true rfl⟩) hS (fun q _ h => hFc q h) hFc (fun r2 u t H1 locs ht hvm hw hB hz1 hk1 hS => ?_)
  obtain rfl : r2 = 0 := hw
  obtain ⟨g1_3, g2_3, g3_3, hP1, hD1, hK1⟩ := hB
  rw [ht] at hP1
  obtain ⟨hP, hD⟩ := va_join (wr := []) (w1 := [(a1, .inl (cZ, 1024, .inl g1_3)), (a2, .inl (cI, 1024, .inl g2_3)), (a3, .inl (cJ, 1024, .inl g3_3))]) hP hD [0, 1, 2] [] rfl rfl (by decide) (by decide) hk1 hFc hP1 hD1
  have hP : va_P (dC, dI) vwCl [(a1, .inl (cZ, 1024, .inl g1_3)), (a2, .inl (cI, 1024, .inl g2_3)), (a3, .inl (cJ, 1024, .inl g3_3))] H1 := hP
  have hD : va_D A [(a1, .inl (cZ, 1024, .inl g1_3)), (a2, .inl (cI, 1024, .inl g2_3)), (a3, .inl (cJ, 1024, .inl g3_3))] := hD
  refine W.widen (k := 0) (n := 0) (Nat.le_of_ble_eq_true rfl) (Nat.le_of_ble_eq_true rfl) ?_
  have hP9 := hP.sub (ws' := [(a1, .inl (cZ, 1024, .inl g1_3)), (a2, .inl (cI, 1024, .inl g2_3)), (a3, .inl (cJ, 1024, .inl g3_3))]) [0, 1, 2] rfl
  have hD9 := hD.sub (ws' := [(a1, .inl (cZ, 1024, .inl g1_3)), (a2, .inl (cI, 1024, .inl g2_3)), (a3, .inl (cJ, 1024, .inl g3_3))]) [0, 1, 2] (by decide) rfl
  have hK9 := hK.sub (tys' := [(cZ, .boolean), (cI, .int), (cJ, .int)]) [2, 3, 4] rfl
  exact W.iret hx hb hr (fun t ht hW => ⟨⟨0, (), rfl, rfl, ⟨g1_3, g2_3, g3_3, by rw [ht]; exact hP9, hD9, va_K.moved hW.alike hK9⟩⟩, hS.F ht⟩) hS.2.2 dX6_deadEnds_11
set_option maxHeartbeats 4000000 in
set_option maxRecDepth 100000 in
theorem cz_QX6_depth (l : Launch) (dC : Nat → ClassId) (dI : Nat → Nat → Nat) (ed sz : Nat) (x : Nat) (rm : Nat) (tr : Nat) (st : Nat) (a1 : Nat) (a2 : Nat) (a3 : Nat) (lk : Nat) (th : Nat) (pl : Nat) (gm : Nat) (cL : ClassId) (fl : Nat → Option Nat) (l0 : Nat) (l1 : Nat) (cT : ClassId) (ft : Nat → Option Nat) (t0 : Nat) (t1 : Nat) (t2 : Nat) (t3 : Nat) (t4 : Nat) (t5 : Nat) (t6 : Nat) (t7 : Nat) (t8 : Nat) (t9 : Nat) (cZ : ClassId) (f1 : Nat → Int32) (cI : ClassId) (f2 : Nat → Int32) (cJ : ClassId) (f3 : Nat → Int32) (hkl0 : fl 0 = some l0) (hkl1 : fl 1 = some l1) (hkt0 : ft 0 = some t0) (hkt1 : ft 1 = some t1) (hkt2 : ft 2 = some t2) (hkt3 : ft 3 = some t3) (hkt4 : ft 4 = some t4) (hkt5 : ft 5 = some t5) (hkt6 : ft 6 = some t6) (hkt7 : ft 7 = some t7) (hkt8 : ft 8 = some t8) (hkt9 : ft 9 = some t9) : Met l yX6_depth wsX6_depth ({ frames := 5, cells := 0, slots := 0, locals := 119 } : Jvm.Room) (va_Pc [.ref x] (zB dC dI ed sz [(x, .inr (8, [.ref rm, .ref tr, .ref st])), (st, .inr (6, [.ref a1, .ref a2, .ref a3])), (rm, .inr (5, [.ref lk, .ref th, .ref pl, .ref gm, .int 2, .int 10, .int 0, .int 0, .int 1, .int 0, .int 0, .int 0])), (lk, .inl (cL, 10, .inr (.inr (.inr (.inr fl))))), (th, .inl (cT, 12, .inr (.inr (.inr (.inr ft))))), (l0, .inr (3, [.int 0, .int 0, .int 60, .int 0, .int 0, .int 0, .int 0, .int 0, .int 0, .int 0])), (l1, .inr (3, [.int 0, .int 0, .int 60, .int 0, .int 0, .int 0, .int 0, .int 0, .int 0, .int 0])), (t0, .inr (7, [.int (-1), .int 0, .int 0, .int 0, .int 0])), (t1, .inr (7, [.int (-1), .int 0, .int 0, .int 0, .int 0])), (t2, .inr (7, [.int (-1), .int 0, .int 0, .int 0, .int 0])), (t3, .inr (7, [.int (-1), .int 0, .int 0, .int 0, .int 0])), (t4, .inr (7, [.int (-1), .int 0, .int 0, .int 0, .int 0])), (t5, .inr (7, [.int (-1), .int 0, .int 0, .int 0, .int 0])), (t6, .inr (7, [.int (-1), .int 0, .int 0, .int 0, .int 0])), (t7, .inr (7, [.int (-1), .int 0, .int 0, .int 0, .int 0])), (t8, .inr (7, [.int (-1), .int 0, .int 0, .int 0, .int 0])), (t9, .inr (7, [.int (-1), .int 0, .int 0, .int 0, .int 0]))] [(a1, .inl (cZ, 1024, .inl f1)), (a2, .inl (cI, 1024, .inl f2)), (a3, .inl (cJ, 1024, .inl f3))] [(cL, .object "LockRooms$Lock"), (cT, .object "LockRooms$Thing"), (cZ, .boolean), (cI, .int), (cJ, .int)])) (va_Qi (fun (r : Int32) (_ : Unit) => r = 1) (fun (_ : Unit) (t : State) => ∃ (g1 : Nat → Int32), ∃ (g2 : Nat → Int32), ∃ (g3 : Nat → Int32), va_P (dC, dI) vwCl [(a1, .inl (cZ, 1024, .inl g1)), (a2, .inl (cI, 1024, .inl g2)), (a3, .inl (cJ, 1024, .inl g3))] t.heap ∧ va_D (va_A [(a1, .inl (cZ, 1024, .inl f1)), (a2, .inl (cI, 1024, .inl f2)), (a3, .inl (cJ, 1024, .inl f3))] sz) [(a1, .inl (cZ, 1024, .inl g1)), (a2, .inl (cI, 1024, .inl g2)), (a3, .inl (cJ, 1024, .inl g3))] ∧ va_K (dC, dI) vwCl [(cZ, .boolean), (cI, .int), (cJ, .int)] t) (va_A [(a1, .inl (cZ, 1024, .inl f1)), (a2, .inl (cI, 1024, .inl f2)), (a3, .inl (cJ, 1024, .inl f3))] sz)) 0 0 (va_A [(a1, .inl (cZ, 1024, .inl f1)), (a2, .inl (cI, 1024, .inl f2)), (a3, .inl (cJ, 1024, .inl f3))] sz) := by
  refine Met.ofW (cc := cX6_depth) (maxL := 1) (ret := (some .int)) (by decide) rfl ?_
  intro p e s m args below meth c s₁ B hml hv
  obtain ⟨rfl, hsz, hR0, hP, hK, hD0, hN, hH, hX0⟩ := hv
  have hx := B.exec
  have hb := B.bytes
  have hr := B.returns
  have hts := atoms_spec (ws := wsX6_depth) B.pre
  have hown : s.vm.findClass RX6 = some m.cls := findClass_of_methodNamed B.named
  have hlocks := B.notSynchronized
  subst hsz
  have hD := hD0.self (sz := s.heap.size)
  have hAr := zx_A hX0 hR0
  generalize hAe : va_A [(a1, .inl (cZ, 1024, .inl f1)), (a2, .inl (cI, 1024, .inl f2)), (a3, .inl (cJ, 1024, .inl f3))] s.heap.size = A at hD hAr hH ⊢
  have hA : ∀ q : Nat, s.heap.size ≤ q → A q := fun q h => by rw [← hAe]; exact Or.inr h
  have hS : va_S A s.heap s.heap [] := va_S.rf
  have hl := lv_entry ([.ref x]) (n := 1) (Nat.le_of_ble_eq_true rfl)
  rw [lg_entry_eq]
  generalize (lg_sl ([.ref x]) ++ List.replicate (1 - (lg_sl ([.ref x])).length) Slot.unset).toArray = ls at hl ⊢
  have hl : lv_has ls 1 [(0, .ref x)] := hl
  refine lv_aload_n hx hb dX6_depth_0 rfl (lv_at hl 0 rfl) ?_
  refine va_get (D := (dC, dI)) (ci := 8) (v := .ref st) (C := RX6) (T := TX6) (N := 3) hx hb hts zi_X6_depth_X6 hown hK hR0 0 rfl rfl 2 (by decide) (hts (.fieldLink RX6 22 "LockRooms" "future" "LLockRooms$Stands;") (by decide +kernel)) (fun _ h9 => h9) rfl dX6_depth_1 ?_
  refine lv_aload_n hx hb dX6_depth_4 rfl (lv_at hl 0 rfl) ?_
  refine va_get (D := (dC, dI)) (ci := 8) (v := .ref rm) (C := RX6) (T := TX6) (N := 3) hx hb hts zi_X6_depth_X6 hown hK hR0 0 rfl rfl 0 (by decide) (hts (.fieldLink RX6 12 "LockRooms" "room" "LLockRooms$Room;") (by decide +kernel)) (fun _ h9 => h9) rfl dX6_depth_5 ?_
  have hPr := (hR0).sub (ws' := [(st, .inr (6, [.ref a1, .ref a2, .ref a3])), (rm, .inr (5, [.ref lk, .ref th, .ref pl, .ref gm, .int 2, .int 10, .int 0, .int 0, .int 1, .int 0, .int 0, .int 0])), (lk, .inl (cL, 10, .inr (.inr (.inr (.inr fl))))), (th, .inl (cT, 12, .inr (.inr (.inr (.inr ft))))), (l0, .inr (3, [.int 0, .int 0, .int 60, .int 0, .int 0, .int 0, .int 0, .int 0, .int 0, .int 0])), (l1, .inr (3, [.int 0, .int 0, .int 60, .int 0, .int 0, .int 0, .int 0, .int 0, .int 0, .int 0])), (t0, .inr (7, [.int (-1), .int 0, .int 0, .int 0, .int 0])), (t1, .inr (7, [.int (-1), .int 0, .int 0, .int 0, .int 0])), (t2, .inr (7, [.int (-1), .int 0, .int 0, .int 0, .int 0])), (t3, .inr (7, [.int (-1), .int 0, .int 0, .int 0, .int 0])), (t4, .inr (7, [.int (-1), .int 0, .int 0, .int 0, .int 0])), (t5, .inr (7, [.int (-1), .int 0, .int 0, .int 0, .int 0])), (t6, .inr (7, [.int (-1), .int 0, .int 0, .int 0, .int 0])), (t7, .inr (7, [.int (-1), .int 0, .int 0, .int 0, .int 0])), (t8, .inr (7, [.int (-1), .int 0, .int 0, .int 0, .int 0])), (t9, .inr (7, [.int (-1), .int 0, .int 0, .int 0, .int 0]))]) [1, 2, 3, 4, 5, 6, 7, 8, 9, 10, 11, 12, 13, 14, 15, 16] rfl
  have hPc := hP.sub (ws' := [(a1, .inl (cZ, 1024, .inl f1)), (a2, .inl (cI, 1024, .inl f2)), (a3, .inl (cJ, 1024, .inl f3))]) [0, 1, 2] rfl
  have hDc := hD.sub (ws' := [(a1, .inl (cZ, 1024, .inl f1)), (a2, .inl (cI, 1024, .inl f2)), (a3, .inl (cJ, 1024, .inl f3))]) [0, 1, 2] (by decide) rfl
  have hKc := hK.sub (tys' := [(cL, .object "LockRooms$Lock"), (cT, .object "LockRooms$Thing"), (cZ, .boolean), (cI, .int), (cJ, .int)]) [0, 1, 2, 3, 4] rfl
  have hFc := va_free (wc := [(a1, .inl (cZ, 1024, .inl f1)), (a2, .inl (cI, 1024, .inl f2)), (a3, .inl (cJ, 1024, .inl f3))]) hD hS hA [0, 1, 2] rfl
  refine va_calli (va_runV (As := [.ref rm]) (rest := []) ⟨hx, hb, hml, hown, hts⟩ (cz_QfindDepth l dC dI ed s.heap.size st a1 a2 a3 rm lk th pl gm cL fl l0 l1 cT ft t0 t1 t2 t3 t4 t5 t6 t7 t8 t9 cZ f1 cI f2 cJ f3 hkl0 hkl1 hkt0 hkt1 hkt2 hkt3 hkt4 hkt5 hkt6 hkt7 hkt8 hkt9) (cwV 1 hts gX6_depth_X4_findDepth rfl rfl rfl (by decide +kernel) ⟨Nat.le_of_ble_eq_true rfl, Nat.le_of_ble_eq_true rfl⟩) ⟨zb_blind, va_recv hK hR0 (ci := 6) (q0 := 1) rfl rfl, fun U hU hW => ⟨rfl, zb_mk hU hW hPr hPc hKc hDc hN hH hS hFc (zx_cons (zx_r (hAr _ (List.mem_of_getElem? (i := 1) rfl)) hDc) (zx_cons (zx_r (hAr _ (List.mem_of_getElem? (i := 2) rfl)) hDc) (zx_cons (zx_r (hAr _ (List.mem_of_getElem? (i := 3) rfl)) hDc) (zx_cons (zx_r (hAr _ (List.mem_of_getElem? (i := 4) rfl)) hDc) (zx_cons (zx_r (hAr _ (List.mem_of_getElem? (i := 5) rfl)) hDc) (zx_cons (zx_r (hAr _ (List.mem_of_getElem? (i := 6) rfl)) hDc) (zx_cons (zx_r (hAr _ (List.mem_of_getElem? (i := 7) rfl)) hDc) (zx_cons (zx_r (hAr _ (List.mem_of_getElem? (i := 8) rfl)) hDc) (zx_cons (zx_r (hAr _ (List.mem_of_getElem? (i := 9) rfl)) hDc) (zx_cons (zx_r (hAr _ (List.mem_of_getElem? (i := 10) rfl)) hDc) (zx_cons (zx_r (hAr _ (List.mem_of_getElem? (i := 11) rfl)) hDc) (zx_cons (zx_r (hAr _ (List.mem_of_getElem? (i := 12) rfl)) hDc) (zx_cons (zx_r (hAr _ (List.mem_of_getElem? (i := 13) rfl)) hDc) (zx_cons (zx_r (hAr _ (List.mem_of_getElem? (i := 14) rfl)) hDc) (zx_cons (zx_r (hAr _ (List.mem_of_getElem? (i := 15) rfl)) hDc) (zx_cons (zx_r (hAr _ (List.mem_of_getElem? (i := 16) rfl)) hDc) zx_nil))))))))))))))))⟩⟩ rfl rfl hl.1 rfl (lv_room (Nat.le_of_ble_eq_true rfl)) dX6_depth_8 ⟨Nat.le_of_ble_eq_true rfl, Nat.le_of_ble_eq_true rfl⟩) hS (fun q _ h => hFc q h) hFc (fun r2 u t H1 locs ht hvm hw hB hz1 hk1 hS => ?_)
  obtain rfl : r2 = 1 := hw
  obtain ⟨g1_3, g2_3, g3_3, hP1, hD1, hK1⟩ := hB
  rw [ht] at hP1
  obtain ⟨hP, hD⟩ := va_join (wr := []) (w1 := [(a1, .inl (cZ, 1024, .inl g1_3)), (a2, .inl (cI, 1024, .inl g2_3)), (a3, .inl (cJ, 1024, .inl g3_3))]) hP hD [0, 1, 2] [] rfl rfl (by decide) (by decide) hk1 hFc hP1 hD1
  have hP : va_P (dC, dI) vwCl [(a1, .inl (cZ, 1024, .inl g1_3)), (a2, .inl (cI, 1024, .inl g2_3)), (a3, .inl (cJ, 1024, .inl g3_3))] H1 := hP
  have hD : va_D A [(a1, .inl (cZ, 1024, .inl g1_3)), (a2, .inl (cI, 1024, .inl g2_3)), (a3, .inl (cJ, 1024, .inl g3_3))] := hD
  refine W.widen (k := 0) (n := 0) (Nat.le_of_ble_eq_true rfl) (Nat.le_of_ble_eq_true rfl) ?_
  have hP9 := hP.sub (ws' := [(a1, .inl (cZ, 1024, .inl g1_3)), (a2, .inl (cI, 1024, .inl g2_3)), (a3, .inl (cJ, 1024, .inl g3_3))]) [0, 1, 2] rfl
  have hD9 := hD.sub (ws' := [(a1, .inl (cZ, 1024, .inl g1_3)), (a2, .inl (cI, 1024, .inl g2_3)), (a3, .inl (cJ, 1024, .inl g3_3))]) [0, 1, 2] (by decide) rfl
  have hK9 := hK.sub (tys' := [(cZ, .boolean), (cI, .int), (cJ, .int)]) [2, 3, 4] rfl
  exact W.iret hx hb hr (fun t ht hW => ⟨⟨1, (), rfl, rfl, ⟨g1_3, g2_3, g3_3, by rw [ht]; exact hP9, hD9, va_K.moved hW.alike hK9⟩⟩, hS.F ht⟩) hS.2.2 dX6_depth_11
set_option maxHeartbeats 4000000 in
set_option maxRecDepth 100000 in
theorem cz_QX6_cannotMiss (l : Launch) (dC : Nat → ClassId) (dI : Nat → Nat → Nat) (ed sz : Nat) (x : Nat) (rm : Nat) (tr : Nat) (st : Nat) (a1 : Nat) (a2 : Nat) (a3 : Nat) (lk : Nat) (th : Nat) (pl : Nat) (gm : Nat) (cL : ClassId) (fl : Nat → Option Nat) (l0 : Nat) (l1 : Nat) (cT : ClassId) (ft : Nat → Option Nat) (t0 : Nat) (t1 : Nat) (t2 : Nat) (t3 : Nat) (t4 : Nat) (t5 : Nat) (t6 : Nat) (t7 : Nat) (t8 : Nat) (t9 : Nat) (cZ : ClassId) (f1 : Nat → Int32) (cI : ClassId) (f2 : Nat → Int32) (cJ : ClassId) (f3 : Nat → Int32) (hkl0 : fl 0 = some l0) (hkl1 : fl 1 = some l1) (hkt0 : ft 0 = some t0) (hkt1 : ft 1 = some t1) (hkt2 : ft 2 = some t2) (hkt3 : ft 3 = some t3) (hkt4 : ft 4 = some t4) (hkt5 : ft 5 = some t5) (hkt6 : ft 6 = some t6) (hkt7 : ft 7 = some t7) (hkt8 : ft 8 = some t8) (hkt9 : ft 9 = some t9) : Met l yX6_cannotMiss wsX6_cannotMiss ({ frames := 5, cells := 0, slots := 0, locals := 122 } : Jvm.Room) (va_Pc [.ref x] (zB dC dI ed sz [(x, .inr (8, [.ref rm, .ref tr, .ref st])), (st, .inr (6, [.ref a1, .ref a2, .ref a3])), (rm, .inr (5, [.ref lk, .ref th, .ref pl, .ref gm, .int 2, .int 10, .int 0, .int 0, .int 1, .int 0, .int 0, .int 0])), (lk, .inl (cL, 10, .inr (.inr (.inr (.inr fl))))), (th, .inl (cT, 12, .inr (.inr (.inr (.inr ft))))), (l0, .inr (3, [.int 0, .int 0, .int 60, .int 0, .int 0, .int 0, .int 0, .int 0, .int 0, .int 0])), (l1, .inr (3, [.int 0, .int 0, .int 60, .int 0, .int 0, .int 0, .int 0, .int 0, .int 0, .int 0])), (t0, .inr (7, [.int (-1), .int 0, .int 0, .int 0, .int 0])), (t1, .inr (7, [.int (-1), .int 0, .int 0, .int 0, .int 0])), (t2, .inr (7, [.int (-1), .int 0, .int 0, .int 0, .int 0])), (t3, .inr (7, [.int (-1), .int 0, .int 0, .int 0, .int 0])), (t4, .inr (7, [.int (-1), .int 0, .int 0, .int 0, .int 0])), (t5, .inr (7, [.int (-1), .int 0, .int 0, .int 0, .int 0])), (t6, .inr (7, [.int (-1), .int 0, .int 0, .int 0, .int 0])), (t7, .inr (7, [.int (-1), .int 0, .int 0, .int 0, .int 0])), (t8, .inr (7, [.int (-1), .int 0, .int 0, .int 0, .int 0])), (t9, .inr (7, [.int (-1), .int 0, .int 0, .int 0, .int 0]))] [(a1, .inl (cZ, 1024, .inl f1)), (a2, .inl (cI, 1024, .inl f2)), (a3, .inl (cJ, 1024, .inl f3))] [(cL, .object "LockRooms$Lock"), (cT, .object "LockRooms$Thing"), (cZ, .boolean), (cI, .int), (cJ, .int)])) (va_Qi (fun (r : Int32) (_ : Unit) => r = 0) (fun (_ : Unit) (t : State) => ∃ (g1 : Nat → Int32), ∃ (g2 : Nat → Int32), ∃ (g3 : Nat → Int32), va_P (dC, dI) vwCl [(a1, .inl (cZ, 1024, .inl g1)), (a2, .inl (cI, 1024, .inl g2)), (a3, .inl (cJ, 1024, .inl g3))] t.heap ∧ va_D (va_A [(a1, .inl (cZ, 1024, .inl f1)), (a2, .inl (cI, 1024, .inl f2)), (a3, .inl (cJ, 1024, .inl f3))] sz) [(a1, .inl (cZ, 1024, .inl g1)), (a2, .inl (cI, 1024, .inl g2)), (a3, .inl (cJ, 1024, .inl g3))] ∧ va_K (dC, dI) vwCl [(cZ, .boolean), (cI, .int), (cJ, .int)] t) (va_A [(a1, .inl (cZ, 1024, .inl f1)), (a2, .inl (cI, 1024, .inl f2)), (a3, .inl (cJ, 1024, .inl f3))] sz)) 0 0 (va_A [(a1, .inl (cZ, 1024, .inl f1)), (a2, .inl (cI, 1024, .inl f2)), (a3, .inl (cJ, 1024, .inl f3))] sz) := by
  refine Met.ofW (cc := cX6_cannotMiss) (maxL := 1) (ret := (some .int)) (by decide) rfl ?_
  intro p e s m args below meth c s₁ B hml hv
  obtain ⟨rfl, hsz, hR0, hP, hK, hD0, hN, hH, hX0⟩ := hv
  have hx := B.exec
  have hb := B.bytes
  have hr := B.returns
  have hts := atoms_spec (ws := wsX6_cannotMiss) B.pre
  have hown : s.vm.findClass RX6 = some m.cls := findClass_of_methodNamed B.named
  have hlocks := B.notSynchronized
  subst hsz
  have hD := hD0.self (sz := s.heap.size)
  have hAr := zx_A hX0 hR0
  generalize hAe : va_A [(a1, .inl (cZ, 1024, .inl f1)), (a2, .inl (cI, 1024, .inl f2)), (a3, .inl (cJ, 1024, .inl f3))] s.heap.size = A at hD hAr hH ⊢
  have hA : ∀ q : Nat, s.heap.size ≤ q → A q := fun q h => by rw [← hAe]; exact Or.inr h
  have hS : va_S A s.heap s.heap [] := va_S.rf
  have hl := lv_entry ([.ref x]) (n := 1) (Nat.le_of_ble_eq_true rfl)
  rw [lg_entry_eq]
  generalize (lg_sl ([.ref x]) ++ List.replicate (1 - (lg_sl ([.ref x])).length) Slot.unset).toArray = ls at hl ⊢
  have hl : lv_has ls 1 [(0, .ref x)] := hl
  refine lv_aload_n hx hb dX6_cannotMiss_0 rfl (lv_at hl 0 rfl) ?_
  refine va_get (D := (dC, dI)) (ci := 8) (v := .ref st) (C := RX6) (T := TX6) (N := 3) hx hb hts zi_X6_cannotMiss_X6 hown hK hR0 0 rfl rfl 2 (by decide) (hts (.fieldLink RX6 22 "LockRooms" "future" "LLockRooms$Stands;") (by decide +kernel)) (fun _ h9 => h9) rfl dX6_cannotMiss_1 ?_
  refine lv_aload_n hx hb dX6_cannotMiss_4 rfl (lv_at hl 0 rfl) ?_
  refine va_get (D := (dC, dI)) (ci := 8) (v := .ref rm) (C := RX6) (T := TX6) (N := 3) hx hb hts zi_X6_cannotMiss_X6 hown hK hR0 0 rfl rfl 0 (by decide) (hts (.fieldLink RX6 12 "LockRooms" "room" "LLockRooms$Room;") (by decide +kernel)) (fun _ h9 => h9) rfl dX6_cannotMiss_5 ?_
  have hPr := (hR0).sub (ws' := [(st, .inr (6, [.ref a1, .ref a2, .ref a3])), (rm, .inr (5, [.ref lk, .ref th, .ref pl, .ref gm, .int 2, .int 10, .int 0, .int 0, .int 1, .int 0, .int 0, .int 0])), (lk, .inl (cL, 10, .inr (.inr (.inr (.inr fl))))), (th, .inl (cT, 12, .inr (.inr (.inr (.inr ft))))), (l0, .inr (3, [.int 0, .int 0, .int 60, .int 0, .int 0, .int 0, .int 0, .int 0, .int 0, .int 0])), (l1, .inr (3, [.int 0, .int 0, .int 60, .int 0, .int 0, .int 0, .int 0, .int 0, .int 0, .int 0])), (t0, .inr (7, [.int (-1), .int 0, .int 0, .int 0, .int 0])), (t1, .inr (7, [.int (-1), .int 0, .int 0, .int 0, .int 0])), (t2, .inr (7, [.int (-1), .int 0, .int 0, .int 0, .int 0])), (t3, .inr (7, [.int (-1), .int 0, .int 0, .int 0, .int 0])), (t4, .inr (7, [.int (-1), .int 0, .int 0, .int 0, .int 0])), (t5, .inr (7, [.int (-1), .int 0, .int 0, .int 0, .int 0])), (t6, .inr (7, [.int (-1), .int 0, .int 0, .int 0, .int 0])), (t7, .inr (7, [.int (-1), .int 0, .int 0, .int 0, .int 0])), (t8, .inr (7, [.int (-1), .int 0, .int 0, .int 0, .int 0])), (t9, .inr (7, [.int (-1), .int 0, .int 0, .int 0, .int 0]))]) [1, 2, 3, 4, 5, 6, 7, 8, 9, 10, 11, 12, 13, 14, 15, 16] rfl
  have hPc := hP.sub (ws' := [(a1, .inl (cZ, 1024, .inl f1)), (a2, .inl (cI, 1024, .inl f2)), (a3, .inl (cJ, 1024, .inl f3))]) [0, 1, 2] rfl
  have hDc := hD.sub (ws' := [(a1, .inl (cZ, 1024, .inl f1)), (a2, .inl (cI, 1024, .inl f2)), (a3, .inl (cJ, 1024, .inl f3))]) [0, 1, 2] (by decide) rfl
  have hKc := hK.sub (tys' := [(cL, .object "LockRooms$Lock"), (cT, .object "LockRooms$Thing"), (cZ, .boolean), (cI, .int), (cJ, .int)]) [0, 1, 2, 3, 4] rfl
  have hFc := va_free (wc := [(a1, .inl (cZ, 1024, .inl f1)), (a2, .inl (cI, 1024, .inl f2)), (a3, .inl (cJ, 1024, .inl f3))]) hD hS hA [0, 1, 2] rfl
  refine va_calli (va_runV (As := [.ref rm]) (rest := []) ⟨hx, hb, hml, hown, hts⟩ (cz_QfindMusts l dC dI ed s.heap.size st a1 a2 a3 rm lk th pl gm cL fl l0 l1 cT ft t0 t1 t2 t3 t4 t5 t6 t7 t8 t9 cZ f1 cI f2 cJ f3 hkl0 hkl1 hkt0 hkt1 hkt2 hkt3 hkt4 hkt5 hkt6 hkt7 hkt8 hkt9) (cwV 1 hts gX6_cannotMiss_X4_findMusts rfl rfl rfl (by decide +kernel) ⟨Nat.le_of_ble_eq_true rfl, Nat.le_of_ble_eq_true rfl⟩) ⟨zb_blind, va_recv hK hR0 (ci := 6) (q0 := 1) rfl rfl, fun U hU hW => ⟨rfl, zb_mk hU hW hPr hPc hKc hDc hN hH hS hFc (zx_cons (zx_r (hAr _ (List.mem_of_getElem? (i := 1) rfl)) hDc) (zx_cons (zx_r (hAr _ (List.mem_of_getElem? (i := 2) rfl)) hDc) (zx_cons (zx_r (hAr _ (List.mem_of_getElem? (i := 3) rfl)) hDc) (zx_cons (zx_r (hAr _ (List.mem_of_getElem? (i := 4) rfl)) hDc) (zx_cons (zx_r (hAr _ (List.mem_of_getElem? (i := 5) rfl)) hDc) (zx_cons (zx_r (hAr _ (List.mem_of_getElem? (i := 6) rfl)) hDc) (zx_cons (zx_r (hAr _ (List.mem_of_getElem? (i := 7) rfl)) hDc) (zx_cons (zx_r (hAr _ (List.mem_of_getElem? (i := 8) rfl)) hDc) (zx_cons (zx_r (hAr _ (List.mem_of_getElem? (i := 9) rfl)) hDc) (zx_cons (zx_r (hAr _ (List.mem_of_getElem? (i := 10) rfl)) hDc) (zx_cons (zx_r (hAr _ (List.mem_of_getElem? (i := 11) rfl)) hDc) (zx_cons (zx_r (hAr _ (List.mem_of_getElem? (i := 12) rfl)) hDc) (zx_cons (zx_r (hAr _ (List.mem_of_getElem? (i := 13) rfl)) hDc) (zx_cons (zx_r (hAr _ (List.mem_of_getElem? (i := 14) rfl)) hDc) (zx_cons (zx_r (hAr _ (List.mem_of_getElem? (i := 15) rfl)) hDc) (zx_cons (zx_r (hAr _ (List.mem_of_getElem? (i := 16) rfl)) hDc) zx_nil))))))))))))))))⟩⟩ rfl rfl hl.1 rfl (lv_room (Nat.le_of_ble_eq_true rfl)) dX6_cannotMiss_8 ⟨Nat.le_of_ble_eq_true rfl, Nat.le_of_ble_eq_true rfl⟩) hS (fun q _ h => hFc q h) hFc (fun r2 u t H1 locs ht hvm hw hB hz1 hk1 hS => ?_)
  obtain rfl : r2 = 0 := hw
  obtain ⟨g1_3, g2_3, g3_3, hP1, hD1, hK1⟩ := hB
  rw [ht] at hP1
  obtain ⟨hP, hD⟩ := va_join (wr := []) (w1 := [(a1, .inl (cZ, 1024, .inl g1_3)), (a2, .inl (cI, 1024, .inl g2_3)), (a3, .inl (cJ, 1024, .inl g3_3))]) hP hD [0, 1, 2] [] rfl rfl (by decide) (by decide) hk1 hFc hP1 hD1
  have hP : va_P (dC, dI) vwCl [(a1, .inl (cZ, 1024, .inl g1_3)), (a2, .inl (cI, 1024, .inl g2_3)), (a3, .inl (cJ, 1024, .inl g3_3))] H1 := hP
  have hD : va_D A [(a1, .inl (cZ, 1024, .inl g1_3)), (a2, .inl (cI, 1024, .inl g2_3)), (a3, .inl (cJ, 1024, .inl g3_3))] := hD
  refine W.widen (k := 0) (n := 0) (Nat.le_of_ble_eq_true rfl) (Nat.le_of_ble_eq_true rfl) ?_
  have hP9 := hP.sub (ws' := [(a1, .inl (cZ, 1024, .inl g1_3)), (a2, .inl (cI, 1024, .inl g2_3)), (a3, .inl (cJ, 1024, .inl g3_3))]) [0, 1, 2] rfl
  have hD9 := hD.sub (ws' := [(a1, .inl (cZ, 1024, .inl g1_3)), (a2, .inl (cI, 1024, .inl g2_3)), (a3, .inl (cJ, 1024, .inl g3_3))]) [0, 1, 2] (by decide) rfl
  have hK9 := hK.sub (tys' := [(cZ, .boolean), (cI, .int), (cJ, .int)]) [2, 3, 4] rfl
  exact W.iret hx hb hr (fun t ht hW => ⟨⟨0, (), rfl, rfl, ⟨g1_3, g2_3, g3_3, by rw [ht]; exact hP9, hD9, va_K.moved hW.alike hK9⟩⟩, hS.F ht⟩) hS.2.2 dX6_cannotMiss_11
set_option maxHeartbeats 4000000 in
set_option maxRecDepth 100000 in
theorem cz_QX6_bestHint (l : Launch) (dC : Nat → ClassId) (dI : Nat → Nat → Nat) (ed sz : Nat) (x : Nat) (rm : Nat) (tr : Nat) (st : Nat) (a1 : Nat) (a2 : Nat) (a3 : Nat) (lk : Nat) (th : Nat) (pl : Nat) (gm : Nat) (cL : ClassId) (fl : Nat → Option Nat) (l0 : Nat) (l1 : Nat) (cT : ClassId) (ft : Nat → Option Nat) (t0 : Nat) (t1 : Nat) (t2 : Nat) (t3 : Nat) (t4 : Nat) (t5 : Nat) (t6 : Nat) (t7 : Nat) (t8 : Nat) (t9 : Nat) (cZ : ClassId) (f1 : Nat → Int32) (cI : ClassId) (f2 : Nat → Int32) (cJ : ClassId) (f3 : Nat → Int32) (hkl0 : fl 0 = some l0) (hkl1 : fl 1 = some l1) (hkt0 : ft 0 = some t0) (hkt1 : ft 1 = some t1) (hkt2 : ft 2 = some t2) (hkt3 : ft 3 = some t3) (hkt4 : ft 4 = some t4) (hkt5 : ft 5 = some t5) (hkt6 : ft 6 = some t6) (hkt7 : ft 7 = some t7) (hkt8 : ft 8 = some t8) (hkt9 : ft 9 = some t9) : Met l yX6_bestHint wsX6_bestHint ({ frames := 5, cells := 0, slots := 0, locals := 125 } : Jvm.Room) (va_Pc [.ref x] (zB dC dI ed sz [(x, .inr (8, [.ref rm, .ref tr, .ref st])), (st, .inr (6, [.ref a1, .ref a2, .ref a3])), (rm, .inr (5, [.ref lk, .ref th, .ref pl, .ref gm, .int 2, .int 10, .int 0, .int 0, .int 1, .int 0, .int 0, .int 0])), (lk, .inl (cL, 10, .inr (.inr (.inr (.inr fl))))), (th, .inl (cT, 12, .inr (.inr (.inr (.inr ft))))), (l0, .inr (3, [.int 0, .int 0, .int 60, .int 0, .int 0, .int 0, .int 0, .int 0, .int 0, .int 0])), (l1, .inr (3, [.int 0, .int 0, .int 60, .int 0, .int 0, .int 0, .int 0, .int 0, .int 0, .int 0])), (t0, .inr (7, [.int (-1), .int 0, .int 0, .int 0, .int 0])), (t1, .inr (7, [.int (-1), .int 0, .int 0, .int 0, .int 0])), (t2, .inr (7, [.int (-1), .int 0, .int 0, .int 0, .int 0])), (t3, .inr (7, [.int (-1), .int 0, .int 0, .int 0, .int 0])), (t4, .inr (7, [.int (-1), .int 0, .int 0, .int 0, .int 0])), (t5, .inr (7, [.int (-1), .int 0, .int 0, .int 0, .int 0])), (t6, .inr (7, [.int (-1), .int 0, .int 0, .int 0, .int 0])), (t7, .inr (7, [.int (-1), .int 0, .int 0, .int 0, .int 0])), (t8, .inr (7, [.int (-1), .int 0, .int 0, .int 0, .int 0])), (t9, .inr (7, [.int (-1), .int 0, .int 0, .int 0, .int 0]))] [(a1, .inl (cZ, 1024, .inl f1)), (a2, .inl (cI, 1024, .inl f2)), (a3, .inl (cJ, 1024, .inl f3))] [(cL, .object "LockRooms$Lock"), (cT, .object "LockRooms$Thing"), (cZ, .boolean), (cI, .int), (cJ, .int)])) (va_Qi (fun (r : Int32) (_ : Unit) => r = 0) (fun (_ : Unit) (t : State) => ∃ (g1 : Nat → Int32), ∃ (g2 : Nat → Int32), ∃ (g3 : Nat → Int32), va_P (dC, dI) vwCl [(a1, .inl (cZ, 1024, .inl g1)), (a2, .inl (cI, 1024, .inl g2)), (a3, .inl (cJ, 1024, .inl g3))] t.heap ∧ va_D (va_A [(a1, .inl (cZ, 1024, .inl f1)), (a2, .inl (cI, 1024, .inl f2)), (a3, .inl (cJ, 1024, .inl f3))] sz) [(a1, .inl (cZ, 1024, .inl g1)), (a2, .inl (cI, 1024, .inl g2)), (a3, .inl (cJ, 1024, .inl g3))] ∧ va_K (dC, dI) vwCl [(cZ, .boolean), (cI, .int), (cJ, .int)] t) (va_A [(a1, .inl (cZ, 1024, .inl f1)), (a2, .inl (cI, 1024, .inl f2)), (a3, .inl (cJ, 1024, .inl f3))] sz)) 0 0 (va_A [(a1, .inl (cZ, 1024, .inl f1)), (a2, .inl (cI, 1024, .inl f2)), (a3, .inl (cJ, 1024, .inl f3))] sz) := by
  refine Met.ofW (cc := cX6_bestHint) (maxL := 1) (ret := (some .int)) (by decide) rfl ?_
  intro p e s m args below meth c s₁ B hml hv
  obtain ⟨rfl, hsz, hR0, hP, hK, hD0, hN, hH, hX0⟩ := hv
  have hx := B.exec
  have hb := B.bytes
  have hr := B.returns
  have hts := atoms_spec (ws := wsX6_bestHint) B.pre
  have hown : s.vm.findClass RX6 = some m.cls := findClass_of_methodNamed B.named
  have hlocks := B.notSynchronized
  subst hsz
  have hD := hD0.self (sz := s.heap.size)
  have hAr := zx_A hX0 hR0
  generalize hAe : va_A [(a1, .inl (cZ, 1024, .inl f1)), (a2, .inl (cI, 1024, .inl f2)), (a3, .inl (cJ, 1024, .inl f3))] s.heap.size = A at hD hAr hH ⊢
  have hA : ∀ q : Nat, s.heap.size ≤ q → A q := fun q h => by rw [← hAe]; exact Or.inr h
  have hS : va_S A s.heap s.heap [] := va_S.rf
  have hl := lv_entry ([.ref x]) (n := 1) (Nat.le_of_ble_eq_true rfl)
  rw [lg_entry_eq]
  generalize (lg_sl ([.ref x]) ++ List.replicate (1 - (lg_sl ([.ref x])).length) Slot.unset).toArray = ls at hl ⊢
  have hl : lv_has ls 1 [(0, .ref x)] := hl
  refine lv_aload_n hx hb dX6_bestHint_0 rfl (lv_at hl 0 rfl) ?_
  refine va_get (D := (dC, dI)) (ci := 8) (v := .ref st) (C := RX6) (T := TX6) (N := 3) hx hb hts zi_X6_bestHint_X6 hown hK hR0 0 rfl rfl 2 (by decide) (hts (.fieldLink RX6 22 "LockRooms" "future" "LLockRooms$Stands;") (by decide +kernel)) (fun _ h9 => h9) rfl dX6_bestHint_1 ?_
  refine lv_aload_n hx hb dX6_bestHint_4 rfl (lv_at hl 0 rfl) ?_
  refine va_get (D := (dC, dI)) (ci := 8) (v := .ref rm) (C := RX6) (T := TX6) (N := 3) hx hb hts zi_X6_bestHint_X6 hown hK hR0 0 rfl rfl 0 (by decide) (hts (.fieldLink RX6 12 "LockRooms" "room" "LLockRooms$Room;") (by decide +kernel)) (fun _ h9 => h9) rfl dX6_bestHint_5 ?_
  have hPr := (hR0).sub (ws' := [(st, .inr (6, [.ref a1, .ref a2, .ref a3])), (rm, .inr (5, [.ref lk, .ref th, .ref pl, .ref gm, .int 2, .int 10, .int 0, .int 0, .int 1, .int 0, .int 0, .int 0])), (lk, .inl (cL, 10, .inr (.inr (.inr (.inr fl))))), (th, .inl (cT, 12, .inr (.inr (.inr (.inr ft))))), (l0, .inr (3, [.int 0, .int 0, .int 60, .int 0, .int 0, .int 0, .int 0, .int 0, .int 0, .int 0])), (l1, .inr (3, [.int 0, .int 0, .int 60, .int 0, .int 0, .int 0, .int 0, .int 0, .int 0, .int 0])), (t0, .inr (7, [.int (-1), .int 0, .int 0, .int 0, .int 0])), (t1, .inr (7, [.int (-1), .int 0, .int 0, .int 0, .int 0])), (t2, .inr (7, [.int (-1), .int 0, .int 0, .int 0, .int 0])), (t3, .inr (7, [.int (-1), .int 0, .int 0, .int 0, .int 0])), (t4, .inr (7, [.int (-1), .int 0, .int 0, .int 0, .int 0])), (t5, .inr (7, [.int (-1), .int 0, .int 0, .int 0, .int 0])), (t6, .inr (7, [.int (-1), .int 0, .int 0, .int 0, .int 0])), (t7, .inr (7, [.int (-1), .int 0, .int 0, .int 0, .int 0])), (t8, .inr (7, [.int (-1), .int 0, .int 0, .int 0, .int 0])), (t9, .inr (7, [.int (-1), .int 0, .int 0, .int 0, .int 0]))]) [1, 2, 3, 4, 5, 6, 7, 8, 9, 10, 11, 12, 13, 14, 15, 16] rfl
  have hPc := hP.sub (ws' := [(a1, .inl (cZ, 1024, .inl f1)), (a2, .inl (cI, 1024, .inl f2)), (a3, .inl (cJ, 1024, .inl f3))]) [0, 1, 2] rfl
  have hDc := hD.sub (ws' := [(a1, .inl (cZ, 1024, .inl f1)), (a2, .inl (cI, 1024, .inl f2)), (a3, .inl (cJ, 1024, .inl f3))]) [0, 1, 2] (by decide) rfl
  have hKc := hK.sub (tys' := [(cL, .object "LockRooms$Lock"), (cT, .object "LockRooms$Thing"), (cZ, .boolean), (cI, .int), (cJ, .int)]) [0, 1, 2, 3, 4] rfl
  have hFc := va_free (wc := [(a1, .inl (cZ, 1024, .inl f1)), (a2, .inl (cI, 1024, .inl f2)), (a3, .inl (cJ, 1024, .inl f3))]) hD hS hA [0, 1, 2] rfl
  refine va_calli (va_runV (As := [.ref rm]) (rest := []) ⟨hx, hb, hml, hown, hts⟩ (cz_QfindBestReady l dC dI ed s.heap.size st a1 a2 a3 rm lk th pl gm cL fl l0 l1 cT ft t0 t1 t2 t3 t4 t5 t6 t7 t8 t9 cZ f1 cI f2 cJ f3 hkl0 hkl1 hkt0 hkt1 hkt2 hkt3 hkt4 hkt5 hkt6 hkt7 hkt8 hkt9) (cwV 1 hts gX6_bestHint_X4_findBestReady rfl rfl rfl (by decide +kernel) ⟨Nat.le_of_ble_eq_true rfl, Nat.le_of_ble_eq_true rfl⟩) ⟨zb_blind, va_recv hK hR0 (ci := 6) (q0 := 1) rfl rfl, fun U hU hW => ⟨rfl, zb_mk hU hW hPr hPc hKc hDc hN hH hS hFc (zx_cons (zx_r (hAr _ (List.mem_of_getElem? (i := 1) rfl)) hDc) (zx_cons (zx_r (hAr _ (List.mem_of_getElem? (i := 2) rfl)) hDc) (zx_cons (zx_r (hAr _ (List.mem_of_getElem? (i := 3) rfl)) hDc) (zx_cons (zx_r (hAr _ (List.mem_of_getElem? (i := 4) rfl)) hDc) (zx_cons (zx_r (hAr _ (List.mem_of_getElem? (i := 5) rfl)) hDc) (zx_cons (zx_r (hAr _ (List.mem_of_getElem? (i := 6) rfl)) hDc) (zx_cons (zx_r (hAr _ (List.mem_of_getElem? (i := 7) rfl)) hDc) (zx_cons (zx_r (hAr _ (List.mem_of_getElem? (i := 8) rfl)) hDc) (zx_cons (zx_r (hAr _ (List.mem_of_getElem? (i := 9) rfl)) hDc) (zx_cons (zx_r (hAr _ (List.mem_of_getElem? (i := 10) rfl)) hDc) (zx_cons (zx_r (hAr _ (List.mem_of_getElem? (i := 11) rfl)) hDc) (zx_cons (zx_r (hAr _ (List.mem_of_getElem? (i := 12) rfl)) hDc) (zx_cons (zx_r (hAr _ (List.mem_of_getElem? (i := 13) rfl)) hDc) (zx_cons (zx_r (hAr _ (List.mem_of_getElem? (i := 14) rfl)) hDc) (zx_cons (zx_r (hAr _ (List.mem_of_getElem? (i := 15) rfl)) hDc) (zx_cons (zx_r (hAr _ (List.mem_of_getElem? (i := 16) rfl)) hDc) zx_nil))))))))))))))))⟩⟩ rfl rfl hl.1 rfl (lv_room (Nat.le_of_ble_eq_true rfl)) dX6_bestHint_8 ⟨Nat.le_of_ble_eq_true rfl, Nat.le_of_ble_eq_true rfl⟩) hS (fun q _ h => hFc q h) hFc (fun r2 u t H1 locs ht hvm hw hB hz1 hk1 hS => ?_)
  obtain rfl : r2 = 0 := hw
  obtain ⟨g1_3, g2_3, g3_3, hP1, hD1, hK1⟩ := hB
  rw [ht] at hP1
  obtain ⟨hP, hD⟩ := va_join (wr := []) (w1 := [(a1, .inl (cZ, 1024, .inl g1_3)), (a2, .inl (cI, 1024, .inl g2_3)), (a3, .inl (cJ, 1024, .inl g3_3))]) hP hD [0, 1, 2] [] rfl rfl (by decide) (by decide) hk1 hFc hP1 hD1
  have hP : va_P (dC, dI) vwCl [(a1, .inl (cZ, 1024, .inl g1_3)), (a2, .inl (cI, 1024, .inl g2_3)), (a3, .inl (cJ, 1024, .inl g3_3))] H1 := hP
  have hD : va_D A [(a1, .inl (cZ, 1024, .inl g1_3)), (a2, .inl (cI, 1024, .inl g2_3)), (a3, .inl (cJ, 1024, .inl g3_3))] := hD
  refine W.widen (k := 0) (n := 0) (Nat.le_of_ble_eq_true rfl) (Nat.le_of_ble_eq_true rfl) ?_
  have hP9 := hP.sub (ws' := [(a1, .inl (cZ, 1024, .inl g1_3)), (a2, .inl (cI, 1024, .inl g2_3)), (a3, .inl (cJ, 1024, .inl g3_3))]) [0, 1, 2] rfl
  have hD9 := hD.sub (ws' := [(a1, .inl (cZ, 1024, .inl g1_3)), (a2, .inl (cI, 1024, .inl g2_3)), (a3, .inl (cJ, 1024, .inl g3_3))]) [0, 1, 2] (by decide) rfl
  have hK9 := hK.sub (tys' := [(cZ, .boolean), (cI, .int), (cJ, .int)]) [2, 3, 4] rfl
  exact W.iret hx hb hr (fun t ht hW => ⟨⟨0, (), rfl, rfl, ⟨g1_3, g2_3, g3_3, by rw [ht]; exact hP9, hD9, va_K.moved hW.alike hK9⟩⟩, hS.F ht⟩) hS.2.2 dX6_bestHint_11
set_option maxHeartbeats 4000000 in
set_option maxRecDepth 100000 in
theorem cz_QX6_endsAt (l : Launch) (dC : Nat → ClassId) (dI : Nat → Nat → Nat) (ed sz : Nat) (x : Nat) (rm : Nat) (tr : Nat) (st : Nat) (lk : Nat) (th : Nat) (pl : Nat) (gm : Nat) : Met l yX6_endsAt wsX6_endsAt ({ frames := 0, cells := 0, slots := 0, locals := 0 } : Jvm.Room) (va_Pc [.ref x] (zB dC dI ed sz [(x, .inr (8, [.ref rm, .ref tr, .ref st])), (rm, .inr (5, [.ref lk, .ref th, .ref pl, .ref gm, .int 2, .int 10, .int 0, .int 0, .int 1, .int 0, .int 0, .int 0])), (gm, .inr (2, [.int 0, .int 0, .int 0, .int 0, .int 0, .int (-1), .long 0]))] [] [])) (va_Qi (fun (r : Int32) (_ : Unit) => r = (-1)) (fun (_ : Unit) (_ : State) => True) (va_A [] sz)) 0 0 (va_A [] sz) := by
  refine Met.ofW (cc := cX6_endsAt) (maxL := 2) (ret := (some .int)) (by decide) rfl ?_
  intro p e s m args below meth c s₁ B hml hv
  obtain ⟨rfl, hsz, hR0, hP, hK, hD0, hN, hH, hX0⟩ := hv
  have hx := B.exec
  have hb := B.bytes
  have hr := B.returns
  have hts := atoms_spec (ws := wsX6_endsAt) B.pre
  have hown : s.vm.findClass RX6 = some m.cls := findClass_of_methodNamed B.named
  have hlocks := B.notSynchronized
  subst hsz
  have hD := hD0.self (sz := s.heap.size)
  have hAr := zx_A hX0 hR0
  generalize hAe : va_A [] s.heap.size = A at hD hAr hH ⊢
  have hA : ∀ q : Nat, s.heap.size ≤ q → A q := fun q h => by rw [← hAe]; exact Or.inr h
  have hS : va_S A s.heap s.heap [] := va_S.rf
  have hl := lv_entry ([.ref x]) (n := 2) (Nat.le_of_ble_eq_true rfl)
  rw [lg_entry_eq]
  generalize (lg_sl ([.ref x]) ++ List.replicate (2 - (lg_sl ([.ref x])).length) Slot.unset).toArray = ls at hl ⊢
  have hl : lv_has ls 2 [(0, .ref x)] := hl
  refine lv_aload_n hx hb dX6_endsAt_0 rfl (lv_at hl 0 rfl) ?_
  refine va_get (D := (dC, dI)) (ci := 8) (v := .ref rm) (C := RX6) (T := TX6) (N := 3) hx hb hts zi_X6_endsAt_X6 hown hK hR0 0 rfl rfl 0 (by decide) (hts (.fieldLink RX6 12 "LockRooms" "room" "LLockRooms$Room;") (by decide +kernel)) (fun _ h9 => h9) rfl dX6_endsAt_1 ?_
  refine va_get (D := (dC, dI)) (ci := 5) (v := .ref gm) (C := RX3) (T := TX3) (N := 12) hx hb hts zi_X6_endsAt_X3 hown hK hR0 1 rfl rfl 3 (by decide) (hts (.fieldLink RX6 41 "LockRooms$Room" "games" "LLockRooms$Games;") (by decide +kernel)) (fun _ h9 => h9) rfl dX6_endsAt_4 ?_
  refine va_get (D := (dC, dI)) (ci := 2) (v := .int 0) (C := RX0) (T := TX0) (N := 7) hx hb hts zi_X6_endsAt_X0 hown hK hR0 2 rfl rfl 0 (by decide) (hts (.fieldLink RX6 45 "LockRooms$Games" "isRunning" "Z") (by decide +kernel)) (fun _ h9 => h9) rfl dX6_endsAt_7 ?_
  refine lv_if_ne (tgt := 15) hx hb dX6_endsAt_10 (by decide) (fun h => absurd h (by decide)) (fun _ => ?_)
  refine lv_iconst (v := (-1)) hx hb dX6_endsAt_13 (by decide) ?_
  refine W.widen (k := 0) (n := 0) (Nat.le_of_ble_eq_true rfl) (Nat.le_of_ble_eq_true rfl) ?_
  exact W.iret hx hb hr (fun t ht hW => ⟨⟨(-1), (), rfl, rfl, trivial⟩, hS.F ht⟩) hS.2.2 dX6_endsAt_14
set_option maxHeartbeats 4000000 in
set_option maxRecDepth 100000 in
theorem cz_QmixLocks (l : Launch) (dC : Nat → ClassId) (dI : Nat → Nat → Nat) (ed sz : Nat) (x : Nat) (rm : Nat) (tr : Nat) (st : Nat) (lk : Nat) (th : Nat) (pl : Nat) (gm : Nat) (cL : ClassId) (fl : Nat → Option Nat) (l0 : Nat) (l1 : Nat) (cT : ClassId) (ft : Nat → Option Nat) (t0 : Nat) (t1 : Nat) (t2 : Nat) (t3 : Nat) (t4 : Nat) (t5 : Nat) (t6 : Nat) (t7 : Nat) (t8 : Nat) (t9 : Nat) (hkl0 : fl 0 = some l0) (hkl1 : fl 1 = some l1) (hkt0 : ft 0 = some t0) (hkt1 : ft 1 = some t1) (hkt2 : ft 2 = some t2) (hkt3 : ft 3 = some t3) (hkt4 : ft 4 = some t4) (hkt5 : ft 5 = some t5) (hkt6 : ft 6 = some t6) (hkt7 : ft 7 = some t7) (hkt8 : ft 8 = some t8) (hkt9 : ft 9 = some t9) : Met l yX6_mixLocks wsX6_mixLocks ({ frames := 2, cells := 0, slots := 0, locals := 46 } : Jvm.Room) (va_Pc [.ref x, .long (-2914609630483829451)] (zB dC dI ed sz [(x, .inr (8, [.ref rm, .ref tr, .ref st])), (rm, .inr (5, [.ref lk, .ref th, .ref pl, .ref gm, .int 2, .int 10, .int 0, .int 0, .int 1, .int 0, .int 0, .int 0])), (lk, .inl (cL, 10, .inr (.inr (.inr (.inr fl))))), (th, .inl (cT, 12, .inr (.inr (.inr (.inr ft))))), (l0, .inr (3, [.int 0, .int 0, .int 60, .int 0, .int 0, .int 0, .int 0, .int 0, .int 0, .int 0])), (l1, .inr (3, [.int 0, .int 0, .int 60, .int 0, .int 0, .int 0, .int 0, .int 0, .int 0, .int 0])), (t0, .inr (7, [.int (-1), .int 0, .int 0, .int 0, .int 0])), (t1, .inr (7, [.int (-1), .int 0, .int 0, .int 0, .int 0])), (t2, .inr (7, [.int (-1), .int 0, .int 0, .int 0, .int 0])), (t3, .inr (7, [.int (-1), .int 0, .int 0, .int 0, .int 0])), (t4, .inr (7, [.int (-1), .int 0, .int 0, .int 0, .int 0])), (t5, .inr (7, [.int (-1), .int 0, .int 0, .int 0, .int 0])), (t6, .inr (7, [.int (-1), .int 0, .int 0, .int 0, .int 0])), (t7, .inr (7, [.int (-1), .int 0, .int 0, .int 0, .int 0])), (t8, .inr (7, [.int (-1), .int 0, .int 0, .int 0, .int 0])), (t9, .inr (7, [.int (-1), .int 0, .int 0, .int 0, .int 0]))] [] [(cL, .object "LockRooms$Lock"), (cT, .object "LockRooms$Thing")])) (va_Ql (fun (r : Int64) (_ : Unit) => r = (-1160429273186388225)) (fun (_ : Unit) (_ : State) => True) (va_A [] sz)) 0 0 (va_A [] sz) := by
  refine Met.ofW (cc := cX6_mixLocks) (maxL := 7) (ret := (some .long)) (by decide) rfl ?_
  intro p e s m args below meth c s₁ B hml hv
  obtain ⟨rfl, hsz, hR0, hP, hK, hD0, hN, hH, hX0⟩ := hv
  have hx := B.exec
  have hb := B.bytes
  have hr := B.returns
  have hts := atoms_spec (ws := wsX6_mixLocks) B.pre
  have hown : s.vm.findClass RX6 = some m.cls := findClass_of_methodNamed B.named
  have hlocks := B.notSynchronized
  subst hsz
  have hD := hD0.self (sz := s.heap.size)
  have hAr := zx_A hX0 hR0
  generalize hAe : va_A [] s.heap.size = A at hD hAr hH ⊢
  have hA : ∀ q : Nat, s.heap.size ≤ q → A q := fun q h => by rw [← hAe]; exact Or.inr h
  have hS : va_S A s.heap s.heap [] := va_S.rf
  have hl := lv_entry ([.ref x, .long (-2914609630483829451)]) (n := 7) (Nat.le_of_ble_eq_true rfl)
  rw [lg_entry_eq]
  generalize (lg_sl ([.ref x, .long (-2914609630483829451)]) ++ List.replicate (7 - (lg_sl ([.ref x, .long (-2914609630483829451)])).length) Slot.unset).toArray = ls at hl ⊢
  have hl : lv_has ls 7 [(0, .ref x), (1, .long (-2914609630483829451))] := hl
  refine lv_lload_n hx hb dX6_mixLocks_0 rfl (lv_at hl 1 rfl) ?_
  refine lv_lstore_n (lv' := [(3, .long (-2914609630483829451)), (0, .ref x), (1, .long (-2914609630483829451))]) hx hb dX6_mixLocks_1 rfl hl (by decide) rfl (fun ls hl => ?_)
  refine lv_iconst (v := 0) hx hb dX6_mixLocks_2 (by decide) ?_
  refine lv_istore (lv' := [(5, .int 0), (3, .long (-2914609630483829451)), (0, .ref x), (1, .long (-2914609630483829451))]) hx hb dX6_mixLocks_3 hl (by decide) rfl (fun ls hl => ?_)
  refine lv_iload hx hb dX6_mixLocks_5 (lv_at hl 0 rfl) ?_
  refine lv_aload_n hx hb dX6_mixLocks_7 rfl (lv_at hl 2 rfl) ?_
  refine va_get (D := (dC, dI)) (ci := 8) (v := .ref rm) (C := RX6) (T := TX6) (N := 3) hx hb hts zi_X6_mixLocks_X6 hown hK hR0 0 rfl rfl 0 (by decide) (hts (.fieldLink RX6 12 "LockRooms" "room" "LLockRooms$Room;") (by decide +kernel)) (fun _ h9 => h9) rfl dX6_mixLocks_8 ?_
  refine va_get (D := (dC, dI)) (ci := 5) (v := .int 2) (C := RX3) (T := TX3) (N := 12) hx hb hts zi_X6_mixLocks_X3 hown hK hR0 1 rfl rfl 4 (by decide) (hts (.fieldLink RX6 37 "LockRooms$Room" "lockCount" "I") (by decide +kernel)) (fun _ h9 => h9) rfl dX6_mixLocks_11 ?_
  refine lv_icmp_ge (tgt := 55) hx hb dX6_mixLocks_14 (by decide) (fun h => absurd h (by decide)) (fun _ => ?_)
  refine lv_iconst (v := 0) hx hb dX6_mixLocks_17 (by decide) ?_
  refine lv_istore (lv' := [(6, .int 0), (5, .int 0), (3, .long (-2914609630483829451)), (0, .ref x), (1, .long (-2914609630483829451))]) hx hb dX6_mixLocks_18 hl (by decide) rfl (fun ls hl => ?_)
  refine lv_iload hx hb dX6_mixLocks_20 (lv_at hl 0 rfl) ?_
  refine lv_bipush (v := 10) hx hb dX6_mixLocks_22 (by decide) ?_
  refine lv_icmp_ge (tgt := 49) hx hb dX6_mixLocks_24 (by decide) (fun h => absurd h (by decide)) (fun _ => ?_)
  refine lv_lload_n hx hb dX6_mixLocks_27 rfl (lv_at hl 2 rfl) ?_
  refine lv_aload_n hx hb dX6_mixLocks_28 rfl (lv_at hl 3 rfl) ?_
  refine va_get (D := (dC, dI)) (ci := 8) (v := .ref rm) (C := RX6) (T := TX6) (N := 3) hx hb hts zi_X6_mixLocks_X6 hown hK hR0 0 rfl rfl 0 (by decide) (hts (.fieldLink RX6 12 "LockRooms" "room" "LLockRooms$Room;") (by decide +kernel)) (fun _ h9 => h9) rfl dX6_mixLocks_29 ?_
  refine lv_iload hx hb dX6_mixLocks_32 (lv_at hl 1 rfl) ?_
  refine lv_iload hx hb dX6_mixLocks_34 (lv_at hl 0 rfl) ?_
  have hPr := (hR0).sub (ws' := [(rm, .inr (5, [.ref lk, .ref th, .ref pl, .ref gm, .int 2, .int 10, .int 0, .int 0, .int 1, .int 0, .int 0, .int 0])), (lk, .inl (cL, 10, .inr (.inr (.inr (.inr fl))))), (l0, .inr (3, [.int 0, .int 0, .int 60, .int 0, .int 0, .int 0, .int 0, .int 0, .int 0, .int 0]))]) [1, 2, 4] rfl
  have hPc := hP.sub (ws' := []) [] rfl
  have hDc := hD.sub (ws' := []) [] (by decide) rfl
  have hKc := hK.sub (tys' := [(cL, .object "LockRooms$Lock")]) [0] rfl
  have hFc := va_free (wc := []) hD hS hA [] rfl
  refine va_calli (va_runV (As := [.int 0, .int 0]) (rest := [.long (-2914609630483829451)]) ⟨hx, hb, hml, hown, hts⟩ (cz_QtellLock_0_0 l dC dI ed s.heap.size rm lk th pl gm cL fl l0 hkl0) (cwV 2 hts gX6_mixLocks_X3_tellLock rfl rfl rfl (by decide +kernel) ⟨Nat.le_of_ble_eq_true rfl, Nat.le_of_ble_eq_true rfl⟩) ⟨zb_blind, va_recv hK hR0 (ci := 5) (q0 := 1) rfl rfl, fun U hU hW => ⟨rfl, zb_mk hU hW hPr hPc hKc hDc hN hH hS hFc zx_e⟩⟩ rfl rfl hl.1 rfl (lv_room (Nat.le_of_ble_eq_true rfl)) dX6_mixLocks_36 ⟨Nat.le_of_ble_eq_true rfl, Nat.le_of_ble_eq_true rfl⟩) hS (fun q _ h => hFc q h) hFc (fun r2 u t H1 locs ht hvm hw hB hz1 hk1 hS => ?_)
  obtain rfl : r2 = 0 := hw
  have hP := zo_K hP hk1
  have hPr := (zo_nil : va_P (dC, dI) vwCl [] H1)
  have hPc := hP.sub (ws' := []) [] rfl
  have hDc := hD.sub (ws' := []) [] (by decide) rfl
  have hKc := hK.sub (tys' := []) [] rfl
  have hFc := va_free (wc := []) hD hS hA [] rfl
  refine va_calll (va_runS (As := [.long (-2914609630483829451), .int 0]) (rest := []) ⟨hx, hb, hml, hown, hts⟩ (cz_X6_mix l dC dI ed H1.size (-2914609630483829451) 0) (va_cwS 2 hts gX6_mixLocks_X6_mix rfl rfl rfl (by decide +kernel) ⟨Nat.le_of_ble_eq_true rfl, Nat.le_of_ble_eq_true rfl⟩) ⟨zb_blind, fun U hU hW => ⟨rfl, zb_mk hU hW hPr hPc hKc hDc hN hH hS hFc zx_e⟩⟩ rfl rfl hl.1 rfl (lv_room (Nat.le_of_ble_eq_true rfl)) dX6_mixLocks_39 ⟨Nat.le_of_ble_eq_true rfl, Nat.le_of_ble_eq_true rfl⟩) hS (fun q _ h => hFc q h) hFc (fun r4 u t H3 locs ht hvm hw hB hz1 hk1 hS => ?_)
  obtain rfl : r4 = 1880821823549045099 := hw.trans (by decide +kernel)
  have hP := zo_K hP hk1
  refine lv_lstore_n (lv' := [(3, .long 1880821823549045099), (6, .int 0), (5, .int 0), (0, .ref x), (1, .long (-2914609630483829451))]) hx hb dX6_mixLocks_42 rfl hl (by decide) rfl (fun ls hl => ?_)
  refine lv_iinc (v := 1) (lv' := [(6, .int 1), (3, .long 1880821823549045099), (5, .int 0), (0, .ref x), (1, .long (-2914609630483829451))]) hx hb dX6_mixLocks_43 hl (k := 1) rfl (by decide) (by decide) rfl (fun ls hl => ?_)
  refine lv_goto (tgt := 20) hx hb dX6_mixLocks_46 (by decide) ?_
  refine lv_iload hx hb dX6_mixLocks_20 (lv_at hl 0 rfl) ?_
  refine lv_bipush (v := 10) hx hb dX6_mixLocks_22 (by decide) ?_
  refine lv_icmp_ge (tgt := 49) hx hb dX6_mixLocks_24 (by decide) (fun h => absurd h (by decide)) (fun _ => ?_)
  refine lv_lload_n hx hb dX6_mixLocks_27 rfl (lv_at hl 1 rfl) ?_
  refine lv_aload_n hx hb dX6_mixLocks_28 rfl (lv_at hl 3 rfl) ?_
  refine va_get (D := (dC, dI)) (ci := 8) (v := .ref rm) (C := RX6) (T := TX6) (N := 3) hx hb hts zi_X6_mixLocks_X6 hown hK (zo_R hR0 hS hAr) 0 rfl rfl 0 (by decide) (hts (.fieldLink RX6 12 "LockRooms" "room" "LLockRooms$Room;") (by decide +kernel)) (fun _ h9 => h9) rfl dX6_mixLocks_29 ?_
  refine lv_iload hx hb dX6_mixLocks_32 (lv_at hl 2 rfl) ?_
  refine lv_iload hx hb dX6_mixLocks_34 (lv_at hl 0 rfl) ?_
  have hPr := ((zo_R hR0 hS hAr)).sub (ws' := [(rm, .inr (5, [.ref lk, .ref th, .ref pl, .ref gm, .int 2, .int 10, .int 0, .int 0, .int 1, .int 0, .int 0, .int 0])), (lk, .inl (cL, 10, .inr (.inr (.inr (.inr fl))))), (l0, .inr (3, [.int 0, .int 0, .int 60, .int 0, .int 0, .int 0, .int 0, .int 0, .int 0, .int 0]))]) [1, 2, 4] rfl
  have hPc := hP.sub (ws' := []) [] rfl
  have hDc := hD.sub (ws' := []) [] (by decide) rfl
  have hKc := hK.sub (tys' := [(cL, .object "LockRooms$Lock")]) [0] rfl
  have hFc := va_free (wc := []) hD hS hA [] rfl
  refine va_calli (va_runV (As := [.int 0, .int 1]) (rest := [.long 1880821823549045099]) ⟨hx, hb, hml, hown, hts⟩ (cz_QtellLock_0_1 l dC dI ed H3.size rm lk th pl gm cL fl l0 hkl0) (cwV 2 hts gX6_mixLocks_X3_tellLock rfl rfl rfl (by decide +kernel) ⟨Nat.le_of_ble_eq_true rfl, Nat.le_of_ble_eq_true rfl⟩) ⟨zb_blind, va_recv hK (zo_R hR0 hS hAr) (ci := 5) (q0 := 1) rfl rfl, fun U hU hW => ⟨rfl, zb_mk hU hW hPr hPc hKc hDc hN hH hS hFc zx_e⟩⟩ rfl rfl hl.1 rfl (lv_room (Nat.le_of_ble_eq_true rfl)) dX6_mixLocks_36 ⟨Nat.le_of_ble_eq_true rfl, Nat.le_of_ble_eq_true rfl⟩) hS (fun q _ h => hFc q h) hFc (fun r6 u t H5 locs ht hvm hw hB hz1 hk1 hS => ?_)
  obtain rfl : r6 = 0 := hw
  have hP := zo_K hP hk1
  have hPr := (zo_nil : va_P (dC, dI) vwCl [] H5)
  have hPc := hP.sub (ws' := []) [] rfl
  have hDc := hD.sub (ws' := []) [] (by decide) rfl
  have hKc := hK.sub (tys' := []) [] rfl
  have hFc := va_free (wc := []) hD hS hA [] rfl
  refine va_calll (va_runS (As := [.long 1880821823549045099, .int 0]) (rest := []) ⟨hx, hb, hml, hown, hts⟩ (cz_X6_mix l dC dI ed H5.size 1880821823549045099 0) (va_cwS 2 hts gX6_mixLocks_X6_mix rfl rfl rfl (by decide +kernel) ⟨Nat.le_of_ble_eq_true rfl, Nat.le_of_ble_eq_true rfl⟩) ⟨zb_blind, fun U hU hW => ⟨rfl, zb_mk hU hW hPr hPc hKc hDc hN hH hS hFc zx_e⟩⟩ rfl rfl hl.1 rfl (lv_room (Nat.le_of_ble_eq_true rfl)) dX6_mixLocks_39 ⟨Nat.le_of_ble_eq_true rfl, Nat.le_of_ble_eq_true rfl⟩) hS (fun q _ h => hFc q h) hFc (fun r8 u t H7 locs ht hvm hw hB hz1 hk1 hS => ?_)
  obtain rfl : r8 = 2965244308891743221 := hw.trans (by decide +kernel)
  have hP := zo_K hP hk1
  refine lv_lstore_n (lv' := [(3, .long 2965244308891743221), (6, .int 1), (5, .int 0), (0, .ref x), (1, .long (-2914609630483829451))]) hx hb dX6_mixLocks_42 rfl hl (by decide) rfl (fun ls hl => ?_)
  refine lv_iinc (v := 2) (lv' := [(6, .int 2), (3, .long 2965244308891743221), (5, .int 0), (0, .ref x), (1, .long (-2914609630483829451))]) hx hb dX6_mixLocks_43 hl (k := 1) rfl (by decide) (by decide) rfl (fun ls hl => ?_)
  refine lv_goto (tgt := 20) hx hb dX6_mixLocks_46 (by decide) ?_
  refine lv_iload hx hb dX6_mixLocks_20 (lv_at hl 0 rfl) ?_
  refine lv_bipush (v := 10) hx hb dX6_mixLocks_22 (by decide) ?_
  refine lv_icmp_ge (tgt := 49) hx hb dX6_mixLocks_24 (by decide) (fun h => absurd h (by decide)) (fun _ => ?_)
  refine lv_lload_n hx hb dX6_mixLocks_27 rfl (lv_at hl 1 rfl) ?_
  refine lv_aload_n hx hb dX6_mixLocks_28 rfl (lv_at hl 3 rfl) ?_
  refine va_get (D := (dC, dI)) (ci := 8) (v := .ref rm) (C := RX6) (T := TX6) (N := 3) hx hb hts zi_X6_mixLocks_X6 hown hK (zo_R hR0 hS hAr) 0 rfl rfl 0 (by decide) (hts (.fieldLink RX6 12 "LockRooms" "room" "LLockRooms$Room;") (by decide +kernel)) (fun _ h9 => h9) rfl dX6_mixLocks_29 ?_
  refine lv_iload hx hb dX6_mixLocks_32 (lv_at hl 2 rfl) ?_
  refine lv_iload hx hb dX6_mixLocks_34 (lv_at hl 0 rfl) ?_
  have hPr := ((zo_R hR0 hS hAr)).sub (ws' := [(rm, .inr (5, [.ref lk, .ref th, .ref pl, .ref gm, .int 2, .int 10, .int 0, .int 0, .int 1, .int 0, .int 0, .int 0])), (lk, .inl (cL, 10, .inr (.inr (.inr (.inr fl))))), (l0, .inr (3, [.int 0, .int 0, .int 60, .int 0, .int 0, .int 0, .int 0, .int 0, .int 0, .int 0]))]) [1, 2, 4] rfl
  have hPc := hP.sub (ws' := []) [] rfl
  have hDc := hD.sub (ws' := []) [] (by decide) rfl
  have hKc := hK.sub (tys' := [(cL, .object "LockRooms$Lock")]) [0] rfl
  have hFc := va_free (wc := []) hD hS hA [] rfl
  refine va_calli (va_runV (As := [.int 0, .int 2]) (rest := [.long 2965244308891743221]) ⟨hx, hb, hml, hown, hts⟩ (cz_QtellLock_0_2 l dC dI ed H7.size rm lk th pl gm cL fl l0 hkl0) (cwV 2 hts gX6_mixLocks_X3_tellLock rfl rfl rfl (by decide +kernel) ⟨Nat.le_of_ble_eq_true rfl, Nat.le_of_ble_eq_true rfl⟩) ⟨zb_blind, va_recv hK (zo_R hR0 hS hAr) (ci := 5) (q0 := 1) rfl rfl, fun U hU hW => ⟨rfl, zb_mk hU hW hPr hPc hKc hDc hN hH hS hFc zx_e⟩⟩ rfl rfl hl.1 rfl (lv_room (Nat.le_of_ble_eq_true rfl)) dX6_mixLocks_36 ⟨Nat.le_of_ble_eq_true rfl, Nat.le_of_ble_eq_true rfl⟩) hS (fun q _ h => hFc q h) hFc (fun r10 u t H9 locs ht hvm hw hB hz1 hk1 hS => ?_)
  obtain rfl : r10 = 60 := hw
  have hP := zo_K hP hk1
  have hPr := (zo_nil : va_P (dC, dI) vwCl [] H9)
  have hPc := hP.sub (ws' := []) [] rfl
  have hDc := hD.sub (ws' := []) [] (by decide) rfl
  have hKc := hK.sub (tys' := []) [] rfl
  have hFc := va_free (wc := []) hD hS hA [] rfl
  refine va_calll (va_runS (As := [.long 2965244308891743221, .int 60]) (rest := []) ⟨hx, hb, hml, hown, hts⟩ (cz_X6_mix l dC dI ed H9.size 2965244308891743221 60) (va_cwS 2 hts gX6_mixLocks_X6_mix rfl rfl rfl (by decide +kernel) ⟨Nat.le_of_ble_eq_true rfl, Nat.le_of_ble_eq_true rfl⟩) ⟨zb_blind, fun U hU hW => ⟨rfl, zb_mk hU hW hPr hPc hKc hDc hN hH hS hFc zx_e⟩⟩ rfl rfl hl.1 rfl (lv_room (Nat.le_of_ble_eq_true rfl)) dX6_mixLocks_39 ⟨Nat.le_of_ble_eq_true rfl, Nat.le_of_ble_eq_true rfl⟩) hS (fun q _ h => hFc q h) hFc (fun r12 u t H11 locs ht hvm hw hB hz1 hk1 hS => ?_)
  obtain rfl : r12 = (-311146792903718169) := hw.trans (by decide +kernel)
  have hP := zo_K hP hk1
  refine lv_lstore_n (lv' := [(3, .long (-311146792903718169)), (6, .int 2), (5, .int 0), (0, .ref x), (1, .long (-2914609630483829451))]) hx hb dX6_mixLocks_42 rfl hl (by decide) rfl (fun ls hl => ?_)
  refine lv_iinc (v := 3) (lv' := [(6, .int 3), (3, .long (-311146792903718169)), (5, .int 0), (0, .ref x), (1, .long (-2914609630483829451))]) hx hb dX6_mixLocks_43 hl (k := 1) rfl (by decide) (by decide) rfl (fun ls hl => ?_)
  refine lv_goto (tgt := 20) hx hb dX6_mixLocks_46 (by decide) ?_
  refine lv_iload hx hb dX6_mixLocks_20 (lv_at hl 0 rfl) ?_
  refine lv_bipush (v := 10) hx hb dX6_mixLocks_22 (by decide) ?_
  refine lv_icmp_ge (tgt := 49) hx hb dX6_mixLocks_24 (by decide) (fun h => absurd h (by decide)) (fun _ => ?_)
  refine lv_lload_n hx hb dX6_mixLocks_27 rfl (lv_at hl 1 rfl) ?_
  refine lv_aload_n hx hb dX6_mixLocks_28 rfl (lv_at hl 3 rfl) ?_
  refine va_get (D := (dC, dI)) (ci := 8) (v := .ref rm) (C := RX6) (T := TX6) (N := 3) hx hb hts zi_X6_mixLocks_X6 hown hK (zo_R hR0 hS hAr) 0 rfl rfl 0 (by decide) (hts (.fieldLink RX6 12 "LockRooms" "room" "LLockRooms$Room;") (by decide +kernel)) (fun _ h9 => h9) rfl dX6_mixLocks_29 ?_
  refine lv_iload hx hb dX6_mixLocks_32 (lv_at hl 2 rfl) ?_
  refine lv_iload hx hb dX6_mixLocks_34 (lv_at hl 0 rfl) ?_
  have hPr := ((zo_R hR0 hS hAr)).sub (ws' := [(rm, .inr (5, [.ref lk, .ref th, .ref pl, .ref gm, .int 2, .int 10, .int 0, .int 0, .int 1, .int 0, .int 0, .int 0])), (lk, .inl (cL, 10, .inr (.inr (.inr (.inr fl))))), (l0, .inr (3, [.int 0, .int 0, .int 60, .int 0, .int 0, .int 0, .int 0, .int 0, .int 0, .int 0]))]) [1, 2, 4] rfl
  have hPc := hP.sub (ws' := []) [] rfl
  have hDc := hD.sub (ws' := []) [] (by decide) rfl
  have hKc := hK.sub (tys' := [(cL, .object "LockRooms$Lock")]) [0] rfl
  have hFc := va_free (wc := []) hD hS hA [] rfl
  refine va_calli (va_runV (As := [.int 0, .int 3]) (rest := [.long (-311146792903718169)]) ⟨hx, hb, hml, hown, hts⟩ (cz_QtellLock_0_3 l dC dI ed H11.size rm lk th pl gm cL fl l0 hkl0) (cwV 2 hts gX6_mixLocks_X3_tellLock rfl rfl rfl (by decide +kernel) ⟨Nat.le_of_ble_eq_true rfl, Nat.le_of_ble_eq_true rfl⟩) ⟨zb_blind, va_recv hK (zo_R hR0 hS hAr) (ci := 5) (q0 := 1) rfl rfl, fun U hU hW => ⟨rfl, zb_mk hU hW hPr hPc hKc hDc hN hH hS hFc zx_e⟩⟩ rfl rfl hl.1 rfl (lv_room (Nat.le_of_ble_eq_true rfl)) dX6_mixLocks_36 ⟨Nat.le_of_ble_eq_true rfl, Nat.le_of_ble_eq_true rfl⟩) hS (fun q _ h => hFc q h) hFc (fun r14 u t H13 locs ht hvm hw hB hz1 hk1 hS => ?_)
  obtain rfl : r14 = 0 := hw
  have hP := zo_K hP hk1
  have hPr := (zo_nil : va_P (dC, dI) vwCl [] H13)
  have hPc := hP.sub (ws' := []) [] rfl
  have hDc := hD.sub (ws' := []) [] (by decide) rfl
  have hKc := hK.sub (tys' := []) [] rfl
  have hFc := va_free (wc := []) hD hS hA [] rfl
  refine va_calll (va_runS (As := [.long (-311146792903718169), .int 0]) (rest := []) ⟨hx, hb, hml, hown, hts⟩ (cz_X6_mix l dC dI ed H13.size (-311146792903718169) 0) (va_cwS 2 hts gX6_mixLocks_X6_mix rfl rfl rfl (by decide +kernel) ⟨Nat.le_of_ble_eq_true rfl, Nat.le_of_ble_eq_true rfl⟩) ⟨zb_blind, fun U hU hW => ⟨rfl, zb_mk hU hW hPr hPc hKc hDc hN hH hS hFc zx_e⟩⟩ rfl rfl hl.1 rfl (lv_room (Nat.le_of_ble_eq_true rfl)) dX6_mixLocks_39 ⟨Nat.le_of_ble_eq_true rfl, Nat.le_of_ble_eq_true rfl⟩) hS (fun q _ h => hFc q h) hFc (fun r16 u t H15 locs ht hvm hw hB hz1 hk1 hS => ?_)
  obtain rfl : r16 = 8801193493694288377 := hw.trans (by decide +kernel)
  have hP := zo_K hP hk1
  refine lv_lstore_n (lv' := [(3, .long 8801193493694288377), (6, .int 3), (5, .int 0), (0, .ref x), (1, .long (-2914609630483829451))]) hx hb dX6_mixLocks_42 rfl hl (by decide) rfl (fun ls hl => ?_)
  refine lv_iinc (v := 4) (lv' := [(6, .int 4), (3, .long 8801193493694288377), (5, .int 0), (0, .ref x), (1, .long (-2914609630483829451))]) hx hb dX6_mixLocks_43 hl (k := 1) rfl (by decide) (by decide) rfl (fun ls hl => ?_)
  refine lv_goto (tgt := 20) hx hb dX6_mixLocks_46 (by decide) ?_
  refine lv_iload hx hb dX6_mixLocks_20 (lv_at hl 0 rfl) ?_
  refine lv_bipush (v := 10) hx hb dX6_mixLocks_22 (by decide) ?_
  refine lv_icmp_ge (tgt := 49) hx hb dX6_mixLocks_24 (by decide) (fun h => absurd h (by decide)) (fun _ => ?_)
  refine lv_lload_n hx hb dX6_mixLocks_27 rfl (lv_at hl 1 rfl) ?_
  refine lv_aload_n hx hb dX6_mixLocks_28 rfl (lv_at hl 3 rfl) ?_
  refine va_get (D := (dC, dI)) (ci := 8) (v := .ref rm) (C := RX6) (T := TX6) (N := 3) hx hb hts zi_X6_mixLocks_X6 hown hK (zo_R hR0 hS hAr) 0 rfl rfl 0 (by decide) (hts (.fieldLink RX6 12 "LockRooms" "room" "LLockRooms$Room;") (by decide +kernel)) (fun _ h9 => h9) rfl dX6_mixLocks_29 ?_
  refine lv_iload hx hb dX6_mixLocks_32 (lv_at hl 2 rfl) ?_
  refine lv_iload hx hb dX6_mixLocks_34 (lv_at hl 0 rfl) ?_
  have hPr := ((zo_R hR0 hS hAr)).sub (ws' := [(rm, .inr (5, [.ref lk, .ref th, .ref pl, .ref gm, .int 2, .int 10, .int 0, .int 0, .int 1, .int 0, .int 0, .int 0])), (lk, .inl (cL, 10, .inr (.inr (.inr (.inr fl))))), (l0, .inr (3, [.int 0, .int 0, .int 60, .int 0, .int 0, .int 0, .int 0, .int 0, .int 0, .int 0]))]) [1, 2, 4] rfl
  have hPc := hP.sub (ws' := []) [] rfl
  have hDc := hD.sub (ws' := []) [] (by decide) rfl
  have hKc := hK.sub (tys' := [(cL, .object "LockRooms$Lock")]) [0] rfl
  have hFc := va_free (wc := []) hD hS hA [] rfl
  refine va_calli (va_runV (As := [.int 0, .int 4]) (rest := [.long 8801193493694288377]) ⟨hx, hb, hml, hown, hts⟩ (cz_QtellLock_0_4 l dC dI ed H15.size rm lk th pl gm cL fl l0 hkl0) (cwV 2 hts gX6_mixLocks_X3_tellLock rfl rfl rfl (by decide +kernel) ⟨Nat.le_of_ble_eq_true rfl, Nat.le_of_ble_eq_true rfl⟩) ⟨zb_blind, va_recv hK (zo_R hR0 hS hAr) (ci := 5) (q0 := 1) rfl rfl, fun U hU hW => ⟨rfl, zb_mk hU hW hPr hPc hKc hDc hN hH hS hFc zx_e⟩⟩ rfl rfl hl.1 rfl (lv_room (Nat.le_of_ble_eq_true rfl)) dX6_mixLocks_36 ⟨Nat.le_of_ble_eq_true rfl, Nat.le_of_ble_eq_true rfl⟩) hS (fun q _ h => hFc q h) hFc (fun r18 u t H17 locs ht hvm hw hB hz1 hk1 hS => ?_)
  obtain rfl : r18 = 0 := hw
  have hP := zo_K hP hk1
  have hPr := (zo_nil : va_P (dC, dI) vwCl [] H17)
  have hPc := hP.sub (ws' := []) [] rfl
  have hDc := hD.sub (ws' := []) [] (by decide) rfl
  have hKc := hK.sub (tys' := []) [] rfl
  have hFc := va_free (wc := []) hD hS hA [] rfl
  refine va_calll (va_runS (As := [.long 8801193493694288377, .int 0]) (rest := []) ⟨hx, hb, hml, hown, hts⟩ (cz_X6_mix l dC dI ed H17.size 8801193493694288377 0) (va_cwS 2 hts gX6_mixLocks_X6_mix rfl rfl rfl (by decide +kernel) ⟨Nat.le_of_ble_eq_true rfl, Nat.le_of_ble_eq_true rfl⟩) ⟨zb_blind, fun U hU hW => ⟨rfl, zb_mk hU hW hPr hPc hKc hDc hN hH hS hFc zx_e⟩⟩ rfl rfl hl.1 rfl (lv_room (Nat.le_of_ble_eq_true rfl)) dX6_mixLocks_39 ⟨Nat.le_of_ble_eq_true rfl, Nat.le_of_ble_eq_true rfl⟩) hS (fun q _ h => hFc q h) hFc (fun r20 u t H19 locs ht hvm hw hB hz1 hk1 hS => ?_)
  obtain rfl : r20 = (-3864162801120334553) := hw.trans (by decide +kernel)
  have hP := zo_K hP hk1
  refine lv_lstore_n (lv' := [(3, .long (-3864162801120334553)), (6, .int 4), (5, .int 0), (0, .ref x), (1, .long (-2914609630483829451))]) hx hb dX6_mixLocks_42 rfl hl (by decide) rfl (fun ls hl => ?_)
  refine lv_iinc (v := 5) (lv' := [(6, .int 5), (3, .long (-3864162801120334553)), (5, .int 0), (0, .ref x), (1, .long (-2914609630483829451))]) hx hb dX6_mixLocks_43 hl (k := 1) rfl (by decide) (by decide) rfl (fun ls hl => ?_)
  refine lv_goto (tgt := 20) hx hb dX6_mixLocks_46 (by decide) ?_
  refine lv_iload hx hb dX6_mixLocks_20 (lv_at hl 0 rfl) ?_
  refine lv_bipush (v := 10) hx hb dX6_mixLocks_22 (by decide) ?_
  refine lv_icmp_ge (tgt := 49) hx hb dX6_mixLocks_24 (by decide) (fun h => absurd h (by decide)) (fun _ => ?_)
  refine lv_lload_n hx hb dX6_mixLocks_27 rfl (lv_at hl 1 rfl) ?_
  refine lv_aload_n hx hb dX6_mixLocks_28 rfl (lv_at hl 3 rfl) ?_
  refine va_get (D := (dC, dI)) (ci := 8) (v := .ref rm) (C := RX6) (T := TX6) (N := 3) hx hb hts zi_X6_mixLocks_X6 hown hK (zo_R hR0 hS hAr) 0 rfl rfl 0 (by decide) (hts (.fieldLink RX6 12 "LockRooms" "room" "LLockRooms$Room;") (by decide +kernel)) (fun _ h9 => h9) rfl dX6_mixLocks_29 ?_
  refine lv_iload hx hb dX6_mixLocks_32 (lv_at hl 2 rfl) ?_
  refine lv_iload hx hb dX6_mixLocks_34 (lv_at hl 0 rfl) ?_
  have hPr := ((zo_R hR0 hS hAr)).sub (ws' := [(rm, .inr (5, [.ref lk, .ref th, .ref pl, .ref gm, .int 2, .int 10, .int 0, .int 0, .int 1, .int 0, .int 0, .int 0])), (lk, .inl (cL, 10, .inr (.inr (.inr (.inr fl))))), (l0, .inr (3, [.int 0, .int 0, .int 60, .int 0, .int 0, .int 0, .int 0, .int 0, .int 0, .int 0]))]) [1, 2, 4] rfl
  have hPc := hP.sub (ws' := []) [] rfl
  have hDc := hD.sub (ws' := []) [] (by decide) rfl
  have hKc := hK.sub (tys' := [(cL, .object "LockRooms$Lock")]) [0] rfl
  have hFc := va_free (wc := []) hD hS hA [] rfl
  refine va_calli (va_runV (As := [.int 0, .int 5]) (rest := [.long (-3864162801120334553)]) ⟨hx, hb, hml, hown, hts⟩ (cz_QtellLock_0_5 l dC dI ed H19.size rm lk th pl gm cL fl l0 hkl0) (cwV 2 hts gX6_mixLocks_X3_tellLock rfl rfl rfl (by decide +kernel) ⟨Nat.le_of_ble_eq_true rfl, Nat.le_of_ble_eq_true rfl⟩) ⟨zb_blind, va_recv hK (zo_R hR0 hS hAr) (ci := 5) (q0 := 1) rfl rfl, fun U hU hW => ⟨rfl, zb_mk hU hW hPr hPc hKc hDc hN hH hS hFc zx_e⟩⟩ rfl rfl hl.1 rfl (lv_room (Nat.le_of_ble_eq_true rfl)) dX6_mixLocks_36 ⟨Nat.le_of_ble_eq_true rfl, Nat.le_of_ble_eq_true rfl⟩) hS (fun q _ h => hFc q h) hFc (fun r22 u t H21 locs ht hvm hw hB hz1 hk1 hS => ?_)
  obtain rfl : r22 = 0 := hw
  have hP := zo_K hP hk1
  have hPr := (zo_nil : va_P (dC, dI) vwCl [] H21)
  have hPc := hP.sub (ws' := []) [] rfl
  have hDc := hD.sub (ws' := []) [] (by decide) rfl
  have hKc := hK.sub (tys' := []) [] rfl
  have hFc := va_free (wc := []) hD hS hA [] rfl
  refine va_calll (va_runS (As := [.long (-3864162801120334553), .int 0]) (rest := []) ⟨hx, hb, hml, hown, hts⟩ (cz_X6_mix l dC dI ed H21.size (-3864162801120334553) 0) (va_cwS 2 hts gX6_mixLocks_X6_mix rfl rfl rfl (by decide +kernel) ⟨Nat.le_of_ble_eq_true rfl, Nat.le_of_ble_eq_true rfl⟩) ⟨zb_blind, fun U hU hW => ⟨rfl, zb_mk hU hW hPr hPc hKc hDc hN hH hS hFc zx_e⟩⟩ rfl rfl hl.1 rfl (lv_room (Nat.le_of_ble_eq_true rfl)) dX6_mixLocks_39 ⟨Nat.le_of_ble_eq_true rfl, Nat.le_of_ble_eq_true rfl⟩) hS (fun q _ h => hFc q h) hFc (fun r24 u t H23 locs ht hvm hw hB hz1 hk1 hS => ?_)
  obtain rfl : r24 = (-9108582392473061447) := hw.trans (by decide +kernel)
  have hP := zo_K hP hk1
  refine lv_lstore_n (lv' := [(3, .long (-9108582392473061447)), (6, .int 5), (5, .int 0), (0, .ref x), (1, .long (-2914609630483829451))]) hx hb dX6_mixLocks_42 rfl hl (by decide) rfl (fun ls hl => ?_)
  refine lv_iinc (v := 6) (lv' := [(6, .int 6), (3, .long (-9108582392473061447)), (5, .int 0), (0, .ref x), (1, .long (-2914609630483829451))]) hx hb dX6_mixLocks_43 hl (k := 1) rfl (by decide) (by decide) rfl (fun ls hl => ?_)
  refine lv_goto (tgt := 20) hx hb dX6_mixLocks_46 (by decide) ?_
  refine lv_iload hx hb dX6_mixLocks_20 (lv_at hl 0 rfl) ?_
  refine lv_bipush (v := 10) hx hb dX6_mixLocks_22 (by decide) ?_
  refine lv_icmp_ge (tgt := 49) hx hb dX6_mixLocks_24 (by decide) (fun h => absurd h (by decide)) (fun _ => ?_)
  refine lv_lload_n hx hb dX6_mixLocks_27 rfl (lv_at hl 1 rfl) ?_
  refine lv_aload_n hx hb dX6_mixLocks_28 rfl (lv_at hl 3 rfl) ?_
  refine va_get (D := (dC, dI)) (ci := 8) (v := .ref rm) (C := RX6) (T := TX6) (N := 3) hx hb hts zi_X6_mixLocks_X6 hown hK (zo_R hR0 hS hAr) 0 rfl rfl 0 (by decide) (hts (.fieldLink RX6 12 "LockRooms" "room" "LLockRooms$Room;") (by decide +kernel)) (fun _ h9 => h9) rfl dX6_mixLocks_29 ?_
  refine lv_iload hx hb dX6_mixLocks_32 (lv_at hl 2 rfl) ?_
  refine lv_iload hx hb dX6_mixLocks_34 (lv_at hl 0 rfl) ?_
  have hPr := ((zo_R hR0 hS hAr)).sub (ws' := [(rm, .inr (5, [.ref lk, .ref th, .ref pl, .ref gm, .int 2, .int 10, .int 0, .int 0, .int 1, .int 0, .int 0, .int 0])), (lk, .inl (cL, 10, .inr (.inr (.inr (.inr fl))))), (l0, .inr (3, [.int 0, .int 0, .int 60, .int 0, .int 0, .int 0, .int 0, .int 0, .int 0, .int 0]))]) [1, 2, 4] rfl
  have hPc := hP.sub (ws' := []) [] rfl
  have hDc := hD.sub (ws' := []) [] (by decide) rfl
  have hKc := hK.sub (tys' := [(cL, .object "LockRooms$Lock")]) [0] rfl
  have hFc := va_free (wc := []) hD hS hA [] rfl
  refine va_calli (va_runV (As := [.int 0, .int 6]) (rest := [.long (-9108582392473061447)]) ⟨hx, hb, hml, hown, hts⟩ (cz_QtellLock_0_6 l dC dI ed H23.size rm lk th pl gm cL fl l0 hkl0) (cwV 2 hts gX6_mixLocks_X3_tellLock rfl rfl rfl (by decide +kernel) ⟨Nat.le_of_ble_eq_true rfl, Nat.le_of_ble_eq_true rfl⟩) ⟨zb_blind, va_recv hK (zo_R hR0 hS hAr) (ci := 5) (q0 := 1) rfl rfl, fun U hU hW => ⟨rfl, zb_mk hU hW hPr hPc hKc hDc hN hH hS hFc zx_e⟩⟩ rfl rfl hl.1 rfl (lv_room (Nat.le_of_ble_eq_true rfl)) dX6_mixLocks_36 ⟨Nat.le_of_ble_eq_true rfl, Nat.le_of_ble_eq_true rfl⟩) hS (fun q _ h => hFc q h) hFc (fun r26 u t H25 locs ht hvm hw hB hz1 hk1 hS => ?_)
  obtain rfl : r26 = 0 := hw
  have hP := zo_K hP hk1
  have hPr := (zo_nil : va_P (dC, dI) vwCl [] H25)
  have hPc := hP.sub (ws' := []) [] rfl
  have hDc := hD.sub (ws' := []) [] (by decide) rfl
  have hKc := hK.sub (tys' := []) [] rfl
  have hFc := va_free (wc := []) hD hS hA [] rfl
  refine va_calll (va_runS (As := [.long (-9108582392473061447), .int 0]) (rest := []) ⟨hx, hb, hml, hown, hts⟩ (cz_X6_mix l dC dI ed H25.size (-9108582392473061447) 0) (va_cwS 2 hts gX6_mixLocks_X6_mix rfl rfl rfl (by decide +kernel) ⟨Nat.le_of_ble_eq_true rfl, Nat.le_of_ble_eq_true rfl⟩) ⟨zb_blind, fun U hU hW => ⟨rfl, zb_mk hU hW hPr hPc hKc hDc hN hH hS hFc zx_e⟩⟩ rfl rfl hl.1 rfl (lv_room (Nat.le_of_ble_eq_true rfl)) dX6_mixLocks_39 ⟨Nat.le_of_ble_eq_true rfl, Nat.le_of_ble_eq_true rfl⟩) hS (fun q _ h => hFc q h) hFc (fun r28 u t H27 locs ht hvm hw hB hz1 hk1 hS => ?_)
  obtain rfl : r28 = (-5664893061021630617) := hw.trans (by decide +kernel)
  have hP := zo_K hP hk1
  refine lv_lstore_n (lv' := [(3, .long (-5664893061021630617)), (6, .int 6), (5, .int 0), (0, .ref x), (1, .long (-2914609630483829451))]) hx hb dX6_mixLocks_42 rfl hl (by decide) rfl (fun ls hl => ?_)
  refine lv_iinc (v := 7) (lv' := [(6, .int 7), (3, .long (-5664893061021630617)), (5, .int 0), (0, .ref x), (1, .long (-2914609630483829451))]) hx hb dX6_mixLocks_43 hl (k := 1) rfl (by decide) (by decide) rfl (fun ls hl => ?_)
  refine lv_goto (tgt := 20) hx hb dX6_mixLocks_46 (by decide) ?_
  refine lv_iload hx hb dX6_mixLocks_20 (lv_at hl 0 rfl) ?_
  refine lv_bipush (v := 10) hx hb dX6_mixLocks_22 (by decide) ?_
  refine lv_icmp_ge (tgt := 49) hx hb dX6_mixLocks_24 (by decide) (fun h => absurd h (by decide)) (fun _ => ?_)
  refine lv_lload_n hx hb dX6_mixLocks_27 rfl (lv_at hl 1 rfl) ?_
  refine lv_aload_n hx hb dX6_mixLocks_28 rfl (lv_at hl 3 rfl) ?_
  refine va_get (D := (dC, dI)) (ci := 8) (v := .ref rm) (C := RX6) (T := TX6) (N := 3) hx hb hts zi_X6_mixLocks_X6 hown hK (zo_R hR0 hS hAr) 0 rfl rfl 0 (by decide) (hts (.fieldLink RX6 12 "LockRooms" "room" "LLockRooms$Room;") (by decide +kernel)) (fun _ h9 => h9) rfl dX6_mixLocks_29 ?_
  refine lv_iload hx hb dX6_mixLocks_32 (lv_at hl 2 rfl) ?_
  refine lv_iload hx hb dX6_mixLocks_34 (lv_at hl 0 rfl) ?_
  have hPr := ((zo_R hR0 hS hAr)).sub (ws' := [(rm, .inr (5, [.ref lk, .ref th, .ref pl, .ref gm, .int 2, .int 10, .int 0, .int 0, .int 1, .int 0, .int 0, .int 0])), (lk, .inl (cL, 10, .inr (.inr (.inr (.inr fl))))), (l0, .inr (3, [.int 0, .int 0, .int 60, .int 0, .int 0, .int 0, .int 0, .int 0, .int 0, .int 0]))]) [1, 2, 4] rfl
  have hPc := hP.sub (ws' := []) [] rfl
  have hDc := hD.sub (ws' := []) [] (by decide) rfl
  have hKc := hK.sub (tys' := [(cL, .object "LockRooms$Lock")]) [0] rfl
  have hFc := va_free (wc := []) hD hS hA [] rfl
  refine va_calli (va_runV (As := [.int 0, .int 7]) (rest := [.long (-5664893061021630617)]) ⟨hx, hb, hml, hown, hts⟩ (cz_QtellLock_0_7 l dC dI ed H27.size rm lk th pl gm cL fl l0 hkl0) (cwV 2 hts gX6_mixLocks_X3_tellLock rfl rfl rfl (by decide +kernel) ⟨Nat.le_of_ble_eq_true rfl, Nat.le_of_ble_eq_true rfl⟩) ⟨zb_blind, va_recv hK (zo_R hR0 hS hAr) (ci := 5) (q0 := 1) rfl rfl, fun U hU hW => ⟨rfl, zb_mk hU hW hPr hPc hKc hDc hN hH hS hFc zx_e⟩⟩ rfl rfl hl.1 rfl (lv_room (Nat.le_of_ble_eq_true rfl)) dX6_mixLocks_36 ⟨Nat.le_of_ble_eq_true rfl, Nat.le_of_ble_eq_true rfl⟩) hS (fun q _ h => hFc q h) hFc (fun r30 u t H29 locs ht hvm hw hB hz1 hk1 hS => ?_)
  obtain rfl : r30 = 0 := hw
  have hP := zo_K hP hk1
  have hPr := (zo_nil : va_P (dC, dI) vwCl [] H29)
  have hPc := hP.sub (ws' := []) [] rfl
  have hDc := hD.sub (ws' := []) [] (by decide) rfl
  have hKc := hK.sub (tys' := []) [] rfl
  have hFc := va_free (wc := []) hD hS hA [] rfl
  refine va_calll (va_runS (As := [.long (-5664893061021630617), .int 0]) (rest := []) ⟨hx, hb, hml, hown, hts⟩ (cz_X6_mix l dC dI ed H29.size (-5664893061021630617) 0) (va_cwS 2 hts gX6_mixLocks_X6_mix rfl rfl rfl (by decide +kernel) ⟨Nat.le_of_ble_eq_true rfl, Nat.le_of_ble_eq_true rfl⟩) ⟨zb_blind, fun U hU hW => ⟨rfl, zb_mk hU hW hPr hPc hKc hDc hN hH hS hFc zx_e⟩⟩ rfl rfl hl.1 rfl (lv_room (Nat.le_of_ble_eq_true rfl)) dX6_mixLocks_39 ⟨Nat.le_of_ble_eq_true rfl, Nat.le_of_ble_eq_true rfl⟩) hS (fun q _ h => hFc q h) hFc (fun r32 u t H31 locs ht hvm hw hB hz1 hk1 hS => ?_)
  obtain rfl : r32 = 8855755845424967033 := hw.trans (by decide +kernel)
  have hP := zo_K hP hk1
  refine lv_lstore_n (lv' := [(3, .long 8855755845424967033), (6, .int 7), (5, .int 0), (0, .ref x), (1, .long (-2914609630483829451))]) hx hb dX6_mixLocks_42 rfl hl (by decide) rfl (fun ls hl => ?_)
  refine lv_iinc (v := 8) (lv' := [(6, .int 8), (3, .long 8855755845424967033), (5, .int 0), (0, .ref x), (1, .long (-2914609630483829451))]) hx hb dX6_mixLocks_43 hl (k := 1) rfl (by decide) (by decide) rfl (fun ls hl => ?_)
  refine lv_goto (tgt := 20) hx hb dX6_mixLocks_46 (by decide) ?_
  refine lv_iload hx hb dX6_mixLocks_20 (lv_at hl 0 rfl) ?_
  refine lv_bipush (v := 10) hx hb dX6_mixLocks_22 (by decide) ?_
  refine lv_icmp_ge (tgt := 49) hx hb dX6_mixLocks_24 (by decide) (fun h => absurd h (by decide)) (fun _ => ?_)
  refine lv_lload_n hx hb dX6_mixLocks_27 rfl (lv_at hl 1 rfl) ?_
  refine lv_aload_n hx hb dX6_mixLocks_28 rfl (lv_at hl 3 rfl) ?_
  refine va_get (D := (dC, dI)) (ci := 8) (v := .ref rm) (C := RX6) (T := TX6) (N := 3) hx hb hts zi_X6_mixLocks_X6 hown hK (zo_R hR0 hS hAr) 0 rfl rfl 0 (by decide) (hts (.fieldLink RX6 12 "LockRooms" "room" "LLockRooms$Room;") (by decide +kernel)) (fun _ h9 => h9) rfl dX6_mixLocks_29 ?_
  refine lv_iload hx hb dX6_mixLocks_32 (lv_at hl 2 rfl) ?_
  refine lv_iload hx hb dX6_mixLocks_34 (lv_at hl 0 rfl) ?_
  have hPr := ((zo_R hR0 hS hAr)).sub (ws' := [(rm, .inr (5, [.ref lk, .ref th, .ref pl, .ref gm, .int 2, .int 10, .int 0, .int 0, .int 1, .int 0, .int 0, .int 0])), (lk, .inl (cL, 10, .inr (.inr (.inr (.inr fl))))), (l0, .inr (3, [.int 0, .int 0, .int 60, .int 0, .int 0, .int 0, .int 0, .int 0, .int 0, .int 0]))]) [1, 2, 4] rfl
  have hPc := hP.sub (ws' := []) [] rfl
  have hDc := hD.sub (ws' := []) [] (by decide) rfl
  have hKc := hK.sub (tys' := [(cL, .object "LockRooms$Lock")]) [0] rfl
  have hFc := va_free (wc := []) hD hS hA [] rfl
  refine va_calli (va_runV (As := [.int 0, .int 8]) (rest := [.long 8855755845424967033]) ⟨hx, hb, hml, hown, hts⟩ (cz_QtellLock_0_8 l dC dI ed H31.size rm lk th pl gm cL fl l0 hkl0) (cwV 2 hts gX6_mixLocks_X3_tellLock rfl rfl rfl (by decide +kernel) ⟨Nat.le_of_ble_eq_true rfl, Nat.le_of_ble_eq_true rfl⟩) ⟨zb_blind, va_recv hK (zo_R hR0 hS hAr) (ci := 5) (q0 := 1) rfl rfl, fun U hU hW => ⟨rfl, zb_mk hU hW hPr hPc hKc hDc hN hH hS hFc zx_e⟩⟩ rfl rfl hl.1 rfl (lv_room (Nat.le_of_ble_eq_true rfl)) dX6_mixLocks_36 ⟨Nat.le_of_ble_eq_true rfl, Nat.le_of_ble_eq_true rfl⟩) hS (fun q _ h => hFc q h) hFc (fun r34 u t H33 locs ht hvm hw hB hz1 hk1 hS => ?_)
  obtain rfl : r34 = 0 := hw
  have hP := zo_K hP hk1
  have hPr := (zo_nil : va_P (dC, dI) vwCl [] H33)
  have hPc := hP.sub (ws' := []) [] rfl
  have hDc := hD.sub (ws' := []) [] (by decide) rfl
  have hKc := hK.sub (tys' := []) [] rfl
  have hFc := va_free (wc := []) hD hS hA [] rfl
  refine va_calll (va_runS (As := [.long 8855755845424967033, .int 0]) (rest := []) ⟨hx, hb, hml, hown, hts⟩ (cz_X6_mix l dC dI ed H33.size 8855755845424967033 0) (va_cwS 2 hts gX6_mixLocks_X6_mix rfl rfl rfl (by decide +kernel) ⟨Nat.le_of_ble_eq_true rfl, Nat.le_of_ble_eq_true rfl⟩) ⟨zb_blind, fun U hU hW => ⟨rfl, zb_mk hU hW hPr hPc hKc hDc hN hH hS hFc zx_e⟩⟩ rfl rfl hl.1 rfl (lv_room (Nat.le_of_ble_eq_true rfl)) dX6_mixLocks_39 ⟨Nat.le_of_ble_eq_true rfl, Nat.le_of_ble_eq_true rfl⟩) hS (fun q _ h => hFc q h) hFc (fun r36 u t H35 locs ht hvm hw hB hz1 hk1 hS => ?_)
  obtain rfl : r36 = (-2172729897469296217) := hw.trans (by decide +kernel)
  have hP := zo_K hP hk1
  refine lv_lstore_n (lv' := [(3, .long (-2172729897469296217)), (6, .int 8), (5, .int 0), (0, .ref x), (1, .long (-2914609630483829451))]) hx hb dX6_mixLocks_42 rfl hl (by decide) rfl (fun ls hl => ?_)
  refine lv_iinc (v := 9) (lv' := [(6, .int 9), (3, .long (-2172729897469296217)), (5, .int 0), (0, .ref x), (1, .long (-2914609630483829451))]) hx hb dX6_mixLocks_43 hl (k := 1) rfl (by decide) (by decide) rfl (fun ls hl => ?_)
  refine lv_goto (tgt := 20) hx hb dX6_mixLocks_46 (by decide) ?_
  refine lv_iload hx hb dX6_mixLocks_20 (lv_at hl 0 rfl) ?_
  refine lv_bipush (v := 10) hx hb dX6_mixLocks_22 (by decide) ?_
  refine lv_icmp_ge (tgt := 49) hx hb dX6_mixLocks_24 (by decide) (fun h => absurd h (by decide)) (fun _ => ?_)
  refine lv_lload_n hx hb dX6_mixLocks_27 rfl (lv_at hl 1 rfl) ?_
  refine lv_aload_n hx hb dX6_mixLocks_28 rfl (lv_at hl 3 rfl) ?_
  refine va_get (D := (dC, dI)) (ci := 8) (v := .ref rm) (C := RX6) (T := TX6) (N := 3) hx hb hts zi_X6_mixLocks_X6 hown hK (zo_R hR0 hS hAr) 0 rfl rfl 0 (by decide) (hts (.fieldLink RX6 12 "LockRooms" "room" "LLockRooms$Room;") (by decide +kernel)) (fun _ h9 => h9) rfl dX6_mixLocks_29 ?_
  refine lv_iload hx hb dX6_mixLocks_32 (lv_at hl 2 rfl) ?_
  refine lv_iload hx hb dX6_mixLocks_34 (lv_at hl 0 rfl) ?_
  have hPr := ((zo_R hR0 hS hAr)).sub (ws' := [(rm, .inr (5, [.ref lk, .ref th, .ref pl, .ref gm, .int 2, .int 10, .int 0, .int 0, .int 1, .int 0, .int 0, .int 0])), (lk, .inl (cL, 10, .inr (.inr (.inr (.inr fl))))), (l0, .inr (3, [.int 0, .int 0, .int 60, .int 0, .int 0, .int 0, .int 0, .int 0, .int 0, .int 0])), (th, .inl (cT, 12, .inr (.inr (.inr (.inr ft))))), (t0, .inr (7, [.int (-1), .int 0, .int 0, .int 0, .int 0])), (t1, .inr (7, [.int (-1), .int 0, .int 0, .int 0, .int 0])), (t2, .inr (7, [.int (-1), .int 0, .int 0, .int 0, .int 0])), (t3, .inr (7, [.int (-1), .int 0, .int 0, .int 0, .int 0])), (t4, .inr (7, [.int (-1), .int 0, .int 0, .int 0, .int 0])), (t5, .inr (7, [.int (-1), .int 0, .int 0, .int 0, .int 0])), (t6, .inr (7, [.int (-1), .int 0, .int 0, .int 0, .int 0])), (t7, .inr (7, [.int (-1), .int 0, .int 0, .int 0, .int 0])), (t8, .inr (7, [.int (-1), .int 0, .int 0, .int 0, .int 0])), (t9, .inr (7, [.int (-1), .int 0, .int 0, .int 0, .int 0]))]) [1, 2, 4, 3, 6, 7, 8, 9, 10, 11, 12, 13, 14, 15] rfl
  have hPc := hP.sub (ws' := []) [] rfl
  have hDc := hD.sub (ws' := []) [] (by decide) rfl
  have hKc := hK.sub (tys' := [(cL, .object "LockRooms$Lock"), (cT, .object "LockRooms$Thing")]) [0, 1] rfl
  have hFc := va_free (wc := []) hD hS hA [] rfl
  refine va_calli (va_runV (As := [.int 0, .int 9]) (rest := [.long (-2172729897469296217)]) ⟨hx, hb, hml, hown, hts⟩ (cz_QtellLock_0_9 l dC dI ed H35.size rm lk th pl gm cL fl l0 cT ft t0 t1 t2 t3 t4 t5 t6 t7 t8 t9 hkl0 hkt0 hkt1 hkt2 hkt3 hkt4 hkt5 hkt6 hkt7 hkt8 hkt9) (cwV 2 hts gX6_mixLocks_X3_tellLock rfl rfl rfl (by decide +kernel) ⟨Nat.le_of_ble_eq_true rfl, Nat.le_of_ble_eq_true rfl⟩) ⟨zb_blind, va_recv hK (zo_R hR0 hS hAr) (ci := 5) (q0 := 1) rfl rfl, fun U hU hW => ⟨rfl, zb_mk hU hW hPr hPc hKc hDc hN hH hS hFc zx_e⟩⟩ rfl rfl hl.1 rfl (lv_room (Nat.le_of_ble_eq_true rfl)) dX6_mixLocks_36 ⟨Nat.le_of_ble_eq_true rfl, Nat.le_of_ble_eq_true rfl⟩) hS (fun q _ h => hFc q h) hFc (fun r38 u t H37 locs ht hvm hw hB hz1 hk1 hS => ?_)
  obtain rfl : r38 = 1 := hw
  have hP := zo_K hP hk1
  have hPr := (zo_nil : va_P (dC, dI) vwCl [] H37)
  have hPc := hP.sub (ws' := []) [] rfl
  have hDc := hD.sub (ws' := []) [] (by decide) rfl
  have hKc := hK.sub (tys' := []) [] rfl
  have hFc := va_free (wc := []) hD hS hA [] rfl
  refine va_calll (va_runS (As := [.long (-2172729897469296217), .int 1]) (rest := []) ⟨hx, hb, hml, hown, hts⟩ (cz_X6_mix l dC dI ed H37.size (-2172729897469296217) 1) (va_cwS 2 hts gX6_mixLocks_X6_mix rfl rfl rfl (by decide +kernel) ⟨Nat.le_of_ble_eq_true rfl, Nat.le_of_ble_eq_true rfl⟩) ⟨zb_blind, fun U hU hW => ⟨rfl, zb_mk hU hW hPr hPc hKc hDc hN hH hS hFc zx_e⟩⟩ rfl rfl hl.1 rfl (lv_room (Nat.le_of_ble_eq_true rfl)) dX6_mixLocks_39 ⟨Nat.le_of_ble_eq_true rfl, Nat.le_of_ble_eq_true rfl⟩) hS (fun q _ h => hFc q h) hFc (fun r40 u t H39 locs ht hvm hw hB hz1 hk1 hS => ?_)
  obtain rfl : r40 = 6432349473290023738 := hw.trans (by decide +kernel)
  have hP := zo_K hP hk1
  refine lv_lstore_n (lv' := [(3, .long 6432349473290023738), (6, .int 9), (5, .int 0), (0, .ref x), (1, .long (-2914609630483829451))]) hx hb dX6_mixLocks_42 rfl hl (by decide) rfl (fun ls hl => ?_)
  refine lv_iinc (v := 10) (lv' := [(6, .int 10), (3, .long 6432349473290023738), (5, .int 0), (0, .ref x), (1, .long (-2914609630483829451))]) hx hb dX6_mixLocks_43 hl (k := 1) rfl (by decide) (by decide) rfl (fun ls hl => ?_)
  refine lv_goto (tgt := 20) hx hb dX6_mixLocks_46 (by decide) ?_
  refine lv_iload hx hb dX6_mixLocks_20 (lv_at hl 0 rfl) ?_
  refine lv_bipush (v := 10) hx hb dX6_mixLocks_22 (by decide) ?_
  refine lv_icmp_ge (tgt := 49) hx hb dX6_mixLocks_24 (by decide) (fun _ => ?_) (fun h => absurd h (by decide))
  refine lv_iinc (v := 1) (lv' := [(5, .int 1), (6, .int 10), (3, .long 6432349473290023738), (0, .ref x), (1, .long (-2914609630483829451))]) hx hb dX6_mixLocks_49 hl (k := 2) rfl (by decide) (by decide) rfl (fun ls hl => ?_)
  refine lv_goto (tgt := 5) hx hb dX6_mixLocks_52 (by decide) ?_
  refine lv_iload hx hb dX6_mixLocks_5 (lv_at hl 0 rfl) ?_
  refine lv_aload_n hx hb dX6_mixLocks_7 rfl (lv_at hl 3 rfl) ?_
  refine va_get (D := (dC, dI)) (ci := 8) (v := .ref rm) (C := RX6) (T := TX6) (N := 3) hx hb hts zi_X6_mixLocks_X6 hown hK (zo_R hR0 hS hAr) 0 rfl rfl 0 (by decide) (hts (.fieldLink RX6 12 "LockRooms" "room" "LLockRooms$Room;") (by decide +kernel)) (fun _ h9 => h9) rfl dX6_mixLocks_8 ?_
  refine va_get (D := (dC, dI)) (ci := 5) (v := .int 2) (C := RX3) (T := TX3) (N := 12) hx hb hts zi_X6_mixLocks_X3 hown hK (zo_R hR0 hS hAr) 1 rfl rfl 4 (by decide) (hts (.fieldLink RX6 37 "LockRooms$Room" "lockCount" "I") (by decide +kernel)) (fun _ h9 => h9) rfl dX6_mixLocks_11 ?_
  refine lv_icmp_ge (tgt := 55) hx hb dX6_mixLocks_14 (by decide) (fun h => absurd h (by decide)) (fun _ => ?_)
  refine lv_iconst (v := 0) hx hb dX6_mixLocks_17 (by decide) ?_
  refine lv_istore (lv' := [(6, .int 0), (5, .int 1), (3, .long 6432349473290023738), (0, .ref x), (1, .long (-2914609630483829451))]) hx hb dX6_mixLocks_18 hl (by decide) rfl (fun ls hl => ?_)
  refine lv_iload hx hb dX6_mixLocks_20 (lv_at hl 0 rfl) ?_
  refine lv_bipush (v := 10) hx hb dX6_mixLocks_22 (by decide) ?_
  refine lv_icmp_ge (tgt := 49) hx hb dX6_mixLocks_24 (by decide) (fun h => absurd h (by decide)) (fun _ => ?_)
  refine lv_lload_n hx hb dX6_mixLocks_27 rfl (lv_at hl 2 rfl) ?_
  refine lv_aload_n hx hb dX6_mixLocks_28 rfl (lv_at hl 3 rfl) ?_
  refine va_get (D := (dC, dI)) (ci := 8) (v := .ref rm) (C := RX6) (T := TX6) (N := 3) hx hb hts zi_X6_mixLocks_X6 hown hK (zo_R hR0 hS hAr) 0 rfl rfl 0 (by decide) (hts (.fieldLink RX6 12 "LockRooms" "room" "LLockRooms$Room;") (by decide +kernel)) (fun _ h9 => h9) rfl dX6_mixLocks_29 ?_
  refine lv_iload hx hb dX6_mixLocks_32 (lv_at hl 1 rfl) ?_
  refine lv_iload hx hb dX6_mixLocks_34 (lv_at hl 0 rfl) ?_
  have hPr := ((zo_R hR0 hS hAr)).sub (ws' := [(rm, .inr (5, [.ref lk, .ref th, .ref pl, .ref gm, .int 2, .int 10, .int 0, .int 0, .int 1, .int 0, .int 0, .int 0])), (lk, .inl (cL, 10, .inr (.inr (.inr (.inr fl))))), (l1, .inr (3, [.int 0, .int 0, .int 60, .int 0, .int 0, .int 0, .int 0, .int 0, .int 0, .int 0]))]) [1, 2, 5] rfl
  have hPc := hP.sub (ws' := []) [] rfl
  have hDc := hD.sub (ws' := []) [] (by decide) rfl
  have hKc := hK.sub (tys' := [(cL, .object "LockRooms$Lock")]) [0] rfl
  have hFc := va_free (wc := []) hD hS hA [] rfl
  refine va_calli (va_runV (As := [.int 1, .int 0]) (rest := [.long 6432349473290023738]) ⟨hx, hb, hml, hown, hts⟩ (cz_QtellLock_1_0 l dC dI ed H39.size rm lk th pl gm cL fl l1 hkl1) (cwV 2 hts gX6_mixLocks_X3_tellLock rfl rfl rfl (by decide +kernel) ⟨Nat.le_of_ble_eq_true rfl, Nat.le_of_ble_eq_true rfl⟩) ⟨zb_blind, va_recv hK (zo_R hR0 hS hAr) (ci := 5) (q0 := 1) rfl rfl, fun U hU hW => ⟨rfl, zb_mk hU hW hPr hPc hKc hDc hN hH hS hFc zx_e⟩⟩ rfl rfl hl.1 rfl (lv_room (Nat.le_of_ble_eq_true rfl)) dX6_mixLocks_36 ⟨Nat.le_of_ble_eq_true rfl, Nat.le_of_ble_eq_true rfl⟩) hS (fun q _ h => hFc q h) hFc (fun r42 u t H41 locs ht hvm hw hB hz1 hk1 hS => ?_)
  obtain rfl : r42 = 0 := hw
  have hP := zo_K hP hk1
  have hPr := (zo_nil : va_P (dC, dI) vwCl [] H41)
  have hPc := hP.sub (ws' := []) [] rfl
  have hDc := hD.sub (ws' := []) [] (by decide) rfl
  have hKc := hK.sub (tys' := []) [] rfl
  have hFc := va_free (wc := []) hD hS hA [] rfl
  refine va_calll (va_runS (As := [.long 6432349473290023738, .int 0]) (rest := []) ⟨hx, hb, hml, hown, hts⟩ (cz_X6_mix l dC dI ed H41.size 6432349473290023738 0) (va_cwS 2 hts gX6_mixLocks_X6_mix rfl rfl rfl (by decide +kernel) ⟨Nat.le_of_ble_eq_true rfl, Nat.le_of_ble_eq_true rfl⟩) ⟨zb_blind, fun U hU hW => ⟨rfl, zb_mk hU hW hPr hPc hKc hDc hN hH hS hFc zx_e⟩⟩ rfl rfl hl.1 rfl (lv_room (Nat.le_of_ble_eq_true rfl)) dX6_mixLocks_39 ⟨Nat.le_of_ble_eq_true rfl, Nat.le_of_ble_eq_true rfl⟩) hS (fun q _ h => hFc q h) hFc (fun r44 u t H43 locs ht hvm hw hB hz1 hk1 hS => ?_)
  obtain rfl : r44 = (-3511351138814331898) := hw.trans (by decide +kernel)
  have hP := zo_K hP hk1
  refine lv_lstore_n (lv' := [(3, .long (-3511351138814331898)), (6, .int 0), (5, .int 1), (0, .ref x), (1, .long (-2914609630483829451))]) hx hb dX6_mixLocks_42 rfl hl (by decide) rfl (fun ls hl => ?_)
  refine lv_iinc (v := 1) (lv' := [(6, .int 1), (3, .long (-3511351138814331898)), (5, .int 1), (0, .ref x), (1, .long (-2914609630483829451))]) hx hb dX6_mixLocks_43 hl (k := 1) rfl (by decide) (by decide) rfl (fun ls hl => ?_)
  refine lv_goto (tgt := 20) hx hb dX6_mixLocks_46 (by decide) ?_
  refine lv_iload hx hb dX6_mixLocks_20 (lv_at hl 0 rfl) ?_
  refine lv_bipush (v := 10) hx hb dX6_mixLocks_22 (by decide) ?_
  refine lv_icmp_ge (tgt := 49) hx hb dX6_mixLocks_24 (by decide) (fun h => absurd h (by decide)) (fun _ => ?_)
  refine lv_lload_n hx hb dX6_mixLocks_27 rfl (lv_at hl 1 rfl) ?_
  refine lv_aload_n hx hb dX6_mixLocks_28 rfl (lv_at hl 3 rfl) ?_
  refine va_get (D := (dC, dI)) (ci := 8) (v := .ref rm) (C := RX6) (T := TX6) (N := 3) hx hb hts zi_X6_mixLocks_X6 hown hK (zo_R hR0 hS hAr) 0 rfl rfl 0 (by decide) (hts (.fieldLink RX6 12 "LockRooms" "room" "LLockRooms$Room;") (by decide +kernel)) (fun _ h9 => h9) rfl dX6_mixLocks_29 ?_
  refine lv_iload hx hb dX6_mixLocks_32 (lv_at hl 2 rfl) ?_
  refine lv_iload hx hb dX6_mixLocks_34 (lv_at hl 0 rfl) ?_
  have hPr := ((zo_R hR0 hS hAr)).sub (ws' := [(rm, .inr (5, [.ref lk, .ref th, .ref pl, .ref gm, .int 2, .int 10, .int 0, .int 0, .int 1, .int 0, .int 0, .int 0])), (lk, .inl (cL, 10, .inr (.inr (.inr (.inr fl))))), (l1, .inr (3, [.int 0, .int 0, .int 60, .int 0, .int 0, .int 0, .int 0, .int 0, .int 0, .int 0]))]) [1, 2, 5] rfl
  have hPc := hP.sub (ws' := []) [] rfl
  have hDc := hD.sub (ws' := []) [] (by decide) rfl
  have hKc := hK.sub (tys' := [(cL, .object "LockRooms$Lock")]) [0] rfl
  have hFc := va_free (wc := []) hD hS hA [] rfl
  refine va_calli (va_runV (As := [.int 1, .int 1]) (rest := [.long (-3511351138814331898)]) ⟨hx, hb, hml, hown, hts⟩ (cz_QtellLock_1_1 l dC dI ed H43.size rm lk th pl gm cL fl l1 hkl1) (cwV 2 hts gX6_mixLocks_X3_tellLock rfl rfl rfl (by decide +kernel) ⟨Nat.le_of_ble_eq_true rfl, Nat.le_of_ble_eq_true rfl⟩) ⟨zb_blind, va_recv hK (zo_R hR0 hS hAr) (ci := 5) (q0 := 1) rfl rfl, fun U hU hW => ⟨rfl, zb_mk hU hW hPr hPc hKc hDc hN hH hS hFc zx_e⟩⟩ rfl rfl hl.1 rfl (lv_room (Nat.le_of_ble_eq_true rfl)) dX6_mixLocks_36 ⟨Nat.le_of_ble_eq_true rfl, Nat.le_of_ble_eq_true rfl⟩) hS (fun q _ h => hFc q h) hFc (fun r46 u t H45 locs ht hvm hw hB hz1 hk1 hS => ?_)
  obtain rfl : r46 = 0 := hw
  have hP := zo_K hP hk1
  have hPr := (zo_nil : va_P (dC, dI) vwCl [] H45)
  have hPc := hP.sub (ws' := []) [] rfl
  have hDc := hD.sub (ws' := []) [] (by decide) rfl
  have hKc := hK.sub (tys' := []) [] rfl
  have hFc := va_free (wc := []) hD hS hA [] rfl
  refine va_calll (va_runS (As := [.long (-3511351138814331898), .int 0]) (rest := []) ⟨hx, hb, hml, hown, hts⟩ (cz_X6_mix l dC dI ed H45.size (-3511351138814331898) 0) (va_cwS 2 hts gX6_mixLocks_X6_mix rfl rfl rfl (by decide +kernel) ⟨Nat.le_of_ble_eq_true rfl, Nat.le_of_ble_eq_true rfl⟩) ⟨zb_blind, fun U hU hW => ⟨rfl, zb_mk hU hW hPr hPc hKc hDc hN hH hS hFc zx_e⟩⟩ rfl rfl hl.1 rfl (lv_room (Nat.le_of_ble_eq_true rfl)) dX6_mixLocks_39 ⟨Nat.le_of_ble_eq_true rfl, Nat.le_of_ble_eq_true rfl⟩) hS (fun q _ h => hFc q h) hFc (fun r48 u t H47 locs ht hvm hw hB hz1 hk1 hS => ?_)
  obtain rfl : r48 = 1828579139013020858 := hw.trans (by decide +kernel)
  have hP := zo_K hP hk1
  refine lv_lstore_n (lv' := [(3, .long 1828579139013020858), (6, .int 1), (5, .int 1), (0, .ref x), (1, .long (-2914609630483829451))]) hx hb dX6_mixLocks_42 rfl hl (by decide) rfl (fun ls hl => ?_)
  refine lv_iinc (v := 2) (lv' := [(6, .int 2), (3, .long 1828579139013020858), (5, .int 1), (0, .ref x), (1, .long (-2914609630483829451))]) hx hb dX6_mixLocks_43 hl (k := 1) rfl (by decide) (by decide) rfl (fun ls hl => ?_)
  refine lv_goto (tgt := 20) hx hb dX6_mixLocks_46 (by decide) ?_
  refine lv_iload hx hb dX6_mixLocks_20 (lv_at hl 0 rfl) ?_
  refine lv_bipush (v := 10) hx hb dX6_mixLocks_22 (by decide) ?_
  refine lv_icmp_ge (tgt := 49) hx hb dX6_mixLocks_24 (by decide) (fun h => absurd h (by decide)) (fun _ => ?_)
  refine lv_lload_n hx hb dX6_mixLocks_27 rfl (lv_at hl 1 rfl) ?_
  refine lv_aload_n hx hb dX6_mixLocks_28 rfl (lv_at hl 3 rfl) ?_
  refine va_get (D := (dC, dI)) (ci := 8) (v := .ref rm) (C := RX6) (T := TX6) (N := 3) hx hb hts zi_X6_mixLocks_X6 hown hK (zo_R hR0 hS hAr) 0 rfl rfl 0 (by decide) (hts (.fieldLink RX6 12 "LockRooms" "room" "LLockRooms$Room;") (by decide +kernel)) (fun _ h9 => h9) rfl dX6_mixLocks_29 ?_
  refine lv_iload hx hb dX6_mixLocks_32 (lv_at hl 2 rfl) ?_
  refine lv_iload hx hb dX6_mixLocks_34 (lv_at hl 0 rfl) ?_
  have hPr := ((zo_R hR0 hS hAr)).sub (ws' := [(rm, .inr (5, [.ref lk, .ref th, .ref pl, .ref gm, .int 2, .int 10, .int 0, .int 0, .int 1, .int 0, .int 0, .int 0])), (lk, .inl (cL, 10, .inr (.inr (.inr (.inr fl))))), (l1, .inr (3, [.int 0, .int 0, .int 60, .int 0, .int 0, .int 0, .int 0, .int 0, .int 0, .int 0]))]) [1, 2, 5] rfl
  have hPc := hP.sub (ws' := []) [] rfl
  have hDc := hD.sub (ws' := []) [] (by decide) rfl
  have hKc := hK.sub (tys' := [(cL, .object "LockRooms$Lock")]) [0] rfl
  have hFc := va_free (wc := []) hD hS hA [] rfl
  refine va_calli (va_runV (As := [.int 1, .int 2]) (rest := [.long 1828579139013020858]) ⟨hx, hb, hml, hown, hts⟩ (cz_QtellLock_1_2 l dC dI ed H47.size rm lk th pl gm cL fl l1 hkl1) (cwV 2 hts gX6_mixLocks_X3_tellLock rfl rfl rfl (by decide +kernel) ⟨Nat.le_of_ble_eq_true rfl, Nat.le_of_ble_eq_true rfl⟩) ⟨zb_blind, va_recv hK (zo_R hR0 hS hAr) (ci := 5) (q0 := 1) rfl rfl, fun U hU hW => ⟨rfl, zb_mk hU hW hPr hPc hKc hDc hN hH hS hFc zx_e⟩⟩ rfl rfl hl.1 rfl (lv_room (Nat.le_of_ble_eq_true rfl)) dX6_mixLocks_36 ⟨Nat.le_of_ble_eq_true rfl, Nat.le_of_ble_eq_true rfl⟩) hS (fun q _ h => hFc q h) hFc (fun r50 u t H49 locs ht hvm hw hB hz1 hk1 hS => ?_)
  obtain rfl : r50 = 60 := hw
  have hP := zo_K hP hk1
  have hPr := (zo_nil : va_P (dC, dI) vwCl [] H49)
  have hPc := hP.sub (ws' := []) [] rfl
  have hDc := hD.sub (ws' := []) [] (by decide) rfl
  have hKc := hK.sub (tys' := []) [] rfl
  have hFc := va_free (wc := []) hD hS hA [] rfl
  refine va_calll (va_runS (As := [.long 1828579139013020858, .int 60]) (rest := []) ⟨hx, hb, hml, hown, hts⟩ (cz_X6_mix l dC dI ed H49.size 1828579139013020858 60) (va_cwS 2 hts gX6_mixLocks_X6_mix rfl rfl rfl (by decide +kernel) ⟨Nat.le_of_ble_eq_true rfl, Nat.le_of_ble_eq_true rfl⟩) ⟨zb_blind, fun U hU hW => ⟨rfl, zb_mk hU hW hPr hPc hKc hDc hN hH hS hFc zx_e⟩⟩ rfl rfl hl.1 rfl (lv_room (Nat.le_of_ble_eq_true rfl)) dX6_mixLocks_39 ⟨Nat.le_of_ble_eq_true rfl, Nat.le_of_ble_eq_true rfl⟩) hS (fun q _ h => hFc q h) hFc (fun r52 u t H51 locs ht hvm hw hB hz1 hk1 hS => ?_)
  obtain rfl : r52 = 1345721088274991810 := hw.trans (by decide +kernel)
  have hP := zo_K hP hk1
  refine lv_lstore_n (lv' := [(3, .long 1345721088274991810), (6, .int 2), (5, .int 1), (0, .ref x), (1, .long (-2914609630483829451))]) hx hb dX6_mixLocks_42 rfl hl (by decide) rfl (fun ls hl => ?_)
  refine lv_iinc (v := 3) (lv' := [(6, .int 3), (3, .long 1345721088274991810), (5, .int 1), (0, .ref x), (1, .long (-2914609630483829451))]) hx hb dX6_mixLocks_43 hl (k := 1) rfl (by decide) (by decide) rfl (fun ls hl => ?_)
  refine lv_goto (tgt := 20) hx hb dX6_mixLocks_46 (by decide) ?_
  refine lv_iload hx hb dX6_mixLocks_20 (lv_at hl 0 rfl) ?_
  refine lv_bipush (v := 10) hx hb dX6_mixLocks_22 (by decide) ?_
  refine lv_icmp_ge (tgt := 49) hx hb dX6_mixLocks_24 (by decide) (fun h => absurd h (by decide)) (fun _ => ?_)
  refine lv_lload_n hx hb dX6_mixLocks_27 rfl (lv_at hl 1 rfl) ?_
  refine lv_aload_n hx hb dX6_mixLocks_28 rfl (lv_at hl 3 rfl) ?_
  refine va_get (D := (dC, dI)) (ci := 8) (v := .ref rm) (C := RX6) (T := TX6) (N := 3) hx hb hts zi_X6_mixLocks_X6 hown hK (zo_R hR0 hS hAr) 0 rfl rfl 0 (by decide) (hts (.fieldLink RX6 12 "LockRooms" "room" "LLockRooms$Room;") (by decide +kernel)) (fun _ h9 => h9) rfl dX6_mixLocks_29 ?_
  refine lv_iload hx hb dX6_mixLocks_32 (lv_at hl 2 rfl) ?_
  refine lv_iload hx hb dX6_mixLocks_34 (lv_at hl 0 rfl) ?_
  have hPr := ((zo_R hR0 hS hAr)).sub (ws' := [(rm, .inr (5, [.ref lk, .ref th, .ref pl, .ref gm, .int 2, .int 10, .int 0, .int 0, .int 1, .int 0, .int 0, .int 0])), (lk, .inl (cL, 10, .inr (.inr (.inr (.inr fl))))), (l1, .inr (3, [.int 0, .int 0, .int 60, .int 0, .int 0, .int 0, .int 0, .int 0, .int 0, .int 0]))]) [1, 2, 5] rfl
  have hPc := hP.sub (ws' := []) [] rfl
  have hDc := hD.sub (ws' := []) [] (by decide) rfl
  have hKc := hK.sub (tys' := [(cL, .object "LockRooms$Lock")]) [0] rfl
  have hFc := va_free (wc := []) hD hS hA [] rfl
  refine va_calli (va_runV (As := [.int 1, .int 3]) (rest := [.long 1345721088274991810]) ⟨hx, hb, hml, hown, hts⟩ (cz_QtellLock_1_3 l dC dI ed H51.size rm lk th pl gm cL fl l1 hkl1) (cwV 2 hts gX6_mixLocks_X3_tellLock rfl rfl rfl (by decide +kernel) ⟨Nat.le_of_ble_eq_true rfl, Nat.le_of_ble_eq_true rfl⟩) ⟨zb_blind, va_recv hK (zo_R hR0 hS hAr) (ci := 5) (q0 := 1) rfl rfl, fun U hU hW => ⟨rfl, zb_mk hU hW hPr hPc hKc hDc hN hH hS hFc zx_e⟩⟩ rfl rfl hl.1 rfl (lv_room (Nat.le_of_ble_eq_true rfl)) dX6_mixLocks_36 ⟨Nat.le_of_ble_eq_true rfl, Nat.le_of_ble_eq_true rfl⟩) hS (fun q _ h => hFc q h) hFc (fun r54 u t H53 locs ht hvm hw hB hz1 hk1 hS => ?_)
  obtain rfl : r54 = 0 := hw
  have hP := zo_K hP hk1
  have hPr := (zo_nil : va_P (dC, dI) vwCl [] H53)
  have hPc := hP.sub (ws' := []) [] rfl
  have hDc := hD.sub (ws' := []) [] (by decide) rfl
  have hKc := hK.sub (tys' := []) [] rfl
  have hFc := va_free (wc := []) hD hS hA [] rfl
  refine va_calll (va_runS (As := [.long 1345721088274991810, .int 0]) (rest := []) ⟨hx, hb, hml, hown, hts⟩ (cz_X6_mix l dC dI ed H53.size 1345721088274991810 0) (va_cwS 2 hts gX6_mixLocks_X6_mix rfl rfl rfl (by decide +kernel) ⟨Nat.le_of_ble_eq_true rfl, Nat.le_of_ble_eq_true rfl⟩) ⟨zb_blind, fun U hU hW => ⟨rfl, zb_mk hU hW hPr hPc hKc hDc hN hH hS hFc zx_e⟩⟩ rfl rfl hl.1 rfl (lv_room (Nat.le_of_ble_eq_true rfl)) dX6_mixLocks_39 ⟨Nat.le_of_ble_eq_true rfl, Nat.le_of_ble_eq_true rfl⟩) hS (fun q _ h => hFc q h) hFc (fun r56 u t H55 locs ht hvm hw hB hz1 hk1 hS => ?_)
  obtain rfl : r56 = 4823865589105642878 := hw.trans (by decide +kernel)
  have hP := zo_K hP hk1
  refine lv_lstore_n (lv' := [(3, .long 4823865589105642878), (6, .int 3), (5, .int 1), (0, .ref x), (1, .long (-2914609630483829451))]) hx hb dX6_mixLocks_42 rfl hl (by decide) rfl (fun ls hl => ?_)
  refine lv_iinc (v := 4) (lv' := [(6, .int 4), (3, .long 4823865589105642878), (5, .int 1), (0, .ref x), (1, .long (-2914609630483829451))]) hx hb dX6_mixLocks_43 hl (k := 1) rfl (by decide) (by decide) rfl (fun ls hl => ?_)
  refine lv_goto (tgt := 20) hx hb dX6_mixLocks_46 (by decide) ?_
  refine lv_iload hx hb dX6_mixLocks_20 (lv_at hl 0 rfl) ?_
  refine lv_bipush (v := 10) hx hb dX6_mixLocks_22 (by decide) ?_
  refine lv_icmp_ge (tgt := 49) hx hb dX6_mixLocks_24 (by decide) (fun h => absurd h (by decide)) (fun _ => ?_)
  refine lv_lload_n hx hb dX6_mixLocks_27 rfl (lv_at hl 1 rfl) ?_
  refine lv_aload_n hx hb dX6_mixLocks_28 rfl (lv_at hl 3 rfl) ?_
  refine va_get (D := (dC, dI)) (ci := 8) (v := .ref rm) (C := RX6) (T := TX6) (N := 3) hx hb hts zi_X6_mixLocks_X6 hown hK (zo_R hR0 hS hAr) 0 rfl rfl 0 (by decide) (hts (.fieldLink RX6 12 "LockRooms" "room" "LLockRooms$Room;") (by decide +kernel)) (fun _ h9 => h9) rfl dX6_mixLocks_29 ?_
  refine lv_iload hx hb dX6_mixLocks_32 (lv_at hl 2 rfl) ?_
  refine lv_iload hx hb dX6_mixLocks_34 (lv_at hl 0 rfl) ?_
  have hPr := ((zo_R hR0 hS hAr)).sub (ws' := [(rm, .inr (5, [.ref lk, .ref th, .ref pl, .ref gm, .int 2, .int 10, .int 0, .int 0, .int 1, .int 0, .int 0, .int 0])), (lk, .inl (cL, 10, .inr (.inr (.inr (.inr fl))))), (l1, .inr (3, [.int 0, .int 0, .int 60, .int 0, .int 0, .int 0, .int 0, .int 0, .int 0, .int 0]))]) [1, 2, 5] rfl
  have hPc := hP.sub (ws' := []) [] rfl
  have hDc := hD.sub (ws' := []) [] (by decide) rfl
  have hKc := hK.sub (tys' := [(cL, .object "LockRooms$Lock")]) [0] rfl
  have hFc := va_free (wc := []) hD hS hA [] rfl
  refine va_calli (va_runV (As := [.int 1, .int 4]) (rest := [.long 4823865589105642878]) ⟨hx, hb, hml, hown, hts⟩ (cz_QtellLock_1_4 l dC dI ed H55.size rm lk th pl gm cL fl l1 hkl1) (cwV 2 hts gX6_mixLocks_X3_tellLock rfl rfl rfl (by decide +kernel) ⟨Nat.le_of_ble_eq_true rfl, Nat.le_of_ble_eq_true rfl⟩) ⟨zb_blind, va_recv hK (zo_R hR0 hS hAr) (ci := 5) (q0 := 1) rfl rfl, fun U hU hW => ⟨rfl, zb_mk hU hW hPr hPc hKc hDc hN hH hS hFc zx_e⟩⟩ rfl rfl hl.1 rfl (lv_room (Nat.le_of_ble_eq_true rfl)) dX6_mixLocks_36 ⟨Nat.le_of_ble_eq_true rfl, Nat.le_of_ble_eq_true rfl⟩) hS (fun q _ h => hFc q h) hFc (fun r58 u t H57 locs ht hvm hw hB hz1 hk1 hS => ?_)
  obtain rfl : r58 = 0 := hw
  have hP := zo_K hP hk1
  have hPr := (zo_nil : va_P (dC, dI) vwCl [] H57)
  have hPc := hP.sub (ws' := []) [] rfl
  have hDc := hD.sub (ws' := []) [] (by decide) rfl
  have hKc := hK.sub (tys' := []) [] rfl
  have hFc := va_free (wc := []) hD hS hA [] rfl
  refine va_calll (va_runS (As := [.long 4823865589105642878, .int 0]) (rest := []) ⟨hx, hb, hml, hown, hts⟩ (cz_X6_mix l dC dI ed H57.size 4823865589105642878 0) (va_cwS 2 hts gX6_mixLocks_X6_mix rfl rfl rfl (by decide +kernel) ⟨Nat.le_of_ble_eq_true rfl, Nat.le_of_ble_eq_true rfl⟩) ⟨zb_blind, fun U hU hW => ⟨rfl, zb_mk hU hW hPr hPc hKc hDc hN hH hS hFc zx_e⟩⟩ rfl rfl hl.1 rfl (lv_room (Nat.le_of_ble_eq_true rfl)) dX6_mixLocks_39 ⟨Nat.le_of_ble_eq_true rfl, Nat.le_of_ble_eq_true rfl⟩) hS (fun q _ h => hFc q h) hFc (fun r60 u t H59 locs ht hvm hw hB hz1 hk1 hS => ?_)
  obtain rfl : r60 = 1965880672598516290 := hw.trans (by decide +kernel)
  have hP := zo_K hP hk1
  refine lv_lstore_n (lv' := [(3, .long 1965880672598516290), (6, .int 4), (5, .int 1), (0, .ref x), (1, .long (-2914609630483829451))]) hx hb dX6_mixLocks_42 rfl hl (by decide) rfl (fun ls hl => ?_)
  refine lv_iinc (v := 5) (lv' := [(6, .int 5), (3, .long 1965880672598516290), (5, .int 1), (0, .ref x), (1, .long (-2914609630483829451))]) hx hb dX6_mixLocks_43 hl (k := 1) rfl (by decide) (by decide) rfl (fun ls hl => ?_)
  refine lv_goto (tgt := 20) hx hb dX6_mixLocks_46 (by decide) ?_
  refine lv_iload hx hb dX6_mixLocks_20 (lv_at hl 0 rfl) ?_
  refine lv_bipush (v := 10) hx hb dX6_mixLocks_22 (by decide) ?_
  refine lv_icmp_ge (tgt := 49) hx hb dX6_mixLocks_24 (by decide) (fun h => absurd h (by decide)) (fun _ => ?_)
  refine lv_lload_n hx hb dX6_mixLocks_27 rfl (lv_at hl 1 rfl) ?_
  refine lv_aload_n hx hb dX6_mixLocks_28 rfl (lv_at hl 3 rfl) ?_
  refine va_get (D := (dC, dI)) (ci := 8) (v := .ref rm) (C := RX6) (T := TX6) (N := 3) hx hb hts zi_X6_mixLocks_X6 hown hK (zo_R hR0 hS hAr) 0 rfl rfl 0 (by decide) (hts (.fieldLink RX6 12 "LockRooms" "room" "LLockRooms$Room;") (by decide +kernel)) (fun _ h9 => h9) rfl dX6_mixLocks_29 ?_
  refine lv_iload hx hb dX6_mixLocks_32 (lv_at hl 2 rfl) ?_
  refine lv_iload hx hb dX6_mixLocks_34 (lv_at hl 0 rfl) ?_
  have hPr := ((zo_R hR0 hS hAr)).sub (ws' := [(rm, .inr (5, [.ref lk, .ref th, .ref pl, .ref gm, .int 2, .int 10, .int 0, .int 0, .int 1, .int 0, .int 0, .int 0])), (lk, .inl (cL, 10, .inr (.inr (.inr (.inr fl))))), (l1, .inr (3, [.int 0, .int 0, .int 60, .int 0, .int 0, .int 0, .int 0, .int 0, .int 0, .int 0]))]) [1, 2, 5] rfl
  have hPc := hP.sub (ws' := []) [] rfl
  have hDc := hD.sub (ws' := []) [] (by decide) rfl
  have hKc := hK.sub (tys' := [(cL, .object "LockRooms$Lock")]) [0] rfl
  have hFc := va_free (wc := []) hD hS hA [] rfl
  refine va_calli (va_runV (As := [.int 1, .int 5]) (rest := [.long 1965880672598516290]) ⟨hx, hb, hml, hown, hts⟩ (cz_QtellLock_1_5 l dC dI ed H59.size rm lk th pl gm cL fl l1 hkl1) (cwV 2 hts gX6_mixLocks_X3_tellLock rfl rfl rfl (by decide +kernel) ⟨Nat.le_of_ble_eq_true rfl, Nat.le_of_ble_eq_true rfl⟩) ⟨zb_blind, va_recv hK (zo_R hR0 hS hAr) (ci := 5) (q0 := 1) rfl rfl, fun U hU hW => ⟨rfl, zb_mk hU hW hPr hPc hKc hDc hN hH hS hFc zx_e⟩⟩ rfl rfl hl.1 rfl (lv_room (Nat.le_of_ble_eq_true rfl)) dX6_mixLocks_36 ⟨Nat.le_of_ble_eq_true rfl, Nat.le_of_ble_eq_true rfl⟩) hS (fun q _ h => hFc q h) hFc (fun r62 u t H61 locs ht hvm hw hB hz1 hk1 hS => ?_)
  obtain rfl : r62 = 0 := hw
  have hP := zo_K hP hk1
  have hPr := (zo_nil : va_P (dC, dI) vwCl [] H61)
  have hPc := hP.sub (ws' := []) [] rfl
  have hDc := hD.sub (ws' := []) [] (by decide) rfl
  have hKc := hK.sub (tys' := []) [] rfl
  have hFc := va_free (wc := []) hD hS hA [] rfl
  refine va_calll (va_runS (As := [.long 1965880672598516290, .int 0]) (rest := []) ⟨hx, hb, hml, hown, hts⟩ (cz_X6_mix l dC dI ed H61.size 1965880672598516290 0) (va_cwS 2 hts gX6_mixLocks_X6_mix rfl rfl rfl (by decide +kernel) ⟨Nat.le_of_ble_eq_true rfl, Nat.le_of_ble_eq_true rfl⟩) ⟨zb_blind, fun U hU hW => ⟨rfl, zb_mk hU hW hPr hPc hKc hDc hN hH hS hFc zx_e⟩⟩ rfl rfl hl.1 rfl (lv_room (Nat.le_of_ble_eq_true rfl)) dX6_mixLocks_39 ⟨Nat.le_of_ble_eq_true rfl, Nat.le_of_ble_eq_true rfl⟩) hS (fun q _ h => hFc q h) hFc (fun r64 u t H63 locs ht hvm hw hB hz1 hk1 hS => ?_)
  obtain rfl : r64 = 5602068629425350142 := hw.trans (by decide +kernel)
  have hP := zo_K hP hk1
  refine lv_lstore_n (lv' := [(3, .long 5602068629425350142), (6, .int 5), (5, .int 1), (0, .ref x), (1, .long (-2914609630483829451))]) hx hb dX6_mixLocks_42 rfl hl (by decide) rfl (fun ls hl => ?_)
  refine lv_iinc (v := 6) (lv' := [(6, .int 6), (3, .long 5602068629425350142), (5, .int 1), (0, .ref x), (1, .long (-2914609630483829451))]) hx hb dX6_mixLocks_43 hl (k := 1) rfl (by decide) (by decide) rfl (fun ls hl => ?_)
  refine lv_goto (tgt := 20) hx hb dX6_mixLocks_46 (by decide) ?_
  refine lv_iload hx hb dX6_mixLocks_20 (lv_at hl 0 rfl) ?_
  refine lv_bipush (v := 10) hx hb dX6_mixLocks_22 (by decide) ?_
  refine lv_icmp_ge (tgt := 49) hx hb dX6_mixLocks_24 (by decide) (fun h => absurd h (by decide)) (fun _ => ?_)
  refine lv_lload_n hx hb dX6_mixLocks_27 rfl (lv_at hl 1 rfl) ?_
  refine lv_aload_n hx hb dX6_mixLocks_28 rfl (lv_at hl 3 rfl) ?_
  refine va_get (D := (dC, dI)) (ci := 8) (v := .ref rm) (C := RX6) (T := TX6) (N := 3) hx hb hts zi_X6_mixLocks_X6 hown hK (zo_R hR0 hS hAr) 0 rfl rfl 0 (by decide) (hts (.fieldLink RX6 12 "LockRooms" "room" "LLockRooms$Room;") (by decide +kernel)) (fun _ h9 => h9) rfl dX6_mixLocks_29 ?_
  refine lv_iload hx hb dX6_mixLocks_32 (lv_at hl 2 rfl) ?_
  refine lv_iload hx hb dX6_mixLocks_34 (lv_at hl 0 rfl) ?_
  have hPr := ((zo_R hR0 hS hAr)).sub (ws' := [(rm, .inr (5, [.ref lk, .ref th, .ref pl, .ref gm, .int 2, .int 10, .int 0, .int 0, .int 1, .int 0, .int 0, .int 0])), (lk, .inl (cL, 10, .inr (.inr (.inr (.inr fl))))), (l1, .inr (3, [.int 0, .int 0, .int 60, .int 0, .int 0, .int 0, .int 0, .int 0, .int 0, .int 0]))]) [1, 2, 5] rfl
  have hPc := hP.sub (ws' := []) [] rfl
  have hDc := hD.sub (ws' := []) [] (by decide) rfl
  have hKc := hK.sub (tys' := [(cL, .object "LockRooms$Lock")]) [0] rfl
  have hFc := va_free (wc := []) hD hS hA [] rfl
  refine va_calli (va_runV (As := [.int 1, .int 6]) (rest := [.long 5602068629425350142]) ⟨hx, hb, hml, hown, hts⟩ (cz_QtellLock_1_6 l dC dI ed H63.size rm lk th pl gm cL fl l1 hkl1) (cwV 2 hts gX6_mixLocks_X3_tellLock rfl rfl rfl (by decide +kernel) ⟨Nat.le_of_ble_eq_true rfl, Nat.le_of_ble_eq_true rfl⟩) ⟨zb_blind, va_recv hK (zo_R hR0 hS hAr) (ci := 5) (q0 := 1) rfl rfl, fun U hU hW => ⟨rfl, zb_mk hU hW hPr hPc hKc hDc hN hH hS hFc zx_e⟩⟩ rfl rfl hl.1 rfl (lv_room (Nat.le_of_ble_eq_true rfl)) dX6_mixLocks_36 ⟨Nat.le_of_ble_eq_true rfl, Nat.le_of_ble_eq_true rfl⟩) hS (fun q _ h => hFc q h) hFc (fun r66 u t H65 locs ht hvm hw hB hz1 hk1 hS => ?_)
  obtain rfl : r66 = 0 := hw
  have hP := zo_K hP hk1
  have hPr := (zo_nil : va_P (dC, dI) vwCl [] H65)
  have hPc := hP.sub (ws' := []) [] rfl
  have hDc := hD.sub (ws' := []) [] (by decide) rfl
  have hKc := hK.sub (tys' := []) [] rfl
  have hFc := va_free (wc := []) hD hS hA [] rfl
  refine va_calll (va_runS (As := [.long 5602068629425350142, .int 0]) (rest := []) ⟨hx, hb, hml, hown, hts⟩ (cz_X6_mix l dC dI ed H65.size 5602068629425350142 0) (va_cwS 2 hts gX6_mixLocks_X6_mix rfl rfl rfl (by decide +kernel) ⟨Nat.le_of_ble_eq_true rfl, Nat.le_of_ble_eq_true rfl⟩) ⟨zb_blind, fun U hU hW => ⟨rfl, zb_mk hU hW hPr hPc hKc hDc hN hH hS hFc zx_e⟩⟩ rfl rfl hl.1 rfl (lv_room (Nat.le_of_ble_eq_true rfl)) dX6_mixLocks_39 ⟨Nat.le_of_ble_eq_true rfl, Nat.le_of_ble_eq_true rfl⟩) hS (fun q _ h => hFc q h) hFc (fun r68 u t H67 locs ht hvm hw hB hz1 hk1 hS => ?_)
  obtain rfl : r68 = 7643430848799889858 := hw.trans (by decide +kernel)
  have hP := zo_K hP hk1
  refine lv_lstore_n (lv' := [(3, .long 7643430848799889858), (6, .int 6), (5, .int 1), (0, .ref x), (1, .long (-2914609630483829451))]) hx hb dX6_mixLocks_42 rfl hl (by decide) rfl (fun ls hl => ?_)
  refine lv_iinc (v := 7) (lv' := [(6, .int 7), (3, .long 7643430848799889858), (5, .int 1), (0, .ref x), (1, .long (-2914609630483829451))]) hx hb dX6_mixLocks_43 hl (k := 1) rfl (by decide) (by decide) rfl (fun ls hl => ?_)
  refine lv_goto (tgt := 20) hx hb dX6_mixLocks_46 (by decide) ?_
  refine lv_iload hx hb dX6_mixLocks_20 (lv_at hl 0 rfl) ?_
  refine lv_bipush (v := 10) hx hb dX6_mixLocks_22 (by decide) ?_
  refine lv_icmp_ge (tgt := 49) hx hb dX6_mixLocks_24 (by decide) (fun h => absurd h (by decide)) (fun _ => ?_)
  refine lv_lload_n hx hb dX6_mixLocks_27 rfl (lv_at hl 1 rfl) ?_
  refine lv_aload_n hx hb dX6_mixLocks_28 rfl (lv_at hl 3 rfl) ?_
  refine va_get (D := (dC, dI)) (ci := 8) (v := .ref rm) (C := RX6) (T := TX6) (N := 3) hx hb hts zi_X6_mixLocks_X6 hown hK (zo_R hR0 hS hAr) 0 rfl rfl 0 (by decide) (hts (.fieldLink RX6 12 "LockRooms" "room" "LLockRooms$Room;") (by decide +kernel)) (fun _ h9 => h9) rfl dX6_mixLocks_29 ?_
  refine lv_iload hx hb dX6_mixLocks_32 (lv_at hl 2 rfl) ?_
  refine lv_iload hx hb dX6_mixLocks_34 (lv_at hl 0 rfl) ?_
  have hPr := ((zo_R hR0 hS hAr)).sub (ws' := [(rm, .inr (5, [.ref lk, .ref th, .ref pl, .ref gm, .int 2, .int 10, .int 0, .int 0, .int 1, .int 0, .int 0, .int 0])), (lk, .inl (cL, 10, .inr (.inr (.inr (.inr fl))))), (l1, .inr (3, [.int 0, .int 0, .int 60, .int 0, .int 0, .int 0, .int 0, .int 0, .int 0, .int 0]))]) [1, 2, 5] rfl
  have hPc := hP.sub (ws' := []) [] rfl
  have hDc := hD.sub (ws' := []) [] (by decide) rfl
  have hKc := hK.sub (tys' := [(cL, .object "LockRooms$Lock")]) [0] rfl
  have hFc := va_free (wc := []) hD hS hA [] rfl
  refine va_calli (va_runV (As := [.int 1, .int 7]) (rest := [.long 7643430848799889858]) ⟨hx, hb, hml, hown, hts⟩ (cz_QtellLock_1_7 l dC dI ed H67.size rm lk th pl gm cL fl l1 hkl1) (cwV 2 hts gX6_mixLocks_X3_tellLock rfl rfl rfl (by decide +kernel) ⟨Nat.le_of_ble_eq_true rfl, Nat.le_of_ble_eq_true rfl⟩) ⟨zb_blind, va_recv hK (zo_R hR0 hS hAr) (ci := 5) (q0 := 1) rfl rfl, fun U hU hW => ⟨rfl, zb_mk hU hW hPr hPc hKc hDc hN hH hS hFc zx_e⟩⟩ rfl rfl hl.1 rfl (lv_room (Nat.le_of_ble_eq_true rfl)) dX6_mixLocks_36 ⟨Nat.le_of_ble_eq_true rfl, Nat.le_of_ble_eq_true rfl⟩) hS (fun q _ h => hFc q h) hFc (fun r70 u t H69 locs ht hvm hw hB hz1 hk1 hS => ?_)
  obtain rfl : r70 = 0 := hw
  have hP := zo_K hP hk1
  have hPr := (zo_nil : va_P (dC, dI) vwCl [] H69)
  have hPc := hP.sub (ws' := []) [] rfl
  have hDc := hD.sub (ws' := []) [] (by decide) rfl
  have hKc := hK.sub (tys' := []) [] rfl
  have hFc := va_free (wc := []) hD hS hA [] rfl
  refine va_calll (va_runS (As := [.long 7643430848799889858, .int 0]) (rest := []) ⟨hx, hb, hml, hown, hts⟩ (cz_X6_mix l dC dI ed H69.size 7643430848799889858 0) (va_cwS 2 hts gX6_mixLocks_X6_mix rfl rfl rfl (by decide +kernel) ⟨Nat.le_of_ble_eq_true rfl, Nat.le_of_ble_eq_true rfl⟩) ⟨zb_blind, fun U hU hW => ⟨rfl, zb_mk hU hW hPr hPc hKc hDc hN hH hS hFc zx_e⟩⟩ rfl rfl hl.1 rfl (lv_room (Nat.le_of_ble_eq_true rfl)) dX6_mixLocks_39 ⟨Nat.le_of_ble_eq_true rfl, Nat.le_of_ble_eq_true rfl⟩) hS (fun q _ h => hFc q h) hFc (fun r72 u t H71 locs ht hvm hw hB hz1 hk1 hS => ?_)
  obtain rfl : r72 = (-2861316645427585410) := hw.trans (by decide +kernel)
  have hP := zo_K hP hk1
  refine lv_lstore_n (lv' := [(3, .long (-2861316645427585410)), (6, .int 7), (5, .int 1), (0, .ref x), (1, .long (-2914609630483829451))]) hx hb dX6_mixLocks_42 rfl hl (by decide) rfl (fun ls hl => ?_)
  refine lv_iinc (v := 8) (lv' := [(6, .int 8), (3, .long (-2861316645427585410)), (5, .int 1), (0, .ref x), (1, .long (-2914609630483829451))]) hx hb dX6_mixLocks_43 hl (k := 1) rfl (by decide) (by decide) rfl (fun ls hl => ?_)
  refine lv_goto (tgt := 20) hx hb dX6_mixLocks_46 (by decide) ?_
  refine lv_iload hx hb dX6_mixLocks_20 (lv_at hl 0 rfl) ?_
  refine lv_bipush (v := 10) hx hb dX6_mixLocks_22 (by decide) ?_
  refine lv_icmp_ge (tgt := 49) hx hb dX6_mixLocks_24 (by decide) (fun h => absurd h (by decide)) (fun _ => ?_)
  refine lv_lload_n hx hb dX6_mixLocks_27 rfl (lv_at hl 1 rfl) ?_
  refine lv_aload_n hx hb dX6_mixLocks_28 rfl (lv_at hl 3 rfl) ?_
  refine va_get (D := (dC, dI)) (ci := 8) (v := .ref rm) (C := RX6) (T := TX6) (N := 3) hx hb hts zi_X6_mixLocks_X6 hown hK (zo_R hR0 hS hAr) 0 rfl rfl 0 (by decide) (hts (.fieldLink RX6 12 "LockRooms" "room" "LLockRooms$Room;") (by decide +kernel)) (fun _ h9 => h9) rfl dX6_mixLocks_29 ?_
  refine lv_iload hx hb dX6_mixLocks_32 (lv_at hl 2 rfl) ?_
  refine lv_iload hx hb dX6_mixLocks_34 (lv_at hl 0 rfl) ?_
  have hPr := ((zo_R hR0 hS hAr)).sub (ws' := [(rm, .inr (5, [.ref lk, .ref th, .ref pl, .ref gm, .int 2, .int 10, .int 0, .int 0, .int 1, .int 0, .int 0, .int 0])), (lk, .inl (cL, 10, .inr (.inr (.inr (.inr fl))))), (l1, .inr (3, [.int 0, .int 0, .int 60, .int 0, .int 0, .int 0, .int 0, .int 0, .int 0, .int 0]))]) [1, 2, 5] rfl
  have hPc := hP.sub (ws' := []) [] rfl
  have hDc := hD.sub (ws' := []) [] (by decide) rfl
  have hKc := hK.sub (tys' := [(cL, .object "LockRooms$Lock")]) [0] rfl
  have hFc := va_free (wc := []) hD hS hA [] rfl
  refine va_calli (va_runV (As := [.int 1, .int 8]) (rest := [.long (-2861316645427585410)]) ⟨hx, hb, hml, hown, hts⟩ (cz_QtellLock_1_8 l dC dI ed H71.size rm lk th pl gm cL fl l1 hkl1) (cwV 2 hts gX6_mixLocks_X3_tellLock rfl rfl rfl (by decide +kernel) ⟨Nat.le_of_ble_eq_true rfl, Nat.le_of_ble_eq_true rfl⟩) ⟨zb_blind, va_recv hK (zo_R hR0 hS hAr) (ci := 5) (q0 := 1) rfl rfl, fun U hU hW => ⟨rfl, zb_mk hU hW hPr hPc hKc hDc hN hH hS hFc zx_e⟩⟩ rfl rfl hl.1 rfl (lv_room (Nat.le_of_ble_eq_true rfl)) dX6_mixLocks_36 ⟨Nat.le_of_ble_eq_true rfl, Nat.le_of_ble_eq_true rfl⟩) hS (fun q _ h => hFc q h) hFc (fun r74 u t H73 locs ht hvm hw hB hz1 hk1 hS => ?_)
  obtain rfl : r74 = 0 := hw
  have hP := zo_K hP hk1
  have hPr := (zo_nil : va_P (dC, dI) vwCl [] H73)
  have hPc := hP.sub (ws' := []) [] rfl
  have hDc := hD.sub (ws' := []) [] (by decide) rfl
  have hKc := hK.sub (tys' := []) [] rfl
  have hFc := va_free (wc := []) hD hS hA [] rfl
  refine va_calll (va_runS (As := [.long (-2861316645427585410), .int 0]) (rest := []) ⟨hx, hb, hml, hown, hts⟩ (cz_X6_mix l dC dI ed H73.size (-2861316645427585410) 0) (va_cwS 2 hts gX6_mixLocks_X6_mix rfl rfl rfl (by decide +kernel) ⟨Nat.le_of_ble_eq_true rfl, Nat.le_of_ble_eq_true rfl⟩) ⟨zb_blind, fun U hU hW => ⟨rfl, zb_mk hU hW hPr hPc hKc hDc hN hH hS hFc zx_e⟩⟩ rfl rfl hl.1 rfl (lv_room (Nat.le_of_ble_eq_true rfl)) dX6_mixLocks_39 ⟨Nat.le_of_ble_eq_true rfl, Nat.le_of_ble_eq_true rfl⟩) hS (fun q _ h => hFc q h) hFc (fun r76 u t H75 locs ht hvm hw hB hz1 hk1 hS => ?_)
  obtain rfl : r76 = 3532904360292610370 := hw.trans (by decide +kernel)
  have hP := zo_K hP hk1
  refine lv_lstore_n (lv' := [(3, .long 3532904360292610370), (6, .int 8), (5, .int 1), (0, .ref x), (1, .long (-2914609630483829451))]) hx hb dX6_mixLocks_42 rfl hl (by decide) rfl (fun ls hl => ?_)
  refine lv_iinc (v := 9) (lv' := [(6, .int 9), (3, .long 3532904360292610370), (5, .int 1), (0, .ref x), (1, .long (-2914609630483829451))]) hx hb dX6_mixLocks_43 hl (k := 1) rfl (by decide) (by decide) rfl (fun ls hl => ?_)
  refine lv_goto (tgt := 20) hx hb dX6_mixLocks_46 (by decide) ?_
  refine lv_iload hx hb dX6_mixLocks_20 (lv_at hl 0 rfl) ?_
  refine lv_bipush (v := 10) hx hb dX6_mixLocks_22 (by decide) ?_
  refine lv_icmp_ge (tgt := 49) hx hb dX6_mixLocks_24 (by decide) (fun h => absurd h (by decide)) (fun _ => ?_)
  refine lv_lload_n hx hb dX6_mixLocks_27 rfl (lv_at hl 1 rfl) ?_
  refine lv_aload_n hx hb dX6_mixLocks_28 rfl (lv_at hl 3 rfl) ?_
  refine va_get (D := (dC, dI)) (ci := 8) (v := .ref rm) (C := RX6) (T := TX6) (N := 3) hx hb hts zi_X6_mixLocks_X6 hown hK (zo_R hR0 hS hAr) 0 rfl rfl 0 (by decide) (hts (.fieldLink RX6 12 "LockRooms" "room" "LLockRooms$Room;") (by decide +kernel)) (fun _ h9 => h9) rfl dX6_mixLocks_29 ?_
  refine lv_iload hx hb dX6_mixLocks_32 (lv_at hl 2 rfl) ?_
  refine lv_iload hx hb dX6_mixLocks_34 (lv_at hl 0 rfl) ?_
  have hPr := ((zo_R hR0 hS hAr)).sub (ws' := [(rm, .inr (5, [.ref lk, .ref th, .ref pl, .ref gm, .int 2, .int 10, .int 0, .int 0, .int 1, .int 0, .int 0, .int 0])), (lk, .inl (cL, 10, .inr (.inr (.inr (.inr fl))))), (l1, .inr (3, [.int 0, .int 0, .int 60, .int 0, .int 0, .int 0, .int 0, .int 0, .int 0, .int 0])), (th, .inl (cT, 12, .inr (.inr (.inr (.inr ft))))), (t0, .inr (7, [.int (-1), .int 0, .int 0, .int 0, .int 0])), (t1, .inr (7, [.int (-1), .int 0, .int 0, .int 0, .int 0])), (t2, .inr (7, [.int (-1), .int 0, .int 0, .int 0, .int 0])), (t3, .inr (7, [.int (-1), .int 0, .int 0, .int 0, .int 0])), (t4, .inr (7, [.int (-1), .int 0, .int 0, .int 0, .int 0])), (t5, .inr (7, [.int (-1), .int 0, .int 0, .int 0, .int 0])), (t6, .inr (7, [.int (-1), .int 0, .int 0, .int 0, .int 0])), (t7, .inr (7, [.int (-1), .int 0, .int 0, .int 0, .int 0])), (t8, .inr (7, [.int (-1), .int 0, .int 0, .int 0, .int 0])), (t9, .inr (7, [.int (-1), .int 0, .int 0, .int 0, .int 0]))]) [1, 2, 5, 3, 6, 7, 8, 9, 10, 11, 12, 13, 14, 15] rfl
  have hPc := hP.sub (ws' := []) [] rfl
  have hDc := hD.sub (ws' := []) [] (by decide) rfl
  have hKc := hK.sub (tys' := [(cL, .object "LockRooms$Lock"), (cT, .object "LockRooms$Thing")]) [0, 1] rfl
  have hFc := va_free (wc := []) hD hS hA [] rfl
  refine va_calli (va_runV (As := [.int 1, .int 9]) (rest := [.long 3532904360292610370]) ⟨hx, hb, hml, hown, hts⟩ (cz_QtellLock_1_9 l dC dI ed H75.size rm lk th pl gm cL fl l1 cT ft t0 t1 t2 t3 t4 t5 t6 t7 t8 t9 hkl1 hkt0 hkt1 hkt2 hkt3 hkt4 hkt5 hkt6 hkt7 hkt8 hkt9) (cwV 2 hts gX6_mixLocks_X3_tellLock rfl rfl rfl (by decide +kernel) ⟨Nat.le_of_ble_eq_true rfl, Nat.le_of_ble_eq_true rfl⟩) ⟨zb_blind, va_recv hK (zo_R hR0 hS hAr) (ci := 5) (q0 := 1) rfl rfl, fun U hU hW => ⟨rfl, zb_mk hU hW hPr hPc hKc hDc hN hH hS hFc zx_e⟩⟩ rfl rfl hl.1 rfl (lv_room (Nat.le_of_ble_eq_true rfl)) dX6_mixLocks_36 ⟨Nat.le_of_ble_eq_true rfl, Nat.le_of_ble_eq_true rfl⟩) hS (fun q _ h => hFc q h) hFc (fun r78 u t H77 locs ht hvm hw hB hz1 hk1 hS => ?_)
  obtain rfl : r78 = 1 := hw
  have hP := zo_K hP hk1
  have hPr := (zo_nil : va_P (dC, dI) vwCl [] H77)
  have hPc := hP.sub (ws' := []) [] rfl
  have hDc := hD.sub (ws' := []) [] (by decide) rfl
  have hKc := hK.sub (tys' := []) [] rfl
  have hFc := va_free (wc := []) hD hS hA [] rfl
  refine va_calll (va_runS (As := [.long 3532904360292610370, .int 1]) (rest := []) ⟨hx, hb, hml, hown, hts⟩ (cz_X6_mix l dC dI ed H77.size 3532904360292610370 1) (va_cwS 2 hts gX6_mixLocks_X6_mix rfl rfl rfl (by decide +kernel) ⟨Nat.le_of_ble_eq_true rfl, Nat.le_of_ble_eq_true rfl⟩) ⟨zb_blind, fun U hU hW => ⟨rfl, zb_mk hU hW hPr hPc hKc hDc hN hH hS hFc zx_e⟩⟩ rfl rfl hl.1 rfl (lv_room (Nat.le_of_ble_eq_true rfl)) dX6_mixLocks_39 ⟨Nat.le_of_ble_eq_true rfl, Nat.le_of_ble_eq_true rfl⟩) hS (fun q _ h => hFc q h) hFc (fun r80 u t H79 locs ht hvm hw hB hz1 hk1 hS => ?_)
  obtain rfl : r80 = (-1160429273186388225) := hw.trans (by decide +kernel)
  have hP := zo_K hP hk1
  refine lv_lstore_n (lv' := [(3, .long (-1160429273186388225)), (6, .int 9), (5, .int 1), (0, .ref x), (1, .long (-2914609630483829451))]) hx hb dX6_mixLocks_42 rfl hl (by decide) rfl (fun ls hl => ?_)
  refine lv_iinc (v := 10) (lv' := [(6, .int 10), (3, .long (-1160429273186388225)), (5, .int 1), (0, .ref x), (1, .long (-2914609630483829451))]) hx hb dX6_mixLocks_43 hl (k := 1) rfl (by decide) (by decide) rfl (fun ls hl => ?_)
  refine lv_goto (tgt := 20) hx hb dX6_mixLocks_46 (by decide) ?_
  refine lv_iload hx hb dX6_mixLocks_20 (lv_at hl 0 rfl) ?_
  refine lv_bipush (v := 10) hx hb dX6_mixLocks_22 (by decide) ?_
  refine lv_icmp_ge (tgt := 49) hx hb dX6_mixLocks_24 (by decide) (fun _ => ?_) (fun h => absurd h (by decide))
  refine lv_iinc (v := 2) (lv' := [(5, .int 2), (6, .int 10), (3, .long (-1160429273186388225)), (0, .ref x), (1, .long (-2914609630483829451))]) hx hb dX6_mixLocks_49 hl (k := 2) rfl (by decide) (by decide) rfl (fun ls hl => ?_)
  refine lv_goto (tgt := 5) hx hb dX6_mixLocks_52 (by decide) ?_
  refine lv_iload hx hb dX6_mixLocks_5 (lv_at hl 0 rfl) ?_
  refine lv_aload_n hx hb dX6_mixLocks_7 rfl (lv_at hl 3 rfl) ?_
  refine va_get (D := (dC, dI)) (ci := 8) (v := .ref rm) (C := RX6) (T := TX6) (N := 3) hx hb hts zi_X6_mixLocks_X6 hown hK (zo_R hR0 hS hAr) 0 rfl rfl 0 (by decide) (hts (.fieldLink RX6 12 "LockRooms" "room" "LLockRooms$Room;") (by decide +kernel)) (fun _ h9 => h9) rfl dX6_mixLocks_8 ?_
  refine va_get (D := (dC, dI)) (ci := 5) (v := .int 2) (C := RX3) (T := TX3) (N := 12) hx hb hts zi_X6_mixLocks_X3 hown hK (zo_R hR0 hS hAr) 1 rfl rfl 4 (by decide) (hts (.fieldLink RX6 37 "LockRooms$Room" "lockCount" "I") (by decide +kernel)) (fun _ h9 => h9) rfl dX6_mixLocks_11 ?_
  refine lv_icmp_ge (tgt := 55) hx hb dX6_mixLocks_14 (by decide) (fun _ => ?_) (fun h => absurd h (by decide))
  refine lv_lload_n hx hb dX6_mixLocks_55 rfl (lv_at hl 2 rfl) ?_
  refine W.widen (k := 0) (n := 0) (Nat.le_of_ble_eq_true rfl) (Nat.le_of_ble_eq_true rfl) ?_
  exact W.lret hx hb hr (fun t ht hW => ⟨⟨(-1160429273186388225), (), rfl, rfl, trivial⟩, hS.F ht⟩) hS.2.2 dX6_mixLocks_56
set_option maxHeartbeats 4000000 in
set_option maxRecDepth 100000 in
theorem cz_QmixThings (l : Launch) (dC : Nat → ClassId) (dI : Nat → Nat → Nat) (ed sz : Nat) (x : Nat) (rm : Nat) (tr : Nat) (st : Nat) (lk : Nat) (th : Nat) (pl : Nat) (gm : Nat) (cL : ClassId) (fl : Nat → Option Nat) (l0 : Nat) (l1 : Nat) (cT : ClassId) (ft : Nat → Option Nat) (t0 : Nat) (t1 : Nat) (t2 : Nat) (t3 : Nat) (t4 : Nat) (t5 : Nat) (t6 : Nat) (t7 : Nat) (t8 : Nat) (t9 : Nat) (hkl0 : fl 0 = some l0) (hkl1 : fl 1 = some l1) (hkt0 : ft 0 = some t0) (hkt1 : ft 1 = some t1) (hkt2 : ft 2 = some t2) (hkt3 : ft 3 = some t3) (hkt4 : ft 4 = some t4) (hkt5 : ft 5 = some t5) (hkt6 : ft 6 = some t6) (hkt7 : ft 7 = some t7) (hkt8 : ft 8 = some t8) (hkt9 : ft 9 = some t9) : Met l yX6_mixThings wsX6_mixThings ({ frames := 3, cells := 0, slots := 0, locals := 67 } : Jvm.Room) (va_Pc [.ref x, .long (-1160429273186388225)] (zB dC dI ed sz [(x, .inr (8, [.ref rm, .ref tr, .ref st])), (rm, .inr (5, [.ref lk, .ref th, .ref pl, .ref gm, .int 2, .int 10, .int 0, .int 0, .int 1, .int 0, .int 0, .int 0])), (lk, .inl (cL, 10, .inr (.inr (.inr (.inr fl))))), (th, .inl (cT, 12, .inr (.inr (.inr (.inr ft))))), (l0, .inr (3, [.int 0, .int 0, .int 60, .int 0, .int 0, .int 0, .int 0, .int 0, .int 0, .int 0])), (l1, .inr (3, [.int 0, .int 0, .int 60, .int 0, .int 0, .int 0, .int 0, .int 0, .int 0, .int 0])), (t0, .inr (7, [.int (-1), .int 0, .int 0, .int 0, .int 0])), (t1, .inr (7, [.int (-1), .int 0, .int 0, .int 0, .int 0])), (t2, .inr (7, [.int (-1), .int 0, .int 0, .int 0, .int 0])), (t3, .inr (7, [.int (-1), .int 0, .int 0, .int 0, .int 0])), (t4, .inr (7, [.int (-1), .int 0, .int 0, .int 0, .int 0])), (t5, .inr (7, [.int (-1), .int 0, .int 0, .int 0, .int 0])), (t6, .inr (7, [.int (-1), .int 0, .int 0, .int 0, .int 0])), (t7, .inr (7, [.int (-1), .int 0, .int 0, .int 0, .int 0])), (t8, .inr (7, [.int (-1), .int 0, .int 0, .int 0, .int 0])), (t9, .inr (7, [.int (-1), .int 0, .int 0, .int 0, .int 0]))] [] [(cL, .object "LockRooms$Lock"), (cT, .object "LockRooms$Thing")])) (va_Ql (fun (r : Int64) (_ : Unit) => r = (-1088415371068898945)) (fun (_ : Unit) (_ : State) => True) (va_A [] sz)) 0 0 (va_A [] sz) := by
  refine Met.ofW (cc := cX6_mixThings) (maxL := 7) (ret := (some .long)) (by decide) rfl ?_
  intro p e s m args below meth c s₁ B hml hv
  obtain ⟨rfl, hsz, hR0, hP, hK, hD0, hN, hH, hX0⟩ := hv
  have hx := B.exec
  have hb := B.bytes
  have hr := B.returns
  have hts := atoms_spec (ws := wsX6_mixThings) B.pre
  have hown : s.vm.findClass RX6 = some m.cls := findClass_of_methodNamed B.named
  have hlocks := B.notSynchronized
  subst hsz
  have hD := hD0.self (sz := s.heap.size)
  have hAr := zx_A hX0 hR0
  generalize hAe : va_A [] s.heap.size = A at hD hAr hH ⊢
  have hA : ∀ q : Nat, s.heap.size ≤ q → A q := fun q h => by rw [← hAe]; exact Or.inr h
  have hS : va_S A s.heap s.heap [] := va_S.rf
  have hl := lv_entry ([.ref x, .long (-1160429273186388225)]) (n := 7) (Nat.le_of_ble_eq_true rfl)
  rw [lg_entry_eq]
  generalize (lg_sl ([.ref x, .long (-1160429273186388225)]) ++ List.replicate (7 - (lg_sl ([.ref x, .long (-1160429273186388225)])).length) Slot.unset).toArray = ls at hl ⊢
  have hl : lv_has ls 7 [(0, .ref x), (1, .long (-1160429273186388225))] := hl
  refine lv_lload_n hx hb dX6_mixThings_0 rfl (lv_at hl 1 rfl) ?_
  refine lv_lstore_n (lv' := [(3, .long (-1160429273186388225)), (0, .ref x), (1, .long (-1160429273186388225))]) hx hb dX6_mixThings_1 rfl hl (by decide) rfl (fun ls hl => ?_)
  refine lv_iconst (v := 0) hx hb dX6_mixThings_2 (by decide) ?_
  refine lv_istore (lv' := [(5, .int 0), (3, .long (-1160429273186388225)), (0, .ref x), (1, .long (-1160429273186388225))]) hx hb dX6_mixThings_3 hl (by decide) rfl (fun ls hl => ?_)
  refine lv_iload hx hb dX6_mixThings_5 (lv_at hl 0 rfl) ?_
  refine lv_aload_n hx hb dX6_mixThings_7 rfl (lv_at hl 2 rfl) ?_
  refine va_get (D := (dC, dI)) (ci := 8) (v := .ref rm) (C := RX6) (T := TX6) (N := 3) hx hb hts zi_X6_mixThings_X6 hown hK hR0 0 rfl rfl 0 (by decide) (hts (.fieldLink RX6 12 "LockRooms" "room" "LLockRooms$Room;") (by decide +kernel)) (fun _ h9 => h9) rfl dX6_mixThings_8 ?_
  refine va_get (D := (dC, dI)) (ci := 5) (v := .int 10) (C := RX3) (T := TX3) (N := 12) hx hb hts zi_X6_mixThings_X3 hown hK hR0 1 rfl rfl 5 (by decide) (hts (.fieldLink RX6 71 "LockRooms$Room" "thingCount" "I") (by decide +kernel)) (fun _ h9 => h9) rfl dX6_mixThings_11 ?_
  refine lv_icmp_ge (tgt := 55) hx hb dX6_mixThings_14 (by decide) (fun h => absurd h (by decide)) (fun _ => ?_)
  refine lv_iconst (v := 0) hx hb dX6_mixThings_17 (by decide) ?_
  refine lv_istore (lv' := [(6, .int 0), (5, .int 0), (3, .long (-1160429273186388225)), (0, .ref x), (1, .long (-1160429273186388225))]) hx hb dX6_mixThings_18 hl (by decide) rfl (fun ls hl => ?_)
  refine lv_iload hx hb dX6_mixThings_20 (lv_at hl 0 rfl) ?_
  refine lv_bipush (v := 6) hx hb dX6_mixThings_22 (by decide) ?_
  refine lv_icmp_ge (tgt := 49) hx hb dX6_mixThings_24 (by decide) (fun h => absurd h (by decide)) (fun _ => ?_)
  refine lv_lload_n hx hb dX6_mixThings_27 rfl (lv_at hl 2 rfl) ?_
  refine lv_aload_n hx hb dX6_mixThings_28 rfl (lv_at hl 3 rfl) ?_
  refine va_get (D := (dC, dI)) (ci := 8) (v := .ref rm) (C := RX6) (T := TX6) (N := 3) hx hb hts zi_X6_mixThings_X6 hown hK hR0 0 rfl rfl 0 (by decide) (hts (.fieldLink RX6 12 "LockRooms" "room" "LLockRooms$Room;") (by decide +kernel)) (fun _ h9 => h9) rfl dX6_mixThings_29 ?_
  refine lv_iload hx hb dX6_mixThings_32 (lv_at hl 1 rfl) ?_
  refine lv_iload hx hb dX6_mixThings_34 (lv_at hl 0 rfl) ?_
  have hPr := (hR0).sub (ws' := [(rm, .inr (5, [.ref lk, .ref th, .ref pl, .ref gm, .int 2, .int 10, .int 0, .int 0, .int 1, .int 0, .int 0, .int 0])), (th, .inl (cT, 12, .inr (.inr (.inr (.inr ft))))), (t0, .inr (7, [.int (-1), .int 0, .int 0, .int 0, .int 0]))]) [1, 3, 6] rfl
  have hPc := hP.sub (ws' := []) [] rfl
  have hDc := hD.sub (ws' := []) [] (by decide) rfl
  have hKc := hK.sub (tys' := [(cT, .object "LockRooms$Thing")]) [1] rfl
  have hFc := va_free (wc := []) hD hS hA [] rfl
  refine va_calli (va_runV (As := [.int 0, .int 0]) (rest := [.long (-1160429273186388225)]) ⟨hx, hb, hml, hown, hts⟩ (cz_QtellThing_0_0 l dC dI ed s.heap.size rm lk th pl gm cT ft t0 hkt0) (cwV 2 hts gX6_mixThings_X3_tellThing rfl rfl rfl (by decide +kernel) ⟨Nat.le_of_ble_eq_true rfl, Nat.le_of_ble_eq_true rfl⟩) ⟨zb_blind, va_recv hK hR0 (ci := 5) (q0 := 1) rfl rfl, fun U hU hW => ⟨rfl, zb_mk hU hW hPr hPc hKc hDc hN hH hS hFc zx_e⟩⟩ rfl rfl hl.1 rfl (lv_room (Nat.le_of_ble_eq_true rfl)) dX6_mixThings_36 ⟨Nat.le_of_ble_eq_true rfl, Nat.le_of_ble_eq_true rfl⟩) hS (fun q _ h => hFc q h) hFc (fun r2 u t H1 locs ht hvm hw hB hz1 hk1 hS => ?_)
  obtain rfl : r2 = (-1) := hw
  have hP := zo_K hP hk1
  have hPr := (zo_nil : va_P (dC, dI) vwCl [] H1)
  have hPc := hP.sub (ws' := []) [] rfl
  have hDc := hD.sub (ws' := []) [] (by decide) rfl
  have hKc := hK.sub (tys' := []) [] rfl
  have hFc := va_free (wc := []) hD hS hA [] rfl
  refine va_calll (va_runS (As := [.long (-1160429273186388225), .int (-1)]) (rest := []) ⟨hx, hb, hml, hown, hts⟩ (cz_X6_mix l dC dI ed H1.size (-1160429273186388225) (-1)) (va_cwS 2 hts gX6_mixThings_X6_mix rfl rfl rfl (by decide +kernel) ⟨Nat.le_of_ble_eq_true rfl, Nat.le_of_ble_eq_true rfl⟩) ⟨zb_blind, fun U hU hW => ⟨rfl, zb_mk hU hW hPr hPc hKc hDc hN hH hS hFc zx_e⟩⟩ rfl rfl hl.1 rfl (lv_room (Nat.le_of_ble_eq_true rfl)) dX6_mixThings_39 ⟨Nat.le_of_ble_eq_true rfl, Nat.le_of_ble_eq_true rfl⟩) hS (fun q _ h => hFc q h) hFc (fun r4 u t H3 locs ht hvm hw hB hz1 hk1 hS => ?_)
  obtain rfl : r4 = 920180678641068256 := hw.trans (by decide +kernel)
  have hP := zo_K hP hk1
  refine lv_lstore_n (lv' := [(3, .long 920180678641068256), (6, .int 0), (5, .int 0), (0, .ref x), (1, .long (-1160429273186388225))]) hx hb dX6_mixThings_42 rfl hl (by decide) rfl (fun ls hl => ?_)
  refine lv_iinc (v := 1) (lv' := [(6, .int 1), (3, .long 920180678641068256), (5, .int 0), (0, .ref x), (1, .long (-1160429273186388225))]) hx hb dX6_mixThings_43 hl (k := 1) rfl (by decide) (by decide) rfl (fun ls hl => ?_)
  refine lv_goto (tgt := 20) hx hb dX6_mixThings_46 (by decide) ?_
  refine lv_iload hx hb dX6_mixThings_20 (lv_at hl 0 rfl) ?_
  refine lv_bipush (v := 6) hx hb dX6_mixThings_22 (by decide) ?_
  refine lv_icmp_ge (tgt := 49) hx hb dX6_mixThings_24 (by decide) (fun h => absurd h (by decide)) (fun _ => ?_)
  refine lv_lload_n hx hb dX6_mixThings_27 rfl (lv_at hl 1 rfl) ?_
  refine lv_aload_n hx hb dX6_mixThings_28 rfl (lv_at hl 3 rfl) ?_
  refine va_get (D := (dC, dI)) (ci := 8) (v := .ref rm) (C := RX6) (T := TX6) (N := 3) hx hb hts zi_X6_mixThings_X6 hown hK (zo_R hR0 hS hAr) 0 rfl rfl 0 (by decide) (hts (.fieldLink RX6 12 "LockRooms" "room" "LLockRooms$Room;") (by decide +kernel)) (fun _ h9 => h9) rfl dX6_mixThings_29 ?_
  refine lv_iload hx hb dX6_mixThings_32 (lv_at hl 2 rfl) ?_
  refine lv_iload hx hb dX6_mixThings_34 (lv_at hl 0 rfl) ?_
  have hPr := ((zo_R hR0 hS hAr)).sub (ws' := [(rm, .inr (5, [.ref lk, .ref th, .ref pl, .ref gm, .int 2, .int 10, .int 0, .int 0, .int 1, .int 0, .int 0, .int 0])), (th, .inl (cT, 12, .inr (.inr (.inr (.inr ft))))), (t0, .inr (7, [.int (-1), .int 0, .int 0, .int 0, .int 0]))]) [1, 3, 6] rfl
  have hPc := hP.sub (ws' := []) [] rfl
  have hDc := hD.sub (ws' := []) [] (by decide) rfl
  have hKc := hK.sub (tys' := [(cT, .object "LockRooms$Thing")]) [1] rfl
  have hFc := va_free (wc := []) hD hS hA [] rfl
  refine va_calli (va_runV (As := [.int 0, .int 1]) (rest := [.long 920180678641068256]) ⟨hx, hb, hml, hown, hts⟩ (cz_QtellThing_0_1 l dC dI ed H3.size rm lk th pl gm cT ft t0 hkt0) (cwV 2 hts gX6_mixThings_X3_tellThing rfl rfl rfl (by decide +kernel) ⟨Nat.le_of_ble_eq_true rfl, Nat.le_of_ble_eq_true rfl⟩) ⟨zb_blind, va_recv hK (zo_R hR0 hS hAr) (ci := 5) (q0 := 1) rfl rfl, fun U hU hW => ⟨rfl, zb_mk hU hW hPr hPc hKc hDc hN hH hS hFc zx_e⟩⟩ rfl rfl hl.1 rfl (lv_room (Nat.le_of_ble_eq_true rfl)) dX6_mixThings_36 ⟨Nat.le_of_ble_eq_true rfl, Nat.le_of_ble_eq_true rfl⟩) hS (fun q _ h => hFc q h) hFc (fun r6 u t H5 locs ht hvm hw hB hz1 hk1 hS => ?_)
  obtain rfl : r6 = 0 := hw
  have hP := zo_K hP hk1
  have hPr := (zo_nil : va_P (dC, dI) vwCl [] H5)
  have hPc := hP.sub (ws' := []) [] rfl
  have hDc := hD.sub (ws' := []) [] (by decide) rfl
  have hKc := hK.sub (tys' := []) [] rfl
  have hFc := va_free (wc := []) hD hS hA [] rfl
  refine va_calll (va_runS (As := [.long 920180678641068256, .int 0]) (rest := []) ⟨hx, hb, hml, hown, hts⟩ (cz_X6_mix l dC dI ed H5.size 920180678641068256 0) (va_cwS 2 hts gX6_mixThings_X6_mix rfl rfl rfl (by decide +kernel) ⟨Nat.le_of_ble_eq_true rfl, Nat.le_of_ble_eq_true rfl⟩) ⟨zb_blind, fun U hU hW => ⟨rfl, zb_mk hU hW hPr hPc hKc hDc hN hH hS hFc zx_e⟩⟩ rfl rfl hl.1 rfl (lv_room (Nat.le_of_ble_eq_true rfl)) dX6_mixThings_39 ⟨Nat.le_of_ble_eq_true rfl, Nat.le_of_ble_eq_true rfl⟩) hS (fun q _ h => hFc q h) hFc (fun r8 u t H7 locs ht hvm hw hB hz1 hk1 hS => ?_)
  obtain rfl : r8 = (-8367887109545987296) := hw.trans (by decide +kernel)
  have hP := zo_K hP hk1
  refine lv_lstore_n (lv' := [(3, .long (-8367887109545987296)), (6, .int 1), (5, .int 0), (0, .ref x), (1, .long (-1160429273186388225))]) hx hb dX6_mixThings_42 rfl hl (by decide) rfl (fun ls hl => ?_)
  refine lv_iinc (v := 2) (lv' := [(6, .int 2), (3, .long (-8367887109545987296)), (5, .int 0), (0, .ref x), (1, .long (-1160429273186388225))]) hx hb dX6_mixThings_43 hl (k := 1) rfl (by decide) (by decide) rfl (fun ls hl => ?_)
  refine lv_goto (tgt := 20) hx hb dX6_mixThings_46 (by decide) ?_
  refine lv_iload hx hb dX6_mixThings_20 (lv_at hl 0 rfl) ?_
  refine lv_bipush (v := 6) hx hb dX6_mixThings_22 (by decide) ?_
  refine lv_icmp_ge (tgt := 49) hx hb dX6_mixThings_24 (by decide) (fun h => absurd h (by decide)) (fun _ => ?_)
  refine lv_lload_n hx hb dX6_mixThings_27 rfl (lv_at hl 1 rfl) ?_
  refine lv_aload_n hx hb dX6_mixThings_28 rfl (lv_at hl 3 rfl) ?_
  refine va_get (D := (dC, dI)) (ci := 8) (v := .ref rm) (C := RX6) (T := TX6) (N := 3) hx hb hts zi_X6_mixThings_X6 hown hK (zo_R hR0 hS hAr) 0 rfl rfl 0 (by decide) (hts (.fieldLink RX6 12 "LockRooms" "room" "LLockRooms$Room;") (by decide +kernel)) (fun _ h9 => h9) rfl dX6_mixThings_29 ?_
  refine lv_iload hx hb dX6_mixThings_32 (lv_at hl 2 rfl) ?_
  refine lv_iload hx hb dX6_mixThings_34 (lv_at hl 0 rfl) ?_
  have hPr := ((zo_R hR0 hS hAr)).sub (ws' := [(rm, .inr (5, [.ref lk, .ref th, .ref pl, .ref gm, .int 2, .int 10, .int 0, .int 0, .int 1, .int 0, .int 0, .int 0])), (th, .inl (cT, 12, .inr (.inr (.inr (.inr ft))))), (t0, .inr (7, [.int (-1), .int 0, .int 0, .int 0, .int 0]))]) [1, 3, 6] rfl
  have hPc := hP.sub (ws' := []) [] rfl
  have hDc := hD.sub (ws' := []) [] (by decide) rfl
  have hKc := hK.sub (tys' := [(cT, .object "LockRooms$Thing")]) [1] rfl
  have hFc := va_free (wc := []) hD hS hA [] rfl
  refine va_calli (va_runV (As := [.int 0, .int 2]) (rest := [.long (-8367887109545987296)]) ⟨hx, hb, hml, hown, hts⟩ (cz_QtellThing_0_2 l dC dI ed H7.size rm lk th pl gm cT ft t0 hkt0) (cwV 2 hts gX6_mixThings_X3_tellThing rfl rfl rfl (by decide +kernel) ⟨Nat.le_of_ble_eq_true rfl, Nat.le_of_ble_eq_true rfl⟩) ⟨zb_blind, va_recv hK (zo_R hR0 hS hAr) (ci := 5) (q0 := 1) rfl rfl, fun U hU hW => ⟨rfl, zb_mk hU hW hPr hPc hKc hDc hN hH hS hFc zx_e⟩⟩ rfl rfl hl.1 rfl (lv_room (Nat.le_of_ble_eq_true rfl)) dX6_mixThings_36 ⟨Nat.le_of_ble_eq_true rfl, Nat.le_of_ble_eq_true rfl⟩) hS (fun q _ h => hFc q h) hFc (fun r10 u t H9 locs ht hvm hw hB hz1 hk1 hS => ?_)
  obtain rfl : r10 = 0 := hw
  have hP := zo_K hP hk1
  have hPr := (zo_nil : va_P (dC, dI) vwCl [] H9)
  have hPc := hP.sub (ws' := []) [] rfl
  have hDc := hD.sub (ws' := []) [] (by decide) rfl
  have hKc := hK.sub (tys' := []) [] rfl
  have hFc := va_free (wc := []) hD hS hA [] rfl
  refine va_calll (va_runS (As := [.long (-8367887109545987296), .int 0]) (rest := []) ⟨hx, hb, hml, hown, hts⟩ (cz_X6_mix l dC dI ed H9.size (-8367887109545987296) 0) (va_cwS 2 hts gX6_mixThings_X6_mix rfl rfl rfl (by decide +kernel) ⟨Nat.le_of_ble_eq_true rfl, Nat.le_of_ble_eq_true rfl⟩) ⟨zb_blind, fun U hU hW => ⟨rfl, zb_mk hU hW hPr hPc hKc hDc hN hH hS hFc zx_e⟩⟩ rfl rfl hl.1 rfl (lv_room (Nat.le_of_ble_eq_true rfl)) dX6_mixThings_39 ⟨Nat.le_of_ble_eq_true rfl, Nat.le_of_ble_eq_true rfl⟩) hS (fun q _ h => hFc q h) hFc (fun r12 u t H11 locs ht hvm hw hB hz1 hk1 hS => ?_)
  obtain rfl : r12 = (-1150083363991883552) := hw.trans (by decide +kernel)
  have hP := zo_K hP hk1
  refine lv_lstore_n (lv' := [(3, .long (-1150083363991883552)), (6, .int 2), (5, .int 0), (0, .ref x), (1, .long (-1160429273186388225))]) hx hb dX6_mixThings_42 rfl hl (by decide) rfl (fun ls hl => ?_)
  refine lv_iinc (v := 3) (lv' := [(6, .int 3), (3, .long (-1150083363991883552)), (5, .int 0), (0, .ref x), (1, .long (-1160429273186388225))]) hx hb dX6_mixThings_43 hl (k := 1) rfl (by decide) (by decide) rfl (fun ls hl => ?_)
  refine lv_goto (tgt := 20) hx hb dX6_mixThings_46 (by decide) ?_
  refine lv_iload hx hb dX6_mixThings_20 (lv_at hl 0 rfl) ?_
  refine lv_bipush (v := 6) hx hb dX6_mixThings_22 (by decide) ?_
  refine lv_icmp_ge (tgt := 49) hx hb dX6_mixThings_24 (by decide) (fun h => absurd h (by decide)) (fun _ => ?_)
  refine lv_lload_n hx hb dX6_mixThings_27 rfl (lv_at hl 1 rfl) ?_
  refine lv_aload_n hx hb dX6_mixThings_28 rfl (lv_at hl 3 rfl) ?_
  refine va_get (D := (dC, dI)) (ci := 8) (v := .ref rm) (C := RX6) (T := TX6) (N := 3) hx hb hts zi_X6_mixThings_X6 hown hK (zo_R hR0 hS hAr) 0 rfl rfl 0 (by decide) (hts (.fieldLink RX6 12 "LockRooms" "room" "LLockRooms$Room;") (by decide +kernel)) (fun _ h9 => h9) rfl dX6_mixThings_29 ?_
  refine lv_iload hx hb dX6_mixThings_32 (lv_at hl 2 rfl) ?_
  refine lv_iload hx hb dX6_mixThings_34 (lv_at hl 0 rfl) ?_
  have hPr := ((zo_R hR0 hS hAr)).sub (ws' := [(rm, .inr (5, [.ref lk, .ref th, .ref pl, .ref gm, .int 2, .int 10, .int 0, .int 0, .int 1, .int 0, .int 0, .int 0])), (th, .inl (cT, 12, .inr (.inr (.inr (.inr ft))))), (t0, .inr (7, [.int (-1), .int 0, .int 0, .int 0, .int 0]))]) [1, 3, 6] rfl
  have hPc := hP.sub (ws' := []) [] rfl
  have hDc := hD.sub (ws' := []) [] (by decide) rfl
  have hKc := hK.sub (tys' := [(cT, .object "LockRooms$Thing")]) [1] rfl
  have hFc := va_free (wc := []) hD hS hA [] rfl
  refine va_calli (va_runV (As := [.int 0, .int 3]) (rest := [.long (-1150083363991883552)]) ⟨hx, hb, hml, hown, hts⟩ (cz_QtellThing_0_3 l dC dI ed H11.size rm lk th pl gm cT ft t0 hkt0) (cwV 2 hts gX6_mixThings_X3_tellThing rfl rfl rfl (by decide +kernel) ⟨Nat.le_of_ble_eq_true rfl, Nat.le_of_ble_eq_true rfl⟩) ⟨zb_blind, va_recv hK (zo_R hR0 hS hAr) (ci := 5) (q0 := 1) rfl rfl, fun U hU hW => ⟨rfl, zb_mk hU hW hPr hPc hKc hDc hN hH hS hFc zx_e⟩⟩ rfl rfl hl.1 rfl (lv_room (Nat.le_of_ble_eq_true rfl)) dX6_mixThings_36 ⟨Nat.le_of_ble_eq_true rfl, Nat.le_of_ble_eq_true rfl⟩) hS (fun q _ h => hFc q h) hFc (fun r14 u t H13 locs ht hvm hw hB hz1 hk1 hS => ?_)
  obtain rfl : r14 = 0 := hw
  have hP := zo_K hP hk1
  have hPr := (zo_nil : va_P (dC, dI) vwCl [] H13)
  have hPc := hP.sub (ws' := []) [] rfl
  have hDc := hD.sub (ws' := []) [] (by decide) rfl
  have hKc := hK.sub (tys' := []) [] rfl
  have hFc := va_free (wc := []) hD hS hA [] rfl
  refine va_calll (va_runS (As := [.long (-1150083363991883552), .int 0]) (rest := []) ⟨hx, hb, hml, hown, hts⟩ (cz_X6_mix l dC dI ed H13.size (-1150083363991883552) 0) (va_cwS 2 hts gX6_mixThings_X6_mix rfl rfl rfl (by decide +kernel) ⟨Nat.le_of_ble_eq_true rfl, Nat.le_of_ble_eq_true rfl⟩) ⟨zb_blind, fun U hU hW => ⟨rfl, zb_mk hU hW hPr hPc hKc hDc hN hH hS hFc zx_e⟩⟩ rfl rfl hl.1 rfl (lv_room (Nat.le_of_ble_eq_true rfl)) dX6_mixThings_39 ⟨Nat.le_of_ble_eq_true rfl, Nat.le_of_ble_eq_true rfl⟩) hS (fun q _ h => hFc q h) hFc (fun r16 u t H15 locs ht hvm hw hB hz1 hk1 hS => ?_)
  obtain rfl : r16 = 1240903863670713120 := hw.trans (by decide +kernel)
  have hP := zo_K hP hk1
  refine lv_lstore_n (lv' := [(3, .long 1240903863670713120), (6, .int 3), (5, .int 0), (0, .ref x), (1, .long (-1160429273186388225))]) hx hb dX6_mixThings_42 rfl hl (by decide) rfl (fun ls hl => ?_)
  refine lv_iinc (v := 4) (lv' := [(6, .int 4), (3, .long 1240903863670713120), (5, .int 0), (0, .ref x), (1, .long (-1160429273186388225))]) hx hb dX6_mixThings_43 hl (k := 1) rfl (by decide) (by decide) rfl (fun ls hl => ?_)
  refine lv_goto (tgt := 20) hx hb dX6_mixThings_46 (by decide) ?_
  refine lv_iload hx hb dX6_mixThings_20 (lv_at hl 0 rfl) ?_
  refine lv_bipush (v := 6) hx hb dX6_mixThings_22 (by decide) ?_
  refine lv_icmp_ge (tgt := 49) hx hb dX6_mixThings_24 (by decide) (fun h => absurd h (by decide)) (fun _ => ?_)
  refine lv_lload_n hx hb dX6_mixThings_27 rfl (lv_at hl 1 rfl) ?_
  refine lv_aload_n hx hb dX6_mixThings_28 rfl (lv_at hl 3 rfl) ?_
  refine va_get (D := (dC, dI)) (ci := 8) (v := .ref rm) (C := RX6) (T := TX6) (N := 3) hx hb hts zi_X6_mixThings_X6 hown hK (zo_R hR0 hS hAr) 0 rfl rfl 0 (by decide) (hts (.fieldLink RX6 12 "LockRooms" "room" "LLockRooms$Room;") (by decide +kernel)) (fun _ h9 => h9) rfl dX6_mixThings_29 ?_
  refine lv_iload hx hb dX6_mixThings_32 (lv_at hl 2 rfl) ?_
  refine lv_iload hx hb dX6_mixThings_34 (lv_at hl 0 rfl) ?_
  have hPr := ((zo_R hR0 hS hAr)).sub (ws' := [(rm, .inr (5, [.ref lk, .ref th, .ref pl, .ref gm, .int 2, .int 10, .int 0, .int 0, .int 1, .int 0, .int 0, .int 0])), (th, .inl (cT, 12, .inr (.inr (.inr (.inr ft))))), (t0, .inr (7, [.int (-1), .int 0, .int 0, .int 0, .int 0])), (lk, .inl (cL, 10, .inr (.inr (.inr (.inr fl))))), (l0, .inr (3, [.int 0, .int 0, .int 60, .int 0, .int 0, .int 0, .int 0, .int 0, .int 0, .int 0])), (l1, .inr (3, [.int 0, .int 0, .int 60, .int 0, .int 0, .int 0, .int 0, .int 0, .int 0, .int 0]))]) [1, 3, 6, 2, 4, 5] rfl
  have hPc := hP.sub (ws' := []) [] rfl
  have hDc := hD.sub (ws' := []) [] (by decide) rfl
  have hKc := hK.sub (tys' := [(cT, .object "LockRooms$Thing"), (cL, .object "LockRooms$Lock")]) [1, 0] rfl
  have hFc := va_free (wc := []) hD hS hA [] rfl
  refine va_calli (va_runV (As := [.int 0, .int 4]) (rest := [.long 1240903863670713120]) ⟨hx, hb, hml, hown, hts⟩ (cz_QtellThing_0_4 l dC dI ed H15.size rm lk th pl gm cT ft t0 cL fl l0 l1 hkt0 hkl0 hkl1) (cwV 2 hts gX6_mixThings_X3_tellThing rfl rfl rfl (by decide +kernel) ⟨Nat.le_of_ble_eq_true rfl, Nat.le_of_ble_eq_true rfl⟩) ⟨zb_blind, va_recv hK (zo_R hR0 hS hAr) (ci := 5) (q0 := 1) rfl rfl, fun U hU hW => ⟨rfl, zb_mk hU hW hPr hPc hKc hDc hN hH hS hFc zx_e⟩⟩ rfl rfl hl.1 rfl (lv_room (Nat.le_of_ble_eq_true rfl)) dX6_mixThings_36 ⟨Nat.le_of_ble_eq_true rfl, Nat.le_of_ble_eq_true rfl⟩) hS (fun q _ h => hFc q h) hFc (fun r18 u t H17 locs ht hvm hw hB hz1 hk1 hS => ?_)
  obtain rfl : r18 = 1 := hw
  have hP := zo_K hP hk1
  have hPr := (zo_nil : va_P (dC, dI) vwCl [] H17)
  have hPc := hP.sub (ws' := []) [] rfl
  have hDc := hD.sub (ws' := []) [] (by decide) rfl
  have hKc := hK.sub (tys' := []) [] rfl
  have hFc := va_free (wc := []) hD hS hA [] rfl
  refine va_calll (va_runS (As := [.long 1240903863670713120, .int 1]) (rest := []) ⟨hx, hb, hml, hown, hts⟩ (cz_X6_mix l dC dI ed H17.size 1240903863670713120 1) (va_cwS 2 hts gX6_mixThings_X6_mix rfl rfl rfl (by decide +kernel) ⟨Nat.le_of_ble_eq_true rfl, Nat.le_of_ble_eq_true rfl⟩) ⟨zb_blind, fun U hU hW => ⟨rfl, zb_mk hU hW hPr hPc hKc hDc hN hH hS hFc zx_e⟩⟩ rfl rfl hl.1 rfl (lv_room (Nat.le_of_ble_eq_true rfl)) dX6_mixThings_39 ⟨Nat.le_of_ble_eq_true rfl, Nat.le_of_ble_eq_true rfl⟩) hS (fun q _ h => hFc q h) hFc (fun r20 u t H19 locs ht hvm hw hB hz1 hk1 hS => ?_)
  obtain rfl : r20 = 1574531626373003489 := hw.trans (by decide +kernel)
  have hP := zo_K hP hk1
  refine lv_lstore_n (lv' := [(3, .long 1574531626373003489), (6, .int 4), (5, .int 0), (0, .ref x), (1, .long (-1160429273186388225))]) hx hb dX6_mixThings_42 rfl hl (by decide) rfl (fun ls hl => ?_)
  refine lv_iinc (v := 5) (lv' := [(6, .int 5), (3, .long 1574531626373003489), (5, .int 0), (0, .ref x), (1, .long (-1160429273186388225))]) hx hb dX6_mixThings_43 hl (k := 1) rfl (by decide) (by decide) rfl (fun ls hl => ?_)
  refine lv_goto (tgt := 20) hx hb dX6_mixThings_46 (by decide) ?_
  refine lv_iload hx hb dX6_mixThings_20 (lv_at hl 0 rfl) ?_
  refine lv_bipush (v := 6) hx hb dX6_mixThings_22 (by decide) ?_
  refine lv_icmp_ge (tgt := 49) hx hb dX6_mixThings_24 (by decide) (fun h => absurd h (by decide)) (fun _ => ?_)
  refine lv_lload_n hx hb dX6_mixThings_27 rfl (lv_at hl 1 rfl) ?_
  refine lv_aload_n hx hb dX6_mixThings_28 rfl (lv_at hl 3 rfl) ?_
  refine va_get (D := (dC, dI)) (ci := 8) (v := .ref rm) (C := RX6) (T := TX6) (N := 3) hx hb hts zi_X6_mixThings_X6 hown hK (zo_R hR0 hS hAr) 0 rfl rfl 0 (by decide) (hts (.fieldLink RX6 12 "LockRooms" "room" "LLockRooms$Room;") (by decide +kernel)) (fun _ h9 => h9) rfl dX6_mixThings_29 ?_
  refine lv_iload hx hb dX6_mixThings_32 (lv_at hl 2 rfl) ?_
  refine lv_iload hx hb dX6_mixThings_34 (lv_at hl 0 rfl) ?_
  have hPr := ((zo_R hR0 hS hAr)).sub (ws' := [(rm, .inr (5, [.ref lk, .ref th, .ref pl, .ref gm, .int 2, .int 10, .int 0, .int 0, .int 1, .int 0, .int 0, .int 0])), (th, .inl (cT, 12, .inr (.inr (.inr (.inr ft))))), (t0, .inr (7, [.int (-1), .int 0, .int 0, .int 0, .int 0])), (lk, .inl (cL, 10, .inr (.inr (.inr (.inr fl))))), (l0, .inr (3, [.int 0, .int 0, .int 60, .int 0, .int 0, .int 0, .int 0, .int 0, .int 0, .int 0])), (l1, .inr (3, [.int 0, .int 0, .int 60, .int 0, .int 0, .int 0, .int 0, .int 0, .int 0, .int 0]))]) [1, 3, 6, 2, 4, 5] rfl
  have hPc := hP.sub (ws' := []) [] rfl
  have hDc := hD.sub (ws' := []) [] (by decide) rfl
  have hKc := hK.sub (tys' := [(cT, .object "LockRooms$Thing"), (cL, .object "LockRooms$Lock")]) [1, 0] rfl
  have hFc := va_free (wc := []) hD hS hA [] rfl
  refine va_calli (va_runV (As := [.int 0, .int 5]) (rest := [.long 1574531626373003489]) ⟨hx, hb, hml, hown, hts⟩ (cz_QtellThing_0_5 l dC dI ed H19.size rm lk th pl gm cT ft t0 cL fl l0 l1 hkt0 hkl0 hkl1) (cwV 2 hts gX6_mixThings_X3_tellThing rfl rfl rfl (by decide +kernel) ⟨Nat.le_of_ble_eq_true rfl, Nat.le_of_ble_eq_true rfl⟩) ⟨zb_blind, va_recv hK (zo_R hR0 hS hAr) (ci := 5) (q0 := 1) rfl rfl, fun U hU hW => ⟨rfl, zb_mk hU hW hPr hPc hKc hDc hN hH hS hFc zx_e⟩⟩ rfl rfl hl.1 rfl (lv_room (Nat.le_of_ble_eq_true rfl)) dX6_mixThings_36 ⟨Nat.le_of_ble_eq_true rfl, Nat.le_of_ble_eq_true rfl⟩) hS (fun q _ h => hFc q h) hFc (fun r22 u t H21 locs ht hvm hw hB hz1 hk1 hS => ?_)
  obtain rfl : r22 = 0 := hw
  have hP := zo_K hP hk1
  have hPr := (zo_nil : va_P (dC, dI) vwCl [] H21)
  have hPc := hP.sub (ws' := []) [] rfl
  have hDc := hD.sub (ws' := []) [] (by decide) rfl
  have hKc := hK.sub (tys' := []) [] rfl
  have hFc := va_free (wc := []) hD hS hA [] rfl
  refine va_calll (va_runS (As := [.long 1574531626373003489, .int 0]) (rest := []) ⟨hx, hb, hml, hown, hts⟩ (cz_X6_mix l dC dI ed H21.size 1574531626373003489 0) (va_cwS 2 hts gX6_mixThings_X6_mix rfl rfl rfl (by decide +kernel) ⟨Nat.le_of_ble_eq_true rfl, Nat.le_of_ble_eq_true rfl⟩) ⟨zb_blind, fun U hU hW => ⟨rfl, zb_mk hU hW hPr hPc hKc hDc hN hH hS hFc zx_e⟩⟩ rfl rfl hl.1 rfl (lv_room (Nat.le_of_ble_eq_true rfl)) dX6_mixThings_39 ⟨Nat.le_of_ble_eq_true rfl, Nat.le_of_ble_eq_true rfl⟩) hS (fun q _ h => hFc q h) hFc (fun r24 u t H23 locs ht hvm hw hB hz1 hk1 hS => ?_)
  obtain rfl : r24 = (-6529751803565546689) := hw.trans (by decide +kernel)
  have hP := zo_K hP hk1
  refine lv_lstore_n (lv' := [(3, .long (-6529751803565546689)), (6, .int 5), (5, .int 0), (0, .ref x), (1, .long (-1160429273186388225))]) hx hb dX6_mixThings_42 rfl hl (by decide) rfl (fun ls hl => ?_)
  refine lv_iinc (v := 6) (lv' := [(6, .int 6), (3, .long (-6529751803565546689)), (5, .int 0), (0, .ref x), (1, .long (-1160429273186388225))]) hx hb dX6_mixThings_43 hl (k := 1) rfl (by decide) (by decide) rfl (fun ls hl => ?_)
  refine lv_goto (tgt := 20) hx hb dX6_mixThings_46 (by decide) ?_
  refine lv_iload hx hb dX6_mixThings_20 (lv_at hl 0 rfl) ?_
  refine lv_bipush (v := 6) hx hb dX6_mixThings_22 (by decide) ?_
  refine lv_icmp_ge (tgt := 49) hx hb dX6_mixThings_24 (by decide) (fun _ => ?_) (fun h => absurd h (by decide))
  refine lv_iinc (v := 1) (lv' := [(5, .int 1), (6, .int 6), (3, .long (-6529751803565546689)), (0, .ref x), (1, .long (-1160429273186388225))]) hx hb dX6_mixThings_49 hl (k := 2) rfl (by decide) (by decide) rfl (fun ls hl => ?_)
  refine lv_goto (tgt := 5) hx hb dX6_mixThings_52 (by decide) ?_
  refine lv_iload hx hb dX6_mixThings_5 (lv_at hl 0 rfl) ?_
  refine lv_aload_n hx hb dX6_mixThings_7 rfl (lv_at hl 3 rfl) ?_
  refine va_get (D := (dC, dI)) (ci := 8) (v := .ref rm) (C := RX6) (T := TX6) (N := 3) hx hb hts zi_X6_mixThings_X6 hown hK (zo_R hR0 hS hAr) 0 rfl rfl 0 (by decide) (hts (.fieldLink RX6 12 "LockRooms" "room" "LLockRooms$Room;") (by decide +kernel)) (fun _ h9 => h9) rfl dX6_mixThings_8 ?_
  refine va_get (D := (dC, dI)) (ci := 5) (v := .int 10) (C := RX3) (T := TX3) (N := 12) hx hb hts zi_X6_mixThings_X3 hown hK (zo_R hR0 hS hAr) 1 rfl rfl 5 (by decide) (hts (.fieldLink RX6 71 "LockRooms$Room" "thingCount" "I") (by decide +kernel)) (fun _ h9 => h9) rfl dX6_mixThings_11 ?_
  refine lv_icmp_ge (tgt := 55) hx hb dX6_mixThings_14 (by decide) (fun h => absurd h (by decide)) (fun _ => ?_)
  refine lv_iconst (v := 0) hx hb dX6_mixThings_17 (by decide) ?_
  refine lv_istore (lv' := [(6, .int 0), (5, .int 1), (3, .long (-6529751803565546689)), (0, .ref x), (1, .long (-1160429273186388225))]) hx hb dX6_mixThings_18 hl (by decide) rfl (fun ls hl => ?_)
  refine lv_iload hx hb dX6_mixThings_20 (lv_at hl 0 rfl) ?_
  refine lv_bipush (v := 6) hx hb dX6_mixThings_22 (by decide) ?_
  refine lv_icmp_ge (tgt := 49) hx hb dX6_mixThings_24 (by decide) (fun h => absurd h (by decide)) (fun _ => ?_)
  refine lv_lload_n hx hb dX6_mixThings_27 rfl (lv_at hl 2 rfl) ?_
  refine lv_aload_n hx hb dX6_mixThings_28 rfl (lv_at hl 3 rfl) ?_
  refine va_get (D := (dC, dI)) (ci := 8) (v := .ref rm) (C := RX6) (T := TX6) (N := 3) hx hb hts zi_X6_mixThings_X6 hown hK (zo_R hR0 hS hAr) 0 rfl rfl 0 (by decide) (hts (.fieldLink RX6 12 "LockRooms" "room" "LLockRooms$Room;") (by decide +kernel)) (fun _ h9 => h9) rfl dX6_mixThings_29 ?_
  refine lv_iload hx hb dX6_mixThings_32 (lv_at hl 1 rfl) ?_
  refine lv_iload hx hb dX6_mixThings_34 (lv_at hl 0 rfl) ?_
  have hPr := ((zo_R hR0 hS hAr)).sub (ws' := [(rm, .inr (5, [.ref lk, .ref th, .ref pl, .ref gm, .int 2, .int 10, .int 0, .int 0, .int 1, .int 0, .int 0, .int 0])), (th, .inl (cT, 12, .inr (.inr (.inr (.inr ft))))), (t1, .inr (7, [.int (-1), .int 0, .int 0, .int 0, .int 0]))]) [1, 3, 7] rfl
  have hPc := hP.sub (ws' := []) [] rfl
  have hDc := hD.sub (ws' := []) [] (by decide) rfl
  have hKc := hK.sub (tys' := [(cT, .object "LockRooms$Thing")]) [1] rfl
  have hFc := va_free (wc := []) hD hS hA [] rfl
  refine va_calli (va_runV (As := [.int 1, .int 0]) (rest := [.long (-6529751803565546689)]) ⟨hx, hb, hml, hown, hts⟩ (cz_QtellThing_1_0 l dC dI ed H23.size rm lk th pl gm cT ft t1 hkt1) (cwV 2 hts gX6_mixThings_X3_tellThing rfl rfl rfl (by decide +kernel) ⟨Nat.le_of_ble_eq_true rfl, Nat.le_of_ble_eq_true rfl⟩) ⟨zb_blind, va_recv hK (zo_R hR0 hS hAr) (ci := 5) (q0 := 1) rfl rfl, fun U hU hW => ⟨rfl, zb_mk hU hW hPr hPc hKc hDc hN hH hS hFc zx_e⟩⟩ rfl rfl hl.1 rfl (lv_room (Nat.le_of_ble_eq_true rfl)) dX6_mixThings_36 ⟨Nat.le_of_ble_eq_true rfl, Nat.le_of_ble_eq_true rfl⟩) hS (fun q _ h => hFc q h) hFc (fun r26 u t H25 locs ht hvm hw hB hz1 hk1 hS => ?_)
  obtain rfl : r26 = (-1) := hw
  have hP := zo_K hP hk1
  have hPr := (zo_nil : va_P (dC, dI) vwCl [] H25)
  have hPc := hP.sub (ws' := []) [] rfl
  have hDc := hD.sub (ws' := []) [] (by decide) rfl
  have hKc := hK.sub (tys' := []) [] rfl
  have hFc := va_free (wc := []) hD hS hA [] rfl
  refine va_calll (va_runS (As := [.long (-6529751803565546689), .int (-1)]) (rest := []) ⟨hx, hb, hml, hown, hts⟩ (cz_X6_mix l dC dI ed H25.size (-6529751803565546689) (-1)) (va_cwS 2 hts gX6_mixThings_X6_mix rfl rfl rfl (by decide +kernel) ⟨Nat.le_of_ble_eq_true rfl, Nat.le_of_ble_eq_true rfl⟩) ⟨zb_blind, fun U hU hW => ⟨rfl, zb_mk hU hW hPr hPc hKc hDc hN hH hS hFc zx_e⟩⟩ rfl rfl hl.1 rfl (lv_room (Nat.le_of_ble_eq_true rfl)) dX6_mixThings_39 ⟨Nat.le_of_ble_eq_true rfl, Nat.le_of_ble_eq_true rfl⟩) hS (fun q _ h => hFc q h) hFc (fun r28 u t H27 locs ht hvm hw hB hz1 hk1 hS => ?_)
  obtain rfl : r28 = 491878900273120416 := hw.trans (by decide +kernel)
  have hP := zo_K hP hk1
  refine lv_lstore_n (lv' := [(3, .long 491878900273120416), (6, .int 0), (5, .int 1), (0, .ref x), (1, .long (-1160429273186388225))]) hx hb dX6_mixThings_42 rfl hl (by decide) rfl (fun ls hl => ?_)
  refine lv_iinc (v := 1) (lv' := [(6, .int 1), (3, .long 491878900273120416), (5, .int 1), (0, .ref x), (1, .long (-1160429273186388225))]) hx hb dX6_mixThings_43 hl (k := 1) rfl (by decide) (by decide) rfl (fun ls hl => ?_)
  refine lv_goto (tgt := 20) hx hb dX6_mixThings_46 (by decide) ?_
  refine lv_iload hx hb dX6_mixThings_20 (lv_at hl 0 rfl) ?_
  refine lv_bipush (v := 6) hx hb dX6_mixThings_22 (by decide) ?_
  refine lv_icmp_ge (tgt := 49) hx hb dX6_mixThings_24 (by decide) (fun h => absurd h (by decide)) (fun _ => ?_)
  refine lv_lload_n hx hb dX6_mixThings_27 rfl (lv_at hl 1 rfl) ?_
  refine lv_aload_n hx hb dX6_mixThings_28 rfl (lv_at hl 3 rfl) ?_
  refine va_get (D := (dC, dI)) (ci := 8) (v := .ref rm) (C := RX6) (T := TX6) (N := 3) hx hb hts zi_X6_mixThings_X6 hown hK (zo_R hR0 hS hAr) 0 rfl rfl 0 (by decide) (hts (.fieldLink RX6 12 "LockRooms" "room" "LLockRooms$Room;") (by decide +kernel)) (fun _ h9 => h9) rfl dX6_mixThings_29 ?_
  refine lv_iload hx hb dX6_mixThings_32 (lv_at hl 2 rfl) ?_
  refine lv_iload hx hb dX6_mixThings_34 (lv_at hl 0 rfl) ?_
  have hPr := ((zo_R hR0 hS hAr)).sub (ws' := [(rm, .inr (5, [.ref lk, .ref th, .ref pl, .ref gm, .int 2, .int 10, .int 0, .int 0, .int 1, .int 0, .int 0, .int 0])), (th, .inl (cT, 12, .inr (.inr (.inr (.inr ft))))), (t1, .inr (7, [.int (-1), .int 0, .int 0, .int 0, .int 0]))]) [1, 3, 7] rfl
  have hPc := hP.sub (ws' := []) [] rfl
  have hDc := hD.sub (ws' := []) [] (by decide) rfl
  have hKc := hK.sub (tys' := [(cT, .object "LockRooms$Thing")]) [1] rfl
  have hFc := va_free (wc := []) hD hS hA [] rfl
  refine va_calli (va_runV (As := [.int 1, .int 1]) (rest := [.long 491878900273120416]) ⟨hx, hb, hml, hown, hts⟩ (cz_QtellThing_1_1 l dC dI ed H27.size rm lk th pl gm cT ft t1 hkt1) (cwV 2 hts gX6_mixThings_X3_tellThing rfl rfl rfl (by decide +kernel) ⟨Nat.le_of_ble_eq_true rfl, Nat.le_of_ble_eq_true rfl⟩) ⟨zb_blind, va_recv hK (zo_R hR0 hS hAr) (ci := 5) (q0 := 1) rfl rfl, fun U hU hW => ⟨rfl, zb_mk hU hW hPr hPc hKc hDc hN hH hS hFc zx_e⟩⟩ rfl rfl hl.1 rfl (lv_room (Nat.le_of_ble_eq_true rfl)) dX6_mixThings_36 ⟨Nat.le_of_ble_eq_true rfl, Nat.le_of_ble_eq_true rfl⟩) hS (fun q _ h => hFc q h) hFc (fun r30 u t H29 locs ht hvm hw hB hz1 hk1 hS => ?_)
  obtain rfl : r30 = 0 := hw
  have hP := zo_K hP hk1
  have hPr := (zo_nil : va_P (dC, dI) vwCl [] H29)
  have hPc := hP.sub (ws' := []) [] rfl
  have hDc := hD.sub (ws' := []) [] (by decide) rfl
  have hKc := hK.sub (tys' := []) [] rfl
  have hFc := va_free (wc := []) hD hS hA [] rfl
  refine va_calll (va_runS (As := [.long 491878900273120416, .int 0]) (rest := []) ⟨hx, hb, hml, hown, hts⟩ (cz_X6_mix l dC dI ed H29.size 491878900273120416 0) (va_cwS 2 hts gX6_mixThings_X6_mix rfl rfl rfl (by decide +kernel) ⟨Nat.le_of_ble_eq_true rfl, Nat.le_of_ble_eq_true rfl⟩) ⟨zb_blind, fun U hU hW => ⟨rfl, zb_mk hU hW hPr hPc hKc hDc hN hH hS hFc zx_e⟩⟩ rfl rfl hl.1 rfl (lv_room (Nat.le_of_ble_eq_true rfl)) dX6_mixThings_39 ⟨Nat.le_of_ble_eq_true rfl, Nat.le_of_ble_eq_true rfl⟩) hS (fun q _ h => hFc q h) hFc (fun r32 u t H31 locs ht hvm hw hB hz1 hk1 hS => ?_)
  obtain rfl : r32 = (-3198498165242818720) := hw.trans (by decide +kernel)
  have hP := zo_K hP hk1
  refine lv_lstore_n (lv' := [(3, .long (-3198498165242818720)), (6, .int 1), (5, .int 1), (0, .ref x), (1, .long (-1160429273186388225))]) hx hb dX6_mixThings_42 rfl hl (by decide) rfl (fun ls hl => ?_)
  refine lv_iinc (v := 2) (lv' := [(6, .int 2), (3, .long (-3198498165242818720)), (5, .int 1), (0, .ref x), (1, .long (-1160429273186388225))]) hx hb dX6_mixThings_43 hl (k := 1) rfl (by decide) (by decide) rfl (fun ls hl => ?_)
  refine lv_goto (tgt := 20) hx hb dX6_mixThings_46 (by decide) ?_
  refine lv_iload hx hb dX6_mixThings_20 (lv_at hl 0 rfl) ?_
  refine lv_bipush (v := 6) hx hb dX6_mixThings_22 (by decide) ?_
  refine lv_icmp_ge (tgt := 49) hx hb dX6_mixThings_24 (by decide) (fun h => absurd h (by decide)) (fun _ => ?_)
  refine lv_lload_n hx hb dX6_mixThings_27 rfl (lv_at hl 1 rfl) ?_
  refine lv_aload_n hx hb dX6_mixThings_28 rfl (lv_at hl 3 rfl) ?_
  refine va_get (D := (dC, dI)) (ci := 8) (v := .ref rm) (C := RX6) (T := TX6) (N := 3) hx hb hts zi_X6_mixThings_X6 hown hK (zo_R hR0 hS hAr) 0 rfl rfl 0 (by decide) (hts (.fieldLink RX6 12 "LockRooms" "room" "LLockRooms$Room;") (by decide +kernel)) (fun _ h9 => h9) rfl dX6_mixThings_29 ?_
  refine lv_iload hx hb dX6_mixThings_32 (lv_at hl 2 rfl) ?_
  refine lv_iload hx hb dX6_mixThings_34 (lv_at hl 0 rfl) ?_
  have hPr := ((zo_R hR0 hS hAr)).sub (ws' := [(rm, .inr (5, [.ref lk, .ref th, .ref pl, .ref gm, .int 2, .int 10, .int 0, .int 0, .int 1, .int 0, .int 0, .int 0])), (th, .inl (cT, 12, .inr (.inr (.inr (.inr ft))))), (t1, .inr (7, [.int (-1), .int 0, .int 0, .int 0, .int 0]))]) [1, 3, 7] rfl
  have hPc := hP.sub (ws' := []) [] rfl
  have hDc := hD.sub (ws' := []) [] (by decide) rfl
  have hKc := hK.sub (tys' := [(cT, .object "LockRooms$Thing")]) [1] rfl
  have hFc := va_free (wc := []) hD hS hA [] rfl
  refine va_calli (va_runV (As := [.int 1, .int 2]) (rest := [.long (-3198498165242818720)]) ⟨hx, hb, hml, hown, hts⟩ (cz_QtellThing_1_2 l dC dI ed H31.size rm lk th pl gm cT ft t1 hkt1) (cwV 2 hts gX6_mixThings_X3_tellThing rfl rfl rfl (by decide +kernel) ⟨Nat.le_of_ble_eq_true rfl, Nat.le_of_ble_eq_true rfl⟩) ⟨zb_blind, va_recv hK (zo_R hR0 hS hAr) (ci := 5) (q0 := 1) rfl rfl, fun U hU hW => ⟨rfl, zb_mk hU hW hPr hPc hKc hDc hN hH hS hFc zx_e⟩⟩ rfl rfl hl.1 rfl (lv_room (Nat.le_of_ble_eq_true rfl)) dX6_mixThings_36 ⟨Nat.le_of_ble_eq_true rfl, Nat.le_of_ble_eq_true rfl⟩) hS (fun q _ h => hFc q h) hFc (fun r34 u t H33 locs ht hvm hw hB hz1 hk1 hS => ?_)
  obtain rfl : r34 = 0 := hw
  have hP := zo_K hP hk1
  have hPr := (zo_nil : va_P (dC, dI) vwCl [] H33)
  have hPc := hP.sub (ws' := []) [] rfl
  have hDc := hD.sub (ws' := []) [] (by decide) rfl
  have hKc := hK.sub (tys' := []) [] rfl
  have hFc := va_free (wc := []) hD hS hA [] rfl
  refine va_calll (va_runS (As := [.long (-3198498165242818720), .int 0]) (rest := []) ⟨hx, hb, hml, hown, hts⟩ (cz_X6_mix l dC dI ed H33.size (-3198498165242818720) 0) (va_cwS 2 hts gX6_mixThings_X6_mix rfl rfl rfl (by decide +kernel) ⟨Nat.le_of_ble_eq_true rfl, Nat.le_of_ble_eq_true rfl⟩) ⟨zb_blind, fun U hU hW => ⟨rfl, zb_mk hU hW hPr hPc hKc hDc hN hH hS hFc zx_e⟩⟩ rfl rfl hl.1 rfl (lv_room (Nat.le_of_ble_eq_true rfl)) dX6_mixThings_39 ⟨Nat.le_of_ble_eq_true rfl, Nat.le_of_ble_eq_true rfl⟩) hS (fun q _ h => hFc q h) hFc (fun r36 u t H35 locs ht hvm hw hB hz1 hk1 hS => ?_)
  obtain rfl : r36 = (-6919722753979622240) := hw.trans (by decide +kernel)
  have hP := zo_K hP hk1
  refine lv_lstore_n (lv' := [(3, .long (-6919722753979622240)), (6, .int 2), (5, .int 1), (0, .ref x), (1, .long (-1160429273186388225))]) hx hb dX6_mixThings_42 rfl hl (by decide) rfl (fun ls hl => ?_)
  refine lv_iinc (v := 3) (lv' := [(6, .int 3), (3, .long (-6919722753979622240)), (5, .int 1), (0, .ref x), (1, .long (-1160429273186388225))]) hx hb dX6_mixThings_43 hl (k := 1) rfl (by decide) (by decide) rfl (fun ls hl => ?_)
  refine lv_goto (tgt := 20) hx hb dX6_mixThings_46 (by decide) ?_
  refine lv_iload hx hb dX6_mixThings_20 (lv_at hl 0 rfl) ?_
  refine lv_bipush (v := 6) hx hb dX6_mixThings_22 (by decide) ?_
  refine lv_icmp_ge (tgt := 49) hx hb dX6_mixThings_24 (by decide) (fun h => absurd h (by decide)) (fun _ => ?_)
  refine lv_lload_n hx hb dX6_mixThings_27 rfl (lv_at hl 1 rfl) ?_
  refine lv_aload_n hx hb dX6_mixThings_28 rfl (lv_at hl 3 rfl) ?_
  refine va_get (D := (dC, dI)) (ci := 8) (v := .ref rm) (C := RX6) (T := TX6) (N := 3) hx hb hts zi_X6_mixThings_X6 hown hK (zo_R hR0 hS hAr) 0 rfl rfl 0 (by decide) (hts (.fieldLink RX6 12 "LockRooms" "room" "LLockRooms$Room;") (by decide +kernel)) (fun _ h9 => h9) rfl dX6_mixThings_29 ?_
  refine lv_iload hx hb dX6_mixThings_32 (lv_at hl 2 rfl) ?_
  refine lv_iload hx hb dX6_mixThings_34 (lv_at hl 0 rfl) ?_
  have hPr := ((zo_R hR0 hS hAr)).sub (ws' := [(rm, .inr (5, [.ref lk, .ref th, .ref pl, .ref gm, .int 2, .int 10, .int 0, .int 0, .int 1, .int 0, .int 0, .int 0])), (th, .inl (cT, 12, .inr (.inr (.inr (.inr ft))))), (t1, .inr (7, [.int (-1), .int 0, .int 0, .int 0, .int 0]))]) [1, 3, 7] rfl
  have hPc := hP.sub (ws' := []) [] rfl
  have hDc := hD.sub (ws' := []) [] (by decide) rfl
  have hKc := hK.sub (tys' := [(cT, .object "LockRooms$Thing")]) [1] rfl
  have hFc := va_free (wc := []) hD hS hA [] rfl
  refine va_calli (va_runV (As := [.int 1, .int 3]) (rest := [.long (-6919722753979622240)]) ⟨hx, hb, hml, hown, hts⟩ (cz_QtellThing_1_3 l dC dI ed H35.size rm lk th pl gm cT ft t1 hkt1) (cwV 2 hts gX6_mixThings_X3_tellThing rfl rfl rfl (by decide +kernel) ⟨Nat.le_of_ble_eq_true rfl, Nat.le_of_ble_eq_true rfl⟩) ⟨zb_blind, va_recv hK (zo_R hR0 hS hAr) (ci := 5) (q0 := 1) rfl rfl, fun U hU hW => ⟨rfl, zb_mk hU hW hPr hPc hKc hDc hN hH hS hFc zx_e⟩⟩ rfl rfl hl.1 rfl (lv_room (Nat.le_of_ble_eq_true rfl)) dX6_mixThings_36 ⟨Nat.le_of_ble_eq_true rfl, Nat.le_of_ble_eq_true rfl⟩) hS (fun q _ h => hFc q h) hFc (fun r38 u t H37 locs ht hvm hw hB hz1 hk1 hS => ?_)
  obtain rfl : r38 = 0 := hw
  have hP := zo_K hP hk1
  have hPr := (zo_nil : va_P (dC, dI) vwCl [] H37)
  have hPc := hP.sub (ws' := []) [] rfl
  have hDc := hD.sub (ws' := []) [] (by decide) rfl
  have hKc := hK.sub (tys' := []) [] rfl
  have hFc := va_free (wc := []) hD hS hA [] rfl
  refine va_calll (va_runS (As := [.long (-6919722753979622240), .int 0]) (rest := []) ⟨hx, hb, hml, hown, hts⟩ (cz_X6_mix l dC dI ed H37.size (-6919722753979622240) 0) (va_cwS 2 hts gX6_mixThings_X6_mix rfl rfl rfl (by decide +kernel) ⟨Nat.le_of_ble_eq_true rfl, Nat.le_of_ble_eq_true rfl⟩) ⟨zb_blind, fun U hU hW => ⟨rfl, zb_mk hU hW hPr hPc hKc hDc hN hH hS hFc zx_e⟩⟩ rfl rfl hl.1 rfl (lv_room (Nat.le_of_ble_eq_true rfl)) dX6_mixThings_39 ⟨Nat.le_of_ble_eq_true rfl, Nat.le_of_ble_eq_true rfl⟩) hS (fun q _ h => hFc q h) hFc (fun r40 u t H39 locs ht hvm hw hB hz1 hk1 hS => ?_)
  obtain rfl : r40 = 6849523511146329952 := hw.trans (by decide +kernel)
  have hP := zo_K hP hk1
  refine lv_lstore_n (lv' := [(3, .long 6849523511146329952), (6, .int 3), (5, .int 1), (0, .ref x), (1, .long (-1160429273186388225))]) hx hb dX6_mixThings_42 rfl hl (by decide) rfl (fun ls hl => ?_)
  refine lv_iinc (v := 4) (lv' := [(6, .int 4), (3, .long 6849523511146329952), (5, .int 1), (0, .ref x), (1, .long (-1160429273186388225))]) hx hb dX6_mixThings_43 hl (k := 1) rfl (by decide) (by decide) rfl (fun ls hl => ?_)
  refine lv_goto (tgt := 20) hx hb dX6_mixThings_46 (by decide) ?_
  refine lv_iload hx hb dX6_mixThings_20 (lv_at hl 0 rfl) ?_
  refine lv_bipush (v := 6) hx hb dX6_mixThings_22 (by decide) ?_
  refine lv_icmp_ge (tgt := 49) hx hb dX6_mixThings_24 (by decide) (fun h => absurd h (by decide)) (fun _ => ?_)
  refine lv_lload_n hx hb dX6_mixThings_27 rfl (lv_at hl 1 rfl) ?_
  refine lv_aload_n hx hb dX6_mixThings_28 rfl (lv_at hl 3 rfl) ?_
  refine va_get (D := (dC, dI)) (ci := 8) (v := .ref rm) (C := RX6) (T := TX6) (N := 3) hx hb hts zi_X6_mixThings_X6 hown hK (zo_R hR0 hS hAr) 0 rfl rfl 0 (by decide) (hts (.fieldLink RX6 12 "LockRooms" "room" "LLockRooms$Room;") (by decide +kernel)) (fun _ h9 => h9) rfl dX6_mixThings_29 ?_
  refine lv_iload hx hb dX6_mixThings_32 (lv_at hl 2 rfl) ?_
  refine lv_iload hx hb dX6_mixThings_34 (lv_at hl 0 rfl) ?_
  have hPr := ((zo_R hR0 hS hAr)).sub (ws' := [(rm, .inr (5, [.ref lk, .ref th, .ref pl, .ref gm, .int 2, .int 10, .int 0, .int 0, .int 1, .int 0, .int 0, .int 0])), (th, .inl (cT, 12, .inr (.inr (.inr (.inr ft))))), (t1, .inr (7, [.int (-1), .int 0, .int 0, .int 0, .int 0])), (lk, .inl (cL, 10, .inr (.inr (.inr (.inr fl))))), (l0, .inr (3, [.int 0, .int 0, .int 60, .int 0, .int 0, .int 0, .int 0, .int 0, .int 0, .int 0])), (l1, .inr (3, [.int 0, .int 0, .int 60, .int 0, .int 0, .int 0, .int 0, .int 0, .int 0, .int 0]))]) [1, 3, 7, 2, 4, 5] rfl
  have hPc := hP.sub (ws' := []) [] rfl
  have hDc := hD.sub (ws' := []) [] (by decide) rfl
  have hKc := hK.sub (tys' := [(cT, .object "LockRooms$Thing"), (cL, .object "LockRooms$Lock")]) [1, 0] rfl
  have hFc := va_free (wc := []) hD hS hA [] rfl
  refine va_calli (va_runV (As := [.int 1, .int 4]) (rest := [.long 6849523511146329952]) ⟨hx, hb, hml, hown, hts⟩ (cz_QtellThing_1_4 l dC dI ed H39.size rm lk th pl gm cT ft t1 cL fl l0 l1 hkt1 hkl0 hkl1) (cwV 2 hts gX6_mixThings_X3_tellThing rfl rfl rfl (by decide +kernel) ⟨Nat.le_of_ble_eq_true rfl, Nat.le_of_ble_eq_true rfl⟩) ⟨zb_blind, va_recv hK (zo_R hR0 hS hAr) (ci := 5) (q0 := 1) rfl rfl, fun U hU hW => ⟨rfl, zb_mk hU hW hPr hPc hKc hDc hN hH hS hFc zx_e⟩⟩ rfl rfl hl.1 rfl (lv_room (Nat.le_of_ble_eq_true rfl)) dX6_mixThings_36 ⟨Nat.le_of_ble_eq_true rfl, Nat.le_of_ble_eq_true rfl⟩) hS (fun q _ h => hFc q h) hFc (fun r42 u t H41 locs ht hvm hw hB hz1 hk1 hS => ?_)
  obtain rfl : r42 = 1 := hw
  have hP := zo_K hP hk1
  have hPr := (zo_nil : va_P (dC, dI) vwCl [] H41)
  have hPc := hP.sub (ws' := []) [] rfl
  have hDc := hD.sub (ws' := []) [] (by decide) rfl
  have hKc := hK.sub (tys' := []) [] rfl
  have hFc := va_free (wc := []) hD hS hA [] rfl
  refine va_calll (va_runS (As := [.long 6849523511146329952, .int 1]) (rest := []) ⟨hx, hb, hml, hown, hts⟩ (cz_X6_mix l dC dI ed H41.size 6849523511146329952 1) (va_cwS 2 hts gX6_mixThings_X6_mix rfl rfl rfl (by decide +kernel) ⟨Nat.le_of_ble_eq_true rfl, Nat.le_of_ble_eq_true rfl⟩) ⟨zb_blind, fun U hU hW => ⟨rfl, zb_mk hU hW hPr hPc hKc hDc hN hH hS hFc zx_e⟩⟩ rfl rfl hl.1 rfl (lv_room (Nat.le_of_ble_eq_true rfl)) dX6_mixThings_39 ⟨Nat.le_of_ble_eq_true rfl, Nat.le_of_ble_eq_true rfl⟩) hS (fun q _ h => hFc q h) hFc (fun r44 u t H43 locs ht hvm hw hB hz1 hk1 hS => ?_)
  obtain rfl : r44 = (-9025700038978390879) := hw.trans (by decide +kernel)
  have hP := zo_K hP hk1
  refine lv_lstore_n (lv' := [(3, .long (-9025700038978390879)), (6, .int 4), (5, .int 1), (0, .ref x), (1, .long (-1160429273186388225))]) hx hb dX6_mixThings_42 rfl hl (by decide) rfl (fun ls hl => ?_)
  refine lv_iinc (v := 5) (lv' := [(6, .int 5), (3, .long (-9025700038978390879)), (5, .int 1), (0, .ref x), (1, .long (-1160429273186388225))]) hx hb dX6_mixThings_43 hl (k := 1) rfl (by decide) (by decide) rfl (fun ls hl => ?_)
  refine lv_goto (tgt := 20) hx hb dX6_mixThings_46 (by decide) ?_
  refine lv_iload hx hb dX6_mixThings_20 (lv_at hl 0 rfl) ?_
  refine lv_bipush (v := 6) hx hb dX6_mixThings_22 (by decide) ?_
  refine lv_icmp_ge (tgt := 49) hx hb dX6_mixThings_24 (by decide) (fun h => absurd h (by decide)) (fun _ => ?_)
  refine lv_lload_n hx hb dX6_mixThings_27 rfl (lv_at hl 1 rfl) ?_
  refine lv_aload_n hx hb dX6_mixThings_28 rfl (lv_at hl 3 rfl) ?_
  refine va_get (D := (dC, dI)) (ci := 8) (v := .ref rm) (C := RX6) (T := TX6) (N := 3) hx hb hts zi_X6_mixThings_X6 hown hK (zo_R hR0 hS hAr) 0 rfl rfl 0 (by decide) (hts (.fieldLink RX6 12 "LockRooms" "room" "LLockRooms$Room;") (by decide +kernel)) (fun _ h9 => h9) rfl dX6_mixThings_29 ?_
  refine lv_iload hx hb dX6_mixThings_32 (lv_at hl 2 rfl) ?_
  refine lv_iload hx hb dX6_mixThings_34 (lv_at hl 0 rfl) ?_
  have hPr := ((zo_R hR0 hS hAr)).sub (ws' := [(rm, .inr (5, [.ref lk, .ref th, .ref pl, .ref gm, .int 2, .int 10, .int 0, .int 0, .int 1, .int 0, .int 0, .int 0])), (th, .inl (cT, 12, .inr (.inr (.inr (.inr ft))))), (t1, .inr (7, [.int (-1), .int 0, .int 0, .int 0, .int 0])), (lk, .inl (cL, 10, .inr (.inr (.inr (.inr fl))))), (l0, .inr (3, [.int 0, .int 0, .int 60, .int 0, .int 0, .int 0, .int 0, .int 0, .int 0, .int 0])), (l1, .inr (3, [.int 0, .int 0, .int 60, .int 0, .int 0, .int 0, .int 0, .int 0, .int 0, .int 0]))]) [1, 3, 7, 2, 4, 5] rfl
  have hPc := hP.sub (ws' := []) [] rfl
  have hDc := hD.sub (ws' := []) [] (by decide) rfl
  have hKc := hK.sub (tys' := [(cT, .object "LockRooms$Thing"), (cL, .object "LockRooms$Lock")]) [1, 0] rfl
  have hFc := va_free (wc := []) hD hS hA [] rfl
  refine va_calli (va_runV (As := [.int 1, .int 5]) (rest := [.long (-9025700038978390879)]) ⟨hx, hb, hml, hown, hts⟩ (cz_QtellThing_1_5 l dC dI ed H43.size rm lk th pl gm cT ft t1 cL fl l0 l1 hkt1 hkl0 hkl1) (cwV 2 hts gX6_mixThings_X3_tellThing rfl rfl rfl (by decide +kernel) ⟨Nat.le_of_ble_eq_true rfl, Nat.le_of_ble_eq_true rfl⟩) ⟨zb_blind, va_recv hK (zo_R hR0 hS hAr) (ci := 5) (q0 := 1) rfl rfl, fun U hU hW => ⟨rfl, zb_mk hU hW hPr hPc hKc hDc hN hH hS hFc zx_e⟩⟩ rfl rfl hl.1 rfl (lv_room (Nat.le_of_ble_eq_true rfl)) dX6_mixThings_36 ⟨Nat.le_of_ble_eq_true rfl, Nat.le_of_ble_eq_true rfl⟩) hS (fun q _ h => hFc q h) hFc (fun r46 u t H45 locs ht hvm hw hB hz1 hk1 hS => ?_)
  obtain rfl : r46 = 0 := hw
  have hP := zo_K hP hk1
  have hPr := (zo_nil : va_P (dC, dI) vwCl [] H45)
  have hPc := hP.sub (ws' := []) [] rfl
  have hDc := hD.sub (ws' := []) [] (by decide) rfl
  have hKc := hK.sub (tys' := []) [] rfl
  have hFc := va_free (wc := []) hD hS hA [] rfl
  refine va_calll (va_runS (As := [.long (-9025700038978390879), .int 0]) (rest := []) ⟨hx, hb, hml, hown, hts⟩ (cz_X6_mix l dC dI ed H45.size (-9025700038978390879) 0) (va_cwS 2 hts gX6_mixThings_X6_mix rfl rfl rfl (by decide +kernel) ⟨Nat.le_of_ble_eq_true rfl, Nat.le_of_ble_eq_true rfl⟩) ⟨zb_blind, fun U hU hW => ⟨rfl, zb_mk hU hW hPr hPc hKc hDc hN hH hS hFc zx_e⟩⟩ rfl rfl hl.1 rfl (lv_room (Nat.le_of_ble_eq_true rfl)) dX6_mixThings_39 ⟨Nat.le_of_ble_eq_true rfl, Nat.le_of_ble_eq_true rfl⟩) hS (fun q _ h => hFc q h) hFc (fun r48 u t H47 locs ht hvm hw hB hz1 hk1 hS => ?_)
  obtain rfl : r48 = (-3095540102686843009) := hw.trans (by decide +kernel)
  have hP := zo_K hP hk1
  refine lv_lstore_n (lv' := [(3, .long (-3095540102686843009)), (6, .int 5), (5, .int 1), (0, .ref x), (1, .long (-1160429273186388225))]) hx hb dX6_mixThings_42 rfl hl (by decide) rfl (fun ls hl => ?_)
  refine lv_iinc (v := 6) (lv' := [(6, .int 6), (3, .long (-3095540102686843009)), (5, .int 1), (0, .ref x), (1, .long (-1160429273186388225))]) hx hb dX6_mixThings_43 hl (k := 1) rfl (by decide) (by decide) rfl (fun ls hl => ?_)
  refine lv_goto (tgt := 20) hx hb dX6_mixThings_46 (by decide) ?_
  refine lv_iload hx hb dX6_mixThings_20 (lv_at hl 0 rfl) ?_
  refine lv_bipush (v := 6) hx hb dX6_mixThings_22 (by decide) ?_
  refine lv_icmp_ge (tgt := 49) hx hb dX6_mixThings_24 (by decide) (fun _ => ?_) (fun h => absurd h (by decide))
  refine lv_iinc (v := 2) (lv' := [(5, .int 2), (6, .int 6), (3, .long (-3095540102686843009)), (0, .ref x), (1, .long (-1160429273186388225))]) hx hb dX6_mixThings_49 hl (k := 2) rfl (by decide) (by decide) rfl (fun ls hl => ?_)
  refine lv_goto (tgt := 5) hx hb dX6_mixThings_52 (by decide) ?_
  refine lv_iload hx hb dX6_mixThings_5 (lv_at hl 0 rfl) ?_
  refine lv_aload_n hx hb dX6_mixThings_7 rfl (lv_at hl 3 rfl) ?_
  refine va_get (D := (dC, dI)) (ci := 8) (v := .ref rm) (C := RX6) (T := TX6) (N := 3) hx hb hts zi_X6_mixThings_X6 hown hK (zo_R hR0 hS hAr) 0 rfl rfl 0 (by decide) (hts (.fieldLink RX6 12 "LockRooms" "room" "LLockRooms$Room;") (by decide +kernel)) (fun _ h9 => h9) rfl dX6_mixThings_8 ?_
  refine va_get (D := (dC, dI)) (ci := 5) (v := .int 10) (C := RX3) (T := TX3) (N := 12) hx hb hts zi_X6_mixThings_X3 hown hK (zo_R hR0 hS hAr) 1 rfl rfl 5 (by decide) (hts (.fieldLink RX6 71 "LockRooms$Room" "thingCount" "I") (by decide +kernel)) (fun _ h9 => h9) rfl dX6_mixThings_11 ?_
  refine lv_icmp_ge (tgt := 55) hx hb dX6_mixThings_14 (by decide) (fun h => absurd h (by decide)) (fun _ => ?_)
  refine lv_iconst (v := 0) hx hb dX6_mixThings_17 (by decide) ?_
  refine lv_istore (lv' := [(6, .int 0), (5, .int 2), (3, .long (-3095540102686843009)), (0, .ref x), (1, .long (-1160429273186388225))]) hx hb dX6_mixThings_18 hl (by decide) rfl (fun ls hl => ?_)
  refine lv_iload hx hb dX6_mixThings_20 (lv_at hl 0 rfl) ?_
  refine lv_bipush (v := 6) hx hb dX6_mixThings_22 (by decide) ?_
  refine lv_icmp_ge (tgt := 49) hx hb dX6_mixThings_24 (by decide) (fun h => absurd h (by decide)) (fun _ => ?_)
  refine lv_lload_n hx hb dX6_mixThings_27 rfl (lv_at hl 2 rfl) ?_
  refine lv_aload_n hx hb dX6_mixThings_28 rfl (lv_at hl 3 rfl) ?_
  refine va_get (D := (dC, dI)) (ci := 8) (v := .ref rm) (C := RX6) (T := TX6) (N := 3) hx hb hts zi_X6_mixThings_X6 hown hK (zo_R hR0 hS hAr) 0 rfl rfl 0 (by decide) (hts (.fieldLink RX6 12 "LockRooms" "room" "LLockRooms$Room;") (by decide +kernel)) (fun _ h9 => h9) rfl dX6_mixThings_29 ?_
  refine lv_iload hx hb dX6_mixThings_32 (lv_at hl 1 rfl) ?_
  refine lv_iload hx hb dX6_mixThings_34 (lv_at hl 0 rfl) ?_
  have hPr := ((zo_R hR0 hS hAr)).sub (ws' := [(rm, .inr (5, [.ref lk, .ref th, .ref pl, .ref gm, .int 2, .int 10, .int 0, .int 0, .int 1, .int 0, .int 0, .int 0])), (th, .inl (cT, 12, .inr (.inr (.inr (.inr ft))))), (t2, .inr (7, [.int (-1), .int 0, .int 0, .int 0, .int 0]))]) [1, 3, 8] rfl
  have hPc := hP.sub (ws' := []) [] rfl
  have hDc := hD.sub (ws' := []) [] (by decide) rfl
  have hKc := hK.sub (tys' := [(cT, .object "LockRooms$Thing")]) [1] rfl
  have hFc := va_free (wc := []) hD hS hA [] rfl
  refine va_calli (va_runV (As := [.int 2, .int 0]) (rest := [.long (-3095540102686843009)]) ⟨hx, hb, hml, hown, hts⟩ (cz_QtellThing_2_0 l dC dI ed H47.size rm lk th pl gm cT ft t2 hkt2) (cwV 2 hts gX6_mixThings_X3_tellThing rfl rfl rfl (by decide +kernel) ⟨Nat.le_of_ble_eq_true rfl, Nat.le_of_ble_eq_true rfl⟩) ⟨zb_blind, va_recv hK (zo_R hR0 hS hAr) (ci := 5) (q0 := 1) rfl rfl, fun U hU hW => ⟨rfl, zb_mk hU hW hPr hPc hKc hDc hN hH hS hFc zx_e⟩⟩ rfl rfl hl.1 rfl (lv_room (Nat.le_of_ble_eq_true rfl)) dX6_mixThings_36 ⟨Nat.le_of_ble_eq_true rfl, Nat.le_of_ble_eq_true rfl⟩) hS (fun q _ h => hFc q h) hFc (fun r50 u t H49 locs ht hvm hw hB hz1 hk1 hS => ?_)
  obtain rfl : r50 = (-1) := hw
  have hP := zo_K hP hk1
  have hPr := (zo_nil : va_P (dC, dI) vwCl [] H49)
  have hPc := hP.sub (ws' := []) [] rfl
  have hDc := hD.sub (ws' := []) [] (by decide) rfl
  have hKc := hK.sub (tys' := []) [] rfl
  have hFc := va_free (wc := []) hD hS hA [] rfl
  refine va_calll (va_runS (As := [.long (-3095540102686843009), .int (-1)]) (rest := []) ⟨hx, hb, hml, hown, hts⟩ (cz_X6_mix l dC dI ed H49.size (-3095540102686843009) (-1)) (va_cwS 2 hts gX6_mixThings_X6_mix rfl rfl rfl (by decide +kernel) ⟨Nat.le_of_ble_eq_true rfl, Nat.le_of_ble_eq_true rfl⟩) ⟨zb_blind, fun U hU hW => ⟨rfl, zb_mk hU hW hPr hPc hKc hDc hN hH hS hFc zx_e⟩⟩ rfl rfl hl.1 rfl (lv_room (Nat.le_of_ble_eq_true rfl)) dX6_mixThings_39 ⟨Nat.le_of_ble_eq_true rfl, Nat.le_of_ble_eq_true rfl⟩) hS (fun q _ h => hFc q h) hFc (fun r52 u t H51 locs ht hvm hw hB hz1 hk1 hS => ?_)
  obtain rfl : r52 = (-3728022814744375200) := hw.trans (by decide +kernel)
  have hP := zo_K hP hk1
  refine lv_lstore_n (lv' := [(3, .long (-3728022814744375200)), (6, .int 0), (5, .int 2), (0, .ref x), (1, .long (-1160429273186388225))]) hx hb dX6_mixThings_42 rfl hl (by decide) rfl (fun ls hl => ?_)
  refine lv_iinc (v := 1) (lv' := [(6, .int 1), (3, .long (-3728022814744375200)), (5, .int 2), (0, .ref x), (1, .long (-1160429273186388225))]) hx hb dX6_mixThings_43 hl (k := 1) rfl (by decide) (by decide) rfl (fun ls hl => ?_)
  refine lv_goto (tgt := 20) hx hb dX6_mixThings_46 (by decide) ?_
  refine lv_iload hx hb dX6_mixThings_20 (lv_at hl 0 rfl) ?_
  refine lv_bipush (v := 6) hx hb dX6_mixThings_22 (by decide) ?_
  refine lv_icmp_ge (tgt := 49) hx hb dX6_mixThings_24 (by decide) (fun h => absurd h (by decide)) (fun _ => ?_)
  refine lv_lload_n hx hb dX6_mixThings_27 rfl (lv_at hl 1 rfl) ?_
  refine lv_aload_n hx hb dX6_mixThings_28 rfl (lv_at hl 3 rfl) ?_
  refine va_get (D := (dC, dI)) (ci := 8) (v := .ref rm) (C := RX6) (T := TX6) (N := 3) hx hb hts zi_X6_mixThings_X6 hown hK (zo_R hR0 hS hAr) 0 rfl rfl 0 (by decide) (hts (.fieldLink RX6 12 "LockRooms" "room" "LLockRooms$Room;") (by decide +kernel)) (fun _ h9 => h9) rfl dX6_mixThings_29 ?_
  refine lv_iload hx hb dX6_mixThings_32 (lv_at hl 2 rfl) ?_
  refine lv_iload hx hb dX6_mixThings_34 (lv_at hl 0 rfl) ?_
  have hPr := ((zo_R hR0 hS hAr)).sub (ws' := [(rm, .inr (5, [.ref lk, .ref th, .ref pl, .ref gm, .int 2, .int 10, .int 0, .int 0, .int 1, .int 0, .int 0, .int 0])), (th, .inl (cT, 12, .inr (.inr (.inr (.inr ft))))), (t2, .inr (7, [.int (-1), .int 0, .int 0, .int 0, .int 0]))]) [1, 3, 8] rfl
  have hPc := hP.sub (ws' := []) [] rfl
  have hDc := hD.sub (ws' := []) [] (by decide) rfl
  have hKc := hK.sub (tys' := [(cT, .object "LockRooms$Thing")]) [1] rfl
  have hFc := va_free (wc := []) hD hS hA [] rfl
  refine va_calli (va_runV (As := [.int 2, .int 1]) (rest := [.long (-3728022814744375200)]) ⟨hx, hb, hml, hown, hts⟩ (cz_QtellThing_2_1 l dC dI ed H51.size rm lk th pl gm cT ft t2 hkt2) (cwV 2 hts gX6_mixThings_X3_tellThing rfl rfl rfl (by decide +kernel) ⟨Nat.le_of_ble_eq_true rfl, Nat.le_of_ble_eq_true rfl⟩) ⟨zb_blind, va_recv hK (zo_R hR0 hS hAr) (ci := 5) (q0 := 1) rfl rfl, fun U hU hW => ⟨rfl, zb_mk hU hW hPr hPc hKc hDc hN hH hS hFc zx_e⟩⟩ rfl rfl hl.1 rfl (lv_room (Nat.le_of_ble_eq_true rfl)) dX6_mixThings_36 ⟨Nat.le_of_ble_eq_true rfl, Nat.le_of_ble_eq_true rfl⟩) hS (fun q _ h => hFc q h) hFc (fun r54 u t H53 locs ht hvm hw hB hz1 hk1 hS => ?_)
  obtain rfl : r54 = 0 := hw
  have hP := zo_K hP hk1
  have hPr := (zo_nil : va_P (dC, dI) vwCl [] H53)
  have hPc := hP.sub (ws' := []) [] rfl
  have hDc := hD.sub (ws' := []) [] (by decide) rfl
  have hKc := hK.sub (tys' := []) [] rfl
  have hFc := va_free (wc := []) hD hS hA [] rfl
  refine va_calll (va_runS (As := [.long (-3728022814744375200), .int 0]) (rest := []) ⟨hx, hb, hml, hown, hts⟩ (cz_X6_mix l dC dI ed H53.size (-3728022814744375200) 0) (va_cwS 2 hts gX6_mixThings_X6_mix rfl rfl rfl (by decide +kernel) ⟨Nat.le_of_ble_eq_true rfl, Nat.le_of_ble_eq_true rfl⟩) ⟨zb_blind, fun U hU hW => ⟨rfl, zb_mk hU hW hPr hPc hKc hDc hN hH hS hFc zx_e⟩⟩ rfl rfl hl.1 rfl (lv_room (Nat.le_of_ble_eq_true rfl)) dX6_mixThings_39 ⟨Nat.le_of_ble_eq_true rfl, Nat.le_of_ble_eq_true rfl⟩) hS (fun q _ h => hFc q h) hFc (fun r56 u t H55 locs ht hvm hw hB hz1 hk1 hS => ?_)
  obtain rfl : r56 = (-4888242814818321504) := hw.trans (by decide +kernel)
  have hP := zo_K hP hk1
  refine lv_lstore_n (lv' := [(3, .long (-4888242814818321504)), (6, .int 1), (5, .int 2), (0, .ref x), (1, .long (-1160429273186388225))]) hx hb dX6_mixThings_42 rfl hl (by decide) rfl (fun ls hl => ?_)
  refine lv_iinc (v := 2) (lv' := [(6, .int 2), (3, .long (-4888242814818321504)), (5, .int 2), (0, .ref x), (1, .long (-1160429273186388225))]) hx hb dX6_mixThings_43 hl (k := 1) rfl (by decide) (by decide) rfl (fun ls hl => ?_)
  refine lv_goto (tgt := 20) hx hb dX6_mixThings_46 (by decide) ?_
  refine lv_iload hx hb dX6_mixThings_20 (lv_at hl 0 rfl) ?_
  refine lv_bipush (v := 6) hx hb dX6_mixThings_22 (by decide) ?_
  refine lv_icmp_ge (tgt := 49) hx hb dX6_mixThings_24 (by decide) (fun h => absurd h (by decide)) (fun _ => ?_)
  refine lv_lload_n hx hb dX6_mixThings_27 rfl (lv_at hl 1 rfl) ?_
  refine lv_aload_n hx hb dX6_mixThings_28 rfl (lv_at hl 3 rfl) ?_
  refine va_get (D := (dC, dI)) (ci := 8) (v := .ref rm) (C := RX6) (T := TX6) (N := 3) hx hb hts zi_X6_mixThings_X6 hown hK (zo_R hR0 hS hAr) 0 rfl rfl 0 (by decide) (hts (.fieldLink RX6 12 "LockRooms" "room" "LLockRooms$Room;") (by decide +kernel)) (fun _ h9 => h9) rfl dX6_mixThings_29 ?_
  refine lv_iload hx hb dX6_mixThings_32 (lv_at hl 2 rfl) ?_
  refine lv_iload hx hb dX6_mixThings_34 (lv_at hl 0 rfl) ?_
  have hPr := ((zo_R hR0 hS hAr)).sub (ws' := [(rm, .inr (5, [.ref lk, .ref th, .ref pl, .ref gm, .int 2, .int 10, .int 0, .int 0, .int 1, .int 0, .int 0, .int 0])), (th, .inl (cT, 12, .inr (.inr (.inr (.inr ft))))), (t2, .inr (7, [.int (-1), .int 0, .int 0, .int 0, .int 0]))]) [1, 3, 8] rfl
  have hPc := hP.sub (ws' := []) [] rfl
  have hDc := hD.sub (ws' := []) [] (by decide) rfl
  have hKc := hK.sub (tys' := [(cT, .object "LockRooms$Thing")]) [1] rfl
  have hFc := va_free (wc := []) hD hS hA [] rfl
  refine va_calli (va_runV (As := [.int 2, .int 2]) (rest := [.long (-4888242814818321504)]) ⟨hx, hb, hml, hown, hts⟩ (cz_QtellThing_2_2 l dC dI ed H55.size rm lk th pl gm cT ft t2 hkt2) (cwV 2 hts gX6_mixThings_X3_tellThing rfl rfl rfl (by decide +kernel) ⟨Nat.le_of_ble_eq_true rfl, Nat.le_of_ble_eq_true rfl⟩) ⟨zb_blind, va_recv hK (zo_R hR0 hS hAr) (ci := 5) (q0 := 1) rfl rfl, fun U hU hW => ⟨rfl, zb_mk hU hW hPr hPc hKc hDc hN hH hS hFc zx_e⟩⟩ rfl rfl hl.1 rfl (lv_room (Nat.le_of_ble_eq_true rfl)) dX6_mixThings_36 ⟨Nat.le_of_ble_eq_true rfl, Nat.le_of_ble_eq_true rfl⟩) hS (fun q _ h => hFc q h) hFc (fun r58 u t H57 locs ht hvm hw hB hz1 hk1 hS => ?_)
  obtain rfl : r58 = 0 := hw
  have hP := zo_K hP hk1
  have hPr := (zo_nil : va_P (dC, dI) vwCl [] H57)
  have hPc := hP.sub (ws' := []) [] rfl
  have hDc := hD.sub (ws' := []) [] (by decide) rfl
  have hKc := hK.sub (tys' := []) [] rfl
  have hFc := va_free (wc := []) hD hS hA [] rfl
  refine va_calll (va_runS (As := [.long (-4888242814818321504), .int 0]) (rest := []) ⟨hx, hb, hml, hown, hts⟩ (cz_X6_mix l dC dI ed H57.size (-4888242814818321504) 0) (va_cwS 2 hts gX6_mixThings_X6_mix rfl rfl rfl (by decide +kernel) ⟨Nat.le_of_ble_eq_true rfl, Nat.le_of_ble_eq_true rfl⟩) ⟨zb_blind, fun U hU hW => ⟨rfl, zb_mk hU hW hPr hPc hKc hDc hN hH hS hFc zx_e⟩⟩ rfl rfl hl.1 rfl (lv_room (Nat.le_of_ble_eq_true rfl)) dX6_mixThings_39 ⟨Nat.le_of_ble_eq_true rfl, Nat.le_of_ble_eq_true rfl⟩) hS (fun q _ h => hFc q h) hFc (fun r60 u t H59 locs ht hvm hw hB hz1 hk1 hS => ?_)
  obtain rfl : r60 = (-3961574669691553696) := hw.trans (by decide +kernel)
  have hP := zo_K hP hk1
  refine lv_lstore_n (lv' := [(3, .long (-3961574669691553696)), (6, .int 2), (5, .int 2), (0, .ref x), (1, .long (-1160429273186388225))]) hx hb dX6_mixThings_42 rfl hl (by decide) rfl (fun ls hl => ?_)
  refine lv_iinc (v := 3) (lv' := [(6, .int 3), (3, .long (-3961574669691553696)), (5, .int 2), (0, .ref x), (1, .long (-1160429273186388225))]) hx hb dX6_mixThings_43 hl (k := 1) rfl (by decide) (by decide) rfl (fun ls hl => ?_)
  refine lv_goto (tgt := 20) hx hb dX6_mixThings_46 (by decide) ?_
  refine lv_iload hx hb dX6_mixThings_20 (lv_at hl 0 rfl) ?_
  refine lv_bipush (v := 6) hx hb dX6_mixThings_22 (by decide) ?_
  refine lv_icmp_ge (tgt := 49) hx hb dX6_mixThings_24 (by decide) (fun h => absurd h (by decide)) (fun _ => ?_)
  refine lv_lload_n hx hb dX6_mixThings_27 rfl (lv_at hl 1 rfl) ?_
  refine lv_aload_n hx hb dX6_mixThings_28 rfl (lv_at hl 3 rfl) ?_
  refine va_get (D := (dC, dI)) (ci := 8) (v := .ref rm) (C := RX6) (T := TX6) (N := 3) hx hb hts zi_X6_mixThings_X6 hown hK (zo_R hR0 hS hAr) 0 rfl rfl 0 (by decide) (hts (.fieldLink RX6 12 "LockRooms" "room" "LLockRooms$Room;") (by decide +kernel)) (fun _ h9 => h9) rfl dX6_mixThings_29 ?_
  refine lv_iload hx hb dX6_mixThings_32 (lv_at hl 2 rfl) ?_
  refine lv_iload hx hb dX6_mixThings_34 (lv_at hl 0 rfl) ?_
  have hPr := ((zo_R hR0 hS hAr)).sub (ws' := [(rm, .inr (5, [.ref lk, .ref th, .ref pl, .ref gm, .int 2, .int 10, .int 0, .int 0, .int 1, .int 0, .int 0, .int 0])), (th, .inl (cT, 12, .inr (.inr (.inr (.inr ft))))), (t2, .inr (7, [.int (-1), .int 0, .int 0, .int 0, .int 0]))]) [1, 3, 8] rfl
  have hPc := hP.sub (ws' := []) [] rfl
  have hDc := hD.sub (ws' := []) [] (by decide) rfl
  have hKc := hK.sub (tys' := [(cT, .object "LockRooms$Thing")]) [1] rfl
  have hFc := va_free (wc := []) hD hS hA [] rfl
  refine va_calli (va_runV (As := [.int 2, .int 3]) (rest := [.long (-3961574669691553696)]) ⟨hx, hb, hml, hown, hts⟩ (cz_QtellThing_2_3 l dC dI ed H59.size rm lk th pl gm cT ft t2 hkt2) (cwV 2 hts gX6_mixThings_X3_tellThing rfl rfl rfl (by decide +kernel) ⟨Nat.le_of_ble_eq_true rfl, Nat.le_of_ble_eq_true rfl⟩) ⟨zb_blind, va_recv hK (zo_R hR0 hS hAr) (ci := 5) (q0 := 1) rfl rfl, fun U hU hW => ⟨rfl, zb_mk hU hW hPr hPc hKc hDc hN hH hS hFc zx_e⟩⟩ rfl rfl hl.1 rfl (lv_room (Nat.le_of_ble_eq_true rfl)) dX6_mixThings_36 ⟨Nat.le_of_ble_eq_true rfl, Nat.le_of_ble_eq_true rfl⟩) hS (fun q _ h => hFc q h) hFc (fun r62 u t H61 locs ht hvm hw hB hz1 hk1 hS => ?_)
  obtain rfl : r62 = 0 := hw
  have hP := zo_K hP hk1
  have hPr := (zo_nil : va_P (dC, dI) vwCl [] H61)
  have hPc := hP.sub (ws' := []) [] rfl
  have hDc := hD.sub (ws' := []) [] (by decide) rfl
  have hKc := hK.sub (tys' := []) [] rfl
  have hFc := va_free (wc := []) hD hS hA [] rfl
  refine va_calll (va_runS (As := [.long (-3961574669691553696), .int 0]) (rest := []) ⟨hx, hb, hml, hown, hts⟩ (cz_X6_mix l dC dI ed H61.size (-3961574669691553696) 0) (va_cwS 2 hts gX6_mixThings_X6_mix rfl rfl rfl (by decide +kernel) ⟨Nat.le_of_ble_eq_true rfl, Nat.le_of_ble_eq_true rfl⟩) ⟨zb_blind, fun U hU hW => ⟨rfl, zb_mk hU hW hPr hPc hKc hDc hN hH hS hFc zx_e⟩⟩ rfl rfl hl.1 rfl (lv_room (Nat.le_of_ble_eq_true rfl)) dX6_mixThings_39 ⟨Nat.le_of_ble_eq_true rfl, Nat.le_of_ble_eq_true rfl⟩) hS (fun q _ h => hFc q h) hFc (fun r64 u t H63 locs ht hvm hw hB hz1 hk1 hS => ?_)
  obtain rfl : r64 = 6318393755528696736 := hw.trans (by decide +kernel)
  have hP := zo_K hP hk1
  refine lv_lstore_n (lv' := [(3, .long 6318393755528696736), (6, .int 3), (5, .int 2), (0, .ref x), (1, .long (-1160429273186388225))]) hx hb dX6_mixThings_42 rfl hl (by decide) rfl (fun ls hl => ?_)
  refine lv_iinc (v := 4) (lv' := [(6, .int 4), (3, .long 6318393755528696736), (5, .int 2), (0, .ref x), (1, .long (-1160429273186388225))]) hx hb dX6_mixThings_43 hl (k := 1) rfl (by decide) (by decide) rfl (fun ls hl => ?_)
  refine lv_goto (tgt := 20) hx hb dX6_mixThings_46 (by decide) ?_
  refine lv_iload hx hb dX6_mixThings_20 (lv_at hl 0 rfl) ?_
  refine lv_bipush (v := 6) hx hb dX6_mixThings_22 (by decide) ?_
  refine lv_icmp_ge (tgt := 49) hx hb dX6_mixThings_24 (by decide) (fun h => absurd h (by decide)) (fun _ => ?_)
  refine lv_lload_n hx hb dX6_mixThings_27 rfl (lv_at hl 1 rfl) ?_
  refine lv_aload_n hx hb dX6_mixThings_28 rfl (lv_at hl 3 rfl) ?_
  refine va_get (D := (dC, dI)) (ci := 8) (v := .ref rm) (C := RX6) (T := TX6) (N := 3) hx hb hts zi_X6_mixThings_X6 hown hK (zo_R hR0 hS hAr) 0 rfl rfl 0 (by decide) (hts (.fieldLink RX6 12 "LockRooms" "room" "LLockRooms$Room;") (by decide +kernel)) (fun _ h9 => h9) rfl dX6_mixThings_29 ?_
  refine lv_iload hx hb dX6_mixThings_32 (lv_at hl 2 rfl) ?_
  refine lv_iload hx hb dX6_mixThings_34 (lv_at hl 0 rfl) ?_
  have hPr := ((zo_R hR0 hS hAr)).sub (ws' := [(rm, .inr (5, [.ref lk, .ref th, .ref pl, .ref gm, .int 2, .int 10, .int 0, .int 0, .int 1, .int 0, .int 0, .int 0])), (th, .inl (cT, 12, .inr (.inr (.inr (.inr ft))))), (t2, .inr (7, [.int (-1), .int 0, .int 0, .int 0, .int 0])), (lk, .inl (cL, 10, .inr (.inr (.inr (.inr fl))))), (l0, .inr (3, [.int 0, .int 0, .int 60, .int 0, .int 0, .int 0, .int 0, .int 0, .int 0, .int 0])), (l1, .inr (3, [.int 0, .int 0, .int 60, .int 0, .int 0, .int 0, .int 0, .int 0, .int 0, .int 0]))]) [1, 3, 8, 2, 4, 5] rfl
  have hPc := hP.sub (ws' := []) [] rfl
  have hDc := hD.sub (ws' := []) [] (by decide) rfl
  have hKc := hK.sub (tys' := [(cT, .object "LockRooms$Thing"), (cL, .object "LockRooms$Lock")]) [1, 0] rfl
  have hFc := va_free (wc := []) hD hS hA [] rfl
  refine va_calli (va_runV (As := [.int 2, .int 4]) (rest := [.long 6318393755528696736]) ⟨hx, hb, hml, hown, hts⟩ (cz_QtellThing_2_4 l dC dI ed H63.size rm lk th pl gm cT ft t2 cL fl l0 l1 hkt2 hkl0 hkl1) (cwV 2 hts gX6_mixThings_X3_tellThing rfl rfl rfl (by decide +kernel) ⟨Nat.le_of_ble_eq_true rfl, Nat.le_of_ble_eq_true rfl⟩) ⟨zb_blind, va_recv hK (zo_R hR0 hS hAr) (ci := 5) (q0 := 1) rfl rfl, fun U hU hW => ⟨rfl, zb_mk hU hW hPr hPc hKc hDc hN hH hS hFc zx_e⟩⟩ rfl rfl hl.1 rfl (lv_room (Nat.le_of_ble_eq_true rfl)) dX6_mixThings_36 ⟨Nat.le_of_ble_eq_true rfl, Nat.le_of_ble_eq_true rfl⟩) hS (fun q _ h => hFc q h) hFc (fun r66 u t H65 locs ht hvm hw hB hz1 hk1 hS => ?_)
  obtain rfl : r66 = 1 := hw
  have hP := zo_K hP hk1
  have hPr := (zo_nil : va_P (dC, dI) vwCl [] H65)
  have hPc := hP.sub (ws' := []) [] rfl
  have hDc := hD.sub (ws' := []) [] (by decide) rfl
  have hKc := hK.sub (tys' := []) [] rfl
  have hFc := va_free (wc := []) hD hS hA [] rfl
  refine va_calll (va_runS (As := [.long 6318393755528696736, .int 1]) (rest := []) ⟨hx, hb, hml, hown, hts⟩ (cz_X6_mix l dC dI ed H65.size 6318393755528696736 1) (va_cwS 2 hts gX6_mixThings_X6_mix rfl rfl rfl (by decide +kernel) ⟨Nat.le_of_ble_eq_true rfl, Nat.le_of_ble_eq_true rfl⟩) ⟨zb_blind, fun U hU hW => ⟨rfl, zb_mk hU hW hPr hPc hKc hDc hN hH hS hFc zx_e⟩⟩ rfl rfl hl.1 rfl (lv_room (Nat.le_of_ble_eq_true rfl)) dX6_mixThings_39 ⟨Nat.le_of_ble_eq_true rfl, Nat.le_of_ble_eq_true rfl⟩) hS (fun q _ h => hFc q h) hFc (fun r68 u t H67 locs ht hvm hw hB hz1 hk1 hS => ?_)
  obtain rfl : r68 = (-7043978389415468959) := hw.trans (by decide +kernel)
  have hP := zo_K hP hk1
  refine lv_lstore_n (lv' := [(3, .long (-7043978389415468959)), (6, .int 4), (5, .int 2), (0, .ref x), (1, .long (-1160429273186388225))]) hx hb dX6_mixThings_42 rfl hl (by decide) rfl (fun ls hl => ?_)
  refine lv_iinc (v := 5) (lv' := [(6, .int 5), (3, .long (-7043978389415468959)), (5, .int 2), (0, .ref x), (1, .long (-1160429273186388225))]) hx hb dX6_mixThings_43 hl (k := 1) rfl (by decide) (by decide) rfl (fun ls hl => ?_)
  refine lv_goto (tgt := 20) hx hb dX6_mixThings_46 (by decide) ?_
  refine lv_iload hx hb dX6_mixThings_20 (lv_at hl 0 rfl) ?_
  refine lv_bipush (v := 6) hx hb dX6_mixThings_22 (by decide) ?_
  refine lv_icmp_ge (tgt := 49) hx hb dX6_mixThings_24 (by decide) (fun h => absurd h (by decide)) (fun _ => ?_)
  refine lv_lload_n hx hb dX6_mixThings_27 rfl (lv_at hl 1 rfl) ?_
  refine lv_aload_n hx hb dX6_mixThings_28 rfl (lv_at hl 3 rfl) ?_
  refine va_get (D := (dC, dI)) (ci := 8) (v := .ref rm) (C := RX6) (T := TX6) (N := 3) hx hb hts zi_X6_mixThings_X6 hown hK (zo_R hR0 hS hAr) 0 rfl rfl 0 (by decide) (hts (.fieldLink RX6 12 "LockRooms" "room" "LLockRooms$Room;") (by decide +kernel)) (fun _ h9 => h9) rfl dX6_mixThings_29 ?_
  refine lv_iload hx hb dX6_mixThings_32 (lv_at hl 2 rfl) ?_
  refine lv_iload hx hb dX6_mixThings_34 (lv_at hl 0 rfl) ?_
  have hPr := ((zo_R hR0 hS hAr)).sub (ws' := [(rm, .inr (5, [.ref lk, .ref th, .ref pl, .ref gm, .int 2, .int 10, .int 0, .int 0, .int 1, .int 0, .int 0, .int 0])), (th, .inl (cT, 12, .inr (.inr (.inr (.inr ft))))), (t2, .inr (7, [.int (-1), .int 0, .int 0, .int 0, .int 0])), (lk, .inl (cL, 10, .inr (.inr (.inr (.inr fl))))), (l0, .inr (3, [.int 0, .int 0, .int 60, .int 0, .int 0, .int 0, .int 0, .int 0, .int 0, .int 0])), (l1, .inr (3, [.int 0, .int 0, .int 60, .int 0, .int 0, .int 0, .int 0, .int 0, .int 0, .int 0]))]) [1, 3, 8, 2, 4, 5] rfl
  have hPc := hP.sub (ws' := []) [] rfl
  have hDc := hD.sub (ws' := []) [] (by decide) rfl
  have hKc := hK.sub (tys' := [(cT, .object "LockRooms$Thing"), (cL, .object "LockRooms$Lock")]) [1, 0] rfl
  have hFc := va_free (wc := []) hD hS hA [] rfl
  refine va_calli (va_runV (As := [.int 2, .int 5]) (rest := [.long (-7043978389415468959)]) ⟨hx, hb, hml, hown, hts⟩ (cz_QtellThing_2_5 l dC dI ed H67.size rm lk th pl gm cT ft t2 cL fl l0 l1 hkt2 hkl0 hkl1) (cwV 2 hts gX6_mixThings_X3_tellThing rfl rfl rfl (by decide +kernel) ⟨Nat.le_of_ble_eq_true rfl, Nat.le_of_ble_eq_true rfl⟩) ⟨zb_blind, va_recv hK (zo_R hR0 hS hAr) (ci := 5) (q0 := 1) rfl rfl, fun U hU hW => ⟨rfl, zb_mk hU hW hPr hPc hKc hDc hN hH hS hFc zx_e⟩⟩ rfl rfl hl.1 rfl (lv_room (Nat.le_of_ble_eq_true rfl)) dX6_mixThings_36 ⟨Nat.le_of_ble_eq_true rfl, Nat.le_of_ble_eq_true rfl⟩) hS (fun q _ h => hFc q h) hFc (fun r70 u t H69 locs ht hvm hw hB hz1 hk1 hS => ?_)
  obtain rfl : r70 = 0 := hw
  have hP := zo_K hP hk1
  have hPr := (zo_nil : va_P (dC, dI) vwCl [] H69)
  have hPc := hP.sub (ws' := []) [] rfl
  have hDc := hD.sub (ws' := []) [] (by decide) rfl
  have hKc := hK.sub (tys' := []) [] rfl
  have hFc := va_free (wc := []) hD hS hA [] rfl
  refine va_calll (va_runS (As := [.long (-7043978389415468959), .int 0]) (rest := []) ⟨hx, hb, hml, hown, hts⟩ (cz_X6_mix l dC dI ed H69.size (-7043978389415468959) 0) (va_cwS 2 hts gX6_mixThings_X6_mix rfl rfl rfl (by decide +kernel) ⟨Nat.le_of_ble_eq_true rfl, Nat.le_of_ble_eq_true rfl⟩) ⟨zb_blind, fun U hU hW => ⟨rfl, zb_mk hU hW hPr hPc hKc hDc hN hH hS hFc zx_e⟩⟩ rfl rfl hl.1 rfl (lv_room (Nat.le_of_ble_eq_true rfl)) dX6_mixThings_39 ⟨Nat.le_of_ble_eq_true rfl, Nat.le_of_ble_eq_true rfl⟩) hS (fun q _ h => hFc q h) hFc (fun r72 u t H71 locs ht hvm hw hB hz1 hk1 hS => ?_)
  obtain rfl : r72 = 2997598812635081663 := hw.trans (by decide +kernel)
  have hP := zo_K hP hk1
  refine lv_lstore_n (lv' := [(3, .long 2997598812635081663), (6, .int 5), (5, .int 2), (0, .ref x), (1, .long (-1160429273186388225))]) hx hb dX6_mixThings_42 rfl hl (by decide) rfl (fun ls hl => ?_)
  refine lv_iinc (v := 6) (lv' := [(6, .int 6), (3, .long 2997598812635081663), (5, .int 2), (0, .ref x), (1, .long (-1160429273186388225))]) hx hb dX6_mixThings_43 hl (k := 1) rfl (by decide) (by decide) rfl (fun ls hl => ?_)
  refine lv_goto (tgt := 20) hx hb dX6_mixThings_46 (by decide) ?_
  refine lv_iload hx hb dX6_mixThings_20 (lv_at hl 0 rfl) ?_
  refine lv_bipush (v := 6) hx hb dX6_mixThings_22 (by decide) ?_
  refine lv_icmp_ge (tgt := 49) hx hb dX6_mixThings_24 (by decide) (fun _ => ?_) (fun h => absurd h (by decide))
  refine lv_iinc (v := 3) (lv' := [(5, .int 3), (6, .int 6), (3, .long 2997598812635081663), (0, .ref x), (1, .long (-1160429273186388225))]) hx hb dX6_mixThings_49 hl (k := 2) rfl (by decide) (by decide) rfl (fun ls hl => ?_)
  refine lv_goto (tgt := 5) hx hb dX6_mixThings_52 (by decide) ?_
  refine lv_iload hx hb dX6_mixThings_5 (lv_at hl 0 rfl) ?_
  refine lv_aload_n hx hb dX6_mixThings_7 rfl (lv_at hl 3 rfl) ?_
  refine va_get (D := (dC, dI)) (ci := 8) (v := .ref rm) (C := RX6) (T := TX6) (N := 3) hx hb hts zi_X6_mixThings_X6 hown hK (zo_R hR0 hS hAr) 0 rfl rfl 0 (by decide) (hts (.fieldLink RX6 12 "LockRooms" "room" "LLockRooms$Room;") (by decide +kernel)) (fun _ h9 => h9) rfl dX6_mixThings_8 ?_
  refine va_get (D := (dC, dI)) (ci := 5) (v := .int 10) (C := RX3) (T := TX3) (N := 12) hx hb hts zi_X6_mixThings_X3 hown hK (zo_R hR0 hS hAr) 1 rfl rfl 5 (by decide) (hts (.fieldLink RX6 71 "LockRooms$Room" "thingCount" "I") (by decide +kernel)) (fun _ h9 => h9) rfl dX6_mixThings_11 ?_
  refine lv_icmp_ge (tgt := 55) hx hb dX6_mixThings_14 (by decide) (fun h => absurd h (by decide)) (fun _ => ?_)
  refine lv_iconst (v := 0) hx hb dX6_mixThings_17 (by decide) ?_
  refine lv_istore (lv' := [(6, .int 0), (5, .int 3), (3, .long 2997598812635081663), (0, .ref x), (1, .long (-1160429273186388225))]) hx hb dX6_mixThings_18 hl (by decide) rfl (fun ls hl => ?_)
  refine lv_iload hx hb dX6_mixThings_20 (lv_at hl 0 rfl) ?_
  refine lv_bipush (v := 6) hx hb dX6_mixThings_22 (by decide) ?_
  refine lv_icmp_ge (tgt := 49) hx hb dX6_mixThings_24 (by decide) (fun h => absurd h (by decide)) (fun _ => ?_)
  refine lv_lload_n hx hb dX6_mixThings_27 rfl (lv_at hl 2 rfl) ?_
  refine lv_aload_n hx hb dX6_mixThings_28 rfl (lv_at hl 3 rfl) ?_
  refine va_get (D := (dC, dI)) (ci := 8) (v := .ref rm) (C := RX6) (T := TX6) (N := 3) hx hb hts zi_X6_mixThings_X6 hown hK (zo_R hR0 hS hAr) 0 rfl rfl 0 (by decide) (hts (.fieldLink RX6 12 "LockRooms" "room" "LLockRooms$Room;") (by decide +kernel)) (fun _ h9 => h9) rfl dX6_mixThings_29 ?_
  refine lv_iload hx hb dX6_mixThings_32 (lv_at hl 1 rfl) ?_
  refine lv_iload hx hb dX6_mixThings_34 (lv_at hl 0 rfl) ?_
  have hPr := ((zo_R hR0 hS hAr)).sub (ws' := [(rm, .inr (5, [.ref lk, .ref th, .ref pl, .ref gm, .int 2, .int 10, .int 0, .int 0, .int 1, .int 0, .int 0, .int 0])), (th, .inl (cT, 12, .inr (.inr (.inr (.inr ft))))), (t3, .inr (7, [.int (-1), .int 0, .int 0, .int 0, .int 0]))]) [1, 3, 9] rfl
  have hPc := hP.sub (ws' := []) [] rfl
  have hDc := hD.sub (ws' := []) [] (by decide) rfl
  have hKc := hK.sub (tys' := [(cT, .object "LockRooms$Thing")]) [1] rfl
  have hFc := va_free (wc := []) hD hS hA [] rfl
  refine va_calli (va_runV (As := [.int 3, .int 0]) (rest := [.long 2997598812635081663]) ⟨hx, hb, hml, hown, hts⟩ (cz_QtellThing_3_0 l dC dI ed H71.size rm lk th pl gm cT ft t3 hkt3) (cwV 2 hts gX6_mixThings_X3_tellThing rfl rfl rfl (by decide +kernel) ⟨Nat.le_of_ble_eq_true rfl, Nat.le_of_ble_eq_true rfl⟩) ⟨zb_blind, va_recv hK (zo_R hR0 hS hAr) (ci := 5) (q0 := 1) rfl rfl, fun U hU hW => ⟨rfl, zb_mk hU hW hPr hPc hKc hDc hN hH hS hFc zx_e⟩⟩ rfl rfl hl.1 rfl (lv_room (Nat.le_of_ble_eq_true rfl)) dX6_mixThings_36 ⟨Nat.le_of_ble_eq_true rfl, Nat.le_of_ble_eq_true rfl⟩) hS (fun q _ h => hFc q h) hFc (fun r74 u t H73 locs ht hvm hw hB hz1 hk1 hS => ?_)
  obtain rfl : r74 = (-1) := hw
  have hP := zo_K hP hk1
  have hPr := (zo_nil : va_P (dC, dI) vwCl [] H73)
  have hPc := hP.sub (ws' := []) [] rfl
  have hDc := hD.sub (ws' := []) [] (by decide) rfl
  have hKc := hK.sub (tys' := []) [] rfl
  have hFc := va_free (wc := []) hD hS hA [] rfl
  refine va_calll (va_runS (As := [.long 2997598812635081663, .int (-1)]) (rest := []) ⟨hx, hb, hml, hown, hts⟩ (cz_X6_mix l dC dI ed H73.size 2997598812635081663 (-1)) (va_cwS 2 hts gX6_mixThings_X6_mix rfl rfl rfl (by decide +kernel) ⟨Nat.le_of_ble_eq_true rfl, Nat.le_of_ble_eq_true rfl⟩) ⟨zb_blind, fun U hU hW => ⟨rfl, zb_mk hU hW hPr hPc hKc hDc hN hH hS hFc zx_e⟩⟩ rfl rfl hl.1 rfl (lv_room (Nat.le_of_ble_eq_true rfl)) dX6_mixThings_39 ⟨Nat.le_of_ble_eq_true rfl, Nat.le_of_ble_eq_true rfl⟩) hS (fun q _ h => hFc q h) hFc (fun r76 u t H75 locs ht hvm hw hB hz1 hk1 hS => ?_)
  obtain rfl : r76 = 691842823139773472 := hw.trans (by decide +kernel)
  have hP := zo_K hP hk1
  refine lv_lstore_n (lv' := [(3, .long 691842823139773472), (6, .int 0), (5, .int 3), (0, .ref x), (1, .long (-1160429273186388225))]) hx hb dX6_mixThings_42 rfl hl (by decide) rfl (fun ls hl => ?_)
  refine lv_iinc (v := 1) (lv' := [(6, .int 1), (3, .long 691842823139773472), (5, .int 3), (0, .ref x), (1, .long (-1160429273186388225))]) hx hb dX6_mixThings_43 hl (k := 1) rfl (by decide) (by decide) rfl (fun ls hl => ?_)
  refine lv_goto (tgt := 20) hx hb dX6_mixThings_46 (by decide) ?_
  refine lv_iload hx hb dX6_mixThings_20 (lv_at hl 0 rfl) ?_
  refine lv_bipush (v := 6) hx hb dX6_mixThings_22 (by decide) ?_
  refine lv_icmp_ge (tgt := 49) hx hb dX6_mixThings_24 (by decide) (fun h => absurd h (by decide)) (fun _ => ?_)
  refine lv_lload_n hx hb dX6_mixThings_27 rfl (lv_at hl 1 rfl) ?_
  refine lv_aload_n hx hb dX6_mixThings_28 rfl (lv_at hl 3 rfl) ?_
  refine va_get (D := (dC, dI)) (ci := 8) (v := .ref rm) (C := RX6) (T := TX6) (N := 3) hx hb hts zi_X6_mixThings_X6 hown hK (zo_R hR0 hS hAr) 0 rfl rfl 0 (by decide) (hts (.fieldLink RX6 12 "LockRooms" "room" "LLockRooms$Room;") (by decide +kernel)) (fun _ h9 => h9) rfl dX6_mixThings_29 ?_
  refine lv_iload hx hb dX6_mixThings_32 (lv_at hl 2 rfl) ?_
  refine lv_iload hx hb dX6_mixThings_34 (lv_at hl 0 rfl) ?_
  have hPr := ((zo_R hR0 hS hAr)).sub (ws' := [(rm, .inr (5, [.ref lk, .ref th, .ref pl, .ref gm, .int 2, .int 10, .int 0, .int 0, .int 1, .int 0, .int 0, .int 0])), (th, .inl (cT, 12, .inr (.inr (.inr (.inr ft))))), (t3, .inr (7, [.int (-1), .int 0, .int 0, .int 0, .int 0]))]) [1, 3, 9] rfl
  have hPc := hP.sub (ws' := []) [] rfl
  have hDc := hD.sub (ws' := []) [] (by decide) rfl
  have hKc := hK.sub (tys' := [(cT, .object "LockRooms$Thing")]) [1] rfl
  have hFc := va_free (wc := []) hD hS hA [] rfl
  refine va_calli (va_runV (As := [.int 3, .int 1]) (rest := [.long 691842823139773472]) ⟨hx, hb, hml, hown, hts⟩ (cz_QtellThing_3_1 l dC dI ed H75.size rm lk th pl gm cT ft t3 hkt3) (cwV 2 hts gX6_mixThings_X3_tellThing rfl rfl rfl (by decide +kernel) ⟨Nat.le_of_ble_eq_true rfl, Nat.le_of_ble_eq_true rfl⟩) ⟨zb_blind, va_recv hK (zo_R hR0 hS hAr) (ci := 5) (q0 := 1) rfl rfl, fun U hU hW => ⟨rfl, zb_mk hU hW hPr hPc hKc hDc hN hH hS hFc zx_e⟩⟩ rfl rfl hl.1 rfl (lv_room (Nat.le_of_ble_eq_true rfl)) dX6_mixThings_36 ⟨Nat.le_of_ble_eq_true rfl, Nat.le_of_ble_eq_true rfl⟩) hS (fun q _ h => hFc q h) hFc (fun r78 u t H77 locs ht hvm hw hB hz1 hk1 hS => ?_)
  obtain rfl : r78 = 0 := hw
  have hP := zo_K hP hk1
  have hPr := (zo_nil : va_P (dC, dI) vwCl [] H77)
  have hPc := hP.sub (ws' := []) [] rfl
  have hDc := hD.sub (ws' := []) [] (by decide) rfl
  have hKc := hK.sub (tys' := []) [] rfl
  have hFc := va_free (wc := []) hD hS hA [] rfl
  refine va_calll (va_runS (As := [.long 691842823139773472, .int 0]) (rest := []) ⟨hx, hb, hml, hown, hts⟩ (cz_X6_mix l dC dI ed H77.size 691842823139773472 0) (va_cwS 2 hts gX6_mixThings_X6_mix rfl rfl rfl (by decide +kernel) ⟨Nat.le_of_ble_eq_true rfl, Nat.le_of_ble_eq_true rfl⟩) ⟨zb_blind, fun U hU hW => ⟨rfl, zb_mk hU hW hPr hPc hKc hDc hN hH hS hFc zx_e⟩⟩ rfl rfl hl.1 rfl (lv_room (Nat.le_of_ble_eq_true rfl)) dX6_mixThings_39 ⟨Nat.le_of_ble_eq_true rfl, Nat.le_of_ble_eq_true rfl⟩) hS (fun q _ h => hFc q h) hFc (fun r80 u t H79 locs ht hvm hw hB hz1 hk1 hS => ?_)
  obtain rfl : r80 = 3000383443623426016 := hw.trans (by decide +kernel)
  have hP := zo_K hP hk1
  refine lv_lstore_n (lv' := [(3, .long 3000383443623426016), (6, .int 1), (5, .int 3), (0, .ref x), (1, .long (-1160429273186388225))]) hx hb dX6_mixThings_42 rfl hl (by decide) rfl (fun ls hl => ?_)
  refine lv_iinc (v := 2) (lv' := [(6, .int 2), (3, .long 3000383443623426016), (5, .int 3), (0, .ref x), (1, .long (-1160429273186388225))]) hx hb dX6_mixThings_43 hl (k := 1) rfl (by decide) (by decide) rfl (fun ls hl => ?_)
  refine lv_goto (tgt := 20) hx hb dX6_mixThings_46 (by decide) ?_
  refine lv_iload hx hb dX6_mixThings_20 (lv_at hl 0 rfl) ?_
  refine lv_bipush (v := 6) hx hb dX6_mixThings_22 (by decide) ?_
  refine lv_icmp_ge (tgt := 49) hx hb dX6_mixThings_24 (by decide) (fun h => absurd h (by decide)) (fun _ => ?_)
  refine lv_lload_n hx hb dX6_mixThings_27 rfl (lv_at hl 1 rfl) ?_
  refine lv_aload_n hx hb dX6_mixThings_28 rfl (lv_at hl 3 rfl) ?_
  refine va_get (D := (dC, dI)) (ci := 8) (v := .ref rm) (C := RX6) (T := TX6) (N := 3) hx hb hts zi_X6_mixThings_X6 hown hK (zo_R hR0 hS hAr) 0 rfl rfl 0 (by decide) (hts (.fieldLink RX6 12 "LockRooms" "room" "LLockRooms$Room;") (by decide +kernel)) (fun _ h9 => h9) rfl dX6_mixThings_29 ?_
  refine lv_iload hx hb dX6_mixThings_32 (lv_at hl 2 rfl) ?_
  refine lv_iload hx hb dX6_mixThings_34 (lv_at hl 0 rfl) ?_
  have hPr := ((zo_R hR0 hS hAr)).sub (ws' := [(rm, .inr (5, [.ref lk, .ref th, .ref pl, .ref gm, .int 2, .int 10, .int 0, .int 0, .int 1, .int 0, .int 0, .int 0])), (th, .inl (cT, 12, .inr (.inr (.inr (.inr ft))))), (t3, .inr (7, [.int (-1), .int 0, .int 0, .int 0, .int 0]))]) [1, 3, 9] rfl
  have hPc := hP.sub (ws' := []) [] rfl
  have hDc := hD.sub (ws' := []) [] (by decide) rfl
  have hKc := hK.sub (tys' := [(cT, .object "LockRooms$Thing")]) [1] rfl
  have hFc := va_free (wc := []) hD hS hA [] rfl
  refine va_calli (va_runV (As := [.int 3, .int 2]) (rest := [.long 3000383443623426016]) ⟨hx, hb, hml, hown, hts⟩ (cz_QtellThing_3_2 l dC dI ed H79.size rm lk th pl gm cT ft t3 hkt3) (cwV 2 hts gX6_mixThings_X3_tellThing rfl rfl rfl (by decide +kernel) ⟨Nat.le_of_ble_eq_true rfl, Nat.le_of_ble_eq_true rfl⟩) ⟨zb_blind, va_recv hK (zo_R hR0 hS hAr) (ci := 5) (q0 := 1) rfl rfl, fun U hU hW => ⟨rfl, zb_mk hU hW hPr hPc hKc hDc hN hH hS hFc zx_e⟩⟩ rfl rfl hl.1 rfl (lv_room (Nat.le_of_ble_eq_true rfl)) dX6_mixThings_36 ⟨Nat.le_of_ble_eq_true rfl, Nat.le_of_ble_eq_true rfl⟩) hS (fun q _ h => hFc q h) hFc (fun r82 u t H81 locs ht hvm hw hB hz1 hk1 hS => ?_)
  obtain rfl : r82 = 0 := hw
  have hP := zo_K hP hk1
  have hPr := (zo_nil : va_P (dC, dI) vwCl [] H81)
  have hPc := hP.sub (ws' := []) [] rfl
  have hDc := hD.sub (ws' := []) [] (by decide) rfl
  have hKc := hK.sub (tys' := []) [] rfl
  have hFc := va_free (wc := []) hD hS hA [] rfl
  refine va_calll (va_runS (As := [.long 3000383443623426016, .int 0]) (rest := []) ⟨hx, hb, hml, hown, hts⟩ (cz_X6_mix l dC dI ed H81.size 3000383443623426016 0) (va_cwS 2 hts gX6_mixThings_X6_mix rfl rfl rfl (by decide +kernel) ⟨Nat.le_of_ble_eq_true rfl, Nat.le_of_ble_eq_true rfl⟩) ⟨zb_blind, fun U hU hW => ⟨rfl, zb_mk hU hW hPr hPc hKc hDc hN hH hS hFc zx_e⟩⟩ rfl rfl hl.1 rfl (lv_room (Nat.le_of_ble_eq_true rfl)) dX6_mixThings_39 ⟨Nat.le_of_ble_eq_true rfl, Nat.le_of_ble_eq_true rfl⟩) hS (fun q _ h => hFc q h) hFc (fun r84 u t H83 locs ht hvm hw hB hz1 hk1 hS => ?_)
  obtain rfl : r84 = 778166383778448416 := hw.trans (by decide +kernel)
  have hP := zo_K hP hk1
  refine lv_lstore_n (lv' := [(3, .long 778166383778448416), (6, .int 2), (5, .int 3), (0, .ref x), (1, .long (-1160429273186388225))]) hx hb dX6_mixThings_42 rfl hl (by decide) rfl (fun ls hl => ?_)
  refine lv_iinc (v := 3) (lv' := [(6, .int 3), (3, .long 778166383778448416), (5, .int 3), (0, .ref x), (1, .long (-1160429273186388225))]) hx hb dX6_mixThings_43 hl (k := 1) rfl (by decide) (by decide) rfl (fun ls hl => ?_)
  refine lv_goto (tgt := 20) hx hb dX6_mixThings_46 (by decide) ?_
  refine lv_iload hx hb dX6_mixThings_20 (lv_at hl 0 rfl) ?_
  refine lv_bipush (v := 6) hx hb dX6_mixThings_22 (by decide) ?_
  refine lv_icmp_ge (tgt := 49) hx hb dX6_mixThings_24 (by decide) (fun h => absurd h (by decide)) (fun _ => ?_)
  refine lv_lload_n hx hb dX6_mixThings_27 rfl (lv_at hl 1 rfl) ?_
  refine lv_aload_n hx hb dX6_mixThings_28 rfl (lv_at hl 3 rfl) ?_
  refine va_get (D := (dC, dI)) (ci := 8) (v := .ref rm) (C := RX6) (T := TX6) (N := 3) hx hb hts zi_X6_mixThings_X6 hown hK (zo_R hR0 hS hAr) 0 rfl rfl 0 (by decide) (hts (.fieldLink RX6 12 "LockRooms" "room" "LLockRooms$Room;") (by decide +kernel)) (fun _ h9 => h9) rfl dX6_mixThings_29 ?_
  refine lv_iload hx hb dX6_mixThings_32 (lv_at hl 2 rfl) ?_
  refine lv_iload hx hb dX6_mixThings_34 (lv_at hl 0 rfl) ?_
  have hPr := ((zo_R hR0 hS hAr)).sub (ws' := [(rm, .inr (5, [.ref lk, .ref th, .ref pl, .ref gm, .int 2, .int 10, .int 0, .int 0, .int 1, .int 0, .int 0, .int 0])), (th, .inl (cT, 12, .inr (.inr (.inr (.inr ft))))), (t3, .inr (7, [.int (-1), .int 0, .int 0, .int 0, .int 0]))]) [1, 3, 9] rfl
  have hPc := hP.sub (ws' := []) [] rfl
  have hDc := hD.sub (ws' := []) [] (by decide) rfl
  have hKc := hK.sub (tys' := [(cT, .object "LockRooms$Thing")]) [1] rfl
  have hFc := va_free (wc := []) hD hS hA [] rfl
  refine va_calli (va_runV (As := [.int 3, .int 3]) (rest := [.long 778166383778448416]) ⟨hx, hb, hml, hown, hts⟩ (cz_QtellThing_3_3 l dC dI ed H83.size rm lk th pl gm cT ft t3 hkt3) (cwV 2 hts gX6_mixThings_X3_tellThing rfl rfl rfl (by decide +kernel) ⟨Nat.le_of_ble_eq_true rfl, Nat.le_of_ble_eq_true rfl⟩) ⟨zb_blind, va_recv hK (zo_R hR0 hS hAr) (ci := 5) (q0 := 1) rfl rfl, fun U hU hW => ⟨rfl, zb_mk hU hW hPr hPc hKc hDc hN hH hS hFc zx_e⟩⟩ rfl rfl hl.1 rfl (lv_room (Nat.le_of_ble_eq_true rfl)) dX6_mixThings_36 ⟨Nat.le_of_ble_eq_true rfl, Nat.le_of_ble_eq_true rfl⟩) hS (fun q _ h => hFc q h) hFc (fun r86 u t H85 locs ht hvm hw hB hz1 hk1 hS => ?_)
  obtain rfl : r86 = 0 := hw
  have hP := zo_K hP hk1
  have hPr := (zo_nil : va_P (dC, dI) vwCl [] H85)
  have hPc := hP.sub (ws' := []) [] rfl
  have hDc := hD.sub (ws' := []) [] (by decide) rfl
  have hKc := hK.sub (tys' := []) [] rfl
  have hFc := va_free (wc := []) hD hS hA [] rfl
  refine va_calll (va_runS (As := [.long 778166383778448416, .int 0]) (rest := []) ⟨hx, hb, hml, hown, hts⟩ (cz_X6_mix l dC dI ed H85.size 778166383778448416 0) (va_cwS 2 hts gX6_mixThings_X6_mix rfl rfl rfl (by decide +kernel) ⟨Nat.le_of_ble_eq_true rfl, Nat.le_of_ble_eq_true rfl⟩) ⟨zb_blind, fun U hU hW => ⟨rfl, zb_mk hU hW hPr hPc hKc hDc hN hH hS hFc zx_e⟩⟩ rfl rfl hl.1 rfl (lv_room (Nat.le_of_ble_eq_true rfl)) dX6_mixThings_39 ⟨Nat.le_of_ble_eq_true rfl, Nat.le_of_ble_eq_true rfl⟩) hS (fun q _ h => hFc q h) hFc (fun r88 u t H87 locs ht hvm hw hB hz1 hk1 hS => ?_)
  obtain rfl : r88 = 5676413823422349280 := hw.trans (by decide +kernel)
  have hP := zo_K hP hk1
  refine lv_lstore_n (lv' := [(3, .long 5676413823422349280), (6, .int 3), (5, .int 3), (0, .ref x), (1, .long (-1160429273186388225))]) hx hb dX6_mixThings_42 rfl hl (by decide) rfl (fun ls hl => ?_)
  refine lv_iinc (v := 4) (lv' := [(6, .int 4), (3, .long 5676413823422349280), (5, .int 3), (0, .ref x), (1, .long (-1160429273186388225))]) hx hb dX6_mixThings_43 hl (k := 1) rfl (by decide) (by decide) rfl (fun ls hl => ?_)
  refine lv_goto (tgt := 20) hx hb dX6_mixThings_46 (by decide) ?_
  refine lv_iload hx hb dX6_mixThings_20 (lv_at hl 0 rfl) ?_
  refine lv_bipush (v := 6) hx hb dX6_mixThings_22 (by decide) ?_
  refine lv_icmp_ge (tgt := 49) hx hb dX6_mixThings_24 (by decide) (fun h => absurd h (by decide)) (fun _ => ?_)
  refine lv_lload_n hx hb dX6_mixThings_27 rfl (lv_at hl 1 rfl) ?_
  refine lv_aload_n hx hb dX6_mixThings_28 rfl (lv_at hl 3 rfl) ?_
  refine va_get (D := (dC, dI)) (ci := 8) (v := .ref rm) (C := RX6) (T := TX6) (N := 3) hx hb hts zi_X6_mixThings_X6 hown hK (zo_R hR0 hS hAr) 0 rfl rfl 0 (by decide) (hts (.fieldLink RX6 12 "LockRooms" "room" "LLockRooms$Room;") (by decide +kernel)) (fun _ h9 => h9) rfl dX6_mixThings_29 ?_
  refine lv_iload hx hb dX6_mixThings_32 (lv_at hl 2 rfl) ?_
  refine lv_iload hx hb dX6_mixThings_34 (lv_at hl 0 rfl) ?_
  have hPr := ((zo_R hR0 hS hAr)).sub (ws' := [(rm, .inr (5, [.ref lk, .ref th, .ref pl, .ref gm, .int 2, .int 10, .int 0, .int 0, .int 1, .int 0, .int 0, .int 0])), (th, .inl (cT, 12, .inr (.inr (.inr (.inr ft))))), (t3, .inr (7, [.int (-1), .int 0, .int 0, .int 0, .int 0])), (lk, .inl (cL, 10, .inr (.inr (.inr (.inr fl))))), (l0, .inr (3, [.int 0, .int 0, .int 60, .int 0, .int 0, .int 0, .int 0, .int 0, .int 0, .int 0])), (l1, .inr (3, [.int 0, .int 0, .int 60, .int 0, .int 0, .int 0, .int 0, .int 0, .int 0, .int 0]))]) [1, 3, 9, 2, 4, 5] rfl
  have hPc := hP.sub (ws' := []) [] rfl
  have hDc := hD.sub (ws' := []) [] (by decide) rfl
  have hKc := hK.sub (tys' := [(cT, .object "LockRooms$Thing"), (cL, .object "LockRooms$Lock")]) [1, 0] rfl
  have hFc := va_free (wc := []) hD hS hA [] rfl
  refine va_calli (va_runV (As := [.int 3, .int 4]) (rest := [.long 5676413823422349280]) ⟨hx, hb, hml, hown, hts⟩ (cz_QtellThing_3_4 l dC dI ed H87.size rm lk th pl gm cT ft t3 cL fl l0 l1 hkt3 hkl0 hkl1) (cwV 2 hts gX6_mixThings_X3_tellThing rfl rfl rfl (by decide +kernel) ⟨Nat.le_of_ble_eq_true rfl, Nat.le_of_ble_eq_true rfl⟩) ⟨zb_blind, va_recv hK (zo_R hR0 hS hAr) (ci := 5) (q0 := 1) rfl rfl, fun U hU hW => ⟨rfl, zb_mk hU hW hPr hPc hKc hDc hN hH hS hFc zx_e⟩⟩ rfl rfl hl.1 rfl (lv_room (Nat.le_of_ble_eq_true rfl)) dX6_mixThings_36 ⟨Nat.le_of_ble_eq_true rfl, Nat.le_of_ble_eq_true rfl⟩) hS (fun q _ h => hFc q h) hFc (fun r90 u t H89 locs ht hvm hw hB hz1 hk1 hS => ?_)
  obtain rfl : r90 = 1 := hw
  have hP := zo_K hP hk1
  have hPr := (zo_nil : va_P (dC, dI) vwCl [] H89)
  have hPc := hP.sub (ws' := []) [] rfl
  have hDc := hD.sub (ws' := []) [] (by decide) rfl
  have hKc := hK.sub (tys' := []) [] rfl
  have hFc := va_free (wc := []) hD hS hA [] rfl
  refine va_calll (va_runS (As := [.long 5676413823422349280, .int 1]) (rest := []) ⟨hx, hb, hml, hown, hts⟩ (cz_X6_mix l dC dI ed H89.size 5676413823422349280 1) (va_cwS 2 hts gX6_mixThings_X6_mix rfl rfl rfl (by decide +kernel) ⟨Nat.le_of_ble_eq_true rfl, Nat.le_of_ble_eq_true rfl⟩) ⟨zb_blind, fun U hU hW => ⟨rfl, zb_mk hU hW hPr hPc hKc hDc hN hH hS hFc zx_e⟩⟩ rfl rfl hl.1 rfl (lv_room (Nat.le_of_ble_eq_true rfl)) dX6_mixThings_39 ⟨Nat.le_of_ble_eq_true rfl, Nat.le_of_ble_eq_true rfl⟩) hS (fun q _ h => hFc q h) hFc (fun r92 u t H91 locs ht hvm hw hB hz1 hk1 hS => ?_)
  obtain rfl : r92 = (-8498612211002688479) := hw.trans (by decide +kernel)
  have hP := zo_K hP hk1
  refine lv_lstore_n (lv' := [(3, .long (-8498612211002688479)), (6, .int 4), (5, .int 3), (0, .ref x), (1, .long (-1160429273186388225))]) hx hb dX6_mixThings_42 rfl hl (by decide) rfl (fun ls hl => ?_)
  refine lv_iinc (v := 5) (lv' := [(6, .int 5), (3, .long (-8498612211002688479)), (5, .int 3), (0, .ref x), (1, .long (-1160429273186388225))]) hx hb dX6_mixThings_43 hl (k := 1) rfl (by decide) (by decide) rfl (fun ls hl => ?_)
  refine lv_goto (tgt := 20) hx hb dX6_mixThings_46 (by decide) ?_
  refine lv_iload hx hb dX6_mixThings_20 (lv_at hl 0 rfl) ?_
  refine lv_bipush (v := 6) hx hb dX6_mixThings_22 (by decide) ?_
  refine lv_icmp_ge (tgt := 49) hx hb dX6_mixThings_24 (by decide) (fun h => absurd h (by decide)) (fun _ => ?_)
  refine lv_lload_n hx hb dX6_mixThings_27 rfl (lv_at hl 1 rfl) ?_
  refine lv_aload_n hx hb dX6_mixThings_28 rfl (lv_at hl 3 rfl) ?_
  refine va_get (D := (dC, dI)) (ci := 8) (v := .ref rm) (C := RX6) (T := TX6) (N := 3) hx hb hts zi_X6_mixThings_X6 hown hK (zo_R hR0 hS hAr) 0 rfl rfl 0 (by decide) (hts (.fieldLink RX6 12 "LockRooms" "room" "LLockRooms$Room;") (by decide +kernel)) (fun _ h9 => h9) rfl dX6_mixThings_29 ?_
  refine lv_iload hx hb dX6_mixThings_32 (lv_at hl 2 rfl) ?_
  refine lv_iload hx hb dX6_mixThings_34 (lv_at hl 0 rfl) ?_
  have hPr := ((zo_R hR0 hS hAr)).sub (ws' := [(rm, .inr (5, [.ref lk, .ref th, .ref pl, .ref gm, .int 2, .int 10, .int 0, .int 0, .int 1, .int 0, .int 0, .int 0])), (th, .inl (cT, 12, .inr (.inr (.inr (.inr ft))))), (t3, .inr (7, [.int (-1), .int 0, .int 0, .int 0, .int 0])), (lk, .inl (cL, 10, .inr (.inr (.inr (.inr fl))))), (l0, .inr (3, [.int 0, .int 0, .int 60, .int 0, .int 0, .int 0, .int 0, .int 0, .int 0, .int 0])), (l1, .inr (3, [.int 0, .int 0, .int 60, .int 0, .int 0, .int 0, .int 0, .int 0, .int 0, .int 0]))]) [1, 3, 9, 2, 4, 5] rfl
  have hPc := hP.sub (ws' := []) [] rfl
  have hDc := hD.sub (ws' := []) [] (by decide) rfl
  have hKc := hK.sub (tys' := [(cT, .object "LockRooms$Thing"), (cL, .object "LockRooms$Lock")]) [1, 0] rfl
  have hFc := va_free (wc := []) hD hS hA [] rfl
  refine va_calli (va_runV (As := [.int 3, .int 5]) (rest := [.long (-8498612211002688479)]) ⟨hx, hb, hml, hown, hts⟩ (cz_QtellThing_3_5 l dC dI ed H91.size rm lk th pl gm cT ft t3 cL fl l0 l1 hkt3 hkl0 hkl1) (cwV 2 hts gX6_mixThings_X3_tellThing rfl rfl rfl (by decide +kernel) ⟨Nat.le_of_ble_eq_true rfl, Nat.le_of_ble_eq_true rfl⟩) ⟨zb_blind, va_recv hK (zo_R hR0 hS hAr) (ci := 5) (q0 := 1) rfl rfl, fun U hU hW => ⟨rfl, zb_mk hU hW hPr hPc hKc hDc hN hH hS hFc zx_e⟩⟩ rfl rfl hl.1 rfl (lv_room (Nat.le_of_ble_eq_true rfl)) dX6_mixThings_36 ⟨Nat.le_of_ble_eq_true rfl, Nat.le_of_ble_eq_true rfl⟩) hS (fun q _ h => hFc q h) hFc (fun r94 u t H93 locs ht hvm hw hB hz1 hk1 hS => ?_)
  obtain rfl : r94 = 0 := hw
  have hP := zo_K hP hk1
  have hPr := (zo_nil : va_P (dC, dI) vwCl [] H93)
  have hPc := hP.sub (ws' := []) [] rfl
  have hDc := hD.sub (ws' := []) [] (by decide) rfl
  have hKc := hK.sub (tys' := []) [] rfl
  have hFc := va_free (wc := []) hD hS hA [] rfl
  refine va_calll (va_runS (As := [.long (-8498612211002688479), .int 0]) (rest := []) ⟨hx, hb, hml, hown, hts⟩ (cz_X6_mix l dC dI ed H93.size (-8498612211002688479) 0) (va_cwS 2 hts gX6_mixThings_X6_mix rfl rfl rfl (by decide +kernel) ⟨Nat.le_of_ble_eq_true rfl, Nat.le_of_ble_eq_true rfl⟩) ⟨zb_blind, fun U hU hW => ⟨rfl, zb_mk hU hW hPr hPc hKc hDc hN hH hS hFc zx_e⟩⟩ rfl rfl hl.1 rfl (lv_room (Nat.le_of_ble_eq_true rfl)) dX6_mixThings_39 ⟨Nat.le_of_ble_eq_true rfl, Nat.le_of_ble_eq_true rfl⟩) hS (fun q _ h => hFc q h) hFc (fun r96 u t H95 locs ht hvm hw hB hz1 hk1 hS => ?_)
  obtain rfl : r96 = (-5202561509149620225) := hw.trans (by decide +kernel)
  have hP := zo_K hP hk1
  refine lv_lstore_n (lv' := [(3, .long (-5202561509149620225)), (6, .int 5), (5, .int 3), (0, .ref x), (1, .long (-1160429273186388225))]) hx hb dX6_mixThings_42 rfl hl (by decide) rfl (fun ls hl => ?_)
  refine lv_iinc (v := 6) (lv' := [(6, .int 6), (3, .long (-5202561509149620225)), (5, .int 3), (0, .ref x), (1, .long (-1160429273186388225))]) hx hb dX6_mixThings_43 hl (k := 1) rfl (by decide) (by decide) rfl (fun ls hl => ?_)
  refine lv_goto (tgt := 20) hx hb dX6_mixThings_46 (by decide) ?_
  refine lv_iload hx hb dX6_mixThings_20 (lv_at hl 0 rfl) ?_
  refine lv_bipush (v := 6) hx hb dX6_mixThings_22 (by decide) ?_
  refine lv_icmp_ge (tgt := 49) hx hb dX6_mixThings_24 (by decide) (fun _ => ?_) (fun h => absurd h (by decide))
  refine lv_iinc (v := 4) (lv' := [(5, .int 4), (6, .int 6), (3, .long (-5202561509149620225)), (0, .ref x), (1, .long (-1160429273186388225))]) hx hb dX6_mixThings_49 hl (k := 2) rfl (by decide) (by decide) rfl (fun ls hl => ?_)
  refine lv_goto (tgt := 5) hx hb dX6_mixThings_52 (by decide) ?_
  refine lv_iload hx hb dX6_mixThings_5 (lv_at hl 0 rfl) ?_
  refine lv_aload_n hx hb dX6_mixThings_7 rfl (lv_at hl 3 rfl) ?_
  refine va_get (D := (dC, dI)) (ci := 8) (v := .ref rm) (C := RX6) (T := TX6) (N := 3) hx hb hts zi_X6_mixThings_X6 hown hK (zo_R hR0 hS hAr) 0 rfl rfl 0 (by decide) (hts (.fieldLink RX6 12 "LockRooms" "room" "LLockRooms$Room;") (by decide +kernel)) (fun _ h9 => h9) rfl dX6_mixThings_8 ?_
  refine va_get (D := (dC, dI)) (ci := 5) (v := .int 10) (C := RX3) (T := TX3) (N := 12) hx hb hts zi_X6_mixThings_X3 hown hK (zo_R hR0 hS hAr) 1 rfl rfl 5 (by decide) (hts (.fieldLink RX6 71 "LockRooms$Room" "thingCount" "I") (by decide +kernel)) (fun _ h9 => h9) rfl dX6_mixThings_11 ?_
  refine lv_icmp_ge (tgt := 55) hx hb dX6_mixThings_14 (by decide) (fun h => absurd h (by decide)) (fun _ => ?_)
  refine lv_iconst (v := 0) hx hb dX6_mixThings_17 (by decide) ?_
  refine lv_istore (lv' := [(6, .int 0), (5, .int 4), (3, .long (-5202561509149620225)), (0, .ref x), (1, .long (-1160429273186388225))]) hx hb dX6_mixThings_18 hl (by decide) rfl (fun ls hl => ?_)
  refine lv_iload hx hb dX6_mixThings_20 (lv_at hl 0 rfl) ?_
  refine lv_bipush (v := 6) hx hb dX6_mixThings_22 (by decide) ?_
  refine lv_icmp_ge (tgt := 49) hx hb dX6_mixThings_24 (by decide) (fun h => absurd h (by decide)) (fun _ => ?_)
  refine lv_lload_n hx hb dX6_mixThings_27 rfl (lv_at hl 2 rfl) ?_
  refine lv_aload_n hx hb dX6_mixThings_28 rfl (lv_at hl 3 rfl) ?_
  refine va_get (D := (dC, dI)) (ci := 8) (v := .ref rm) (C := RX6) (T := TX6) (N := 3) hx hb hts zi_X6_mixThings_X6 hown hK (zo_R hR0 hS hAr) 0 rfl rfl 0 (by decide) (hts (.fieldLink RX6 12 "LockRooms" "room" "LLockRooms$Room;") (by decide +kernel)) (fun _ h9 => h9) rfl dX6_mixThings_29 ?_
  refine lv_iload hx hb dX6_mixThings_32 (lv_at hl 1 rfl) ?_
  refine lv_iload hx hb dX6_mixThings_34 (lv_at hl 0 rfl) ?_
  have hPr := ((zo_R hR0 hS hAr)).sub (ws' := [(rm, .inr (5, [.ref lk, .ref th, .ref pl, .ref gm, .int 2, .int 10, .int 0, .int 0, .int 1, .int 0, .int 0, .int 0])), (th, .inl (cT, 12, .inr (.inr (.inr (.inr ft))))), (t4, .inr (7, [.int (-1), .int 0, .int 0, .int 0, .int 0]))]) [1, 3, 10] rfl
  have hPc := hP.sub (ws' := []) [] rfl
  have hDc := hD.sub (ws' := []) [] (by decide) rfl
  have hKc := hK.sub (tys' := [(cT, .object "LockRooms$Thing")]) [1] rfl
  have hFc := va_free (wc := []) hD hS hA [] rfl
  refine va_calli (va_runV (As := [.int 4, .int 0]) (rest := [.long (-5202561509149620225)]) ⟨hx, hb, hml, hown, hts⟩ (cz_QtellThing_4_0 l dC dI ed H95.size rm lk th pl gm cT ft t4 hkt4) (cwV 2 hts gX6_mixThings_X3_tellThing rfl rfl rfl (by decide +kernel) ⟨Nat.le_of_ble_eq_true rfl, Nat.le_of_ble_eq_true rfl⟩) ⟨zb_blind, va_recv hK (zo_R hR0 hS hAr) (ci := 5) (q0 := 1) rfl rfl, fun U hU hW => ⟨rfl, zb_mk hU hW hPr hPc hKc hDc hN hH hS hFc zx_e⟩⟩ rfl rfl hl.1 rfl (lv_room (Nat.le_of_ble_eq_true rfl)) dX6_mixThings_36 ⟨Nat.le_of_ble_eq_true rfl, Nat.le_of_ble_eq_true rfl⟩) hS (fun q _ h => hFc q h) hFc (fun r98 u t H97 locs ht hvm hw hB hz1 hk1 hS => ?_)
  obtain rfl : r98 = (-1) := hw
  have hP := zo_K hP hk1
  have hPr := (zo_nil : va_P (dC, dI) vwCl [] H97)
  have hPc := hP.sub (ws' := []) [] rfl
  have hDc := hD.sub (ws' := []) [] (by decide) rfl
  have hKc := hK.sub (tys' := []) [] rfl
  have hFc := va_free (wc := []) hD hS hA [] rfl
  refine va_calll (va_runS (As := [.long (-5202561509149620225), .int (-1)]) (rest := []) ⟨hx, hb, hml, hown, hts⟩ (cz_X6_mix l dC dI ed H97.size (-5202561509149620225) (-1)) (va_cwS 2 hts gX6_mixThings_X6_mix rfl rfl rfl (by decide +kernel) ⟨Nat.le_of_ble_eq_true rfl, Nat.le_of_ble_eq_true rfl⟩) ⟨zb_blind, fun U hU hW => ⟨rfl, zb_mk hU hW hPr hPc hKc hDc hN hH hS hFc zx_e⟩⟩ rfl rfl hl.1 rfl (lv_room (Nat.le_of_ble_eq_true rfl)) dX6_mixThings_39 ⟨Nat.le_of_ble_eq_true rfl, Nat.le_of_ble_eq_true rfl⟩) hS (fun q _ h => hFc q h) hFc (fun r100 u t H99 locs ht hvm hw hB hz1 hk1 hS => ?_)
  obtain rfl : r100 = 4741289879747737568 := hw.trans (by decide +kernel)
  have hP := zo_K hP hk1
  refine lv_lstore_n (lv' := [(3, .long 4741289879747737568), (6, .int 0), (5, .int 4), (0, .ref x), (1, .long (-1160429273186388225))]) hx hb dX6_mixThings_42 rfl hl (by decide) rfl (fun ls hl => ?_)
  refine lv_iinc (v := 1) (lv' := [(6, .int 1), (3, .long 4741289879747737568), (5, .int 4), (0, .ref x), (1, .long (-1160429273186388225))]) hx hb dX6_mixThings_43 hl (k := 1) rfl (by decide) (by decide) rfl (fun ls hl => ?_)
  refine lv_goto (tgt := 20) hx hb dX6_mixThings_46 (by decide) ?_
  refine lv_iload hx hb dX6_mixThings_20 (lv_at hl 0 rfl) ?_
  refine lv_bipush (v := 6) hx hb dX6_mixThings_22 (by decide) ?_
  refine lv_icmp_ge (tgt := 49) hx hb dX6_mixThings_24 (by decide) (fun h => absurd h (by decide)) (fun _ => ?_)
  refine lv_lload_n hx hb dX6_mixThings_27 rfl (lv_at hl 1 rfl) ?_
  refine lv_aload_n hx hb dX6_mixThings_28 rfl (lv_at hl 3 rfl) ?_
  refine va_get (D := (dC, dI)) (ci := 8) (v := .ref rm) (C := RX6) (T := TX6) (N := 3) hx hb hts zi_X6_mixThings_X6 hown hK (zo_R hR0 hS hAr) 0 rfl rfl 0 (by decide) (hts (.fieldLink RX6 12 "LockRooms" "room" "LLockRooms$Room;") (by decide +kernel)) (fun _ h9 => h9) rfl dX6_mixThings_29 ?_
  refine lv_iload hx hb dX6_mixThings_32 (lv_at hl 2 rfl) ?_
  refine lv_iload hx hb dX6_mixThings_34 (lv_at hl 0 rfl) ?_
  have hPr := ((zo_R hR0 hS hAr)).sub (ws' := [(rm, .inr (5, [.ref lk, .ref th, .ref pl, .ref gm, .int 2, .int 10, .int 0, .int 0, .int 1, .int 0, .int 0, .int 0])), (th, .inl (cT, 12, .inr (.inr (.inr (.inr ft))))), (t4, .inr (7, [.int (-1), .int 0, .int 0, .int 0, .int 0]))]) [1, 3, 10] rfl
  have hPc := hP.sub (ws' := []) [] rfl
  have hDc := hD.sub (ws' := []) [] (by decide) rfl
  have hKc := hK.sub (tys' := [(cT, .object "LockRooms$Thing")]) [1] rfl
  have hFc := va_free (wc := []) hD hS hA [] rfl
  refine va_calli (va_runV (As := [.int 4, .int 1]) (rest := [.long 4741289879747737568]) ⟨hx, hb, hml, hown, hts⟩ (cz_QtellThing_4_1 l dC dI ed H99.size rm lk th pl gm cT ft t4 hkt4) (cwV 2 hts gX6_mixThings_X3_tellThing rfl rfl rfl (by decide +kernel) ⟨Nat.le_of_ble_eq_true rfl, Nat.le_of_ble_eq_true rfl⟩) ⟨zb_blind, va_recv hK (zo_R hR0 hS hAr) (ci := 5) (q0 := 1) rfl rfl, fun U hU hW => ⟨rfl, zb_mk hU hW hPr hPc hKc hDc hN hH hS hFc zx_e⟩⟩ rfl rfl hl.1 rfl (lv_room (Nat.le_of_ble_eq_true rfl)) dX6_mixThings_36 ⟨Nat.le_of_ble_eq_true rfl, Nat.le_of_ble_eq_true rfl⟩) hS (fun q _ h => hFc q h) hFc (fun r102 u t H101 locs ht hvm hw hB hz1 hk1 hS => ?_)
  obtain rfl : r102 = 0 := hw
  have hP := zo_K hP hk1
  have hPr := (zo_nil : va_P (dC, dI) vwCl [] H101)
  have hPc := hP.sub (ws' := []) [] rfl
  have hDc := hD.sub (ws' := []) [] (by decide) rfl
  have hKc := hK.sub (tys' := []) [] rfl
  have hFc := va_free (wc := []) hD hS hA [] rfl
  refine va_calll (va_runS (As := [.long 4741289879747737568, .int 0]) (rest := []) ⟨hx, hb, hml, hown, hts⟩ (cz_X6_mix l dC dI ed H101.size 4741289879747737568 0) (va_cwS 2 hts gX6_mixThings_X6_mix rfl rfl rfl (by decide +kernel) ⟨Nat.le_of_ble_eq_true rfl, Nat.le_of_ble_eq_true rfl⟩) ⟨zb_blind, fun U hU hW => ⟨rfl, zb_mk hU hW hPr hPc hKc hDc hN hH hS hFc zx_e⟩⟩ rfl rfl hl.1 rfl (lv_room (Nat.le_of_ble_eq_true rfl)) dX6_mixThings_39 ⟨Nat.le_of_ble_eq_true rfl, Nat.le_of_ble_eq_true rfl⟩) hS (fun q _ h => hFc q h) hFc (fun r104 u t H103 locs ht hvm hw hB hz1 hk1 hS => ?_)
  obtain rfl : r104 = (-593966317496548320) := hw.trans (by decide +kernel)
  have hP := zo_K hP hk1
  refine lv_lstore_n (lv' := [(3, .long (-593966317496548320)), (6, .int 1), (5, .int 4), (0, .ref x), (1, .long (-1160429273186388225))]) hx hb dX6_mixThings_42 rfl hl (by decide) rfl (fun ls hl => ?_)
  refine lv_iinc (v := 2) (lv' := [(6, .int 2), (3, .long (-593966317496548320)), (5, .int 4), (0, .ref x), (1, .long (-1160429273186388225))]) hx hb dX6_mixThings_43 hl (k := 1) rfl (by decide) (by decide) rfl (fun ls hl => ?_)
  refine lv_goto (tgt := 20) hx hb dX6_mixThings_46 (by decide) ?_
  refine lv_iload hx hb dX6_mixThings_20 (lv_at hl 0 rfl) ?_
  refine lv_bipush (v := 6) hx hb dX6_mixThings_22 (by decide) ?_
  refine lv_icmp_ge (tgt := 49) hx hb dX6_mixThings_24 (by decide) (fun h => absurd h (by decide)) (fun _ => ?_)
  refine lv_lload_n hx hb dX6_mixThings_27 rfl (lv_at hl 1 rfl) ?_
  refine lv_aload_n hx hb dX6_mixThings_28 rfl (lv_at hl 3 rfl) ?_
  refine va_get (D := (dC, dI)) (ci := 8) (v := .ref rm) (C := RX6) (T := TX6) (N := 3) hx hb hts zi_X6_mixThings_X6 hown hK (zo_R hR0 hS hAr) 0 rfl rfl 0 (by decide) (hts (.fieldLink RX6 12 "LockRooms" "room" "LLockRooms$Room;") (by decide +kernel)) (fun _ h9 => h9) rfl dX6_mixThings_29 ?_
  refine lv_iload hx hb dX6_mixThings_32 (lv_at hl 2 rfl) ?_
  refine lv_iload hx hb dX6_mixThings_34 (lv_at hl 0 rfl) ?_
  have hPr := ((zo_R hR0 hS hAr)).sub (ws' := [(rm, .inr (5, [.ref lk, .ref th, .ref pl, .ref gm, .int 2, .int 10, .int 0, .int 0, .int 1, .int 0, .int 0, .int 0])), (th, .inl (cT, 12, .inr (.inr (.inr (.inr ft))))), (t4, .inr (7, [.int (-1), .int 0, .int 0, .int 0, .int 0]))]) [1, 3, 10] rfl
  have hPc := hP.sub (ws' := []) [] rfl
  have hDc := hD.sub (ws' := []) [] (by decide) rfl
  have hKc := hK.sub (tys' := [(cT, .object "LockRooms$Thing")]) [1] rfl
  have hFc := va_free (wc := []) hD hS hA [] rfl
  refine va_calli (va_runV (As := [.int 4, .int 2]) (rest := [.long (-593966317496548320)]) ⟨hx, hb, hml, hown, hts⟩ (cz_QtellThing_4_2 l dC dI ed H103.size rm lk th pl gm cT ft t4 hkt4) (cwV 2 hts gX6_mixThings_X3_tellThing rfl rfl rfl (by decide +kernel) ⟨Nat.le_of_ble_eq_true rfl, Nat.le_of_ble_eq_true rfl⟩) ⟨zb_blind, va_recv hK (zo_R hR0 hS hAr) (ci := 5) (q0 := 1) rfl rfl, fun U hU hW => ⟨rfl, zb_mk hU hW hPr hPc hKc hDc hN hH hS hFc zx_e⟩⟩ rfl rfl hl.1 rfl (lv_room (Nat.le_of_ble_eq_true rfl)) dX6_mixThings_36 ⟨Nat.le_of_ble_eq_true rfl, Nat.le_of_ble_eq_true rfl⟩) hS (fun q _ h => hFc q h) hFc (fun r106 u t H105 locs ht hvm hw hB hz1 hk1 hS => ?_)
  obtain rfl : r106 = 0 := hw
  have hP := zo_K hP hk1
  have hPr := (zo_nil : va_P (dC, dI) vwCl [] H105)
  have hPc := hP.sub (ws' := []) [] rfl
  have hDc := hD.sub (ws' := []) [] (by decide) rfl
  have hKc := hK.sub (tys' := []) [] rfl
  have hFc := va_free (wc := []) hD hS hA [] rfl
  refine va_calll (va_runS (As := [.long (-593966317496548320), .int 0]) (rest := []) ⟨hx, hb, hml, hown, hts⟩ (cz_X6_mix l dC dI ed H105.size (-593966317496548320) 0) (va_cwS 2 hts gX6_mixThings_X6_mix rfl rfl rfl (by decide +kernel) ⟨Nat.le_of_ble_eq_true rfl, Nat.le_of_ble_eq_true rfl⟩) ⟨zb_blind, fun U hU hW => ⟨rfl, zb_mk hU hW hPr hPc hKc hDc hN hH hS hFc zx_e⟩⟩ rfl rfl hl.1 rfl (lv_room (Nat.le_of_ble_eq_true rfl)) dX6_mixThings_39 ⟨Nat.le_of_ble_eq_true rfl, Nat.le_of_ble_eq_true rfl⟩) hS (fun q _ h => hFc q h) hFc (fun r108 u t H107 locs ht hvm hw hB hz1 hk1 hS => ?_)
  obtain rfl : r108 = 33788231316553696 := hw.trans (by decide +kernel)
  have hP := zo_K hP hk1
  refine lv_lstore_n (lv' := [(3, .long 33788231316553696), (6, .int 2), (5, .int 4), (0, .ref x), (1, .long (-1160429273186388225))]) hx hb dX6_mixThings_42 rfl hl (by decide) rfl (fun ls hl => ?_)
  refine lv_iinc (v := 3) (lv' := [(6, .int 3), (3, .long 33788231316553696), (5, .int 4), (0, .ref x), (1, .long (-1160429273186388225))]) hx hb dX6_mixThings_43 hl (k := 1) rfl (by decide) (by decide) rfl (fun ls hl => ?_)
  refine lv_goto (tgt := 20) hx hb dX6_mixThings_46 (by decide) ?_
  refine lv_iload hx hb dX6_mixThings_20 (lv_at hl 0 rfl) ?_
  refine lv_bipush (v := 6) hx hb dX6_mixThings_22 (by decide) ?_
  refine lv_icmp_ge (tgt := 49) hx hb dX6_mixThings_24 (by decide) (fun h => absurd h (by decide)) (fun _ => ?_)
  refine lv_lload_n hx hb dX6_mixThings_27 rfl (lv_at hl 1 rfl) ?_
  refine lv_aload_n hx hb dX6_mixThings_28 rfl (lv_at hl 3 rfl) ?_
  refine va_get (D := (dC, dI)) (ci := 8) (v := .ref rm) (C := RX6) (T := TX6) (N := 3) hx hb hts zi_X6_mixThings_X6 hown hK (zo_R hR0 hS hAr) 0 rfl rfl 0 (by decide) (hts (.fieldLink RX6 12 "LockRooms" "room" "LLockRooms$Room;") (by decide +kernel)) (fun _ h9 => h9) rfl dX6_mixThings_29 ?_
  refine lv_iload hx hb dX6_mixThings_32 (lv_at hl 2 rfl) ?_
  refine lv_iload hx hb dX6_mixThings_34 (lv_at hl 0 rfl) ?_
  have hPr := ((zo_R hR0 hS hAr)).sub (ws' := [(rm, .inr (5, [.ref lk, .ref th, .ref pl, .ref gm, .int 2, .int 10, .int 0, .int 0, .int 1, .int 0, .int 0, .int 0])), (th, .inl (cT, 12, .inr (.inr (.inr (.inr ft))))), (t4, .inr (7, [.int (-1), .int 0, .int 0, .int 0, .int 0]))]) [1, 3, 10] rfl
  have hPc := hP.sub (ws' := []) [] rfl
  have hDc := hD.sub (ws' := []) [] (by decide) rfl
  have hKc := hK.sub (tys' := [(cT, .object "LockRooms$Thing")]) [1] rfl
  have hFc := va_free (wc := []) hD hS hA [] rfl
  refine va_calli (va_runV (As := [.int 4, .int 3]) (rest := [.long 33788231316553696]) ⟨hx, hb, hml, hown, hts⟩ (cz_QtellThing_4_3 l dC dI ed H107.size rm lk th pl gm cT ft t4 hkt4) (cwV 2 hts gX6_mixThings_X3_tellThing rfl rfl rfl (by decide +kernel) ⟨Nat.le_of_ble_eq_true rfl, Nat.le_of_ble_eq_true rfl⟩) ⟨zb_blind, va_recv hK (zo_R hR0 hS hAr) (ci := 5) (q0 := 1) rfl rfl, fun U hU hW => ⟨rfl, zb_mk hU hW hPr hPc hKc hDc hN hH hS hFc zx_e⟩⟩ rfl rfl hl.1 rfl (lv_room (Nat.le_of_ble_eq_true rfl)) dX6_mixThings_36 ⟨Nat.le_of_ble_eq_true rfl, Nat.le_of_ble_eq_true rfl⟩) hS (fun q _ h => hFc q h) hFc (fun r110 u t H109 locs ht hvm hw hB hz1 hk1 hS => ?_)
  obtain rfl : r110 = 0 := hw
  have hP := zo_K hP hk1
  have hPr := (zo_nil : va_P (dC, dI) vwCl [] H109)
  have hPc := hP.sub (ws' := []) [] rfl
  have hDc := hD.sub (ws' := []) [] (by decide) rfl
  have hKc := hK.sub (tys' := []) [] rfl
  have hFc := va_free (wc := []) hD hS hA [] rfl
  refine va_calll (va_runS (As := [.long 33788231316553696, .int 0]) (rest := []) ⟨hx, hb, hml, hown, hts⟩ (cz_X6_mix l dC dI ed H109.size 33788231316553696 0) (va_cwS 2 hts gX6_mixThings_X6_mix rfl rfl rfl (by decide +kernel) ⟨Nat.le_of_ble_eq_true rfl, Nat.le_of_ble_eq_true rfl⟩) ⟨zb_blind, fun U hU hW => ⟨rfl, zb_mk hU hW hPr hPc hKc hDc hN hH hS hFc zx_e⟩⟩ rfl rfl hl.1 rfl (lv_room (Nat.le_of_ble_eq_true rfl)) dX6_mixThings_39 ⟨Nat.le_of_ble_eq_true rfl, Nat.le_of_ble_eq_true rfl⟩) hS (fun q _ h => hFc q h) hFc (fun r112 u t H111 locs ht hvm hw hB hz1 hk1 hS => ?_)
  obtain rfl : r112 = 1047435170813164576 := hw.trans (by decide +kernel)
  have hP := zo_K hP hk1
  refine lv_lstore_n (lv' := [(3, .long 1047435170813164576), (6, .int 3), (5, .int 4), (0, .ref x), (1, .long (-1160429273186388225))]) hx hb dX6_mixThings_42 rfl hl (by decide) rfl (fun ls hl => ?_)
  refine lv_iinc (v := 4) (lv' := [(6, .int 4), (3, .long 1047435170813164576), (5, .int 4), (0, .ref x), (1, .long (-1160429273186388225))]) hx hb dX6_mixThings_43 hl (k := 1) rfl (by decide) (by decide) rfl (fun ls hl => ?_)
  refine lv_goto (tgt := 20) hx hb dX6_mixThings_46 (by decide) ?_
  refine lv_iload hx hb dX6_mixThings_20 (lv_at hl 0 rfl) ?_
  refine lv_bipush (v := 6) hx hb dX6_mixThings_22 (by decide) ?_
  refine lv_icmp_ge (tgt := 49) hx hb dX6_mixThings_24 (by decide) (fun h => absurd h (by decide)) (fun _ => ?_)
  refine lv_lload_n hx hb dX6_mixThings_27 rfl (lv_at hl 1 rfl) ?_
  refine lv_aload_n hx hb dX6_mixThings_28 rfl (lv_at hl 3 rfl) ?_
  refine va_get (D := (dC, dI)) (ci := 8) (v := .ref rm) (C := RX6) (T := TX6) (N := 3) hx hb hts zi_X6_mixThings_X6 hown hK (zo_R hR0 hS hAr) 0 rfl rfl 0 (by decide) (hts (.fieldLink RX6 12 "LockRooms" "room" "LLockRooms$Room;") (by decide +kernel)) (fun _ h9 => h9) rfl dX6_mixThings_29 ?_
  refine lv_iload hx hb dX6_mixThings_32 (lv_at hl 2 rfl) ?_
  refine lv_iload hx hb dX6_mixThings_34 (lv_at hl 0 rfl) ?_
  have hPr := ((zo_R hR0 hS hAr)).sub (ws' := [(rm, .inr (5, [.ref lk, .ref th, .ref pl, .ref gm, .int 2, .int 10, .int 0, .int 0, .int 1, .int 0, .int 0, .int 0])), (th, .inl (cT, 12, .inr (.inr (.inr (.inr ft))))), (t4, .inr (7, [.int (-1), .int 0, .int 0, .int 0, .int 0])), (lk, .inl (cL, 10, .inr (.inr (.inr (.inr fl))))), (l0, .inr (3, [.int 0, .int 0, .int 60, .int 0, .int 0, .int 0, .int 0, .int 0, .int 0, .int 0])), (l1, .inr (3, [.int 0, .int 0, .int 60, .int 0, .int 0, .int 0, .int 0, .int 0, .int 0, .int 0]))]) [1, 3, 10, 2, 4, 5] rfl
  have hPc := hP.sub (ws' := []) [] rfl
  have hDc := hD.sub (ws' := []) [] (by decide) rfl
  have hKc := hK.sub (tys' := [(cT, .object "LockRooms$Thing"), (cL, .object "LockRooms$Lock")]) [1, 0] rfl
  have hFc := va_free (wc := []) hD hS hA [] rfl
  refine va_calli (va_runV (As := [.int 4, .int 4]) (rest := [.long 1047435170813164576]) ⟨hx, hb, hml, hown, hts⟩ (cz_QtellThing_4_4 l dC dI ed H111.size rm lk th pl gm cT ft t4 cL fl l0 l1 hkt4 hkl0 hkl1) (cwV 2 hts gX6_mixThings_X3_tellThing rfl rfl rfl (by decide +kernel) ⟨Nat.le_of_ble_eq_true rfl, Nat.le_of_ble_eq_true rfl⟩) ⟨zb_blind, va_recv hK (zo_R hR0 hS hAr) (ci := 5) (q0 := 1) rfl rfl, fun U hU hW => ⟨rfl, zb_mk hU hW hPr hPc hKc hDc hN hH hS hFc zx_e⟩⟩ rfl rfl hl.1 rfl (lv_room (Nat.le_of_ble_eq_true rfl)) dX6_mixThings_36 ⟨Nat.le_of_ble_eq_true rfl, Nat.le_of_ble_eq_true rfl⟩) hS (fun q _ h => hFc q h) hFc (fun r114 u t H113 locs ht hvm hw hB hz1 hk1 hS => ?_)
  obtain rfl : r114 = 1 := hw
  have hP := zo_K hP hk1
  have hPr := (zo_nil : va_P (dC, dI) vwCl [] H113)
  have hPc := hP.sub (ws' := []) [] rfl
  have hDc := hD.sub (ws' := []) [] (by decide) rfl
  have hKc := hK.sub (tys' := []) [] rfl
  have hFc := va_free (wc := []) hD hS hA [] rfl
  refine va_calll (va_runS (As := [.long 1047435170813164576, .int 1]) (rest := []) ⟨hx, hb, hml, hown, hts⟩ (cz_X6_mix l dC dI ed H113.size 1047435170813164576 1) (va_cwS 2 hts gX6_mixThings_X6_mix rfl rfl rfl (by decide +kernel) ⟨Nat.le_of_ble_eq_true rfl, Nat.le_of_ble_eq_true rfl⟩) ⟨zb_blind, fun U hU hW => ⟨rfl, zb_mk hU hW hPr hPc hKc hDc hN hH hS hFc zx_e⟩⟩ rfl rfl hl.1 rfl (lv_room (Nat.le_of_ble_eq_true rfl)) dX6_mixThings_39 ⟨Nat.le_of_ble_eq_true rfl, Nat.le_of_ble_eq_true rfl⟩) hS (fun q _ h => hFc q h) hFc (fun r116 u t H115 locs ht hvm hw hB hz1 hk1 hS => ?_)
  obtain rfl : r116 = (-4422997852211001375) := hw.trans (by decide +kernel)
  have hP := zo_K hP hk1
  refine lv_lstore_n (lv' := [(3, .long (-4422997852211001375)), (6, .int 4), (5, .int 4), (0, .ref x), (1, .long (-1160429273186388225))]) hx hb dX6_mixThings_42 rfl hl (by decide) rfl (fun ls hl => ?_)
  refine lv_iinc (v := 5) (lv' := [(6, .int 5), (3, .long (-4422997852211001375)), (5, .int 4), (0, .ref x), (1, .long (-1160429273186388225))]) hx hb dX6_mixThings_43 hl (k := 1) rfl (by decide) (by decide) rfl (fun ls hl => ?_)
  refine lv_goto (tgt := 20) hx hb dX6_mixThings_46 (by decide) ?_
  refine lv_iload hx hb dX6_mixThings_20 (lv_at hl 0 rfl) ?_
  refine lv_bipush (v := 6) hx hb dX6_mixThings_22 (by decide) ?_
  refine lv_icmp_ge (tgt := 49) hx hb dX6_mixThings_24 (by decide) (fun h => absurd h (by decide)) (fun _ => ?_)
  refine lv_lload_n hx hb dX6_mixThings_27 rfl (lv_at hl 1 rfl) ?_
  refine lv_aload_n hx hb dX6_mixThings_28 rfl (lv_at hl 3 rfl) ?_
  refine va_get (D := (dC, dI)) (ci := 8) (v := .ref rm) (C := RX6) (T := TX6) (N := 3) hx hb hts zi_X6_mixThings_X6 hown hK (zo_R hR0 hS hAr) 0 rfl rfl 0 (by decide) (hts (.fieldLink RX6 12 "LockRooms" "room" "LLockRooms$Room;") (by decide +kernel)) (fun _ h9 => h9) rfl dX6_mixThings_29 ?_
  refine lv_iload hx hb dX6_mixThings_32 (lv_at hl 2 rfl) ?_
  refine lv_iload hx hb dX6_mixThings_34 (lv_at hl 0 rfl) ?_
  have hPr := ((zo_R hR0 hS hAr)).sub (ws' := [(rm, .inr (5, [.ref lk, .ref th, .ref pl, .ref gm, .int 2, .int 10, .int 0, .int 0, .int 1, .int 0, .int 0, .int 0])), (th, .inl (cT, 12, .inr (.inr (.inr (.inr ft))))), (t4, .inr (7, [.int (-1), .int 0, .int 0, .int 0, .int 0])), (lk, .inl (cL, 10, .inr (.inr (.inr (.inr fl))))), (l0, .inr (3, [.int 0, .int 0, .int 60, .int 0, .int 0, .int 0, .int 0, .int 0, .int 0, .int 0])), (l1, .inr (3, [.int 0, .int 0, .int 60, .int 0, .int 0, .int 0, .int 0, .int 0, .int 0, .int 0]))]) [1, 3, 10, 2, 4, 5] rfl
  have hPc := hP.sub (ws' := []) [] rfl
  have hDc := hD.sub (ws' := []) [] (by decide) rfl
  have hKc := hK.sub (tys' := [(cT, .object "LockRooms$Thing"), (cL, .object "LockRooms$Lock")]) [1, 0] rfl
  have hFc := va_free (wc := []) hD hS hA [] rfl
  refine va_calli (va_runV (As := [.int 4, .int 5]) (rest := [.long (-4422997852211001375)]) ⟨hx, hb, hml, hown, hts⟩ (cz_QtellThing_4_5 l dC dI ed H115.size rm lk th pl gm cT ft t4 cL fl l0 l1 hkt4 hkl0 hkl1) (cwV 2 hts gX6_mixThings_X3_tellThing rfl rfl rfl (by decide +kernel) ⟨Nat.le_of_ble_eq_true rfl, Nat.le_of_ble_eq_true rfl⟩) ⟨zb_blind, va_recv hK (zo_R hR0 hS hAr) (ci := 5) (q0 := 1) rfl rfl, fun U hU hW => ⟨rfl, zb_mk hU hW hPr hPc hKc hDc hN hH hS hFc zx_e⟩⟩ rfl rfl hl.1 rfl (lv_room (Nat.le_of_ble_eq_true rfl)) dX6_mixThings_36 ⟨Nat.le_of_ble_eq_true rfl, Nat.le_of_ble_eq_true rfl⟩) hS (fun q _ h => hFc q h) hFc (fun r118 u t H117 locs ht hvm hw hB hz1 hk1 hS => ?_)
  obtain rfl : r118 = 0 := hw
  have hP := zo_K hP hk1
  have hPr := (zo_nil : va_P (dC, dI) vwCl [] H117)
  have hPc := hP.sub (ws' := []) [] rfl
  have hDc := hD.sub (ws' := []) [] (by decide) rfl
  have hKc := hK.sub (tys' := []) [] rfl
  have hFc := va_free (wc := []) hD hS hA [] rfl
  refine va_calll (va_runS (As := [.long (-4422997852211001375), .int 0]) (rest := []) ⟨hx, hb, hml, hown, hts⟩ (cz_X6_mix l dC dI ed H117.size (-4422997852211001375) 0) (va_cwS 2 hts gX6_mixThings_X6_mix rfl rfl rfl (by decide +kernel) ⟨Nat.le_of_ble_eq_true rfl, Nat.le_of_ble_eq_true rfl⟩) ⟨zb_blind, fun U hU hW => ⟨rfl, zb_mk hU hW hPr hPc hKc hDc hN hH hS hFc zx_e⟩⟩ rfl rfl hl.1 rfl (lv_room (Nat.le_of_ble_eq_true rfl)) dX6_mixThings_39 ⟨Nat.le_of_ble_eq_true rfl, Nat.le_of_ble_eq_true rfl⟩) hS (fun q _ h => hFc q h) hFc (fun r120 u t H119 locs ht hvm hw hB hz1 hk1 hS => ?_)
  obtain rfl : r120 = (-7985724902574181313) := hw.trans (by decide +kernel)
  have hP := zo_K hP hk1
  refine lv_lstore_n (lv' := [(3, .long (-7985724902574181313)), (6, .int 5), (5, .int 4), (0, .ref x), (1, .long (-1160429273186388225))]) hx hb dX6_mixThings_42 rfl hl (by decide) rfl (fun ls hl => ?_)
  refine lv_iinc (v := 6) (lv' := [(6, .int 6), (3, .long (-7985724902574181313)), (5, .int 4), (0, .ref x), (1, .long (-1160429273186388225))]) hx hb dX6_mixThings_43 hl (k := 1) rfl (by decide) (by decide) rfl (fun ls hl => ?_)
  refine lv_goto (tgt := 20) hx hb dX6_mixThings_46 (by decide) ?_
  refine lv_iload hx hb dX6_mixThings_20 (lv_at hl 0 rfl) ?_
  refine lv_bipush (v := 6) hx hb dX6_mixThings_22 (by decide) ?_
  refine lv_icmp_ge (tgt := 49) hx hb dX6_mixThings_24 (by decide) (fun _ => ?_) (fun h => absurd h (by decide))
  refine lv_iinc (v := 5) (lv' := [(5, .int 5), (6, .int 6), (3, .long (-7985724902574181313)), (0, .ref x), (1, .long (-1160429273186388225))]) hx hb dX6_mixThings_49 hl (k := 2) rfl (by decide) (by decide) rfl (fun ls hl => ?_)
  refine lv_goto (tgt := 5) hx hb dX6_mixThings_52 (by decide) ?_
  refine lv_iload hx hb dX6_mixThings_5 (lv_at hl 0 rfl) ?_
  refine lv_aload_n hx hb dX6_mixThings_7 rfl (lv_at hl 3 rfl) ?_
  refine va_get (D := (dC, dI)) (ci := 8) (v := .ref rm) (C := RX6) (T := TX6) (N := 3) hx hb hts zi_X6_mixThings_X6 hown hK (zo_R hR0 hS hAr) 0 rfl rfl 0 (by decide) (hts (.fieldLink RX6 12 "LockRooms" "room" "LLockRooms$Room;") (by decide +kernel)) (fun _ h9 => h9) rfl dX6_mixThings_8 ?_
  refine va_get (D := (dC, dI)) (ci := 5) (v := .int 10) (C := RX3) (T := TX3) (N := 12) hx hb hts zi_X6_mixThings_X3 hown hK (zo_R hR0 hS hAr) 1 rfl rfl 5 (by decide) (hts (.fieldLink RX6 71 "LockRooms$Room" "thingCount" "I") (by decide +kernel)) (fun _ h9 => h9) rfl dX6_mixThings_11 ?_
  refine lv_icmp_ge (tgt := 55) hx hb dX6_mixThings_14 (by decide) (fun h => absurd h (by decide)) (fun _ => ?_)
  refine lv_iconst (v := 0) hx hb dX6_mixThings_17 (by decide) ?_
  refine lv_istore (lv' := [(6, .int 0), (5, .int 5), (3, .long (-7985724902574181313)), (0, .ref x), (1, .long (-1160429273186388225))]) hx hb dX6_mixThings_18 hl (by decide) rfl (fun ls hl => ?_)
  refine lv_iload hx hb dX6_mixThings_20 (lv_at hl 0 rfl) ?_
  refine lv_bipush (v := 6) hx hb dX6_mixThings_22 (by decide) ?_
  refine lv_icmp_ge (tgt := 49) hx hb dX6_mixThings_24 (by decide) (fun h => absurd h (by decide)) (fun _ => ?_)
  refine lv_lload_n hx hb dX6_mixThings_27 rfl (lv_at hl 2 rfl) ?_
  refine lv_aload_n hx hb dX6_mixThings_28 rfl (lv_at hl 3 rfl) ?_
  refine va_get (D := (dC, dI)) (ci := 8) (v := .ref rm) (C := RX6) (T := TX6) (N := 3) hx hb hts zi_X6_mixThings_X6 hown hK (zo_R hR0 hS hAr) 0 rfl rfl 0 (by decide) (hts (.fieldLink RX6 12 "LockRooms" "room" "LLockRooms$Room;") (by decide +kernel)) (fun _ h9 => h9) rfl dX6_mixThings_29 ?_
  refine lv_iload hx hb dX6_mixThings_32 (lv_at hl 1 rfl) ?_
  refine lv_iload hx hb dX6_mixThings_34 (lv_at hl 0 rfl) ?_
  have hPr := ((zo_R hR0 hS hAr)).sub (ws' := [(rm, .inr (5, [.ref lk, .ref th, .ref pl, .ref gm, .int 2, .int 10, .int 0, .int 0, .int 1, .int 0, .int 0, .int 0])), (th, .inl (cT, 12, .inr (.inr (.inr (.inr ft))))), (t5, .inr (7, [.int (-1), .int 0, .int 0, .int 0, .int 0]))]) [1, 3, 11] rfl
  have hPc := hP.sub (ws' := []) [] rfl
  have hDc := hD.sub (ws' := []) [] (by decide) rfl
  have hKc := hK.sub (tys' := [(cT, .object "LockRooms$Thing")]) [1] rfl
  have hFc := va_free (wc := []) hD hS hA [] rfl
  refine va_calli (va_runV (As := [.int 5, .int 0]) (rest := [.long (-7985724902574181313)]) ⟨hx, hb, hml, hown, hts⟩ (cz_QtellThing_5_0 l dC dI ed H119.size rm lk th pl gm cT ft t5 hkt5) (cwV 2 hts gX6_mixThings_X3_tellThing rfl rfl rfl (by decide +kernel) ⟨Nat.le_of_ble_eq_true rfl, Nat.le_of_ble_eq_true rfl⟩) ⟨zb_blind, va_recv hK (zo_R hR0 hS hAr) (ci := 5) (q0 := 1) rfl rfl, fun U hU hW => ⟨rfl, zb_mk hU hW hPr hPc hKc hDc hN hH hS hFc zx_e⟩⟩ rfl rfl hl.1 rfl (lv_room (Nat.le_of_ble_eq_true rfl)) dX6_mixThings_36 ⟨Nat.le_of_ble_eq_true rfl, Nat.le_of_ble_eq_true rfl⟩) hS (fun q _ h => hFc q h) hFc (fun r122 u t H121 locs ht hvm hw hB hz1 hk1 hS => ?_)
  obtain rfl : r122 = (-1) := hw
  have hP := zo_K hP hk1
  have hPr := (zo_nil : va_P (dC, dI) vwCl [] H121)
  have hPc := hP.sub (ws' := []) [] rfl
  have hDc := hD.sub (ws' := []) [] (by decide) rfl
  have hKc := hK.sub (tys' := []) [] rfl
  have hFc := va_free (wc := []) hD hS hA [] rfl
  refine va_calll (va_runS (As := [.long (-7985724902574181313), .int (-1)]) (rest := []) ⟨hx, hb, hml, hown, hts⟩ (cz_X6_mix l dC dI ed H121.size (-7985724902574181313) (-1)) (va_cwS 2 hts gX6_mixThings_X6_mix rfl rfl rfl (by decide +kernel) ⟨Nat.le_of_ble_eq_true rfl, Nat.le_of_ble_eq_true rfl⟩) ⟨zb_blind, fun U hU hW => ⟨rfl, zb_mk hU hW hPr hPc hKc hDc hN hH hS hFc zx_e⟩⟩ rfl rfl hl.1 rfl (lv_room (Nat.le_of_ble_eq_true rfl)) dX6_mixThings_39 ⟨Nat.le_of_ble_eq_true rfl, Nat.le_of_ble_eq_true rfl⟩) hS (fun q _ h => hFc q h) hFc (fun r124 u t H123 locs ht hvm hw hB hz1 hk1 hS => ?_)
  obtain rfl : r124 = (-7749799021575449696) := hw.trans (by decide +kernel)
  have hP := zo_K hP hk1
  refine lv_lstore_n (lv' := [(3, .long (-7749799021575449696)), (6, .int 0), (5, .int 5), (0, .ref x), (1, .long (-1160429273186388225))]) hx hb dX6_mixThings_42 rfl hl (by decide) rfl (fun ls hl => ?_)
  refine lv_iinc (v := 1) (lv' := [(6, .int 1), (3, .long (-7749799021575449696)), (5, .int 5), (0, .ref x), (1, .long (-1160429273186388225))]) hx hb dX6_mixThings_43 hl (k := 1) rfl (by decide) (by decide) rfl (fun ls hl => ?_)
  refine lv_goto (tgt := 20) hx hb dX6_mixThings_46 (by decide) ?_
  refine lv_iload hx hb dX6_mixThings_20 (lv_at hl 0 rfl) ?_
  refine lv_bipush (v := 6) hx hb dX6_mixThings_22 (by decide) ?_
  refine lv_icmp_ge (tgt := 49) hx hb dX6_mixThings_24 (by decide) (fun h => absurd h (by decide)) (fun _ => ?_)
  refine lv_lload_n hx hb dX6_mixThings_27 rfl (lv_at hl 1 rfl) ?_
  refine lv_aload_n hx hb dX6_mixThings_28 rfl (lv_at hl 3 rfl) ?_
  refine va_get (D := (dC, dI)) (ci := 8) (v := .ref rm) (C := RX6) (T := TX6) (N := 3) hx hb hts zi_X6_mixThings_X6 hown hK (zo_R hR0 hS hAr) 0 rfl rfl 0 (by decide) (hts (.fieldLink RX6 12 "LockRooms" "room" "LLockRooms$Room;") (by decide +kernel)) (fun _ h9 => h9) rfl dX6_mixThings_29 ?_
  refine lv_iload hx hb dX6_mixThings_32 (lv_at hl 2 rfl) ?_
  refine lv_iload hx hb dX6_mixThings_34 (lv_at hl 0 rfl) ?_
  have hPr := ((zo_R hR0 hS hAr)).sub (ws' := [(rm, .inr (5, [.ref lk, .ref th, .ref pl, .ref gm, .int 2, .int 10, .int 0, .int 0, .int 1, .int 0, .int 0, .int 0])), (th, .inl (cT, 12, .inr (.inr (.inr (.inr ft))))), (t5, .inr (7, [.int (-1), .int 0, .int 0, .int 0, .int 0]))]) [1, 3, 11] rfl
  have hPc := hP.sub (ws' := []) [] rfl
  have hDc := hD.sub (ws' := []) [] (by decide) rfl
  have hKc := hK.sub (tys' := [(cT, .object "LockRooms$Thing")]) [1] rfl
  have hFc := va_free (wc := []) hD hS hA [] rfl
  refine va_calli (va_runV (As := [.int 5, .int 1]) (rest := [.long (-7749799021575449696)]) ⟨hx, hb, hml, hown, hts⟩ (cz_QtellThing_5_1 l dC dI ed H123.size rm lk th pl gm cT ft t5 hkt5) (cwV 2 hts gX6_mixThings_X3_tellThing rfl rfl rfl (by decide +kernel) ⟨Nat.le_of_ble_eq_true rfl, Nat.le_of_ble_eq_true rfl⟩) ⟨zb_blind, va_recv hK (zo_R hR0 hS hAr) (ci := 5) (q0 := 1) rfl rfl, fun U hU hW => ⟨rfl, zb_mk hU hW hPr hPc hKc hDc hN hH hS hFc zx_e⟩⟩ rfl rfl hl.1 rfl (lv_room (Nat.le_of_ble_eq_true rfl)) dX6_mixThings_36 ⟨Nat.le_of_ble_eq_true rfl, Nat.le_of_ble_eq_true rfl⟩) hS (fun q _ h => hFc q h) hFc (fun r126 u t H125 locs ht hvm hw hB hz1 hk1 hS => ?_)
  obtain rfl : r126 = 0 := hw
  have hP := zo_K hP hk1
  have hPr := (zo_nil : va_P (dC, dI) vwCl [] H125)
  have hPc := hP.sub (ws' := []) [] rfl
  have hDc := hD.sub (ws' := []) [] (by decide) rfl
  have hKc := hK.sub (tys' := []) [] rfl
  have hFc := va_free (wc := []) hD hS hA [] rfl
  refine va_calll (va_runS (As := [.long (-7749799021575449696), .int 0]) (rest := []) ⟨hx, hb, hml, hown, hts⟩ (cz_X6_mix l dC dI ed H125.size (-7749799021575449696) 0) (va_cwS 2 hts gX6_mixThings_X6_mix rfl rfl rfl (by decide +kernel) ⟨Nat.le_of_ble_eq_true rfl, Nat.le_of_ble_eq_true rfl⟩) ⟨zb_blind, fun U hU hW => ⟨rfl, zb_mk hU hW hPr hPc hKc hDc hN hH hS hFc zx_e⟩⟩ rfl rfl hl.1 rfl (lv_room (Nat.le_of_ble_eq_true rfl)) dX6_mixThings_39 ⟨Nat.le_of_ble_eq_true rfl, Nat.le_of_ble_eq_true rfl⟩) hS (fun q _ h => hFc q h) hFc (fun r128 u t H127 locs ht hvm hw hB hz1 hk1 hS => ?_)
  obtain rfl : r128 = (-436096710614769568) := hw.trans (by decide +kernel)
  have hP := zo_K hP hk1
  refine lv_lstore_n (lv' := [(3, .long (-436096710614769568)), (6, .int 1), (5, .int 5), (0, .ref x), (1, .long (-1160429273186388225))]) hx hb dX6_mixThings_42 rfl hl (by decide) rfl (fun ls hl => ?_)
  refine lv_iinc (v := 2) (lv' := [(6, .int 2), (3, .long (-436096710614769568)), (5, .int 5), (0, .ref x), (1, .long (-1160429273186388225))]) hx hb dX6_mixThings_43 hl (k := 1) rfl (by decide) (by decide) rfl (fun ls hl => ?_)
  refine lv_goto (tgt := 20) hx hb dX6_mixThings_46 (by decide) ?_
  refine lv_iload hx hb dX6_mixThings_20 (lv_at hl 0 rfl) ?_
  refine lv_bipush (v := 6) hx hb dX6_mixThings_22 (by decide) ?_
  refine lv_icmp_ge (tgt := 49) hx hb dX6_mixThings_24 (by decide) (fun h => absurd h (by decide)) (fun _ => ?_)
  refine lv_lload_n hx hb dX6_mixThings_27 rfl (lv_at hl 1 rfl) ?_
  refine lv_aload_n hx hb dX6_mixThings_28 rfl (lv_at hl 3 rfl) ?_
  refine va_get (D := (dC, dI)) (ci := 8) (v := .ref rm) (C := RX6) (T := TX6) (N := 3) hx hb hts zi_X6_mixThings_X6 hown hK (zo_R hR0 hS hAr) 0 rfl rfl 0 (by decide) (hts (.fieldLink RX6 12 "LockRooms" "room" "LLockRooms$Room;") (by decide +kernel)) (fun _ h9 => h9) rfl dX6_mixThings_29 ?_
  refine lv_iload hx hb dX6_mixThings_32 (lv_at hl 2 rfl) ?_
  refine lv_iload hx hb dX6_mixThings_34 (lv_at hl 0 rfl) ?_
  have hPr := ((zo_R hR0 hS hAr)).sub (ws' := [(rm, .inr (5, [.ref lk, .ref th, .ref pl, .ref gm, .int 2, .int 10, .int 0, .int 0, .int 1, .int 0, .int 0, .int 0])), (th, .inl (cT, 12, .inr (.inr (.inr (.inr ft))))), (t5, .inr (7, [.int (-1), .int 0, .int 0, .int 0, .int 0]))]) [1, 3, 11] rfl
  have hPc := hP.sub (ws' := []) [] rfl
  have hDc := hD.sub (ws' := []) [] (by decide) rfl
  have hKc := hK.sub (tys' := [(cT, .object "LockRooms$Thing")]) [1] rfl
  have hFc := va_free (wc := []) hD hS hA [] rfl
  refine va_calli (va_runV (As := [.int 5, .int 2]) (rest := [.long (-436096710614769568)]) ⟨hx, hb, hml, hown, hts⟩ (cz_QtellThing_5_2 l dC dI ed H127.size rm lk th pl gm cT ft t5 hkt5) (cwV 2 hts gX6_mixThings_X3_tellThing rfl rfl rfl (by decide +kernel) ⟨Nat.le_of_ble_eq_true rfl, Nat.le_of_ble_eq_true rfl⟩) ⟨zb_blind, va_recv hK (zo_R hR0 hS hAr) (ci := 5) (q0 := 1) rfl rfl, fun U hU hW => ⟨rfl, zb_mk hU hW hPr hPc hKc hDc hN hH hS hFc zx_e⟩⟩ rfl rfl hl.1 rfl (lv_room (Nat.le_of_ble_eq_true rfl)) dX6_mixThings_36 ⟨Nat.le_of_ble_eq_true rfl, Nat.le_of_ble_eq_true rfl⟩) hS (fun q _ h => hFc q h) hFc (fun r130 u t H129 locs ht hvm hw hB hz1 hk1 hS => ?_)
  obtain rfl : r130 = 0 := hw
  have hP := zo_K hP hk1
  have hPr := (zo_nil : va_P (dC, dI) vwCl [] H129)
  have hPc := hP.sub (ws' := []) [] rfl
  have hDc := hD.sub (ws' := []) [] (by decide) rfl
  have hKc := hK.sub (tys' := []) [] rfl
  have hFc := va_free (wc := []) hD hS hA [] rfl
  refine va_calll (va_runS (As := [.long (-436096710614769568), .int 0]) (rest := []) ⟨hx, hb, hml, hown, hts⟩ (cz_X6_mix l dC dI ed H129.size (-436096710614769568) 0) (va_cwS 2 hts gX6_mixThings_X6_mix rfl rfl rfl (by decide +kernel) ⟨Nat.le_of_ble_eq_true rfl, Nat.le_of_ble_eq_true rfl⟩) ⟨zb_blind, fun U hU hW => ⟨rfl, zb_mk hU hW hPr hPc hKc hDc hN hH hS hFc zx_e⟩⟩ rfl rfl hl.1 rfl (lv_room (Nat.le_of_ble_eq_true rfl)) dX6_mixThings_39 ⟨Nat.le_of_ble_eq_true rfl, Nat.le_of_ble_eq_true rfl⟩) hS (fun q _ h => hFc q h) hFc (fun r132 u t H131 locs ht hvm hw hB hz1 hk1 hS => ?_)
  obtain rfl : r132 = 4927746044651695008 := hw.trans (by decide +kernel)
  have hP := zo_K hP hk1
  refine lv_lstore_n (lv' := [(3, .long 4927746044651695008), (6, .int 2), (5, .int 5), (0, .ref x), (1, .long (-1160429273186388225))]) hx hb dX6_mixThings_42 rfl hl (by decide) rfl (fun ls hl => ?_)
  refine lv_iinc (v := 3) (lv' := [(6, .int 3), (3, .long 4927746044651695008), (5, .int 5), (0, .ref x), (1, .long (-1160429273186388225))]) hx hb dX6_mixThings_43 hl (k := 1) rfl (by decide) (by decide) rfl (fun ls hl => ?_)
  refine lv_goto (tgt := 20) hx hb dX6_mixThings_46 (by decide) ?_
  refine lv_iload hx hb dX6_mixThings_20 (lv_at hl 0 rfl) ?_
  refine lv_bipush (v := 6) hx hb dX6_mixThings_22 (by decide) ?_
  refine lv_icmp_ge (tgt := 49) hx hb dX6_mixThings_24 (by decide) (fun h => absurd h (by decide)) (fun _ => ?_)
  refine lv_lload_n hx hb dX6_mixThings_27 rfl (lv_at hl 1 rfl) ?_
  refine lv_aload_n hx hb dX6_mixThings_28 rfl (lv_at hl 3 rfl) ?_
  refine va_get (D := (dC, dI)) (ci := 8) (v := .ref rm) (C := RX6) (T := TX6) (N := 3) hx hb hts zi_X6_mixThings_X6 hown hK (zo_R hR0 hS hAr) 0 rfl rfl 0 (by decide) (hts (.fieldLink RX6 12 "LockRooms" "room" "LLockRooms$Room;") (by decide +kernel)) (fun _ h9 => h9) rfl dX6_mixThings_29 ?_
  refine lv_iload hx hb dX6_mixThings_32 (lv_at hl 2 rfl) ?_
  refine lv_iload hx hb dX6_mixThings_34 (lv_at hl 0 rfl) ?_
  have hPr := ((zo_R hR0 hS hAr)).sub (ws' := [(rm, .inr (5, [.ref lk, .ref th, .ref pl, .ref gm, .int 2, .int 10, .int 0, .int 0, .int 1, .int 0, .int 0, .int 0])), (th, .inl (cT, 12, .inr (.inr (.inr (.inr ft))))), (t5, .inr (7, [.int (-1), .int 0, .int 0, .int 0, .int 0]))]) [1, 3, 11] rfl
  have hPc := hP.sub (ws' := []) [] rfl
  have hDc := hD.sub (ws' := []) [] (by decide) rfl
  have hKc := hK.sub (tys' := [(cT, .object "LockRooms$Thing")]) [1] rfl
  have hFc := va_free (wc := []) hD hS hA [] rfl
  refine va_calli (va_runV (As := [.int 5, .int 3]) (rest := [.long 4927746044651695008]) ⟨hx, hb, hml, hown, hts⟩ (cz_QtellThing_5_3 l dC dI ed H131.size rm lk th pl gm cT ft t5 hkt5) (cwV 2 hts gX6_mixThings_X3_tellThing rfl rfl rfl (by decide +kernel) ⟨Nat.le_of_ble_eq_true rfl, Nat.le_of_ble_eq_true rfl⟩) ⟨zb_blind, va_recv hK (zo_R hR0 hS hAr) (ci := 5) (q0 := 1) rfl rfl, fun U hU hW => ⟨rfl, zb_mk hU hW hPr hPc hKc hDc hN hH hS hFc zx_e⟩⟩ rfl rfl hl.1 rfl (lv_room (Nat.le_of_ble_eq_true rfl)) dX6_mixThings_36 ⟨Nat.le_of_ble_eq_true rfl, Nat.le_of_ble_eq_true rfl⟩) hS (fun q _ h => hFc q h) hFc (fun r134 u t H133 locs ht hvm hw hB hz1 hk1 hS => ?_)
  obtain rfl : r134 = 0 := hw
  have hP := zo_K hP hk1
  have hPr := (zo_nil : va_P (dC, dI) vwCl [] H133)
  have hPc := hP.sub (ws' := []) [] rfl
  have hDc := hD.sub (ws' := []) [] (by decide) rfl
  have hKc := hK.sub (tys' := []) [] rfl
  have hFc := va_free (wc := []) hD hS hA [] rfl
  refine va_calll (va_runS (As := [.long 4927746044651695008, .int 0]) (rest := []) ⟨hx, hb, hml, hown, hts⟩ (cz_X6_mix l dC dI ed H133.size 4927746044651695008 0) (va_cwS 2 hts gX6_mixThings_X6_mix rfl rfl rfl (by decide +kernel) ⟨Nat.le_of_ble_eq_true rfl, Nat.le_of_ble_eq_true rfl⟩) ⟨zb_blind, fun U hU hW => ⟨rfl, zb_mk hU hW hPr hPc hKc hDc hN hH hS hFc zx_e⟩⟩ rfl rfl hl.1 rfl (lv_room (Nat.le_of_ble_eq_true rfl)) dX6_mixThings_39 ⟨Nat.le_of_ble_eq_true rfl, Nat.le_of_ble_eq_true rfl⟩) hS (fun q _ h => hFc q h) hFc (fun r136 u t H135 locs ht hvm hw hB hz1 hk1 hS => ?_)
  obtain rfl : r136 = 5186174794526132320 := hw.trans (by decide +kernel)
  have hP := zo_K hP hk1
  refine lv_lstore_n (lv' := [(3, .long 5186174794526132320), (6, .int 3), (5, .int 5), (0, .ref x), (1, .long (-1160429273186388225))]) hx hb dX6_mixThings_42 rfl hl (by decide) rfl (fun ls hl => ?_)
  refine lv_iinc (v := 4) (lv' := [(6, .int 4), (3, .long 5186174794526132320), (5, .int 5), (0, .ref x), (1, .long (-1160429273186388225))]) hx hb dX6_mixThings_43 hl (k := 1) rfl (by decide) (by decide) rfl (fun ls hl => ?_)
  refine lv_goto (tgt := 20) hx hb dX6_mixThings_46 (by decide) ?_
  refine lv_iload hx hb dX6_mixThings_20 (lv_at hl 0 rfl) ?_
  refine lv_bipush (v := 6) hx hb dX6_mixThings_22 (by decide) ?_
  refine lv_icmp_ge (tgt := 49) hx hb dX6_mixThings_24 (by decide) (fun h => absurd h (by decide)) (fun _ => ?_)
  refine lv_lload_n hx hb dX6_mixThings_27 rfl (lv_at hl 1 rfl) ?_
  refine lv_aload_n hx hb dX6_mixThings_28 rfl (lv_at hl 3 rfl) ?_
  refine va_get (D := (dC, dI)) (ci := 8) (v := .ref rm) (C := RX6) (T := TX6) (N := 3) hx hb hts zi_X6_mixThings_X6 hown hK (zo_R hR0 hS hAr) 0 rfl rfl 0 (by decide) (hts (.fieldLink RX6 12 "LockRooms" "room" "LLockRooms$Room;") (by decide +kernel)) (fun _ h9 => h9) rfl dX6_mixThings_29 ?_
  refine lv_iload hx hb dX6_mixThings_32 (lv_at hl 2 rfl) ?_
  refine lv_iload hx hb dX6_mixThings_34 (lv_at hl 0 rfl) ?_
  have hPr := ((zo_R hR0 hS hAr)).sub (ws' := [(rm, .inr (5, [.ref lk, .ref th, .ref pl, .ref gm, .int 2, .int 10, .int 0, .int 0, .int 1, .int 0, .int 0, .int 0])), (th, .inl (cT, 12, .inr (.inr (.inr (.inr ft))))), (t5, .inr (7, [.int (-1), .int 0, .int 0, .int 0, .int 0])), (lk, .inl (cL, 10, .inr (.inr (.inr (.inr fl))))), (l0, .inr (3, [.int 0, .int 0, .int 60, .int 0, .int 0, .int 0, .int 0, .int 0, .int 0, .int 0])), (l1, .inr (3, [.int 0, .int 0, .int 60, .int 0, .int 0, .int 0, .int 0, .int 0, .int 0, .int 0]))]) [1, 3, 11, 2, 4, 5] rfl
  have hPc := hP.sub (ws' := []) [] rfl
  have hDc := hD.sub (ws' := []) [] (by decide) rfl
  have hKc := hK.sub (tys' := [(cT, .object "LockRooms$Thing"), (cL, .object "LockRooms$Lock")]) [1, 0] rfl
  have hFc := va_free (wc := []) hD hS hA [] rfl
  refine va_calli (va_runV (As := [.int 5, .int 4]) (rest := [.long 5186174794526132320]) ⟨hx, hb, hml, hown, hts⟩ (cz_QtellThing_5_4 l dC dI ed H135.size rm lk th pl gm cT ft t5 cL fl l0 l1 hkt5 hkl0 hkl1) (cwV 2 hts gX6_mixThings_X3_tellThing rfl rfl rfl (by decide +kernel) ⟨Nat.le_of_ble_eq_true rfl, Nat.le_of_ble_eq_true rfl⟩) ⟨zb_blind, va_recv hK (zo_R hR0 hS hAr) (ci := 5) (q0 := 1) rfl rfl, fun U hU hW => ⟨rfl, zb_mk hU hW hPr hPc hKc hDc hN hH hS hFc zx_e⟩⟩ rfl rfl hl.1 rfl (lv_room (Nat.le_of_ble_eq_true rfl)) dX6_mixThings_36 ⟨Nat.le_of_ble_eq_true rfl, Nat.le_of_ble_eq_true rfl⟩) hS (fun q _ h => hFc q h) hFc (fun r138 u t H137 locs ht hvm hw hB hz1 hk1 hS => ?_)
  obtain rfl : r138 = 1 := hw
  have hP := zo_K hP hk1
  have hPr := (zo_nil : va_P (dC, dI) vwCl [] H137)
  have hPc := hP.sub (ws' := []) [] rfl
  have hDc := hD.sub (ws' := []) [] (by decide) rfl
  have hKc := hK.sub (tys' := []) [] rfl
  have hFc := va_free (wc := []) hD hS hA [] rfl
  refine va_calll (va_runS (As := [.long 5186174794526132320, .int 1]) (rest := []) ⟨hx, hb, hml, hown, hts⟩ (cz_X6_mix l dC dI ed H137.size 5186174794526132320 1) (va_cwS 2 hts gX6_mixThings_X6_mix rfl rfl rfl (by decide +kernel) ⟨Nat.le_of_ble_eq_true rfl, Nat.le_of_ble_eq_true rfl⟩) ⟨zb_blind, fun U hU hW => ⟨rfl, zb_mk hU hW hPr hPc hKc hDc hN hH hS hFc zx_e⟩⟩ rfl rfl hl.1 rfl (lv_room (Nat.le_of_ble_eq_true rfl)) dX6_mixThings_39 ⟨Nat.le_of_ble_eq_true rfl, Nat.le_of_ble_eq_true rfl⟩) hS (fun q _ h => hFc q h) hFc (fun r140 u t H139 locs ht hvm hw hB hz1 hk1 hS => ?_)
  obtain rfl : r140 = (-5249278033075862623) := hw.trans (by decide +kernel)
  have hP := zo_K hP hk1
  refine lv_lstore_n (lv' := [(3, .long (-5249278033075862623)), (6, .int 4), (5, .int 5), (0, .ref x), (1, .long (-1160429273186388225))]) hx hb dX6_mixThings_42 rfl hl (by decide) rfl (fun ls hl => ?_)
  refine lv_iinc (v := 5) (lv' := [(6, .int 5), (3, .long (-5249278033075862623)), (5, .int 5), (0, .ref x), (1, .long (-1160429273186388225))]) hx hb dX6_mixThings_43 hl (k := 1) rfl (by decide) (by decide) rfl (fun ls hl => ?_)
  refine lv_goto (tgt := 20) hx hb dX6_mixThings_46 (by decide) ?_
  refine lv_iload hx hb dX6_mixThings_20 (lv_at hl 0 rfl) ?_
  refine lv_bipush (v := 6) hx hb dX6_mixThings_22 (by decide) ?_
  refine lv_icmp_ge (tgt := 49) hx hb dX6_mixThings_24 (by decide) (fun h => absurd h (by decide)) (fun _ => ?_)
  refine lv_lload_n hx hb dX6_mixThings_27 rfl (lv_at hl 1 rfl) ?_
  refine lv_aload_n hx hb dX6_mixThings_28 rfl (lv_at hl 3 rfl) ?_
  refine va_get (D := (dC, dI)) (ci := 8) (v := .ref rm) (C := RX6) (T := TX6) (N := 3) hx hb hts zi_X6_mixThings_X6 hown hK (zo_R hR0 hS hAr) 0 rfl rfl 0 (by decide) (hts (.fieldLink RX6 12 "LockRooms" "room" "LLockRooms$Room;") (by decide +kernel)) (fun _ h9 => h9) rfl dX6_mixThings_29 ?_
  refine lv_iload hx hb dX6_mixThings_32 (lv_at hl 2 rfl) ?_
  refine lv_iload hx hb dX6_mixThings_34 (lv_at hl 0 rfl) ?_
  have hPr := ((zo_R hR0 hS hAr)).sub (ws' := [(rm, .inr (5, [.ref lk, .ref th, .ref pl, .ref gm, .int 2, .int 10, .int 0, .int 0, .int 1, .int 0, .int 0, .int 0])), (th, .inl (cT, 12, .inr (.inr (.inr (.inr ft))))), (t5, .inr (7, [.int (-1), .int 0, .int 0, .int 0, .int 0])), (lk, .inl (cL, 10, .inr (.inr (.inr (.inr fl))))), (l0, .inr (3, [.int 0, .int 0, .int 60, .int 0, .int 0, .int 0, .int 0, .int 0, .int 0, .int 0])), (l1, .inr (3, [.int 0, .int 0, .int 60, .int 0, .int 0, .int 0, .int 0, .int 0, .int 0, .int 0]))]) [1, 3, 11, 2, 4, 5] rfl
  have hPc := hP.sub (ws' := []) [] rfl
  have hDc := hD.sub (ws' := []) [] (by decide) rfl
  have hKc := hK.sub (tys' := [(cT, .object "LockRooms$Thing"), (cL, .object "LockRooms$Lock")]) [1, 0] rfl
  have hFc := va_free (wc := []) hD hS hA [] rfl
  refine va_calli (va_runV (As := [.int 5, .int 5]) (rest := [.long (-5249278033075862623)]) ⟨hx, hb, hml, hown, hts⟩ (cz_QtellThing_5_5 l dC dI ed H139.size rm lk th pl gm cT ft t5 cL fl l0 l1 hkt5 hkl0 hkl1) (cwV 2 hts gX6_mixThings_X3_tellThing rfl rfl rfl (by decide +kernel) ⟨Nat.le_of_ble_eq_true rfl, Nat.le_of_ble_eq_true rfl⟩) ⟨zb_blind, va_recv hK (zo_R hR0 hS hAr) (ci := 5) (q0 := 1) rfl rfl, fun U hU hW => ⟨rfl, zb_mk hU hW hPr hPc hKc hDc hN hH hS hFc zx_e⟩⟩ rfl rfl hl.1 rfl (lv_room (Nat.le_of_ble_eq_true rfl)) dX6_mixThings_36 ⟨Nat.le_of_ble_eq_true rfl, Nat.le_of_ble_eq_true rfl⟩) hS (fun q _ h => hFc q h) hFc (fun r142 u t H141 locs ht hvm hw hB hz1 hk1 hS => ?_)
  obtain rfl : r142 = 0 := hw
  have hP := zo_K hP hk1
  have hPr := (zo_nil : va_P (dC, dI) vwCl [] H141)
  have hPc := hP.sub (ws' := []) [] rfl
  have hDc := hD.sub (ws' := []) [] (by decide) rfl
  have hKc := hK.sub (tys' := []) [] rfl
  have hFc := va_free (wc := []) hD hS hA [] rfl
  refine va_calll (va_runS (As := [.long (-5249278033075862623), .int 0]) (rest := []) ⟨hx, hb, hml, hown, hts⟩ (cz_X6_mix l dC dI ed H141.size (-5249278033075862623) 0) (va_cwS 2 hts gX6_mixThings_X6_mix rfl rfl rfl (by decide +kernel) ⟨Nat.le_of_ble_eq_true rfl, Nat.le_of_ble_eq_true rfl⟩) ⟨zb_blind, fun U hU hW => ⟨rfl, zb_mk hU hW hPr hPc hKc hDc hN hH hS hFc zx_e⟩⟩ rfl rfl hl.1 rfl (lv_room (Nat.le_of_ble_eq_true rfl)) dX6_mixThings_39 ⟨Nat.le_of_ble_eq_true rfl, Nat.le_of_ble_eq_true rfl⟩) hS (fun q _ h => hFc q h) hFc (fun r144 u t H143 locs ht hvm hw hB hz1 hk1 hS => ?_)
  obtain rfl : r144 = 3293077638034223231 := hw.trans (by decide +kernel)
  have hP := zo_K hP hk1
  refine lv_lstore_n (lv' := [(3, .long 3293077638034223231), (6, .int 5), (5, .int 5), (0, .ref x), (1, .long (-1160429273186388225))]) hx hb dX6_mixThings_42 rfl hl (by decide) rfl (fun ls hl => ?_)
  refine lv_iinc (v := 6) (lv' := [(6, .int 6), (3, .long 3293077638034223231), (5, .int 5), (0, .ref x), (1, .long (-1160429273186388225))]) hx hb dX6_mixThings_43 hl (k := 1) rfl (by decide) (by decide) rfl (fun ls hl => ?_)
  refine lv_goto (tgt := 20) hx hb dX6_mixThings_46 (by decide) ?_
  refine lv_iload hx hb dX6_mixThings_20 (lv_at hl 0 rfl) ?_
  refine lv_bipush (v := 6) hx hb dX6_mixThings_22 (by decide) ?_
  refine lv_icmp_ge (tgt := 49) hx hb dX6_mixThings_24 (by decide) (fun _ => ?_) (fun h => absurd h (by decide))
  refine lv_iinc (v := 6) (lv' := [(5, .int 6), (6, .int 6), (3, .long 3293077638034223231), (0, .ref x), (1, .long (-1160429273186388225))]) hx hb dX6_mixThings_49 hl (k := 2) rfl (by decide) (by decide) rfl (fun ls hl => ?_)
  refine lv_goto (tgt := 5) hx hb dX6_mixThings_52 (by decide) ?_
  refine lv_iload hx hb dX6_mixThings_5 (lv_at hl 0 rfl) ?_
  refine lv_aload_n hx hb dX6_mixThings_7 rfl (lv_at hl 3 rfl) ?_
  refine va_get (D := (dC, dI)) (ci := 8) (v := .ref rm) (C := RX6) (T := TX6) (N := 3) hx hb hts zi_X6_mixThings_X6 hown hK (zo_R hR0 hS hAr) 0 rfl rfl 0 (by decide) (hts (.fieldLink RX6 12 "LockRooms" "room" "LLockRooms$Room;") (by decide +kernel)) (fun _ h9 => h9) rfl dX6_mixThings_8 ?_
  refine va_get (D := (dC, dI)) (ci := 5) (v := .int 10) (C := RX3) (T := TX3) (N := 12) hx hb hts zi_X6_mixThings_X3 hown hK (zo_R hR0 hS hAr) 1 rfl rfl 5 (by decide) (hts (.fieldLink RX6 71 "LockRooms$Room" "thingCount" "I") (by decide +kernel)) (fun _ h9 => h9) rfl dX6_mixThings_11 ?_
  refine lv_icmp_ge (tgt := 55) hx hb dX6_mixThings_14 (by decide) (fun h => absurd h (by decide)) (fun _ => ?_)
  refine lv_iconst (v := 0) hx hb dX6_mixThings_17 (by decide) ?_
  refine lv_istore (lv' := [(6, .int 0), (5, .int 6), (3, .long 3293077638034223231), (0, .ref x), (1, .long (-1160429273186388225))]) hx hb dX6_mixThings_18 hl (by decide) rfl (fun ls hl => ?_)
  refine lv_iload hx hb dX6_mixThings_20 (lv_at hl 0 rfl) ?_
  refine lv_bipush (v := 6) hx hb dX6_mixThings_22 (by decide) ?_
  refine lv_icmp_ge (tgt := 49) hx hb dX6_mixThings_24 (by decide) (fun h => absurd h (by decide)) (fun _ => ?_)
  refine lv_lload_n hx hb dX6_mixThings_27 rfl (lv_at hl 2 rfl) ?_
  refine lv_aload_n hx hb dX6_mixThings_28 rfl (lv_at hl 3 rfl) ?_
  refine va_get (D := (dC, dI)) (ci := 8) (v := .ref rm) (C := RX6) (T := TX6) (N := 3) hx hb hts zi_X6_mixThings_X6 hown hK (zo_R hR0 hS hAr) 0 rfl rfl 0 (by decide) (hts (.fieldLink RX6 12 "LockRooms" "room" "LLockRooms$Room;") (by decide +kernel)) (fun _ h9 => h9) rfl dX6_mixThings_29 ?_
  refine lv_iload hx hb dX6_mixThings_32 (lv_at hl 1 rfl) ?_
  refine lv_iload hx hb dX6_mixThings_34 (lv_at hl 0 rfl) ?_
  have hPr := ((zo_R hR0 hS hAr)).sub (ws' := [(rm, .inr (5, [.ref lk, .ref th, .ref pl, .ref gm, .int 2, .int 10, .int 0, .int 0, .int 1, .int 0, .int 0, .int 0])), (th, .inl (cT, 12, .inr (.inr (.inr (.inr ft))))), (t6, .inr (7, [.int (-1), .int 0, .int 0, .int 0, .int 0]))]) [1, 3, 12] rfl
  have hPc := hP.sub (ws' := []) [] rfl
  have hDc := hD.sub (ws' := []) [] (by decide) rfl
  have hKc := hK.sub (tys' := [(cT, .object "LockRooms$Thing")]) [1] rfl
  have hFc := va_free (wc := []) hD hS hA [] rfl
  refine va_calli (va_runV (As := [.int 6, .int 0]) (rest := [.long 3293077638034223231]) ⟨hx, hb, hml, hown, hts⟩ (cz_QtellThing_6_0 l dC dI ed H143.size rm lk th pl gm cT ft t6 hkt6) (cwV 2 hts gX6_mixThings_X3_tellThing rfl rfl rfl (by decide +kernel) ⟨Nat.le_of_ble_eq_true rfl, Nat.le_of_ble_eq_true rfl⟩) ⟨zb_blind, va_recv hK (zo_R hR0 hS hAr) (ci := 5) (q0 := 1) rfl rfl, fun U hU hW => ⟨rfl, zb_mk hU hW hPr hPc hKc hDc hN hH hS hFc zx_e⟩⟩ rfl rfl hl.1 rfl (lv_room (Nat.le_of_ble_eq_true rfl)) dX6_mixThings_36 ⟨Nat.le_of_ble_eq_true rfl, Nat.le_of_ble_eq_true rfl⟩) hS (fun q _ h => hFc q h) hFc (fun r146 u t H145 locs ht hvm hw hB hz1 hk1 hS => ?_)
  obtain rfl : r146 = (-1) := hw
  have hP := zo_K hP hk1
  have hPr := (zo_nil : va_P (dC, dI) vwCl [] H145)
  have hPc := hP.sub (ws' := []) [] rfl
  have hDc := hD.sub (ws' := []) [] (by decide) rfl
  have hKc := hK.sub (tys' := []) [] rfl
  have hFc := va_free (wc := []) hD hS hA [] rfl
  refine va_calll (va_runS (As := [.long 3293077638034223231, .int (-1)]) (rest := []) ⟨hx, hb, hml, hown, hts⟩ (cz_X6_mix l dC dI ed H145.size 3293077638034223231 (-1)) (va_cwS 2 hts gX6_mixThings_X6_mix rfl rfl rfl (by decide +kernel) ⟨Nat.le_of_ble_eq_true rfl, Nat.le_of_ble_eq_true rfl⟩) ⟨zb_blind, fun U hU hW => ⟨rfl, zb_mk hU hW hPr hPc hKc hDc hN hH hS hFc zx_e⟩⟩ rfl rfl hl.1 rfl (lv_room (Nat.le_of_ble_eq_true rfl)) dX6_mixThings_39 ⟨Nat.le_of_ble_eq_true rfl, Nat.le_of_ble_eq_true rfl⟩) hS (fun q _ h => hFc q h) hFc (fun r148 u t H147 locs ht hvm hw hB hz1 hk1 hS => ?_)
  obtain rfl : r148 = (-8595057663196389536) := hw.trans (by decide +kernel)
  have hP := zo_K hP hk1
  refine lv_lstore_n (lv' := [(3, .long (-8595057663196389536)), (6, .int 0), (5, .int 6), (0, .ref x), (1, .long (-1160429273186388225))]) hx hb dX6_mixThings_42 rfl hl (by decide) rfl (fun ls hl => ?_)
  refine lv_iinc (v := 1) (lv' := [(6, .int 1), (3, .long (-8595057663196389536)), (5, .int 6), (0, .ref x), (1, .long (-1160429273186388225))]) hx hb dX6_mixThings_43 hl (k := 1) rfl (by decide) (by decide) rfl (fun ls hl => ?_)
  refine lv_goto (tgt := 20) hx hb dX6_mixThings_46 (by decide) ?_
  refine lv_iload hx hb dX6_mixThings_20 (lv_at hl 0 rfl) ?_
  refine lv_bipush (v := 6) hx hb dX6_mixThings_22 (by decide) ?_
  refine lv_icmp_ge (tgt := 49) hx hb dX6_mixThings_24 (by decide) (fun h => absurd h (by decide)) (fun _ => ?_)
  refine lv_lload_n hx hb dX6_mixThings_27 rfl (lv_at hl 1 rfl) ?_
  refine lv_aload_n hx hb dX6_mixThings_28 rfl (lv_at hl 3 rfl) ?_
  refine va_get (D := (dC, dI)) (ci := 8) (v := .ref rm) (C := RX6) (T := TX6) (N := 3) hx hb hts zi_X6_mixThings_X6 hown hK (zo_R hR0 hS hAr) 0 rfl rfl 0 (by decide) (hts (.fieldLink RX6 12 "LockRooms" "room" "LLockRooms$Room;") (by decide +kernel)) (fun _ h9 => h9) rfl dX6_mixThings_29 ?_
  refine lv_iload hx hb dX6_mixThings_32 (lv_at hl 2 rfl) ?_
  refine lv_iload hx hb dX6_mixThings_34 (lv_at hl 0 rfl) ?_
  have hPr := ((zo_R hR0 hS hAr)).sub (ws' := [(rm, .inr (5, [.ref lk, .ref th, .ref pl, .ref gm, .int 2, .int 10, .int 0, .int 0, .int 1, .int 0, .int 0, .int 0])), (th, .inl (cT, 12, .inr (.inr (.inr (.inr ft))))), (t6, .inr (7, [.int (-1), .int 0, .int 0, .int 0, .int 0]))]) [1, 3, 12] rfl
  have hPc := hP.sub (ws' := []) [] rfl
  have hDc := hD.sub (ws' := []) [] (by decide) rfl
  have hKc := hK.sub (tys' := [(cT, .object "LockRooms$Thing")]) [1] rfl
  have hFc := va_free (wc := []) hD hS hA [] rfl
  refine va_calli (va_runV (As := [.int 6, .int 1]) (rest := [.long (-8595057663196389536)]) ⟨hx, hb, hml, hown, hts⟩ (cz_QtellThing_6_1 l dC dI ed H147.size rm lk th pl gm cT ft t6 hkt6) (cwV 2 hts gX6_mixThings_X3_tellThing rfl rfl rfl (by decide +kernel) ⟨Nat.le_of_ble_eq_true rfl, Nat.le_of_ble_eq_true rfl⟩) ⟨zb_blind, va_recv hK (zo_R hR0 hS hAr) (ci := 5) (q0 := 1) rfl rfl, fun U hU hW => ⟨rfl, zb_mk hU hW hPr hPc hKc hDc hN hH hS hFc zx_e⟩⟩ rfl rfl hl.1 rfl (lv_room (Nat.le_of_ble_eq_true rfl)) dX6_mixThings_36 ⟨Nat.le_of_ble_eq_true rfl, Nat.le_of_ble_eq_true rfl⟩) hS (fun q _ h => hFc q h) hFc (fun r150 u t H149 locs ht hvm hw hB hz1 hk1 hS => ?_)
  obtain rfl : r150 = 0 := hw
  have hP := zo_K hP hk1
  have hPr := (zo_nil : va_P (dC, dI) vwCl [] H149)
  have hPc := hP.sub (ws' := []) [] rfl
  have hDc := hD.sub (ws' := []) [] (by decide) rfl
  have hKc := hK.sub (tys' := []) [] rfl
  have hFc := va_free (wc := []) hD hS hA [] rfl
  refine va_calll (va_runS (As := [.long (-8595057663196389536), .int 0]) (rest := []) ⟨hx, hb, hml, hown, hts⟩ (cz_X6_mix l dC dI ed H149.size (-8595057663196389536) 0) (va_cwS 2 hts gX6_mixThings_X6_mix rfl rfl rfl (by decide +kernel) ⟨Nat.le_of_ble_eq_true rfl, Nat.le_of_ble_eq_true rfl⟩) ⟨zb_blind, fun U hU hW => ⟨rfl, zb_mk hU hW hPr hPc hKc hDc hN hH hS hFc zx_e⟩⟩ rfl rfl hl.1 rfl (lv_room (Nat.le_of_ble_eq_true rfl)) dX6_mixThings_39 ⟨Nat.le_of_ble_eq_true rfl, Nat.le_of_ble_eq_true rfl⟩) hS (fun q _ h => hFc q h) hFc (fun r152 u t H151 locs ht hvm hw hB hz1 hk1 hS => ?_)
  obtain rfl : r152 = (-8192370527154352992) := hw.trans (by decide +kernel)
  have hP := zo_K hP hk1
  refine lv_lstore_n (lv' := [(3, .long (-8192370527154352992)), (6, .int 1), (5, .int 6), (0, .ref x), (1, .long (-1160429273186388225))]) hx hb dX6_mixThings_42 rfl hl (by decide) rfl (fun ls hl => ?_)
  refine lv_iinc (v := 2) (lv' := [(6, .int 2), (3, .long (-8192370527154352992)), (5, .int 6), (0, .ref x), (1, .long (-1160429273186388225))]) hx hb dX6_mixThings_43 hl (k := 1) rfl (by decide) (by decide) rfl (fun ls hl => ?_)
  refine lv_goto (tgt := 20) hx hb dX6_mixThings_46 (by decide) ?_
  refine lv_iload hx hb dX6_mixThings_20 (lv_at hl 0 rfl) ?_
  refine lv_bipush (v := 6) hx hb dX6_mixThings_22 (by decide) ?_
  refine lv_icmp_ge (tgt := 49) hx hb dX6_mixThings_24 (by decide) (fun h => absurd h (by decide)) (fun _ => ?_)
  refine lv_lload_n hx hb dX6_mixThings_27 rfl (lv_at hl 1 rfl) ?_
  refine lv_aload_n hx hb dX6_mixThings_28 rfl (lv_at hl 3 rfl) ?_
  refine va_get (D := (dC, dI)) (ci := 8) (v := .ref rm) (C := RX6) (T := TX6) (N := 3) hx hb hts zi_X6_mixThings_X6 hown hK (zo_R hR0 hS hAr) 0 rfl rfl 0 (by decide) (hts (.fieldLink RX6 12 "LockRooms" "room" "LLockRooms$Room;") (by decide +kernel)) (fun _ h9 => h9) rfl dX6_mixThings_29 ?_
  refine lv_iload hx hb dX6_mixThings_32 (lv_at hl 2 rfl) ?_
  refine lv_iload hx hb dX6_mixThings_34 (lv_at hl 0 rfl) ?_
  have hPr := ((zo_R hR0 hS hAr)).sub (ws' := [(rm, .inr (5, [.ref lk, .ref th, .ref pl, .ref gm, .int 2, .int 10, .int 0, .int 0, .int 1, .int 0, .int 0, .int 0])), (th, .inl (cT, 12, .inr (.inr (.inr (.inr ft))))), (t6, .inr (7, [.int (-1), .int 0, .int 0, .int 0, .int 0]))]) [1, 3, 12] rfl
  have hPc := hP.sub (ws' := []) [] rfl
  have hDc := hD.sub (ws' := []) [] (by decide) rfl
  have hKc := hK.sub (tys' := [(cT, .object "LockRooms$Thing")]) [1] rfl
  have hFc := va_free (wc := []) hD hS hA [] rfl
  refine va_calli (va_runV (As := [.int 6, .int 2]) (rest := [.long (-8192370527154352992)]) ⟨hx, hb, hml, hown, hts⟩ (cz_QtellThing_6_2 l dC dI ed H151.size rm lk th pl gm cT ft t6 hkt6) (cwV 2 hts gX6_mixThings_X3_tellThing rfl rfl rfl (by decide +kernel) ⟨Nat.le_of_ble_eq_true rfl, Nat.le_of_ble_eq_true rfl⟩) ⟨zb_blind, va_recv hK (zo_R hR0 hS hAr) (ci := 5) (q0 := 1) rfl rfl, fun U hU hW => ⟨rfl, zb_mk hU hW hPr hPc hKc hDc hN hH hS hFc zx_e⟩⟩ rfl rfl hl.1 rfl (lv_room (Nat.le_of_ble_eq_true rfl)) dX6_mixThings_36 ⟨Nat.le_of_ble_eq_true rfl, Nat.le_of_ble_eq_true rfl⟩) hS (fun q _ h => hFc q h) hFc (fun r154 u t H153 locs ht hvm hw hB hz1 hk1 hS => ?_)
  obtain rfl : r154 = 0 := hw
  have hP := zo_K hP hk1
  have hPr := (zo_nil : va_P (dC, dI) vwCl [] H153)
  have hPc := hP.sub (ws' := []) [] rfl
  have hDc := hD.sub (ws' := []) [] (by decide) rfl
  have hKc := hK.sub (tys' := []) [] rfl
  have hFc := va_free (wc := []) hD hS hA [] rfl
  refine va_calll (va_runS (As := [.long (-8192370527154352992), .int 0]) (rest := []) ⟨hx, hb, hml, hown, hts⟩ (cz_X6_mix l dC dI ed H153.size (-8192370527154352992) 0) (va_cwS 2 hts gX6_mixThings_X6_mix rfl rfl rfl (by decide +kernel) ⟨Nat.le_of_ble_eq_true rfl, Nat.le_of_ble_eq_true rfl⟩) ⟨zb_blind, fun U hU hW => ⟨rfl, zb_mk hU hW hPr hPc hKc hDc hN hH hS hFc zx_e⟩⟩ rfl rfl hl.1 rfl (lv_room (Nat.le_of_ble_eq_true rfl)) dX6_mixThings_39 ⟨Nat.le_of_ble_eq_true rfl, Nat.le_of_ble_eq_true rfl⟩) hS (fun q _ h => hFc q h) hFc (fun r156 u t H155 locs ht hvm hw hB hz1 hk1 hS => ?_)
  obtain rfl : r156 = 4290930690148779872 := hw.trans (by decide +kernel)
  have hP := zo_K hP hk1
  refine lv_lstore_n (lv' := [(3, .long 4290930690148779872), (6, .int 2), (5, .int 6), (0, .ref x), (1, .long (-1160429273186388225))]) hx hb dX6_mixThings_42 rfl hl (by decide) rfl (fun ls hl => ?_)
  refine lv_iinc (v := 3) (lv' := [(6, .int 3), (3, .long 4290930690148779872), (5, .int 6), (0, .ref x), (1, .long (-1160429273186388225))]) hx hb dX6_mixThings_43 hl (k := 1) rfl (by decide) (by decide) rfl (fun ls hl => ?_)
  refine lv_goto (tgt := 20) hx hb dX6_mixThings_46 (by decide) ?_
  refine lv_iload hx hb dX6_mixThings_20 (lv_at hl 0 rfl) ?_
  refine lv_bipush (v := 6) hx hb dX6_mixThings_22 (by decide) ?_
  refine lv_icmp_ge (tgt := 49) hx hb dX6_mixThings_24 (by decide) (fun h => absurd h (by decide)) (fun _ => ?_)
  refine lv_lload_n hx hb dX6_mixThings_27 rfl (lv_at hl 1 rfl) ?_
  refine lv_aload_n hx hb dX6_mixThings_28 rfl (lv_at hl 3 rfl) ?_
  refine va_get (D := (dC, dI)) (ci := 8) (v := .ref rm) (C := RX6) (T := TX6) (N := 3) hx hb hts zi_X6_mixThings_X6 hown hK (zo_R hR0 hS hAr) 0 rfl rfl 0 (by decide) (hts (.fieldLink RX6 12 "LockRooms" "room" "LLockRooms$Room;") (by decide +kernel)) (fun _ h9 => h9) rfl dX6_mixThings_29 ?_
  refine lv_iload hx hb dX6_mixThings_32 (lv_at hl 2 rfl) ?_
  refine lv_iload hx hb dX6_mixThings_34 (lv_at hl 0 rfl) ?_
  have hPr := ((zo_R hR0 hS hAr)).sub (ws' := [(rm, .inr (5, [.ref lk, .ref th, .ref pl, .ref gm, .int 2, .int 10, .int 0, .int 0, .int 1, .int 0, .int 0, .int 0])), (th, .inl (cT, 12, .inr (.inr (.inr (.inr ft))))), (t6, .inr (7, [.int (-1), .int 0, .int 0, .int 0, .int 0]))]) [1, 3, 12] rfl
  have hPc := hP.sub (ws' := []) [] rfl
  have hDc := hD.sub (ws' := []) [] (by decide) rfl
  have hKc := hK.sub (tys' := [(cT, .object "LockRooms$Thing")]) [1] rfl
  have hFc := va_free (wc := []) hD hS hA [] rfl
  refine va_calli (va_runV (As := [.int 6, .int 3]) (rest := [.long 4290930690148779872]) ⟨hx, hb, hml, hown, hts⟩ (cz_QtellThing_6_3 l dC dI ed H155.size rm lk th pl gm cT ft t6 hkt6) (cwV 2 hts gX6_mixThings_X3_tellThing rfl rfl rfl (by decide +kernel) ⟨Nat.le_of_ble_eq_true rfl, Nat.le_of_ble_eq_true rfl⟩) ⟨zb_blind, va_recv hK (zo_R hR0 hS hAr) (ci := 5) (q0 := 1) rfl rfl, fun U hU hW => ⟨rfl, zb_mk hU hW hPr hPc hKc hDc hN hH hS hFc zx_e⟩⟩ rfl rfl hl.1 rfl (lv_room (Nat.le_of_ble_eq_true rfl)) dX6_mixThings_36 ⟨Nat.le_of_ble_eq_true rfl, Nat.le_of_ble_eq_true rfl⟩) hS (fun q _ h => hFc q h) hFc (fun r158 u t H157 locs ht hvm hw hB hz1 hk1 hS => ?_)
  obtain rfl : r158 = 0 := hw
  have hP := zo_K hP hk1
  have hPr := (zo_nil : va_P (dC, dI) vwCl [] H157)
  have hPc := hP.sub (ws' := []) [] rfl
  have hDc := hD.sub (ws' := []) [] (by decide) rfl
  have hKc := hK.sub (tys' := []) [] rfl
  have hFc := va_free (wc := []) hD hS hA [] rfl
  refine va_calll (va_runS (As := [.long 4290930690148779872, .int 0]) (rest := []) ⟨hx, hb, hml, hown, hts⟩ (cz_X6_mix l dC dI ed H157.size 4290930690148779872 0) (va_cwS 2 hts gX6_mixThings_X6_mix rfl rfl rfl (by decide +kernel) ⟨Nat.le_of_ble_eq_true rfl, Nat.le_of_ble_eq_true rfl⟩) ⟨zb_blind, fun U hU hW => ⟨rfl, zb_mk hU hW hPr hPc hKc hDc hN hH hS hFc zx_e⟩⟩ rfl rfl hl.1 rfl (lv_room (Nat.le_of_ble_eq_true rfl)) dX6_mixThings_39 ⟨Nat.le_of_ble_eq_true rfl, Nat.le_of_ble_eq_true rfl⟩) hS (fun q _ h => hFc q h) hFc (fun r160 u t H159 locs ht hvm hw hB hz1 hk1 hS => ?_)
  obtain rfl : r160 = 3891642878645314720 := hw.trans (by decide +kernel)
  have hP := zo_K hP hk1
  refine lv_lstore_n (lv' := [(3, .long 3891642878645314720), (6, .int 3), (5, .int 6), (0, .ref x), (1, .long (-1160429273186388225))]) hx hb dX6_mixThings_42 rfl hl (by decide) rfl (fun ls hl => ?_)
  refine lv_iinc (v := 4) (lv' := [(6, .int 4), (3, .long 3891642878645314720), (5, .int 6), (0, .ref x), (1, .long (-1160429273186388225))]) hx hb dX6_mixThings_43 hl (k := 1) rfl (by decide) (by decide) rfl (fun ls hl => ?_)
  refine lv_goto (tgt := 20) hx hb dX6_mixThings_46 (by decide) ?_
  refine lv_iload hx hb dX6_mixThings_20 (lv_at hl 0 rfl) ?_
  refine lv_bipush (v := 6) hx hb dX6_mixThings_22 (by decide) ?_
  refine lv_icmp_ge (tgt := 49) hx hb dX6_mixThings_24 (by decide) (fun h => absurd h (by decide)) (fun _ => ?_)
  refine lv_lload_n hx hb dX6_mixThings_27 rfl (lv_at hl 1 rfl) ?_
  refine lv_aload_n hx hb dX6_mixThings_28 rfl (lv_at hl 3 rfl) ?_
  refine va_get (D := (dC, dI)) (ci := 8) (v := .ref rm) (C := RX6) (T := TX6) (N := 3) hx hb hts zi_X6_mixThings_X6 hown hK (zo_R hR0 hS hAr) 0 rfl rfl 0 (by decide) (hts (.fieldLink RX6 12 "LockRooms" "room" "LLockRooms$Room;") (by decide +kernel)) (fun _ h9 => h9) rfl dX6_mixThings_29 ?_
  refine lv_iload hx hb dX6_mixThings_32 (lv_at hl 2 rfl) ?_
  refine lv_iload hx hb dX6_mixThings_34 (lv_at hl 0 rfl) ?_
  have hPr := ((zo_R hR0 hS hAr)).sub (ws' := [(rm, .inr (5, [.ref lk, .ref th, .ref pl, .ref gm, .int 2, .int 10, .int 0, .int 0, .int 1, .int 0, .int 0, .int 0])), (th, .inl (cT, 12, .inr (.inr (.inr (.inr ft))))), (t6, .inr (7, [.int (-1), .int 0, .int 0, .int 0, .int 0])), (lk, .inl (cL, 10, .inr (.inr (.inr (.inr fl))))), (l0, .inr (3, [.int 0, .int 0, .int 60, .int 0, .int 0, .int 0, .int 0, .int 0, .int 0, .int 0])), (l1, .inr (3, [.int 0, .int 0, .int 60, .int 0, .int 0, .int 0, .int 0, .int 0, .int 0, .int 0]))]) [1, 3, 12, 2, 4, 5] rfl
  have hPc := hP.sub (ws' := []) [] rfl
  have hDc := hD.sub (ws' := []) [] (by decide) rfl
  have hKc := hK.sub (tys' := [(cT, .object "LockRooms$Thing"), (cL, .object "LockRooms$Lock")]) [1, 0] rfl
  have hFc := va_free (wc := []) hD hS hA [] rfl
  refine va_calli (va_runV (As := [.int 6, .int 4]) (rest := [.long 3891642878645314720]) ⟨hx, hb, hml, hown, hts⟩ (cz_QtellThing_6_4 l dC dI ed H159.size rm lk th pl gm cT ft t6 cL fl l0 l1 hkt6 hkl0 hkl1) (cwV 2 hts gX6_mixThings_X3_tellThing rfl rfl rfl (by decide +kernel) ⟨Nat.le_of_ble_eq_true rfl, Nat.le_of_ble_eq_true rfl⟩) ⟨zb_blind, va_recv hK (zo_R hR0 hS hAr) (ci := 5) (q0 := 1) rfl rfl, fun U hU hW => ⟨rfl, zb_mk hU hW hPr hPc hKc hDc hN hH hS hFc zx_e⟩⟩ rfl rfl hl.1 rfl (lv_room (Nat.le_of_ble_eq_true rfl)) dX6_mixThings_36 ⟨Nat.le_of_ble_eq_true rfl, Nat.le_of_ble_eq_true rfl⟩) hS (fun q _ h => hFc q h) hFc (fun r162 u t H161 locs ht hvm hw hB hz1 hk1 hS => ?_)
  obtain rfl : r162 = 1 := hw
  have hP := zo_K hP hk1
  have hPr := (zo_nil : va_P (dC, dI) vwCl [] H161)
  have hPc := hP.sub (ws' := []) [] rfl
  have hDc := hD.sub (ws' := []) [] (by decide) rfl
  have hKc := hK.sub (tys' := []) [] rfl
  have hFc := va_free (wc := []) hD hS hA [] rfl
  refine va_calll (va_runS (As := [.long 3891642878645314720, .int 1]) (rest := []) ⟨hx, hb, hml, hown, hts⟩ (cz_X6_mix l dC dI ed H161.size 3891642878645314720 1) (va_cwS 2 hts gX6_mixThings_X6_mix rfl rfl rfl (by decide +kernel) ⟨Nat.le_of_ble_eq_true rfl, Nat.le_of_ble_eq_true rfl⟩) ⟨zb_blind, fun U hU hW => ⟨rfl, zb_mk hU hW hPr hPc hKc hDc hN hH hS hFc zx_e⟩⟩ rfl rfl hl.1 rfl (lv_room (Nat.le_of_ble_eq_true rfl)) dX6_mixThings_39 ⟨Nat.le_of_ble_eq_true rfl, Nat.le_of_ble_eq_true rfl⟩) hS (fun q _ h => hFc q h) hFc (fun r164 u t H163 locs ht hvm hw hB hz1 hk1 hS => ?_)
  obtain rfl : r164 = (-8486279277962104991) := hw.trans (by decide +kernel)
  have hP := zo_K hP hk1
  refine lv_lstore_n (lv' := [(3, .long (-8486279277962104991)), (6, .int 4), (5, .int 6), (0, .ref x), (1, .long (-1160429273186388225))]) hx hb dX6_mixThings_42 rfl hl (by decide) rfl (fun ls hl => ?_)
  refine lv_iinc (v := 5) (lv' := [(6, .int 5), (3, .long (-8486279277962104991)), (5, .int 6), (0, .ref x), (1, .long (-1160429273186388225))]) hx hb dX6_mixThings_43 hl (k := 1) rfl (by decide) (by decide) rfl (fun ls hl => ?_)
  refine lv_goto (tgt := 20) hx hb dX6_mixThings_46 (by decide) ?_
  refine lv_iload hx hb dX6_mixThings_20 (lv_at hl 0 rfl) ?_
  refine lv_bipush (v := 6) hx hb dX6_mixThings_22 (by decide) ?_
  refine lv_icmp_ge (tgt := 49) hx hb dX6_mixThings_24 (by decide) (fun h => absurd h (by decide)) (fun _ => ?_)
  refine lv_lload_n hx hb dX6_mixThings_27 rfl (lv_at hl 1 rfl) ?_
  refine lv_aload_n hx hb dX6_mixThings_28 rfl (lv_at hl 3 rfl) ?_
  refine va_get (D := (dC, dI)) (ci := 8) (v := .ref rm) (C := RX6) (T := TX6) (N := 3) hx hb hts zi_X6_mixThings_X6 hown hK (zo_R hR0 hS hAr) 0 rfl rfl 0 (by decide) (hts (.fieldLink RX6 12 "LockRooms" "room" "LLockRooms$Room;") (by decide +kernel)) (fun _ h9 => h9) rfl dX6_mixThings_29 ?_
  refine lv_iload hx hb dX6_mixThings_32 (lv_at hl 2 rfl) ?_
  refine lv_iload hx hb dX6_mixThings_34 (lv_at hl 0 rfl) ?_
  have hPr := ((zo_R hR0 hS hAr)).sub (ws' := [(rm, .inr (5, [.ref lk, .ref th, .ref pl, .ref gm, .int 2, .int 10, .int 0, .int 0, .int 1, .int 0, .int 0, .int 0])), (th, .inl (cT, 12, .inr (.inr (.inr (.inr ft))))), (t6, .inr (7, [.int (-1), .int 0, .int 0, .int 0, .int 0])), (lk, .inl (cL, 10, .inr (.inr (.inr (.inr fl))))), (l0, .inr (3, [.int 0, .int 0, .int 60, .int 0, .int 0, .int 0, .int 0, .int 0, .int 0, .int 0])), (l1, .inr (3, [.int 0, .int 0, .int 60, .int 0, .int 0, .int 0, .int 0, .int 0, .int 0, .int 0]))]) [1, 3, 12, 2, 4, 5] rfl
  have hPc := hP.sub (ws' := []) [] rfl
  have hDc := hD.sub (ws' := []) [] (by decide) rfl
  have hKc := hK.sub (tys' := [(cT, .object "LockRooms$Thing"), (cL, .object "LockRooms$Lock")]) [1, 0] rfl
  have hFc := va_free (wc := []) hD hS hA [] rfl
  refine va_calli (va_runV (As := [.int 6, .int 5]) (rest := [.long (-8486279277962104991)]) ⟨hx, hb, hml, hown, hts⟩ (cz_QtellThing_6_5 l dC dI ed H163.size rm lk th pl gm cT ft t6 cL fl l0 l1 hkt6 hkl0 hkl1) (cwV 2 hts gX6_mixThings_X3_tellThing rfl rfl rfl (by decide +kernel) ⟨Nat.le_of_ble_eq_true rfl, Nat.le_of_ble_eq_true rfl⟩) ⟨zb_blind, va_recv hK (zo_R hR0 hS hAr) (ci := 5) (q0 := 1) rfl rfl, fun U hU hW => ⟨rfl, zb_mk hU hW hPr hPc hKc hDc hN hH hS hFc zx_e⟩⟩ rfl rfl hl.1 rfl (lv_room (Nat.le_of_ble_eq_true rfl)) dX6_mixThings_36 ⟨Nat.le_of_ble_eq_true rfl, Nat.le_of_ble_eq_true rfl⟩) hS (fun q _ h => hFc q h) hFc (fun r166 u t H165 locs ht hvm hw hB hz1 hk1 hS => ?_)
  obtain rfl : r166 = 0 := hw
  have hP := zo_K hP hk1
  have hPr := (zo_nil : va_P (dC, dI) vwCl [] H165)
  have hPc := hP.sub (ws' := []) [] rfl
  have hDc := hD.sub (ws' := []) [] (by decide) rfl
  have hKc := hK.sub (tys' := []) [] rfl
  have hFc := va_free (wc := []) hD hS hA [] rfl
  refine va_calll (va_runS (As := [.long (-8486279277962104991), .int 0]) (rest := []) ⟨hx, hb, hml, hown, hts⟩ (cz_X6_mix l dC dI ed H165.size (-8486279277962104991) 0) (va_cwS 2 hts gX6_mixThings_X6_mix rfl rfl rfl (by decide +kernel) ⟨Nat.le_of_ble_eq_true rfl, Nat.le_of_ble_eq_true rfl⟩) ⟨zb_blind, fun U hU hW => ⟨rfl, zb_mk hU hW hPr hPc hKc hDc hN hH hS hFc zx_e⟩⟩ rfl rfl hl.1 rfl (lv_room (Nat.le_of_ble_eq_true rfl)) dX6_mixThings_39 ⟨Nat.le_of_ble_eq_true rfl, Nat.le_of_ble_eq_true rfl⟩) hS (fun q _ h => hFc q h) hFc (fun r168 u t H167 locs ht hvm hw hB hz1 hk1 hS => ?_)
  obtain rfl : r168 = (-4820240584891532097) := hw.trans (by decide +kernel)
  have hP := zo_K hP hk1
  refine lv_lstore_n (lv' := [(3, .long (-4820240584891532097)), (6, .int 5), (5, .int 6), (0, .ref x), (1, .long (-1160429273186388225))]) hx hb dX6_mixThings_42 rfl hl (by decide) rfl (fun ls hl => ?_)
  refine lv_iinc (v := 6) (lv' := [(6, .int 6), (3, .long (-4820240584891532097)), (5, .int 6), (0, .ref x), (1, .long (-1160429273186388225))]) hx hb dX6_mixThings_43 hl (k := 1) rfl (by decide) (by decide) rfl (fun ls hl => ?_)
  refine lv_goto (tgt := 20) hx hb dX6_mixThings_46 (by decide) ?_
  refine lv_iload hx hb dX6_mixThings_20 (lv_at hl 0 rfl) ?_
  refine lv_bipush (v := 6) hx hb dX6_mixThings_22 (by decide) ?_
  refine lv_icmp_ge (tgt := 49) hx hb dX6_mixThings_24 (by decide) (fun _ => ?_) (fun h => absurd h (by decide))
  refine lv_iinc (v := 7) (lv' := [(5, .int 7), (6, .int 6), (3, .long (-4820240584891532097)), (0, .ref x), (1, .long (-1160429273186388225))]) hx hb dX6_mixThings_49 hl (k := 2) rfl (by decide) (by decide) rfl (fun ls hl => ?_)
  refine lv_goto (tgt := 5) hx hb dX6_mixThings_52 (by decide) ?_
  refine lv_iload hx hb dX6_mixThings_5 (lv_at hl 0 rfl) ?_
  refine lv_aload_n hx hb dX6_mixThings_7 rfl (lv_at hl 3 rfl) ?_
  refine va_get (D := (dC, dI)) (ci := 8) (v := .ref rm) (C := RX6) (T := TX6) (N := 3) hx hb hts zi_X6_mixThings_X6 hown hK (zo_R hR0 hS hAr) 0 rfl rfl 0 (by decide) (hts (.fieldLink RX6 12 "LockRooms" "room" "LLockRooms$Room;") (by decide +kernel)) (fun _ h9 => h9) rfl dX6_mixThings_8 ?_
  refine va_get (D := (dC, dI)) (ci := 5) (v := .int 10) (C := RX3) (T := TX3) (N := 12) hx hb hts zi_X6_mixThings_X3 hown hK (zo_R hR0 hS hAr) 1 rfl rfl 5 (by decide) (hts (.fieldLink RX6 71 "LockRooms$Room" "thingCount" "I") (by decide +kernel)) (fun _ h9 => h9) rfl dX6_mixThings_11 ?_
  refine lv_icmp_ge (tgt := 55) hx hb dX6_mixThings_14 (by decide) (fun h => absurd h (by decide)) (fun _ => ?_)
  refine lv_iconst (v := 0) hx hb dX6_mixThings_17 (by decide) ?_
  refine lv_istore (lv' := [(6, .int 0), (5, .int 7), (3, .long (-4820240584891532097)), (0, .ref x), (1, .long (-1160429273186388225))]) hx hb dX6_mixThings_18 hl (by decide) rfl (fun ls hl => ?_)
  refine lv_iload hx hb dX6_mixThings_20 (lv_at hl 0 rfl) ?_
  refine lv_bipush (v := 6) hx hb dX6_mixThings_22 (by decide) ?_
  refine lv_icmp_ge (tgt := 49) hx hb dX6_mixThings_24 (by decide) (fun h => absurd h (by decide)) (fun _ => ?_)
  refine lv_lload_n hx hb dX6_mixThings_27 rfl (lv_at hl 2 rfl) ?_
  refine lv_aload_n hx hb dX6_mixThings_28 rfl (lv_at hl 3 rfl) ?_
  refine va_get (D := (dC, dI)) (ci := 8) (v := .ref rm) (C := RX6) (T := TX6) (N := 3) hx hb hts zi_X6_mixThings_X6 hown hK (zo_R hR0 hS hAr) 0 rfl rfl 0 (by decide) (hts (.fieldLink RX6 12 "LockRooms" "room" "LLockRooms$Room;") (by decide +kernel)) (fun _ h9 => h9) rfl dX6_mixThings_29 ?_
  refine lv_iload hx hb dX6_mixThings_32 (lv_at hl 1 rfl) ?_
  refine lv_iload hx hb dX6_mixThings_34 (lv_at hl 0 rfl) ?_
  have hPr := ((zo_R hR0 hS hAr)).sub (ws' := [(rm, .inr (5, [.ref lk, .ref th, .ref pl, .ref gm, .int 2, .int 10, .int 0, .int 0, .int 1, .int 0, .int 0, .int 0])), (th, .inl (cT, 12, .inr (.inr (.inr (.inr ft))))), (t7, .inr (7, [.int (-1), .int 0, .int 0, .int 0, .int 0]))]) [1, 3, 13] rfl
  have hPc := hP.sub (ws' := []) [] rfl
  have hDc := hD.sub (ws' := []) [] (by decide) rfl
  have hKc := hK.sub (tys' := [(cT, .object "LockRooms$Thing")]) [1] rfl
  have hFc := va_free (wc := []) hD hS hA [] rfl
  refine va_calli (va_runV (As := [.int 7, .int 0]) (rest := [.long (-4820240584891532097)]) ⟨hx, hb, hml, hown, hts⟩ (cz_QtellThing_7_0 l dC dI ed H167.size rm lk th pl gm cT ft t7 hkt7) (cwV 2 hts gX6_mixThings_X3_tellThing rfl rfl rfl (by decide +kernel) ⟨Nat.le_of_ble_eq_true rfl, Nat.le_of_ble_eq_true rfl⟩) ⟨zb_blind, va_recv hK (zo_R hR0 hS hAr) (ci := 5) (q0 := 1) rfl rfl, fun U hU hW => ⟨rfl, zb_mk hU hW hPr hPc hKc hDc hN hH hS hFc zx_e⟩⟩ rfl rfl hl.1 rfl (lv_room (Nat.le_of_ble_eq_true rfl)) dX6_mixThings_36 ⟨Nat.le_of_ble_eq_true rfl, Nat.le_of_ble_eq_true rfl⟩) hS (fun q _ h => hFc q h) hFc (fun r170 u t H169 locs ht hvm hw hB hz1 hk1 hS => ?_)
  obtain rfl : r170 = (-1) := hw
  have hP := zo_K hP hk1
  have hPr := (zo_nil : va_P (dC, dI) vwCl [] H169)
  have hPc := hP.sub (ws' := []) [] rfl
  have hDc := hD.sub (ws' := []) [] (by decide) rfl
  have hKc := hK.sub (tys' := []) [] rfl
  have hFc := va_free (wc := []) hD hS hA [] rfl
  refine va_calll (va_runS (As := [.long (-4820240584891532097), .int (-1)]) (rest := []) ⟨hx, hb, hml, hown, hts⟩ (cz_X6_mix l dC dI ed H169.size (-4820240584891532097) (-1)) (va_cwS 2 hts gX6_mixThings_X6_mix rfl rfl rfl (by decide +kernel) ⟨Nat.le_of_ble_eq_true rfl, Nat.le_of_ble_eq_true rfl⟩) ⟨zb_blind, fun U hU hW => ⟨rfl, zb_mk hU hW hPr hPc hKc hDc hN hH hS hFc zx_e⟩⟩ rfl rfl hl.1 rfl (lv_room (Nat.le_of_ble_eq_true rfl)) dX6_mixThings_39 ⟨Nat.le_of_ble_eq_true rfl, Nat.le_of_ble_eq_true rfl⟩) hS (fun q _ h => hFc q h) hFc (fun r172 u t H171 locs ht hvm hw hB hz1 hk1 hS => ?_)
  obtain rfl : r172 = (-1853505541961082080) := hw.trans (by decide +kernel)
  have hP := zo_K hP hk1
  refine lv_lstore_n (lv' := [(3, .long (-1853505541961082080)), (6, .int 0), (5, .int 7), (0, .ref x), (1, .long (-1160429273186388225))]) hx hb dX6_mixThings_42 rfl hl (by decide) rfl (fun ls hl => ?_)
  refine lv_iinc (v := 1) (lv' := [(6, .int 1), (3, .long (-1853505541961082080)), (5, .int 7), (0, .ref x), (1, .long (-1160429273186388225))]) hx hb dX6_mixThings_43 hl (k := 1) rfl (by decide) (by decide) rfl (fun ls hl => ?_)
  refine lv_goto (tgt := 20) hx hb dX6_mixThings_46 (by decide) ?_
  refine lv_iload hx hb dX6_mixThings_20 (lv_at hl 0 rfl) ?_
  refine lv_bipush (v := 6) hx hb dX6_mixThings_22 (by decide) ?_
  refine lv_icmp_ge (tgt := 49) hx hb dX6_mixThings_24 (by decide) (fun h => absurd h (by decide)) (fun _ => ?_)
  refine lv_lload_n hx hb dX6_mixThings_27 rfl (lv_at hl 1 rfl) ?_
  refine lv_aload_n hx hb dX6_mixThings_28 rfl (lv_at hl 3 rfl) ?_
  refine va_get (D := (dC, dI)) (ci := 8) (v := .ref rm) (C := RX6) (T := TX6) (N := 3) hx hb hts zi_X6_mixThings_X6 hown hK (zo_R hR0 hS hAr) 0 rfl rfl 0 (by decide) (hts (.fieldLink RX6 12 "LockRooms" "room" "LLockRooms$Room;") (by decide +kernel)) (fun _ h9 => h9) rfl dX6_mixThings_29 ?_
  refine lv_iload hx hb dX6_mixThings_32 (lv_at hl 2 rfl) ?_
  refine lv_iload hx hb dX6_mixThings_34 (lv_at hl 0 rfl) ?_
  have hPr := ((zo_R hR0 hS hAr)).sub (ws' := [(rm, .inr (5, [.ref lk, .ref th, .ref pl, .ref gm, .int 2, .int 10, .int 0, .int 0, .int 1, .int 0, .int 0, .int 0])), (th, .inl (cT, 12, .inr (.inr (.inr (.inr ft))))), (t7, .inr (7, [.int (-1), .int 0, .int 0, .int 0, .int 0]))]) [1, 3, 13] rfl
  have hPc := hP.sub (ws' := []) [] rfl
  have hDc := hD.sub (ws' := []) [] (by decide) rfl
  have hKc := hK.sub (tys' := [(cT, .object "LockRooms$Thing")]) [1] rfl
  have hFc := va_free (wc := []) hD hS hA [] rfl
  refine va_calli (va_runV (As := [.int 7, .int 1]) (rest := [.long (-1853505541961082080)]) ⟨hx, hb, hml, hown, hts⟩ (cz_QtellThing_7_1 l dC dI ed H171.size rm lk th pl gm cT ft t7 hkt7) (cwV 2 hts gX6_mixThings_X3_tellThing rfl rfl rfl (by decide +kernel) ⟨Nat.le_of_ble_eq_true rfl, Nat.le_of_ble_eq_true rfl⟩) ⟨zb_blind, va_recv hK (zo_R hR0 hS hAr) (ci := 5) (q0 := 1) rfl rfl, fun U hU hW => ⟨rfl, zb_mk hU hW hPr hPc hKc hDc hN hH hS hFc zx_e⟩⟩ rfl rfl hl.1 rfl (lv_room (Nat.le_of_ble_eq_true rfl)) dX6_mixThings_36 ⟨Nat.le_of_ble_eq_true rfl, Nat.le_of_ble_eq_true rfl⟩) hS (fun q _ h => hFc q h) hFc (fun r174 u t H173 locs ht hvm hw hB hz1 hk1 hS => ?_)
  obtain rfl : r174 = 0 := hw
  have hP := zo_K hP hk1
  have hPr := (zo_nil : va_P (dC, dI) vwCl [] H173)
  have hPc := hP.sub (ws' := []) [] rfl
  have hDc := hD.sub (ws' := []) [] (by decide) rfl
  have hKc := hK.sub (tys' := []) [] rfl
  have hFc := va_free (wc := []) hD hS hA [] rfl
  refine va_calll (va_runS (As := [.long (-1853505541961082080), .int 0]) (rest := []) ⟨hx, hb, hml, hown, hts⟩ (cz_X6_mix l dC dI ed H173.size (-1853505541961082080) 0) (va_cwS 2 hts gX6_mixThings_X6_mix rfl rfl rfl (by decide +kernel) ⟨Nat.le_of_ble_eq_true rfl, Nat.le_of_ble_eq_true rfl⟩) ⟨zb_blind, fun U hU hW => ⟨rfl, zb_mk hU hW hPr hPc hKc hDc hN hH hS hFc zx_e⟩⟩ rfl rfl hl.1 rfl (lv_room (Nat.le_of_ble_eq_true rfl)) dX6_mixThings_39 ⟨Nat.le_of_ble_eq_true rfl, Nat.le_of_ble_eq_true rfl⟩) hS (fun q _ h => hFc q h) hFc (fun r176 u t H175 locs ht hvm hw hB hz1 hk1 hS => ?_)
  obtain rfl : r176 = (-2118439579664889632) := hw.trans (by decide +kernel)
  have hP := zo_K hP hk1
  refine lv_lstore_n (lv' := [(3, .long (-2118439579664889632)), (6, .int 1), (5, .int 7), (0, .ref x), (1, .long (-1160429273186388225))]) hx hb dX6_mixThings_42 rfl hl (by decide) rfl (fun ls hl => ?_)
  refine lv_iinc (v := 2) (lv' := [(6, .int 2), (3, .long (-2118439579664889632)), (5, .int 7), (0, .ref x), (1, .long (-1160429273186388225))]) hx hb dX6_mixThings_43 hl (k := 1) rfl (by decide) (by decide) rfl (fun ls hl => ?_)
  refine lv_goto (tgt := 20) hx hb dX6_mixThings_46 (by decide) ?_
  refine lv_iload hx hb dX6_mixThings_20 (lv_at hl 0 rfl) ?_
  refine lv_bipush (v := 6) hx hb dX6_mixThings_22 (by decide) ?_
  refine lv_icmp_ge (tgt := 49) hx hb dX6_mixThings_24 (by decide) (fun h => absurd h (by decide)) (fun _ => ?_)
  refine lv_lload_n hx hb dX6_mixThings_27 rfl (lv_at hl 1 rfl) ?_
  refine lv_aload_n hx hb dX6_mixThings_28 rfl (lv_at hl 3 rfl) ?_
  refine va_get (D := (dC, dI)) (ci := 8) (v := .ref rm) (C := RX6) (T := TX6) (N := 3) hx hb hts zi_X6_mixThings_X6 hown hK (zo_R hR0 hS hAr) 0 rfl rfl 0 (by decide) (hts (.fieldLink RX6 12 "LockRooms" "room" "LLockRooms$Room;") (by decide +kernel)) (fun _ h9 => h9) rfl dX6_mixThings_29 ?_
  refine lv_iload hx hb dX6_mixThings_32 (lv_at hl 2 rfl) ?_
  refine lv_iload hx hb dX6_mixThings_34 (lv_at hl 0 rfl) ?_
  have hPr := ((zo_R hR0 hS hAr)).sub (ws' := [(rm, .inr (5, [.ref lk, .ref th, .ref pl, .ref gm, .int 2, .int 10, .int 0, .int 0, .int 1, .int 0, .int 0, .int 0])), (th, .inl (cT, 12, .inr (.inr (.inr (.inr ft))))), (t7, .inr (7, [.int (-1), .int 0, .int 0, .int 0, .int 0]))]) [1, 3, 13] rfl
  have hPc := hP.sub (ws' := []) [] rfl
  have hDc := hD.sub (ws' := []) [] (by decide) rfl
  have hKc := hK.sub (tys' := [(cT, .object "LockRooms$Thing")]) [1] rfl
  have hFc := va_free (wc := []) hD hS hA [] rfl
  refine va_calli (va_runV (As := [.int 7, .int 2]) (rest := [.long (-2118439579664889632)]) ⟨hx, hb, hml, hown, hts⟩ (cz_QtellThing_7_2 l dC dI ed H175.size rm lk th pl gm cT ft t7 hkt7) (cwV 2 hts gX6_mixThings_X3_tellThing rfl rfl rfl (by decide +kernel) ⟨Nat.le_of_ble_eq_true rfl, Nat.le_of_ble_eq_true rfl⟩) ⟨zb_blind, va_recv hK (zo_R hR0 hS hAr) (ci := 5) (q0 := 1) rfl rfl, fun U hU hW => ⟨rfl, zb_mk hU hW hPr hPc hKc hDc hN hH hS hFc zx_e⟩⟩ rfl rfl hl.1 rfl (lv_room (Nat.le_of_ble_eq_true rfl)) dX6_mixThings_36 ⟨Nat.le_of_ble_eq_true rfl, Nat.le_of_ble_eq_true rfl⟩) hS (fun q _ h => hFc q h) hFc (fun r178 u t H177 locs ht hvm hw hB hz1 hk1 hS => ?_)
  obtain rfl : r178 = 0 := hw
  have hP := zo_K hP hk1
  have hPr := (zo_nil : va_P (dC, dI) vwCl [] H177)
  have hPc := hP.sub (ws' := []) [] rfl
  have hDc := hD.sub (ws' := []) [] (by decide) rfl
  have hKc := hK.sub (tys' := []) [] rfl
  have hFc := va_free (wc := []) hD hS hA [] rfl
  refine va_calll (va_runS (As := [.long (-2118439579664889632), .int 0]) (rest := []) ⟨hx, hb, hml, hown, hts⟩ (cz_X6_mix l dC dI ed H177.size (-2118439579664889632) 0) (va_cwS 2 hts gX6_mixThings_X6_mix rfl rfl rfl (by decide +kernel) ⟨Nat.le_of_ble_eq_true rfl, Nat.le_of_ble_eq_true rfl⟩) ⟨zb_blind, fun U hU hW => ⟨rfl, zb_mk hU hW hPr hPc hKc hDc hN hH hS hFc zx_e⟩⟩ rfl rfl hl.1 rfl (lv_room (Nat.le_of_ble_eq_true rfl)) dX6_mixThings_39 ⟨Nat.le_of_ble_eq_true rfl, Nat.le_of_ble_eq_true rfl⟩) hS (fun q _ h => hFc q h) hFc (fun r180 u t H179 locs ht hvm hw hB hz1 hk1 hS => ?_)
  obtain rfl : r180 = 8115349325226627872 := hw.trans (by decide +kernel)
  have hP := zo_K hP hk1
  refine lv_lstore_n (lv' := [(3, .long 8115349325226627872), (6, .int 2), (5, .int 7), (0, .ref x), (1, .long (-1160429273186388225))]) hx hb dX6_mixThings_42 rfl hl (by decide) rfl (fun ls hl => ?_)
  refine lv_iinc (v := 3) (lv' := [(6, .int 3), (3, .long 8115349325226627872), (5, .int 7), (0, .ref x), (1, .long (-1160429273186388225))]) hx hb dX6_mixThings_43 hl (k := 1) rfl (by decide) (by decide) rfl (fun ls hl => ?_)
  refine lv_goto (tgt := 20) hx hb dX6_mixThings_46 (by decide) ?_
  refine lv_iload hx hb dX6_mixThings_20 (lv_at hl 0 rfl) ?_
  refine lv_bipush (v := 6) hx hb dX6_mixThings_22 (by decide) ?_
  refine lv_icmp_ge (tgt := 49) hx hb dX6_mixThings_24 (by decide) (fun h => absurd h (by decide)) (fun _ => ?_)
  refine lv_lload_n hx hb dX6_mixThings_27 rfl (lv_at hl 1 rfl) ?_
  refine lv_aload_n hx hb dX6_mixThings_28 rfl (lv_at hl 3 rfl) ?_
  refine va_get (D := (dC, dI)) (ci := 8) (v := .ref rm) (C := RX6) (T := TX6) (N := 3) hx hb hts zi_X6_mixThings_X6 hown hK (zo_R hR0 hS hAr) 0 rfl rfl 0 (by decide) (hts (.fieldLink RX6 12 "LockRooms" "room" "LLockRooms$Room;") (by decide +kernel)) (fun _ h9 => h9) rfl dX6_mixThings_29 ?_
  refine lv_iload hx hb dX6_mixThings_32 (lv_at hl 2 rfl) ?_
  refine lv_iload hx hb dX6_mixThings_34 (lv_at hl 0 rfl) ?_
  have hPr := ((zo_R hR0 hS hAr)).sub (ws' := [(rm, .inr (5, [.ref lk, .ref th, .ref pl, .ref gm, .int 2, .int 10, .int 0, .int 0, .int 1, .int 0, .int 0, .int 0])), (th, .inl (cT, 12, .inr (.inr (.inr (.inr ft))))), (t7, .inr (7, [.int (-1), .int 0, .int 0, .int 0, .int 0]))]) [1, 3, 13] rfl
  have hPc := hP.sub (ws' := []) [] rfl
  have hDc := hD.sub (ws' := []) [] (by decide) rfl
  have hKc := hK.sub (tys' := [(cT, .object "LockRooms$Thing")]) [1] rfl
  have hFc := va_free (wc := []) hD hS hA [] rfl
  refine va_calli (va_runV (As := [.int 7, .int 3]) (rest := [.long 8115349325226627872]) ⟨hx, hb, hml, hown, hts⟩ (cz_QtellThing_7_3 l dC dI ed H179.size rm lk th pl gm cT ft t7 hkt7) (cwV 2 hts gX6_mixThings_X3_tellThing rfl rfl rfl (by decide +kernel) ⟨Nat.le_of_ble_eq_true rfl, Nat.le_of_ble_eq_true rfl⟩) ⟨zb_blind, va_recv hK (zo_R hR0 hS hAr) (ci := 5) (q0 := 1) rfl rfl, fun U hU hW => ⟨rfl, zb_mk hU hW hPr hPc hKc hDc hN hH hS hFc zx_e⟩⟩ rfl rfl hl.1 rfl (lv_room (Nat.le_of_ble_eq_true rfl)) dX6_mixThings_36 ⟨Nat.le_of_ble_eq_true rfl, Nat.le_of_ble_eq_true rfl⟩) hS (fun q _ h => hFc q h) hFc (fun r182 u t H181 locs ht hvm hw hB hz1 hk1 hS => ?_)
  obtain rfl : r182 = 0 := hw
  have hP := zo_K hP hk1
  have hPr := (zo_nil : va_P (dC, dI) vwCl [] H181)
  have hPc := hP.sub (ws' := []) [] rfl
  have hDc := hD.sub (ws' := []) [] (by decide) rfl
  have hKc := hK.sub (tys' := []) [] rfl
  have hFc := va_free (wc := []) hD hS hA [] rfl
  refine va_calll (va_runS (As := [.long 8115349325226627872, .int 0]) (rest := []) ⟨hx, hb, hml, hown, hts⟩ (cz_X6_mix l dC dI ed H181.size 8115349325226627872 0) (va_cwS 2 hts gX6_mixThings_X6_mix rfl rfl rfl (by decide +kernel) ⟨Nat.le_of_ble_eq_true rfl, Nat.le_of_ble_eq_true rfl⟩) ⟨zb_blind, fun U hU hW => ⟨rfl, zb_mk hU hW hPr hPc hKc hDc hN hH hS hFc zx_e⟩⟩ rfl rfl hl.1 rfl (lv_room (Nat.le_of_ble_eq_true rfl)) dX6_mixThings_39 ⟨Nat.le_of_ble_eq_true rfl, Nat.le_of_ble_eq_true rfl⟩) hS (fun q _ h => hFc q h) hFc (fun r184 u t H183 locs ht hvm hw hB hz1 hk1 hS => ?_)
  obtain rfl : r184 = (-6678587949908258592) := hw.trans (by decide +kernel)
  have hP := zo_K hP hk1
  refine lv_lstore_n (lv' := [(3, .long (-6678587949908258592)), (6, .int 3), (5, .int 7), (0, .ref x), (1, .long (-1160429273186388225))]) hx hb dX6_mixThings_42 rfl hl (by decide) rfl (fun ls hl => ?_)
  refine lv_iinc (v := 4) (lv' := [(6, .int 4), (3, .long (-6678587949908258592)), (5, .int 7), (0, .ref x), (1, .long (-1160429273186388225))]) hx hb dX6_mixThings_43 hl (k := 1) rfl (by decide) (by decide) rfl (fun ls hl => ?_)
  refine lv_goto (tgt := 20) hx hb dX6_mixThings_46 (by decide) ?_
  refine lv_iload hx hb dX6_mixThings_20 (lv_at hl 0 rfl) ?_
  refine lv_bipush (v := 6) hx hb dX6_mixThings_22 (by decide) ?_
  refine lv_icmp_ge (tgt := 49) hx hb dX6_mixThings_24 (by decide) (fun h => absurd h (by decide)) (fun _ => ?_)
  refine lv_lload_n hx hb dX6_mixThings_27 rfl (lv_at hl 1 rfl) ?_
  refine lv_aload_n hx hb dX6_mixThings_28 rfl (lv_at hl 3 rfl) ?_
  refine va_get (D := (dC, dI)) (ci := 8) (v := .ref rm) (C := RX6) (T := TX6) (N := 3) hx hb hts zi_X6_mixThings_X6 hown hK (zo_R hR0 hS hAr) 0 rfl rfl 0 (by decide) (hts (.fieldLink RX6 12 "LockRooms" "room" "LLockRooms$Room;") (by decide +kernel)) (fun _ h9 => h9) rfl dX6_mixThings_29 ?_
  refine lv_iload hx hb dX6_mixThings_32 (lv_at hl 2 rfl) ?_
  refine lv_iload hx hb dX6_mixThings_34 (lv_at hl 0 rfl) ?_
  have hPr := ((zo_R hR0 hS hAr)).sub (ws' := [(rm, .inr (5, [.ref lk, .ref th, .ref pl, .ref gm, .int 2, .int 10, .int 0, .int 0, .int 1, .int 0, .int 0, .int 0])), (th, .inl (cT, 12, .inr (.inr (.inr (.inr ft))))), (t7, .inr (7, [.int (-1), .int 0, .int 0, .int 0, .int 0])), (lk, .inl (cL, 10, .inr (.inr (.inr (.inr fl))))), (l0, .inr (3, [.int 0, .int 0, .int 60, .int 0, .int 0, .int 0, .int 0, .int 0, .int 0, .int 0])), (l1, .inr (3, [.int 0, .int 0, .int 60, .int 0, .int 0, .int 0, .int 0, .int 0, .int 0, .int 0]))]) [1, 3, 13, 2, 4, 5] rfl
  have hPc := hP.sub (ws' := []) [] rfl
  have hDc := hD.sub (ws' := []) [] (by decide) rfl
  have hKc := hK.sub (tys' := [(cT, .object "LockRooms$Thing"), (cL, .object "LockRooms$Lock")]) [1, 0] rfl
  have hFc := va_free (wc := []) hD hS hA [] rfl
  refine va_calli (va_runV (As := [.int 7, .int 4]) (rest := [.long (-6678587949908258592)]) ⟨hx, hb, hml, hown, hts⟩ (cz_QtellThing_7_4 l dC dI ed H183.size rm lk th pl gm cT ft t7 cL fl l0 l1 hkt7 hkl0 hkl1) (cwV 2 hts gX6_mixThings_X3_tellThing rfl rfl rfl (by decide +kernel) ⟨Nat.le_of_ble_eq_true rfl, Nat.le_of_ble_eq_true rfl⟩) ⟨zb_blind, va_recv hK (zo_R hR0 hS hAr) (ci := 5) (q0 := 1) rfl rfl, fun U hU hW => ⟨rfl, zb_mk hU hW hPr hPc hKc hDc hN hH hS hFc zx_e⟩⟩ rfl rfl hl.1 rfl (lv_room (Nat.le_of_ble_eq_true rfl)) dX6_mixThings_36 ⟨Nat.le_of_ble_eq_true rfl, Nat.le_of_ble_eq_true rfl⟩) hS (fun q _ h => hFc q h) hFc (fun r186 u t H185 locs ht hvm hw hB hz1 hk1 hS => ?_)
  obtain rfl : r186 = 1 := hw
  have hP := zo_K hP hk1
  have hPr := (zo_nil : va_P (dC, dI) vwCl [] H185)
  have hPc := hP.sub (ws' := []) [] rfl
  have hDc := hD.sub (ws' := []) [] (by decide) rfl
  have hKc := hK.sub (tys' := []) [] rfl
  have hFc := va_free (wc := []) hD hS hA [] rfl
  refine va_calll (va_runS (As := [.long (-6678587949908258592), .int 1]) (rest := []) ⟨hx, hb, hml, hown, hts⟩ (cz_X6_mix l dC dI ed H185.size (-6678587949908258592) 1) (va_cwS 2 hts gX6_mixThings_X6_mix rfl rfl rfl (by decide +kernel) ⟨Nat.le_of_ble_eq_true rfl, Nat.le_of_ble_eq_true rfl⟩) ⟨zb_blind, fun U hU hW => ⟨rfl, zb_mk hU hW hPr hPc hKc hDc hN hH hS hFc zx_e⟩⟩ rfl rfl hl.1 rfl (lv_room (Nat.le_of_ble_eq_true rfl)) dX6_mixThings_39 ⟨Nat.le_of_ble_eq_true rfl, Nat.le_of_ble_eq_true rfl⟩) hS (fun q _ h => hFc q h) hFc (fun r188 u t H187 locs ht hvm hw hB hz1 hk1 hS => ?_)
  obtain rfl : r188 = (-4122041636350948575) := hw.trans (by decide +kernel)
  have hP := zo_K hP hk1
  refine lv_lstore_n (lv' := [(3, .long (-4122041636350948575)), (6, .int 4), (5, .int 7), (0, .ref x), (1, .long (-1160429273186388225))]) hx hb dX6_mixThings_42 rfl hl (by decide) rfl (fun ls hl => ?_)
  refine lv_iinc (v := 5) (lv' := [(6, .int 5), (3, .long (-4122041636350948575)), (5, .int 7), (0, .ref x), (1, .long (-1160429273186388225))]) hx hb dX6_mixThings_43 hl (k := 1) rfl (by decide) (by decide) rfl (fun ls hl => ?_)
  refine lv_goto (tgt := 20) hx hb dX6_mixThings_46 (by decide) ?_
  refine lv_iload hx hb dX6_mixThings_20 (lv_at hl 0 rfl) ?_
  refine lv_bipush (v := 6) hx hb dX6_mixThings_22 (by decide) ?_
  refine lv_icmp_ge (tgt := 49) hx hb dX6_mixThings_24 (by decide) (fun h => absurd h (by decide)) (fun _ => ?_)
  refine lv_lload_n hx hb dX6_mixThings_27 rfl (lv_at hl 1 rfl) ?_
  refine lv_aload_n hx hb dX6_mixThings_28 rfl (lv_at hl 3 rfl) ?_
  refine va_get (D := (dC, dI)) (ci := 8) (v := .ref rm) (C := RX6) (T := TX6) (N := 3) hx hb hts zi_X6_mixThings_X6 hown hK (zo_R hR0 hS hAr) 0 rfl rfl 0 (by decide) (hts (.fieldLink RX6 12 "LockRooms" "room" "LLockRooms$Room;") (by decide +kernel)) (fun _ h9 => h9) rfl dX6_mixThings_29 ?_
  refine lv_iload hx hb dX6_mixThings_32 (lv_at hl 2 rfl) ?_
  refine lv_iload hx hb dX6_mixThings_34 (lv_at hl 0 rfl) ?_
  have hPr := ((zo_R hR0 hS hAr)).sub (ws' := [(rm, .inr (5, [.ref lk, .ref th, .ref pl, .ref gm, .int 2, .int 10, .int 0, .int 0, .int 1, .int 0, .int 0, .int 0])), (th, .inl (cT, 12, .inr (.inr (.inr (.inr ft))))), (t7, .inr (7, [.int (-1), .int 0, .int 0, .int 0, .int 0])), (lk, .inl (cL, 10, .inr (.inr (.inr (.inr fl))))), (l0, .inr (3, [.int 0, .int 0, .int 60, .int 0, .int 0, .int 0, .int 0, .int 0, .int 0, .int 0])), (l1, .inr (3, [.int 0, .int 0, .int 60, .int 0, .int 0, .int 0, .int 0, .int 0, .int 0, .int 0]))]) [1, 3, 13, 2, 4, 5] rfl
  have hPc := hP.sub (ws' := []) [] rfl
  have hDc := hD.sub (ws' := []) [] (by decide) rfl
  have hKc := hK.sub (tys' := [(cT, .object "LockRooms$Thing"), (cL, .object "LockRooms$Lock")]) [1, 0] rfl
  have hFc := va_free (wc := []) hD hS hA [] rfl
  refine va_calli (va_runV (As := [.int 7, .int 5]) (rest := [.long (-4122041636350948575)]) ⟨hx, hb, hml, hown, hts⟩ (cz_QtellThing_7_5 l dC dI ed H187.size rm lk th pl gm cT ft t7 cL fl l0 l1 hkt7 hkl0 hkl1) (cwV 2 hts gX6_mixThings_X3_tellThing rfl rfl rfl (by decide +kernel) ⟨Nat.le_of_ble_eq_true rfl, Nat.le_of_ble_eq_true rfl⟩) ⟨zb_blind, va_recv hK (zo_R hR0 hS hAr) (ci := 5) (q0 := 1) rfl rfl, fun U hU hW => ⟨rfl, zb_mk hU hW hPr hPc hKc hDc hN hH hS hFc zx_e⟩⟩ rfl rfl hl.1 rfl (lv_room (Nat.le_of_ble_eq_true rfl)) dX6_mixThings_36 ⟨Nat.le_of_ble_eq_true rfl, Nat.le_of_ble_eq_true rfl⟩) hS (fun q _ h => hFc q h) hFc (fun r190 u t H189 locs ht hvm hw hB hz1 hk1 hS => ?_)
  obtain rfl : r190 = 0 := hw
  have hP := zo_K hP hk1
  have hPr := (zo_nil : va_P (dC, dI) vwCl [] H189)
  have hPc := hP.sub (ws' := []) [] rfl
  have hDc := hD.sub (ws' := []) [] (by decide) rfl
  have hKc := hK.sub (tys' := []) [] rfl
  have hFc := va_free (wc := []) hD hS hA [] rfl
  refine va_calll (va_runS (As := [.long (-4122041636350948575), .int 0]) (rest := []) ⟨hx, hb, hml, hown, hts⟩ (cz_X6_mix l dC dI ed H189.size (-4122041636350948575) 0) (va_cwS 2 hts gX6_mixThings_X6_mix rfl rfl rfl (by decide +kernel) ⟨Nat.le_of_ble_eq_true rfl, Nat.le_of_ble_eq_true rfl⟩) ⟨zb_blind, fun U hU hW => ⟨rfl, zb_mk hU hW hPr hPc hKc hDc hN hH hS hFc zx_e⟩⟩ rfl rfl hl.1 rfl (lv_room (Nat.le_of_ble_eq_true rfl)) dX6_mixThings_39 ⟨Nat.le_of_ble_eq_true rfl, Nat.le_of_ble_eq_true rfl⟩) hS (fun q _ h => hFc q h) hFc (fun r192 u t H191 locs ht hvm hw hB hz1 hk1 hS => ?_)
  obtain rfl : r192 = 1343917789087455487 := hw.trans (by decide +kernel)
  have hP := zo_K hP hk1
  refine lv_lstore_n (lv' := [(3, .long 1343917789087455487), (6, .int 5), (5, .int 7), (0, .ref x), (1, .long (-1160429273186388225))]) hx hb dX6_mixThings_42 rfl hl (by decide) rfl (fun ls hl => ?_)
  refine lv_iinc (v := 6) (lv' := [(6, .int 6), (3, .long 1343917789087455487), (5, .int 7), (0, .ref x), (1, .long (-1160429273186388225))]) hx hb dX6_mixThings_43 hl (k := 1) rfl (by decide) (by decide) rfl (fun ls hl => ?_)
  refine lv_goto (tgt := 20) hx hb dX6_mixThings_46 (by decide) ?_
  refine lv_iload hx hb dX6_mixThings_20 (lv_at hl 0 rfl) ?_
  refine lv_bipush (v := 6) hx hb dX6_mixThings_22 (by decide) ?_
  refine lv_icmp_ge (tgt := 49) hx hb dX6_mixThings_24 (by decide) (fun _ => ?_) (fun h => absurd h (by decide))
  refine lv_iinc (v := 8) (lv' := [(5, .int 8), (6, .int 6), (3, .long 1343917789087455487), (0, .ref x), (1, .long (-1160429273186388225))]) hx hb dX6_mixThings_49 hl (k := 2) rfl (by decide) (by decide) rfl (fun ls hl => ?_)
  refine lv_goto (tgt := 5) hx hb dX6_mixThings_52 (by decide) ?_
  refine lv_iload hx hb dX6_mixThings_5 (lv_at hl 0 rfl) ?_
  refine lv_aload_n hx hb dX6_mixThings_7 rfl (lv_at hl 3 rfl) ?_
  refine va_get (D := (dC, dI)) (ci := 8) (v := .ref rm) (C := RX6) (T := TX6) (N := 3) hx hb hts zi_X6_mixThings_X6 hown hK (zo_R hR0 hS hAr) 0 rfl rfl 0 (by decide) (hts (.fieldLink RX6 12 "LockRooms" "room" "LLockRooms$Room;") (by decide +kernel)) (fun _ h9 => h9) rfl dX6_mixThings_8 ?_
  refine va_get (D := (dC, dI)) (ci := 5) (v := .int 10) (C := RX3) (T := TX3) (N := 12) hx hb hts zi_X6_mixThings_X3 hown hK (zo_R hR0 hS hAr) 1 rfl rfl 5 (by decide) (hts (.fieldLink RX6 71 "LockRooms$Room" "thingCount" "I") (by decide +kernel)) (fun _ h9 => h9) rfl dX6_mixThings_11 ?_
  refine lv_icmp_ge (tgt := 55) hx hb dX6_mixThings_14 (by decide) (fun h => absurd h (by decide)) (fun _ => ?_)
  refine lv_iconst (v := 0) hx hb dX6_mixThings_17 (by decide) ?_
  refine lv_istore (lv' := [(6, .int 0), (5, .int 8), (3, .long 1343917789087455487), (0, .ref x), (1, .long (-1160429273186388225))]) hx hb dX6_mixThings_18 hl (by decide) rfl (fun ls hl => ?_)
  refine lv_iload hx hb dX6_mixThings_20 (lv_at hl 0 rfl) ?_
  refine lv_bipush (v := 6) hx hb dX6_mixThings_22 (by decide) ?_
  refine lv_icmp_ge (tgt := 49) hx hb dX6_mixThings_24 (by decide) (fun h => absurd h (by decide)) (fun _ => ?_)
  refine lv_lload_n hx hb dX6_mixThings_27 rfl (lv_at hl 2 rfl) ?_
  refine lv_aload_n hx hb dX6_mixThings_28 rfl (lv_at hl 3 rfl) ?_
  refine va_get (D := (dC, dI)) (ci := 8) (v := .ref rm) (C := RX6) (T := TX6) (N := 3) hx hb hts zi_X6_mixThings_X6 hown hK (zo_R hR0 hS hAr) 0 rfl rfl 0 (by decide) (hts (.fieldLink RX6 12 "LockRooms" "room" "LLockRooms$Room;") (by decide +kernel)) (fun _ h9 => h9) rfl dX6_mixThings_29 ?_
  refine lv_iload hx hb dX6_mixThings_32 (lv_at hl 1 rfl) ?_
  refine lv_iload hx hb dX6_mixThings_34 (lv_at hl 0 rfl) ?_
  have hPr := ((zo_R hR0 hS hAr)).sub (ws' := [(rm, .inr (5, [.ref lk, .ref th, .ref pl, .ref gm, .int 2, .int 10, .int 0, .int 0, .int 1, .int 0, .int 0, .int 0])), (th, .inl (cT, 12, .inr (.inr (.inr (.inr ft))))), (t8, .inr (7, [.int (-1), .int 0, .int 0, .int 0, .int 0]))]) [1, 3, 14] rfl
  have hPc := hP.sub (ws' := []) [] rfl
  have hDc := hD.sub (ws' := []) [] (by decide) rfl
  have hKc := hK.sub (tys' := [(cT, .object "LockRooms$Thing")]) [1] rfl
  have hFc := va_free (wc := []) hD hS hA [] rfl
  refine va_calli (va_runV (As := [.int 8, .int 0]) (rest := [.long 1343917789087455487]) ⟨hx, hb, hml, hown, hts⟩ (cz_QtellThing_8_0 l dC dI ed H191.size rm lk th pl gm cT ft t8 hkt8) (cwV 2 hts gX6_mixThings_X3_tellThing rfl rfl rfl (by decide +kernel) ⟨Nat.le_of_ble_eq_true rfl, Nat.le_of_ble_eq_true rfl⟩) ⟨zb_blind, va_recv hK (zo_R hR0 hS hAr) (ci := 5) (q0 := 1) rfl rfl, fun U hU hW => ⟨rfl, zb_mk hU hW hPr hPc hKc hDc hN hH hS hFc zx_e⟩⟩ rfl rfl hl.1 rfl (lv_room (Nat.le_of_ble_eq_true rfl)) dX6_mixThings_36 ⟨Nat.le_of_ble_eq_true rfl, Nat.le_of_ble_eq_true rfl⟩) hS (fun q _ h => hFc q h) hFc (fun r194 u t H193 locs ht hvm hw hB hz1 hk1 hS => ?_)
  obtain rfl : r194 = (-1) := hw
  have hP := zo_K hP hk1
  have hPr := (zo_nil : va_P (dC, dI) vwCl [] H193)
  have hPc := hP.sub (ws' := []) [] rfl
  have hDc := hD.sub (ws' := []) [] (by decide) rfl
  have hKc := hK.sub (tys' := []) [] rfl
  have hFc := va_free (wc := []) hD hS hA [] rfl
  refine va_calll (va_runS (As := [.long 1343917789087455487, .int (-1)]) (rest := []) ⟨hx, hb, hml, hown, hts⟩ (cz_X6_mix l dC dI ed H193.size 1343917789087455487 (-1)) (va_cwS 2 hts gX6_mixThings_X6_mix rfl rfl rfl (by decide +kernel) ⟨Nat.le_of_ble_eq_true rfl, Nat.le_of_ble_eq_true rfl⟩) ⟨zb_blind, fun U hU hW => ⟨rfl, zb_mk hU hW hPr hPc hKc hDc hN hH hS hFc zx_e⟩⟩ rfl rfl hl.1 rfl (lv_room (Nat.le_of_ble_eq_true rfl)) dX6_mixThings_39 ⟨Nat.le_of_ble_eq_true rfl, Nat.le_of_ble_eq_true rfl⟩) hS (fun q _ h => hFc q h) hFc (fun r196 u t H195 locs ht hvm hw hB hz1 hk1 hS => ?_)
  obtain rfl : r196 = 4767963314292016864 := hw.trans (by decide +kernel)
  have hP := zo_K hP hk1
  refine lv_lstore_n (lv' := [(3, .long 4767963314292016864), (6, .int 0), (5, .int 8), (0, .ref x), (1, .long (-1160429273186388225))]) hx hb dX6_mixThings_42 rfl hl (by decide) rfl (fun ls hl => ?_)
  refine lv_iinc (v := 1) (lv' := [(6, .int 1), (3, .long 4767963314292016864), (5, .int 8), (0, .ref x), (1, .long (-1160429273186388225))]) hx hb dX6_mixThings_43 hl (k := 1) rfl (by decide) (by decide) rfl (fun ls hl => ?_)
  refine lv_goto (tgt := 20) hx hb dX6_mixThings_46 (by decide) ?_
  refine lv_iload hx hb dX6_mixThings_20 (lv_at hl 0 rfl) ?_
  refine lv_bipush (v := 6) hx hb dX6_mixThings_22 (by decide) ?_
  refine lv_icmp_ge (tgt := 49) hx hb dX6_mixThings_24 (by decide) (fun h => absurd h (by decide)) (fun _ => ?_)
  refine lv_lload_n hx hb dX6_mixThings_27 rfl (lv_at hl 1 rfl) ?_
  refine lv_aload_n hx hb dX6_mixThings_28 rfl (lv_at hl 3 rfl) ?_
  refine va_get (D := (dC, dI)) (ci := 8) (v := .ref rm) (C := RX6) (T := TX6) (N := 3) hx hb hts zi_X6_mixThings_X6 hown hK (zo_R hR0 hS hAr) 0 rfl rfl 0 (by decide) (hts (.fieldLink RX6 12 "LockRooms" "room" "LLockRooms$Room;") (by decide +kernel)) (fun _ h9 => h9) rfl dX6_mixThings_29 ?_
  refine lv_iload hx hb dX6_mixThings_32 (lv_at hl 2 rfl) ?_
  refine lv_iload hx hb dX6_mixThings_34 (lv_at hl 0 rfl) ?_
  have hPr := ((zo_R hR0 hS hAr)).sub (ws' := [(rm, .inr (5, [.ref lk, .ref th, .ref pl, .ref gm, .int 2, .int 10, .int 0, .int 0, .int 1, .int 0, .int 0, .int 0])), (th, .inl (cT, 12, .inr (.inr (.inr (.inr ft))))), (t8, .inr (7, [.int (-1), .int 0, .int 0, .int 0, .int 0]))]) [1, 3, 14] rfl
  have hPc := hP.sub (ws' := []) [] rfl
  have hDc := hD.sub (ws' := []) [] (by decide) rfl
  have hKc := hK.sub (tys' := [(cT, .object "LockRooms$Thing")]) [1] rfl
  have hFc := va_free (wc := []) hD hS hA [] rfl
  refine va_calli (va_runV (As := [.int 8, .int 1]) (rest := [.long 4767963314292016864]) ⟨hx, hb, hml, hown, hts⟩ (cz_QtellThing_8_1 l dC dI ed H195.size rm lk th pl gm cT ft t8 hkt8) (cwV 2 hts gX6_mixThings_X3_tellThing rfl rfl rfl (by decide +kernel) ⟨Nat.le_of_ble_eq_true rfl, Nat.le_of_ble_eq_true rfl⟩) ⟨zb_blind, va_recv hK (zo_R hR0 hS hAr) (ci := 5) (q0 := 1) rfl rfl, fun U hU hW => ⟨rfl, zb_mk hU hW hPr hPc hKc hDc hN hH hS hFc zx_e⟩⟩ rfl rfl hl.1 rfl (lv_room (Nat.le_of_ble_eq_true rfl)) dX6_mixThings_36 ⟨Nat.le_of_ble_eq_true rfl, Nat.le_of_ble_eq_true rfl⟩) hS (fun q _ h => hFc q h) hFc (fun r198 u t H197 locs ht hvm hw hB hz1 hk1 hS => ?_)
  obtain rfl : r198 = 0 := hw
  have hP := zo_K hP hk1
  have hPr := (zo_nil : va_P (dC, dI) vwCl [] H197)
  have hPc := hP.sub (ws' := []) [] rfl
  have hDc := hD.sub (ws' := []) [] (by decide) rfl
  have hKc := hK.sub (tys' := []) [] rfl
  have hFc := va_free (wc := []) hD hS hA [] rfl
  refine va_calll (va_runS (As := [.long 4767963314292016864, .int 0]) (rest := []) ⟨hx, hb, hml, hown, hts⟩ (cz_X6_mix l dC dI ed H197.size 4767963314292016864 0) (va_cwS 2 hts gX6_mixThings_X6_mix rfl rfl rfl (by decide +kernel) ⟨Nat.le_of_ble_eq_true rfl, Nat.le_of_ble_eq_true rfl⟩) ⟨zb_blind, fun U hU hW => ⟨rfl, zb_mk hU hW hPr hPc hKc hDc hN hH hS hFc zx_e⟩⟩ rfl rfl hl.1 rfl (lv_room (Nat.le_of_ble_eq_true rfl)) dX6_mixThings_39 ⟨Nat.le_of_ble_eq_true rfl, Nat.le_of_ble_eq_true rfl⟩) hS (fun q _ h => hFc q h) hFc (fun r200 u t H199 locs ht hvm hw hB hz1 hk1 hS => ?_)
  obtain rfl : r200 = 232910153376109856 := hw.trans (by decide +kernel)
  have hP := zo_K hP hk1
  refine lv_lstore_n (lv' := [(3, .long 232910153376109856), (6, .int 1), (5, .int 8), (0, .ref x), (1, .long (-1160429273186388225))]) hx hb dX6_mixThings_42 rfl hl (by decide) rfl (fun ls hl => ?_)
  refine lv_iinc (v := 2) (lv' := [(6, .int 2), (3, .long 232910153376109856), (5, .int 8), (0, .ref x), (1, .long (-1160429273186388225))]) hx hb dX6_mixThings_43 hl (k := 1) rfl (by decide) (by decide) rfl (fun ls hl => ?_)
  refine lv_goto (tgt := 20) hx hb dX6_mixThings_46 (by decide) ?_
  refine lv_iload hx hb dX6_mixThings_20 (lv_at hl 0 rfl) ?_
  refine lv_bipush (v := 6) hx hb dX6_mixThings_22 (by decide) ?_
  refine lv_icmp_ge (tgt := 49) hx hb dX6_mixThings_24 (by decide) (fun h => absurd h (by decide)) (fun _ => ?_)
  refine lv_lload_n hx hb dX6_mixThings_27 rfl (lv_at hl 1 rfl) ?_
  refine lv_aload_n hx hb dX6_mixThings_28 rfl (lv_at hl 3 rfl) ?_
  refine va_get (D := (dC, dI)) (ci := 8) (v := .ref rm) (C := RX6) (T := TX6) (N := 3) hx hb hts zi_X6_mixThings_X6 hown hK (zo_R hR0 hS hAr) 0 rfl rfl 0 (by decide) (hts (.fieldLink RX6 12 "LockRooms" "room" "LLockRooms$Room;") (by decide +kernel)) (fun _ h9 => h9) rfl dX6_mixThings_29 ?_
  refine lv_iload hx hb dX6_mixThings_32 (lv_at hl 2 rfl) ?_
  refine lv_iload hx hb dX6_mixThings_34 (lv_at hl 0 rfl) ?_
  have hPr := ((zo_R hR0 hS hAr)).sub (ws' := [(rm, .inr (5, [.ref lk, .ref th, .ref pl, .ref gm, .int 2, .int 10, .int 0, .int 0, .int 1, .int 0, .int 0, .int 0])), (th, .inl (cT, 12, .inr (.inr (.inr (.inr ft))))), (t8, .inr (7, [.int (-1), .int 0, .int 0, .int 0, .int 0]))]) [1, 3, 14] rfl
  have hPc := hP.sub (ws' := []) [] rfl
  have hDc := hD.sub (ws' := []) [] (by decide) rfl
  have hKc := hK.sub (tys' := [(cT, .object "LockRooms$Thing")]) [1] rfl
  have hFc := va_free (wc := []) hD hS hA [] rfl
  refine va_calli (va_runV (As := [.int 8, .int 2]) (rest := [.long 232910153376109856]) ⟨hx, hb, hml, hown, hts⟩ (cz_QtellThing_8_2 l dC dI ed H199.size rm lk th pl gm cT ft t8 hkt8) (cwV 2 hts gX6_mixThings_X3_tellThing rfl rfl rfl (by decide +kernel) ⟨Nat.le_of_ble_eq_true rfl, Nat.le_of_ble_eq_true rfl⟩) ⟨zb_blind, va_recv hK (zo_R hR0 hS hAr) (ci := 5) (q0 := 1) rfl rfl, fun U hU hW => ⟨rfl, zb_mk hU hW hPr hPc hKc hDc hN hH hS hFc zx_e⟩⟩ rfl rfl hl.1 rfl (lv_room (Nat.le_of_ble_eq_true rfl)) dX6_mixThings_36 ⟨Nat.le_of_ble_eq_true rfl, Nat.le_of_ble_eq_true rfl⟩) hS (fun q _ h => hFc q h) hFc (fun r202 u t H201 locs ht hvm hw hB hz1 hk1 hS => ?_)
  obtain rfl : r202 = 0 := hw
  have hP := zo_K hP hk1
  have hPr := (zo_nil : va_P (dC, dI) vwCl [] H201)
  have hPc := hP.sub (ws' := []) [] rfl
  have hDc := hD.sub (ws' := []) [] (by decide) rfl
  have hKc := hK.sub (tys' := []) [] rfl
  have hFc := va_free (wc := []) hD hS hA [] rfl
  refine va_calll (va_runS (As := [.long 232910153376109856, .int 0]) (rest := []) ⟨hx, hb, hml, hown, hts⟩ (cz_X6_mix l dC dI ed H201.size 232910153376109856 0) (va_cwS 2 hts gX6_mixThings_X6_mix rfl rfl rfl (by decide +kernel) ⟨Nat.le_of_ble_eq_true rfl, Nat.le_of_ble_eq_true rfl⟩) ⟨zb_blind, fun U hU hW => ⟨rfl, zb_mk hU hW hPr hPc hKc hDc hN hH hS hFc zx_e⟩⟩ rfl rfl hl.1 rfl (lv_room (Nat.le_of_ble_eq_true rfl)) dX6_mixThings_39 ⟨Nat.le_of_ble_eq_true rfl, Nat.le_of_ble_eq_true rfl⟩) hS (fun q _ h => hFc q h) hFc (fun r204 u t H203 locs ht hvm hw hB hz1 hk1 hS => ?_)
  obtain rfl : r204 = 7220214754659405536 := hw.trans (by decide +kernel)
  have hP := zo_K hP hk1
  refine lv_lstore_n (lv' := [(3, .long 7220214754659405536), (6, .int 2), (5, .int 8), (0, .ref x), (1, .long (-1160429273186388225))]) hx hb dX6_mixThings_42 rfl hl (by decide) rfl (fun ls hl => ?_)
  refine lv_iinc (v := 3) (lv' := [(6, .int 3), (3, .long 7220214754659405536), (5, .int 8), (0, .ref x), (1, .long (-1160429273186388225))]) hx hb dX6_mixThings_43 hl (k := 1) rfl (by decide) (by decide) rfl (fun ls hl => ?_)
  refine lv_goto (tgt := 20) hx hb dX6_mixThings_46 (by decide) ?_
  refine lv_iload hx hb dX6_mixThings_20 (lv_at hl 0 rfl) ?_
  refine lv_bipush (v := 6) hx hb dX6_mixThings_22 (by decide) ?_
  refine lv_icmp_ge (tgt := 49) hx hb dX6_mixThings_24 (by decide) (fun h => absurd h (by decide)) (fun _ => ?_)
  refine lv_lload_n hx hb dX6_mixThings_27 rfl (lv_at hl 1 rfl) ?_
  refine lv_aload_n hx hb dX6_mixThings_28 rfl (lv_at hl 3 rfl) ?_
  refine va_get (D := (dC, dI)) (ci := 8) (v := .ref rm) (C := RX6) (T := TX6) (N := 3) hx hb hts zi_X6_mixThings_X6 hown hK (zo_R hR0 hS hAr) 0 rfl rfl 0 (by decide) (hts (.fieldLink RX6 12 "LockRooms" "room" "LLockRooms$Room;") (by decide +kernel)) (fun _ h9 => h9) rfl dX6_mixThings_29 ?_
  refine lv_iload hx hb dX6_mixThings_32 (lv_at hl 2 rfl) ?_
  refine lv_iload hx hb dX6_mixThings_34 (lv_at hl 0 rfl) ?_
  have hPr := ((zo_R hR0 hS hAr)).sub (ws' := [(rm, .inr (5, [.ref lk, .ref th, .ref pl, .ref gm, .int 2, .int 10, .int 0, .int 0, .int 1, .int 0, .int 0, .int 0])), (th, .inl (cT, 12, .inr (.inr (.inr (.inr ft))))), (t8, .inr (7, [.int (-1), .int 0, .int 0, .int 0, .int 0]))]) [1, 3, 14] rfl
  have hPc := hP.sub (ws' := []) [] rfl
  have hDc := hD.sub (ws' := []) [] (by decide) rfl
  have hKc := hK.sub (tys' := [(cT, .object "LockRooms$Thing")]) [1] rfl
  have hFc := va_free (wc := []) hD hS hA [] rfl
  refine va_calli (va_runV (As := [.int 8, .int 3]) (rest := [.long 7220214754659405536]) ⟨hx, hb, hml, hown, hts⟩ (cz_QtellThing_8_3 l dC dI ed H203.size rm lk th pl gm cT ft t8 hkt8) (cwV 2 hts gX6_mixThings_X3_tellThing rfl rfl rfl (by decide +kernel) ⟨Nat.le_of_ble_eq_true rfl, Nat.le_of_ble_eq_true rfl⟩) ⟨zb_blind, va_recv hK (zo_R hR0 hS hAr) (ci := 5) (q0 := 1) rfl rfl, fun U hU hW => ⟨rfl, zb_mk hU hW hPr hPc hKc hDc hN hH hS hFc zx_e⟩⟩ rfl rfl hl.1 rfl (lv_room (Nat.le_of_ble_eq_true rfl)) dX6_mixThings_36 ⟨Nat.le_of_ble_eq_true rfl, Nat.le_of_ble_eq_true rfl⟩) hS (fun q _ h => hFc q h) hFc (fun r206 u t H205 locs ht hvm hw hB hz1 hk1 hS => ?_)
  obtain rfl : r206 = 0 := hw
  have hP := zo_K hP hk1
  have hPr := (zo_nil : va_P (dC, dI) vwCl [] H205)
  have hPc := hP.sub (ws' := []) [] rfl
  have hDc := hD.sub (ws' := []) [] (by decide) rfl
  have hKc := hK.sub (tys' := []) [] rfl
  have hFc := va_free (wc := []) hD hS hA [] rfl
  refine va_calll (va_runS (As := [.long 7220214754659405536, .int 0]) (rest := []) ⟨hx, hb, hml, hown, hts⟩ (cz_X6_mix l dC dI ed H205.size 7220214754659405536 0) (va_cwS 2 hts gX6_mixThings_X6_mix rfl rfl rfl (by decide +kernel) ⟨Nat.le_of_ble_eq_true rfl, Nat.le_of_ble_eq_true rfl⟩) ⟨zb_blind, fun U hU hW => ⟨rfl, zb_mk hU hW hPr hPc hKc hDc hN hH hS hFc zx_e⟩⟩ rfl rfl hl.1 rfl (lv_room (Nat.le_of_ble_eq_true rfl)) dX6_mixThings_39 ⟨Nat.le_of_ble_eq_true rfl, Nat.le_of_ble_eq_true rfl⟩) hS (fun q _ h => hFc q h) hFc (fun r208 u t H207 locs ht hvm hw hB hz1 hk1 hS => ?_)
  obtain rfl : r208 = 2465728509926952224 := hw.trans (by decide +kernel)
  have hP := zo_K hP hk1
  refine lv_lstore_n (lv' := [(3, .long 2465728509926952224), (6, .int 3), (5, .int 8), (0, .ref x), (1, .long (-1160429273186388225))]) hx hb dX6_mixThings_42 rfl hl (by decide) rfl (fun ls hl => ?_)
  refine lv_iinc (v := 4) (lv' := [(6, .int 4), (3, .long 2465728509926952224), (5, .int 8), (0, .ref x), (1, .long (-1160429273186388225))]) hx hb dX6_mixThings_43 hl (k := 1) rfl (by decide) (by decide) rfl (fun ls hl => ?_)
  refine lv_goto (tgt := 20) hx hb dX6_mixThings_46 (by decide) ?_
  refine lv_iload hx hb dX6_mixThings_20 (lv_at hl 0 rfl) ?_
  refine lv_bipush (v := 6) hx hb dX6_mixThings_22 (by decide) ?_
  refine lv_icmp_ge (tgt := 49) hx hb dX6_mixThings_24 (by decide) (fun h => absurd h (by decide)) (fun _ => ?_)
  refine lv_lload_n hx hb dX6_mixThings_27 rfl (lv_at hl 1 rfl) ?_
  refine lv_aload_n hx hb dX6_mixThings_28 rfl (lv_at hl 3 rfl) ?_
  refine va_get (D := (dC, dI)) (ci := 8) (v := .ref rm) (C := RX6) (T := TX6) (N := 3) hx hb hts zi_X6_mixThings_X6 hown hK (zo_R hR0 hS hAr) 0 rfl rfl 0 (by decide) (hts (.fieldLink RX6 12 "LockRooms" "room" "LLockRooms$Room;") (by decide +kernel)) (fun _ h9 => h9) rfl dX6_mixThings_29 ?_
  refine lv_iload hx hb dX6_mixThings_32 (lv_at hl 2 rfl) ?_
  refine lv_iload hx hb dX6_mixThings_34 (lv_at hl 0 rfl) ?_
  have hPr := ((zo_R hR0 hS hAr)).sub (ws' := [(rm, .inr (5, [.ref lk, .ref th, .ref pl, .ref gm, .int 2, .int 10, .int 0, .int 0, .int 1, .int 0, .int 0, .int 0])), (th, .inl (cT, 12, .inr (.inr (.inr (.inr ft))))), (t8, .inr (7, [.int (-1), .int 0, .int 0, .int 0, .int 0])), (lk, .inl (cL, 10, .inr (.inr (.inr (.inr fl))))), (l0, .inr (3, [.int 0, .int 0, .int 60, .int 0, .int 0, .int 0, .int 0, .int 0, .int 0, .int 0])), (l1, .inr (3, [.int 0, .int 0, .int 60, .int 0, .int 0, .int 0, .int 0, .int 0, .int 0, .int 0]))]) [1, 3, 14, 2, 4, 5] rfl
  have hPc := hP.sub (ws' := []) [] rfl
  have hDc := hD.sub (ws' := []) [] (by decide) rfl
  have hKc := hK.sub (tys' := [(cT, .object "LockRooms$Thing"), (cL, .object "LockRooms$Lock")]) [1, 0] rfl
  have hFc := va_free (wc := []) hD hS hA [] rfl
  refine va_calli (va_runV (As := [.int 8, .int 4]) (rest := [.long 2465728509926952224]) ⟨hx, hb, hml, hown, hts⟩ (cz_QtellThing_8_4 l dC dI ed H207.size rm lk th pl gm cT ft t8 cL fl l0 l1 hkt8 hkl0 hkl1) (cwV 2 hts gX6_mixThings_X3_tellThing rfl rfl rfl (by decide +kernel) ⟨Nat.le_of_ble_eq_true rfl, Nat.le_of_ble_eq_true rfl⟩) ⟨zb_blind, va_recv hK (zo_R hR0 hS hAr) (ci := 5) (q0 := 1) rfl rfl, fun U hU hW => ⟨rfl, zb_mk hU hW hPr hPc hKc hDc hN hH hS hFc zx_e⟩⟩ rfl rfl hl.1 rfl (lv_room (Nat.le_of_ble_eq_true rfl)) dX6_mixThings_36 ⟨Nat.le_of_ble_eq_true rfl, Nat.le_of_ble_eq_true rfl⟩) hS (fun q _ h => hFc q h) hFc (fun r210 u t H209 locs ht hvm hw hB hz1 hk1 hS => ?_)
  obtain rfl : r210 = 1 := hw
  have hP := zo_K hP hk1
  have hPr := (zo_nil : va_P (dC, dI) vwCl [] H209)
  have hPc := hP.sub (ws' := []) [] rfl
  have hDc := hD.sub (ws' := []) [] (by decide) rfl
  have hKc := hK.sub (tys' := []) [] rfl
  have hFc := va_free (wc := []) hD hS hA [] rfl
  refine va_calll (va_runS (As := [.long 2465728509926952224, .int 1]) (rest := []) ⟨hx, hb, hml, hown, hts⟩ (cz_X6_mix l dC dI ed H209.size 2465728509926952224 1) (va_cwS 2 hts gX6_mixThings_X6_mix rfl rfl rfl (by decide +kernel) ⟨Nat.le_of_ble_eq_true rfl, Nat.le_of_ble_eq_true rfl⟩) ⟨zb_blind, fun U hU hW => ⟨rfl, zb_mk hU hW hPr hPc hKc hDc hN hH hS hFc zx_e⟩⟩ rfl rfl hl.1 rfl (lv_room (Nat.le_of_ble_eq_true rfl)) dX6_mixThings_39 ⟨Nat.le_of_ble_eq_true rfl, Nat.le_of_ble_eq_true rfl⟩) hS (fun q _ h => hFc q h) hFc (fun r212 u t H211 locs ht hvm hw hB hz1 hk1 hS => ?_)
  obtain rfl : r212 = 2650607512897312481 := hw.trans (by decide +kernel)
  have hP := zo_K hP hk1
  refine lv_lstore_n (lv' := [(3, .long 2650607512897312481), (6, .int 4), (5, .int 8), (0, .ref x), (1, .long (-1160429273186388225))]) hx hb dX6_mixThings_42 rfl hl (by decide) rfl (fun ls hl => ?_)
  refine lv_iinc (v := 5) (lv' := [(6, .int 5), (3, .long 2650607512897312481), (5, .int 8), (0, .ref x), (1, .long (-1160429273186388225))]) hx hb dX6_mixThings_43 hl (k := 1) rfl (by decide) (by decide) rfl (fun ls hl => ?_)
  refine lv_goto (tgt := 20) hx hb dX6_mixThings_46 (by decide) ?_
  refine lv_iload hx hb dX6_mixThings_20 (lv_at hl 0 rfl) ?_
  refine lv_bipush (v := 6) hx hb dX6_mixThings_22 (by decide) ?_
  refine lv_icmp_ge (tgt := 49) hx hb dX6_mixThings_24 (by decide) (fun h => absurd h (by decide)) (fun _ => ?_)
  refine lv_lload_n hx hb dX6_mixThings_27 rfl (lv_at hl 1 rfl) ?_
  refine lv_aload_n hx hb dX6_mixThings_28 rfl (lv_at hl 3 rfl) ?_
  refine va_get (D := (dC, dI)) (ci := 8) (v := .ref rm) (C := RX6) (T := TX6) (N := 3) hx hb hts zi_X6_mixThings_X6 hown hK (zo_R hR0 hS hAr) 0 rfl rfl 0 (by decide) (hts (.fieldLink RX6 12 "LockRooms" "room" "LLockRooms$Room;") (by decide +kernel)) (fun _ h9 => h9) rfl dX6_mixThings_29 ?_
  refine lv_iload hx hb dX6_mixThings_32 (lv_at hl 2 rfl) ?_
  refine lv_iload hx hb dX6_mixThings_34 (lv_at hl 0 rfl) ?_
  have hPr := ((zo_R hR0 hS hAr)).sub (ws' := [(rm, .inr (5, [.ref lk, .ref th, .ref pl, .ref gm, .int 2, .int 10, .int 0, .int 0, .int 1, .int 0, .int 0, .int 0])), (th, .inl (cT, 12, .inr (.inr (.inr (.inr ft))))), (t8, .inr (7, [.int (-1), .int 0, .int 0, .int 0, .int 0])), (lk, .inl (cL, 10, .inr (.inr (.inr (.inr fl))))), (l0, .inr (3, [.int 0, .int 0, .int 60, .int 0, .int 0, .int 0, .int 0, .int 0, .int 0, .int 0])), (l1, .inr (3, [.int 0, .int 0, .int 60, .int 0, .int 0, .int 0, .int 0, .int 0, .int 0, .int 0]))]) [1, 3, 14, 2, 4, 5] rfl
  have hPc := hP.sub (ws' := []) [] rfl
  have hDc := hD.sub (ws' := []) [] (by decide) rfl
  have hKc := hK.sub (tys' := [(cT, .object "LockRooms$Thing"), (cL, .object "LockRooms$Lock")]) [1, 0] rfl
  have hFc := va_free (wc := []) hD hS hA [] rfl
  refine va_calli (va_runV (As := [.int 8, .int 5]) (rest := [.long 2650607512897312481]) ⟨hx, hb, hml, hown, hts⟩ (cz_QtellThing_8_5 l dC dI ed H211.size rm lk th pl gm cT ft t8 cL fl l0 l1 hkt8 hkl0 hkl1) (cwV 2 hts gX6_mixThings_X3_tellThing rfl rfl rfl (by decide +kernel) ⟨Nat.le_of_ble_eq_true rfl, Nat.le_of_ble_eq_true rfl⟩) ⟨zb_blind, va_recv hK (zo_R hR0 hS hAr) (ci := 5) (q0 := 1) rfl rfl, fun U hU hW => ⟨rfl, zb_mk hU hW hPr hPc hKc hDc hN hH hS hFc zx_e⟩⟩ rfl rfl hl.1 rfl (lv_room (Nat.le_of_ble_eq_true rfl)) dX6_mixThings_36 ⟨Nat.le_of_ble_eq_true rfl, Nat.le_of_ble_eq_true rfl⟩) hS (fun q _ h => hFc q h) hFc (fun r214 u t H213 locs ht hvm hw hB hz1 hk1 hS => ?_)
  obtain rfl : r214 = 0 := hw
  have hP := zo_K hP hk1
  have hPr := (zo_nil : va_P (dC, dI) vwCl [] H213)
  have hPc := hP.sub (ws' := []) [] rfl
  have hDc := hD.sub (ws' := []) [] (by decide) rfl
  have hKc := hK.sub (tys' := []) [] rfl
  have hFc := va_free (wc := []) hD hS hA [] rfl
  refine va_calll (va_runS (As := [.long 2650607512897312481, .int 0]) (rest := []) ⟨hx, hb, hml, hown, hts⟩ (cz_X6_mix l dC dI ed H213.size 2650607512897312481 0) (va_cwS 2 hts gX6_mixThings_X6_mix rfl rfl rfl (by decide +kernel) ⟨Nat.le_of_ble_eq_true rfl, Nat.le_of_ble_eq_true rfl⟩) ⟨zb_blind, fun U hU hW => ⟨rfl, zb_mk hU hW hPr hPc hKc hDc hN hH hS hFc zx_e⟩⟩ rfl rfl hl.1 rfl (lv_room (Nat.le_of_ble_eq_true rfl)) dX6_mixThings_39 ⟨Nat.le_of_ble_eq_true rfl, Nat.le_of_ble_eq_true rfl⟩) hS (fun q _ h => hFc q h) hFc (fun r216 u t H215 locs ht hvm hw hB hz1 hk1 hS => ?_)
  obtain rfl : r216 = 8381856604978480447 := hw.trans (by decide +kernel)
  have hP := zo_K hP hk1
  refine lv_lstore_n (lv' := [(3, .long 8381856604978480447), (6, .int 5), (5, .int 8), (0, .ref x), (1, .long (-1160429273186388225))]) hx hb dX6_mixThings_42 rfl hl (by decide) rfl (fun ls hl => ?_)
  refine lv_iinc (v := 6) (lv' := [(6, .int 6), (3, .long 8381856604978480447), (5, .int 8), (0, .ref x), (1, .long (-1160429273186388225))]) hx hb dX6_mixThings_43 hl (k := 1) rfl (by decide) (by decide) rfl (fun ls hl => ?_)
  refine lv_goto (tgt := 20) hx hb dX6_mixThings_46 (by decide) ?_
  refine lv_iload hx hb dX6_mixThings_20 (lv_at hl 0 rfl) ?_
  refine lv_bipush (v := 6) hx hb dX6_mixThings_22 (by decide) ?_
  refine lv_icmp_ge (tgt := 49) hx hb dX6_mixThings_24 (by decide) (fun _ => ?_) (fun h => absurd h (by decide))
  refine lv_iinc (v := 9) (lv' := [(5, .int 9), (6, .int 6), (3, .long 8381856604978480447), (0, .ref x), (1, .long (-1160429273186388225))]) hx hb dX6_mixThings_49 hl (k := 2) rfl (by decide) (by decide) rfl (fun ls hl => ?_)
  refine lv_goto (tgt := 5) hx hb dX6_mixThings_52 (by decide) ?_
  refine lv_iload hx hb dX6_mixThings_5 (lv_at hl 0 rfl) ?_
  refine lv_aload_n hx hb dX6_mixThings_7 rfl (lv_at hl 3 rfl) ?_
  refine va_get (D := (dC, dI)) (ci := 8) (v := .ref rm) (C := RX6) (T := TX6) (N := 3) hx hb hts zi_X6_mixThings_X6 hown hK (zo_R hR0 hS hAr) 0 rfl rfl 0 (by decide) (hts (.fieldLink RX6 12 "LockRooms" "room" "LLockRooms$Room;") (by decide +kernel)) (fun _ h9 => h9) rfl dX6_mixThings_8 ?_
  refine va_get (D := (dC, dI)) (ci := 5) (v := .int 10) (C := RX3) (T := TX3) (N := 12) hx hb hts zi_X6_mixThings_X3 hown hK (zo_R hR0 hS hAr) 1 rfl rfl 5 (by decide) (hts (.fieldLink RX6 71 "LockRooms$Room" "thingCount" "I") (by decide +kernel)) (fun _ h9 => h9) rfl dX6_mixThings_11 ?_
  refine lv_icmp_ge (tgt := 55) hx hb dX6_mixThings_14 (by decide) (fun h => absurd h (by decide)) (fun _ => ?_)
  refine lv_iconst (v := 0) hx hb dX6_mixThings_17 (by decide) ?_
  refine lv_istore (lv' := [(6, .int 0), (5, .int 9), (3, .long 8381856604978480447), (0, .ref x), (1, .long (-1160429273186388225))]) hx hb dX6_mixThings_18 hl (by decide) rfl (fun ls hl => ?_)
  refine lv_iload hx hb dX6_mixThings_20 (lv_at hl 0 rfl) ?_
  refine lv_bipush (v := 6) hx hb dX6_mixThings_22 (by decide) ?_
  refine lv_icmp_ge (tgt := 49) hx hb dX6_mixThings_24 (by decide) (fun h => absurd h (by decide)) (fun _ => ?_)
  refine lv_lload_n hx hb dX6_mixThings_27 rfl (lv_at hl 2 rfl) ?_
  refine lv_aload_n hx hb dX6_mixThings_28 rfl (lv_at hl 3 rfl) ?_
  refine va_get (D := (dC, dI)) (ci := 8) (v := .ref rm) (C := RX6) (T := TX6) (N := 3) hx hb hts zi_X6_mixThings_X6 hown hK (zo_R hR0 hS hAr) 0 rfl rfl 0 (by decide) (hts (.fieldLink RX6 12 "LockRooms" "room" "LLockRooms$Room;") (by decide +kernel)) (fun _ h9 => h9) rfl dX6_mixThings_29 ?_
  refine lv_iload hx hb dX6_mixThings_32 (lv_at hl 1 rfl) ?_
  refine lv_iload hx hb dX6_mixThings_34 (lv_at hl 0 rfl) ?_
  have hPr := ((zo_R hR0 hS hAr)).sub (ws' := [(rm, .inr (5, [.ref lk, .ref th, .ref pl, .ref gm, .int 2, .int 10, .int 0, .int 0, .int 1, .int 0, .int 0, .int 0])), (th, .inl (cT, 12, .inr (.inr (.inr (.inr ft))))), (t9, .inr (7, [.int (-1), .int 0, .int 0, .int 0, .int 0]))]) [1, 3, 15] rfl
  have hPc := hP.sub (ws' := []) [] rfl
  have hDc := hD.sub (ws' := []) [] (by decide) rfl
  have hKc := hK.sub (tys' := [(cT, .object "LockRooms$Thing")]) [1] rfl
  have hFc := va_free (wc := []) hD hS hA [] rfl
  refine va_calli (va_runV (As := [.int 9, .int 0]) (rest := [.long 8381856604978480447]) ⟨hx, hb, hml, hown, hts⟩ (cz_QtellThing_9_0 l dC dI ed H215.size rm lk th pl gm cT ft t9 hkt9) (cwV 2 hts gX6_mixThings_X3_tellThing rfl rfl rfl (by decide +kernel) ⟨Nat.le_of_ble_eq_true rfl, Nat.le_of_ble_eq_true rfl⟩) ⟨zb_blind, va_recv hK (zo_R hR0 hS hAr) (ci := 5) (q0 := 1) rfl rfl, fun U hU hW => ⟨rfl, zb_mk hU hW hPr hPc hKc hDc hN hH hS hFc zx_e⟩⟩ rfl rfl hl.1 rfl (lv_room (Nat.le_of_ble_eq_true rfl)) dX6_mixThings_36 ⟨Nat.le_of_ble_eq_true rfl, Nat.le_of_ble_eq_true rfl⟩) hS (fun q _ h => hFc q h) hFc (fun r218 u t H217 locs ht hvm hw hB hz1 hk1 hS => ?_)
  obtain rfl : r218 = (-1) := hw
  have hP := zo_K hP hk1
  have hPr := (zo_nil : va_P (dC, dI) vwCl [] H217)
  have hPc := hP.sub (ws' := []) [] rfl
  have hDc := hD.sub (ws' := []) [] (by decide) rfl
  have hKc := hK.sub (tys' := []) [] rfl
  have hFc := va_free (wc := []) hD hS hA [] rfl
  refine va_calll (va_runS (As := [.long 8381856604978480447, .int (-1)]) (rest := []) ⟨hx, hb, hml, hown, hts⟩ (cz_X6_mix l dC dI ed H217.size 8381856604978480447 (-1)) (va_cwS 2 hts gX6_mixThings_X6_mix rfl rfl rfl (by decide +kernel) ⟨Nat.le_of_ble_eq_true rfl, Nat.le_of_ble_eq_true rfl⟩) ⟨zb_blind, fun U hU hW => ⟨rfl, zb_mk hU hW hPr hPc hKc hDc hN hH hS hFc zx_e⟩⟩ rfl rfl hl.1 rfl (lv_room (Nat.le_of_ble_eq_true rfl)) dX6_mixThings_39 ⟨Nat.le_of_ble_eq_true rfl, Nat.le_of_ble_eq_true rfl⟩) hS (fun q _ h => hFc q h) hFc (fun r220 u t H219 locs ht hvm hw hB hz1 hk1 hS => ?_)
  obtain rfl : r220 = 1583137722399171232 := hw.trans (by decide +kernel)
  have hP := zo_K hP hk1
  refine lv_lstore_n (lv' := [(3, .long 1583137722399171232), (6, .int 0), (5, .int 9), (0, .ref x), (1, .long (-1160429273186388225))]) hx hb dX6_mixThings_42 rfl hl (by decide) rfl (fun ls hl => ?_)
  refine lv_iinc (v := 1) (lv' := [(6, .int 1), (3, .long 1583137722399171232), (5, .int 9), (0, .ref x), (1, .long (-1160429273186388225))]) hx hb dX6_mixThings_43 hl (k := 1) rfl (by decide) (by decide) rfl (fun ls hl => ?_)
  refine lv_goto (tgt := 20) hx hb dX6_mixThings_46 (by decide) ?_
  refine lv_iload hx hb dX6_mixThings_20 (lv_at hl 0 rfl) ?_
  refine lv_bipush (v := 6) hx hb dX6_mixThings_22 (by decide) ?_
  refine lv_icmp_ge (tgt := 49) hx hb dX6_mixThings_24 (by decide) (fun h => absurd h (by decide)) (fun _ => ?_)
  refine lv_lload_n hx hb dX6_mixThings_27 rfl (lv_at hl 1 rfl) ?_
  refine lv_aload_n hx hb dX6_mixThings_28 rfl (lv_at hl 3 rfl) ?_
  refine va_get (D := (dC, dI)) (ci := 8) (v := .ref rm) (C := RX6) (T := TX6) (N := 3) hx hb hts zi_X6_mixThings_X6 hown hK (zo_R hR0 hS hAr) 0 rfl rfl 0 (by decide) (hts (.fieldLink RX6 12 "LockRooms" "room" "LLockRooms$Room;") (by decide +kernel)) (fun _ h9 => h9) rfl dX6_mixThings_29 ?_
  refine lv_iload hx hb dX6_mixThings_32 (lv_at hl 2 rfl) ?_
  refine lv_iload hx hb dX6_mixThings_34 (lv_at hl 0 rfl) ?_
  have hPr := ((zo_R hR0 hS hAr)).sub (ws' := [(rm, .inr (5, [.ref lk, .ref th, .ref pl, .ref gm, .int 2, .int 10, .int 0, .int 0, .int 1, .int 0, .int 0, .int 0])), (th, .inl (cT, 12, .inr (.inr (.inr (.inr ft))))), (t9, .inr (7, [.int (-1), .int 0, .int 0, .int 0, .int 0]))]) [1, 3, 15] rfl
  have hPc := hP.sub (ws' := []) [] rfl
  have hDc := hD.sub (ws' := []) [] (by decide) rfl
  have hKc := hK.sub (tys' := [(cT, .object "LockRooms$Thing")]) [1] rfl
  have hFc := va_free (wc := []) hD hS hA [] rfl
  refine va_calli (va_runV (As := [.int 9, .int 1]) (rest := [.long 1583137722399171232]) ⟨hx, hb, hml, hown, hts⟩ (cz_QtellThing_9_1 l dC dI ed H219.size rm lk th pl gm cT ft t9 hkt9) (cwV 2 hts gX6_mixThings_X3_tellThing rfl rfl rfl (by decide +kernel) ⟨Nat.le_of_ble_eq_true rfl, Nat.le_of_ble_eq_true rfl⟩) ⟨zb_blind, va_recv hK (zo_R hR0 hS hAr) (ci := 5) (q0 := 1) rfl rfl, fun U hU hW => ⟨rfl, zb_mk hU hW hPr hPc hKc hDc hN hH hS hFc zx_e⟩⟩ rfl rfl hl.1 rfl (lv_room (Nat.le_of_ble_eq_true rfl)) dX6_mixThings_36 ⟨Nat.le_of_ble_eq_true rfl, Nat.le_of_ble_eq_true rfl⟩) hS (fun q _ h => hFc q h) hFc (fun r222 u t H221 locs ht hvm hw hB hz1 hk1 hS => ?_)
  obtain rfl : r222 = 0 := hw
  have hP := zo_K hP hk1
  have hPr := (zo_nil : va_P (dC, dI) vwCl [] H221)
  have hPc := hP.sub (ws' := []) [] rfl
  have hDc := hD.sub (ws' := []) [] (by decide) rfl
  have hKc := hK.sub (tys' := []) [] rfl
  have hFc := va_free (wc := []) hD hS hA [] rfl
  refine va_calll (va_runS (As := [.long 1583137722399171232, .int 0]) (rest := []) ⟨hx, hb, hml, hown, hts⟩ (cz_X6_mix l dC dI ed H221.size 1583137722399171232 0) (va_cwS 2 hts gX6_mixThings_X6_mix rfl rfl rfl (by decide +kernel) ⟨Nat.le_of_ble_eq_true rfl, Nat.le_of_ble_eq_true rfl⟩) ⟨zb_blind, fun U hU hW => ⟨rfl, zb_mk hU hW hPr hPc hKc hDc hN hH hS hFc zx_e⟩⟩ rfl rfl hl.1 rfl (lv_room (Nat.le_of_ble_eq_true rfl)) dX6_mixThings_39 ⟨Nat.le_of_ble_eq_true rfl, Nat.le_of_ble_eq_true rfl⟩) hS (fun q _ h => hFc q h) hFc (fun r224 u t H223 locs ht hvm hw hB hz1 hk1 hS => ?_)
  obtain rfl : r224 = (-6262962826754346656) := hw.trans (by decide +kernel)
  have hP := zo_K hP hk1
  refine lv_lstore_n (lv' := [(3, .long (-6262962826754346656)), (6, .int 1), (5, .int 9), (0, .ref x), (1, .long (-1160429273186388225))]) hx hb dX6_mixThings_42 rfl hl (by decide) rfl (fun ls hl => ?_)
  refine lv_iinc (v := 2) (lv' := [(6, .int 2), (3, .long (-6262962826754346656)), (5, .int 9), (0, .ref x), (1, .long (-1160429273186388225))]) hx hb dX6_mixThings_43 hl (k := 1) rfl (by decide) (by decide) rfl (fun ls hl => ?_)
  refine lv_goto (tgt := 20) hx hb dX6_mixThings_46 (by decide) ?_
  refine lv_iload hx hb dX6_mixThings_20 (lv_at hl 0 rfl) ?_
  refine lv_bipush (v := 6) hx hb dX6_mixThings_22 (by decide) ?_
  refine lv_icmp_ge (tgt := 49) hx hb dX6_mixThings_24 (by decide) (fun h => absurd h (by decide)) (fun _ => ?_)
  refine lv_lload_n hx hb dX6_mixThings_27 rfl (lv_at hl 1 rfl) ?_
  refine lv_aload_n hx hb dX6_mixThings_28 rfl (lv_at hl 3 rfl) ?_
  refine va_get (D := (dC, dI)) (ci := 8) (v := .ref rm) (C := RX6) (T := TX6) (N := 3) hx hb hts zi_X6_mixThings_X6 hown hK (zo_R hR0 hS hAr) 0 rfl rfl 0 (by decide) (hts (.fieldLink RX6 12 "LockRooms" "room" "LLockRooms$Room;") (by decide +kernel)) (fun _ h9 => h9) rfl dX6_mixThings_29 ?_
  refine lv_iload hx hb dX6_mixThings_32 (lv_at hl 2 rfl) ?_
  refine lv_iload hx hb dX6_mixThings_34 (lv_at hl 0 rfl) ?_
  have hPr := ((zo_R hR0 hS hAr)).sub (ws' := [(rm, .inr (5, [.ref lk, .ref th, .ref pl, .ref gm, .int 2, .int 10, .int 0, .int 0, .int 1, .int 0, .int 0, .int 0])), (th, .inl (cT, 12, .inr (.inr (.inr (.inr ft))))), (t9, .inr (7, [.int (-1), .int 0, .int 0, .int 0, .int 0]))]) [1, 3, 15] rfl
  have hPc := hP.sub (ws' := []) [] rfl
  have hDc := hD.sub (ws' := []) [] (by decide) rfl
  have hKc := hK.sub (tys' := [(cT, .object "LockRooms$Thing")]) [1] rfl
  have hFc := va_free (wc := []) hD hS hA [] rfl
  refine va_calli (va_runV (As := [.int 9, .int 2]) (rest := [.long (-6262962826754346656)]) ⟨hx, hb, hml, hown, hts⟩ (cz_QtellThing_9_2 l dC dI ed H223.size rm lk th pl gm cT ft t9 hkt9) (cwV 2 hts gX6_mixThings_X3_tellThing rfl rfl rfl (by decide +kernel) ⟨Nat.le_of_ble_eq_true rfl, Nat.le_of_ble_eq_true rfl⟩) ⟨zb_blind, va_recv hK (zo_R hR0 hS hAr) (ci := 5) (q0 := 1) rfl rfl, fun U hU hW => ⟨rfl, zb_mk hU hW hPr hPc hKc hDc hN hH hS hFc zx_e⟩⟩ rfl rfl hl.1 rfl (lv_room (Nat.le_of_ble_eq_true rfl)) dX6_mixThings_36 ⟨Nat.le_of_ble_eq_true rfl, Nat.le_of_ble_eq_true rfl⟩) hS (fun q _ h => hFc q h) hFc (fun r226 u t H225 locs ht hvm hw hB hz1 hk1 hS => ?_)
  obtain rfl : r226 = 0 := hw
  have hP := zo_K hP hk1
  have hPr := (zo_nil : va_P (dC, dI) vwCl [] H225)
  have hPc := hP.sub (ws' := []) [] rfl
  have hDc := hD.sub (ws' := []) [] (by decide) rfl
  have hKc := hK.sub (tys' := []) [] rfl
  have hFc := va_free (wc := []) hD hS hA [] rfl
  refine va_calll (va_runS (As := [.long (-6262962826754346656), .int 0]) (rest := []) ⟨hx, hb, hml, hown, hts⟩ (cz_X6_mix l dC dI ed H225.size (-6262962826754346656) 0) (va_cwS 2 hts gX6_mixThings_X6_mix rfl rfl rfl (by decide +kernel) ⟨Nat.le_of_ble_eq_true rfl, Nat.le_of_ble_eq_true rfl⟩) ⟨zb_blind, fun U hU hW => ⟨rfl, zb_mk hU hW hPr hPc hKc hDc hN hH hS hFc zx_e⟩⟩ rfl rfl hl.1 rfl (lv_room (Nat.le_of_ble_eq_true rfl)) dX6_mixThings_39 ⟨Nat.le_of_ble_eq_true rfl, Nat.le_of_ble_eq_true rfl⟩) hS (fun q _ h => hFc q h) hFc (fun r228 u t H227 locs ht hvm hw hB hz1 hk1 hS => ?_)
  obtain rfl : r228 = 8762337181420321440 := hw.trans (by decide +kernel)
  have hP := zo_K hP hk1
  refine lv_lstore_n (lv' := [(3, .long 8762337181420321440), (6, .int 2), (5, .int 9), (0, .ref x), (1, .long (-1160429273186388225))]) hx hb dX6_mixThings_42 rfl hl (by decide) rfl (fun ls hl => ?_)
  refine lv_iinc (v := 3) (lv' := [(6, .int 3), (3, .long 8762337181420321440), (5, .int 9), (0, .ref x), (1, .long (-1160429273186388225))]) hx hb dX6_mixThings_43 hl (k := 1) rfl (by decide) (by decide) rfl (fun ls hl => ?_)
  refine lv_goto (tgt := 20) hx hb dX6_mixThings_46 (by decide) ?_
  refine lv_iload hx hb dX6_mixThings_20 (lv_at hl 0 rfl) ?_
  refine lv_bipush (v := 6) hx hb dX6_mixThings_22 (by decide) ?_
  refine lv_icmp_ge (tgt := 49) hx hb dX6_mixThings_24 (by decide) (fun h => absurd h (by decide)) (fun _ => ?_)
  refine lv_lload_n hx hb dX6_mixThings_27 rfl (lv_at hl 1 rfl) ?_
  refine lv_aload_n hx hb dX6_mixThings_28 rfl (lv_at hl 3 rfl) ?_
  refine va_get (D := (dC, dI)) (ci := 8) (v := .ref rm) (C := RX6) (T := TX6) (N := 3) hx hb hts zi_X6_mixThings_X6 hown hK (zo_R hR0 hS hAr) 0 rfl rfl 0 (by decide) (hts (.fieldLink RX6 12 "LockRooms" "room" "LLockRooms$Room;") (by decide +kernel)) (fun _ h9 => h9) rfl dX6_mixThings_29 ?_
  refine lv_iload hx hb dX6_mixThings_32 (lv_at hl 2 rfl) ?_
  refine lv_iload hx hb dX6_mixThings_34 (lv_at hl 0 rfl) ?_
  have hPr := ((zo_R hR0 hS hAr)).sub (ws' := [(rm, .inr (5, [.ref lk, .ref th, .ref pl, .ref gm, .int 2, .int 10, .int 0, .int 0, .int 1, .int 0, .int 0, .int 0])), (th, .inl (cT, 12, .inr (.inr (.inr (.inr ft))))), (t9, .inr (7, [.int (-1), .int 0, .int 0, .int 0, .int 0]))]) [1, 3, 15] rfl
  have hPc := hP.sub (ws' := []) [] rfl
  have hDc := hD.sub (ws' := []) [] (by decide) rfl
  have hKc := hK.sub (tys' := [(cT, .object "LockRooms$Thing")]) [1] rfl
  have hFc := va_free (wc := []) hD hS hA [] rfl
  refine va_calli (va_runV (As := [.int 9, .int 3]) (rest := [.long 8762337181420321440]) ⟨hx, hb, hml, hown, hts⟩ (cz_QtellThing_9_3 l dC dI ed H227.size rm lk th pl gm cT ft t9 hkt9) (cwV 2 hts gX6_mixThings_X3_tellThing rfl rfl rfl (by decide +kernel) ⟨Nat.le_of_ble_eq_true rfl, Nat.le_of_ble_eq_true rfl⟩) ⟨zb_blind, va_recv hK (zo_R hR0 hS hAr) (ci := 5) (q0 := 1) rfl rfl, fun U hU hW => ⟨rfl, zb_mk hU hW hPr hPc hKc hDc hN hH hS hFc zx_e⟩⟩ rfl rfl hl.1 rfl (lv_room (Nat.le_of_ble_eq_true rfl)) dX6_mixThings_36 ⟨Nat.le_of_ble_eq_true rfl, Nat.le_of_ble_eq_true rfl⟩) hS (fun q _ h => hFc q h) hFc (fun r230 u t H229 locs ht hvm hw hB hz1 hk1 hS => ?_)
  obtain rfl : r230 = 0 := hw
  have hP := zo_K hP hk1
  have hPr := (zo_nil : va_P (dC, dI) vwCl [] H229)
  have hPc := hP.sub (ws' := []) [] rfl
  have hDc := hD.sub (ws' := []) [] (by decide) rfl
  have hKc := hK.sub (tys' := []) [] rfl
  have hFc := va_free (wc := []) hD hS hA [] rfl
  refine va_calll (va_runS (As := [.long 8762337181420321440, .int 0]) (rest := []) ⟨hx, hb, hml, hown, hts⟩ (cz_X6_mix l dC dI ed H229.size 8762337181420321440 0) (va_cwS 2 hts gX6_mixThings_X6_mix rfl rfl rfl (by decide +kernel) ⟨Nat.le_of_ble_eq_true rfl, Nat.le_of_ble_eq_true rfl⟩) ⟨zb_blind, fun U hU hW => ⟨rfl, zb_mk hU hW hPr hPc hKc hDc hN hH hS hFc zx_e⟩⟩ rfl rfl hl.1 rfl (lv_room (Nat.le_of_ble_eq_true rfl)) dX6_mixThings_39 ⟨Nat.le_of_ble_eq_true rfl, Nat.le_of_ble_eq_true rfl⟩) hS (fun q _ h => hFc q h) hFc (fun r232 u t H231 locs ht hvm hw hB hz1 hk1 hS => ?_)
  obtain rfl : r232 = (-5068708481613309600) := hw.trans (by decide +kernel)
  have hP := zo_K hP hk1
  refine lv_lstore_n (lv' := [(3, .long (-5068708481613309600)), (6, .int 3), (5, .int 9), (0, .ref x), (1, .long (-1160429273186388225))]) hx hb dX6_mixThings_42 rfl hl (by decide) rfl (fun ls hl => ?_)
  refine lv_iinc (v := 4) (lv' := [(6, .int 4), (3, .long (-5068708481613309600)), (5, .int 9), (0, .ref x), (1, .long (-1160429273186388225))]) hx hb dX6_mixThings_43 hl (k := 1) rfl (by decide) (by decide) rfl (fun ls hl => ?_)
  refine lv_goto (tgt := 20) hx hb dX6_mixThings_46 (by decide) ?_
  refine lv_iload hx hb dX6_mixThings_20 (lv_at hl 0 rfl) ?_
  refine lv_bipush (v := 6) hx hb dX6_mixThings_22 (by decide) ?_
  refine lv_icmp_ge (tgt := 49) hx hb dX6_mixThings_24 (by decide) (fun h => absurd h (by decide)) (fun _ => ?_)
  refine lv_lload_n hx hb dX6_mixThings_27 rfl (lv_at hl 1 rfl) ?_
  refine lv_aload_n hx hb dX6_mixThings_28 rfl (lv_at hl 3 rfl) ?_
  refine va_get (D := (dC, dI)) (ci := 8) (v := .ref rm) (C := RX6) (T := TX6) (N := 3) hx hb hts zi_X6_mixThings_X6 hown hK (zo_R hR0 hS hAr) 0 rfl rfl 0 (by decide) (hts (.fieldLink RX6 12 "LockRooms" "room" "LLockRooms$Room;") (by decide +kernel)) (fun _ h9 => h9) rfl dX6_mixThings_29 ?_
  refine lv_iload hx hb dX6_mixThings_32 (lv_at hl 2 rfl) ?_
  refine lv_iload hx hb dX6_mixThings_34 (lv_at hl 0 rfl) ?_
  have hPr := ((zo_R hR0 hS hAr)).sub (ws' := [(rm, .inr (5, [.ref lk, .ref th, .ref pl, .ref gm, .int 2, .int 10, .int 0, .int 0, .int 1, .int 0, .int 0, .int 0])), (th, .inl (cT, 12, .inr (.inr (.inr (.inr ft))))), (t9, .inr (7, [.int (-1), .int 0, .int 0, .int 0, .int 0])), (lk, .inl (cL, 10, .inr (.inr (.inr (.inr fl))))), (l0, .inr (3, [.int 0, .int 0, .int 60, .int 0, .int 0, .int 0, .int 0, .int 0, .int 0, .int 0])), (l1, .inr (3, [.int 0, .int 0, .int 60, .int 0, .int 0, .int 0, .int 0, .int 0, .int 0, .int 0]))]) [1, 3, 15, 2, 4, 5] rfl
  have hPc := hP.sub (ws' := []) [] rfl
  have hDc := hD.sub (ws' := []) [] (by decide) rfl
  have hKc := hK.sub (tys' := [(cT, .object "LockRooms$Thing"), (cL, .object "LockRooms$Lock")]) [1, 0] rfl
  have hFc := va_free (wc := []) hD hS hA [] rfl
  refine va_calli (va_runV (As := [.int 9, .int 4]) (rest := [.long (-5068708481613309600)]) ⟨hx, hb, hml, hown, hts⟩ (cz_QtellThing_9_4 l dC dI ed H231.size rm lk th pl gm cT ft t9 cL fl l0 l1 hkt9 hkl0 hkl1) (cwV 2 hts gX6_mixThings_X3_tellThing rfl rfl rfl (by decide +kernel) ⟨Nat.le_of_ble_eq_true rfl, Nat.le_of_ble_eq_true rfl⟩) ⟨zb_blind, va_recv hK (zo_R hR0 hS hAr) (ci := 5) (q0 := 1) rfl rfl, fun U hU hW => ⟨rfl, zb_mk hU hW hPr hPc hKc hDc hN hH hS hFc zx_e⟩⟩ rfl rfl hl.1 rfl (lv_room (Nat.le_of_ble_eq_true rfl)) dX6_mixThings_36 ⟨Nat.le_of_ble_eq_true rfl, Nat.le_of_ble_eq_true rfl⟩) hS (fun q _ h => hFc q h) hFc (fun r234 u t H233 locs ht hvm hw hB hz1 hk1 hS => ?_)
  obtain rfl : r234 = 1 := hw
  have hP := zo_K hP hk1
  have hPr := (zo_nil : va_P (dC, dI) vwCl [] H233)
  have hPc := hP.sub (ws' := []) [] rfl
  have hDc := hD.sub (ws' := []) [] (by decide) rfl
  have hKc := hK.sub (tys' := []) [] rfl
  have hFc := va_free (wc := []) hD hS hA [] rfl
  refine va_calll (va_runS (As := [.long (-5068708481613309600), .int 1]) (rest := []) ⟨hx, hb, hml, hown, hts⟩ (cz_X6_mix l dC dI ed H233.size (-5068708481613309600) 1) (va_cwS 2 hts gX6_mixThings_X6_mix rfl rfl rfl (by decide +kernel) ⟨Nat.le_of_ble_eq_true rfl, Nat.le_of_ble_eq_true rfl⟩) ⟨zb_blind, fun U hU hW => ⟨rfl, zb_mk hU hW hPr hPc hKc hDc hN hH hS hFc zx_e⟩⟩ rfl rfl hl.1 rfl (lv_room (Nat.le_of_ble_eq_true rfl)) dX6_mixThings_39 ⟨Nat.le_of_ble_eq_true rfl, Nat.le_of_ble_eq_true rfl⟩) hS (fun q _ h => hFc q h) hFc (fun r236 u t H235 locs ht hvm hw hB hz1 hk1 hS => ?_)
  obtain rfl : r236 = 8890733733373366945 := hw.trans (by decide +kernel)
  have hP := zo_K hP hk1
  refine lv_lstore_n (lv' := [(3, .long 8890733733373366945), (6, .int 4), (5, .int 9), (0, .ref x), (1, .long (-1160429273186388225))]) hx hb dX6_mixThings_42 rfl hl (by decide) rfl (fun ls hl => ?_)
  refine lv_iinc (v := 5) (lv' := [(6, .int 5), (3, .long 8890733733373366945), (5, .int 9), (0, .ref x), (1, .long (-1160429273186388225))]) hx hb dX6_mixThings_43 hl (k := 1) rfl (by decide) (by decide) rfl (fun ls hl => ?_)
  refine lv_goto (tgt := 20) hx hb dX6_mixThings_46 (by decide) ?_
  refine lv_iload hx hb dX6_mixThings_20 (lv_at hl 0 rfl) ?_
  refine lv_bipush (v := 6) hx hb dX6_mixThings_22 (by decide) ?_
  refine lv_icmp_ge (tgt := 49) hx hb dX6_mixThings_24 (by decide) (fun h => absurd h (by decide)) (fun _ => ?_)
  refine lv_lload_n hx hb dX6_mixThings_27 rfl (lv_at hl 1 rfl) ?_
  refine lv_aload_n hx hb dX6_mixThings_28 rfl (lv_at hl 3 rfl) ?_
  refine va_get (D := (dC, dI)) (ci := 8) (v := .ref rm) (C := RX6) (T := TX6) (N := 3) hx hb hts zi_X6_mixThings_X6 hown hK (zo_R hR0 hS hAr) 0 rfl rfl 0 (by decide) (hts (.fieldLink RX6 12 "LockRooms" "room" "LLockRooms$Room;") (by decide +kernel)) (fun _ h9 => h9) rfl dX6_mixThings_29 ?_
  refine lv_iload hx hb dX6_mixThings_32 (lv_at hl 2 rfl) ?_
  refine lv_iload hx hb dX6_mixThings_34 (lv_at hl 0 rfl) ?_
  have hPr := ((zo_R hR0 hS hAr)).sub (ws' := [(rm, .inr (5, [.ref lk, .ref th, .ref pl, .ref gm, .int 2, .int 10, .int 0, .int 0, .int 1, .int 0, .int 0, .int 0])), (th, .inl (cT, 12, .inr (.inr (.inr (.inr ft))))), (t9, .inr (7, [.int (-1), .int 0, .int 0, .int 0, .int 0])), (lk, .inl (cL, 10, .inr (.inr (.inr (.inr fl))))), (l0, .inr (3, [.int 0, .int 0, .int 60, .int 0, .int 0, .int 0, .int 0, .int 0, .int 0, .int 0])), (l1, .inr (3, [.int 0, .int 0, .int 60, .int 0, .int 0, .int 0, .int 0, .int 0, .int 0, .int 0]))]) [1, 3, 15, 2, 4, 5] rfl
  have hPc := hP.sub (ws' := []) [] rfl
  have hDc := hD.sub (ws' := []) [] (by decide) rfl
  have hKc := hK.sub (tys' := [(cT, .object "LockRooms$Thing"), (cL, .object "LockRooms$Lock")]) [1, 0] rfl
  have hFc := va_free (wc := []) hD hS hA [] rfl
  refine va_calli (va_runV (As := [.int 9, .int 5]) (rest := [.long 8890733733373366945]) ⟨hx, hb, hml, hown, hts⟩ (cz_QtellThing_9_5 l dC dI ed H235.size rm lk th pl gm cT ft t9 cL fl l0 l1 hkt9 hkl0 hkl1) (cwV 2 hts gX6_mixThings_X3_tellThing rfl rfl rfl (by decide +kernel) ⟨Nat.le_of_ble_eq_true rfl, Nat.le_of_ble_eq_true rfl⟩) ⟨zb_blind, va_recv hK (zo_R hR0 hS hAr) (ci := 5) (q0 := 1) rfl rfl, fun U hU hW => ⟨rfl, zb_mk hU hW hPr hPc hKc hDc hN hH hS hFc zx_e⟩⟩ rfl rfl hl.1 rfl (lv_room (Nat.le_of_ble_eq_true rfl)) dX6_mixThings_36 ⟨Nat.le_of_ble_eq_true rfl, Nat.le_of_ble_eq_true rfl⟩) hS (fun q _ h => hFc q h) hFc (fun r238 u t H237 locs ht hvm hw hB hz1 hk1 hS => ?_)
  obtain rfl : r238 = 0 := hw
  have hP := zo_K hP hk1
  have hPr := (zo_nil : va_P (dC, dI) vwCl [] H237)
  have hPc := hP.sub (ws' := []) [] rfl
  have hDc := hD.sub (ws' := []) [] (by decide) rfl
  have hKc := hK.sub (tys' := []) [] rfl
  have hFc := va_free (wc := []) hD hS hA [] rfl
  refine va_calll (va_runS (As := [.long 8890733733373366945, .int 0]) (rest := []) ⟨hx, hb, hml, hown, hts⟩ (cz_X6_mix l dC dI ed H237.size 8890733733373366945 0) (va_cwS 2 hts gX6_mixThings_X6_mix rfl rfl rfl (by decide +kernel) ⟨Nat.le_of_ble_eq_true rfl, Nat.le_of_ble_eq_true rfl⟩) ⟨zb_blind, fun U hU hW => ⟨rfl, zb_mk hU hW hPr hPc hKc hDc hN hH hS hFc zx_e⟩⟩ rfl rfl hl.1 rfl (lv_room (Nat.le_of_ble_eq_true rfl)) dX6_mixThings_39 ⟨Nat.le_of_ble_eq_true rfl, Nat.le_of_ble_eq_true rfl⟩) hS (fun q _ h => hFc q h) hFc (fun r240 u t H239 locs ht hvm hw hB hz1 hk1 hS => ?_)
  obtain rfl : r240 = (-1088415371068898945) := hw.trans (by decide +kernel)
  have hP := zo_K hP hk1
  refine lv_lstore_n (lv' := [(3, .long (-1088415371068898945)), (6, .int 5), (5, .int 9), (0, .ref x), (1, .long (-1160429273186388225))]) hx hb dX6_mixThings_42 rfl hl (by decide) rfl (fun ls hl => ?_)
  refine lv_iinc (v := 6) (lv' := [(6, .int 6), (3, .long (-1088415371068898945)), (5, .int 9), (0, .ref x), (1, .long (-1160429273186388225))]) hx hb dX6_mixThings_43 hl (k := 1) rfl (by decide) (by decide) rfl (fun ls hl => ?_)
  refine lv_goto (tgt := 20) hx hb dX6_mixThings_46 (by decide) ?_
  refine lv_iload hx hb dX6_mixThings_20 (lv_at hl 0 rfl) ?_
  refine lv_bipush (v := 6) hx hb dX6_mixThings_22 (by decide) ?_
  refine lv_icmp_ge (tgt := 49) hx hb dX6_mixThings_24 (by decide) (fun _ => ?_) (fun h => absurd h (by decide))
  refine lv_iinc (v := 10) (lv' := [(5, .int 10), (6, .int 6), (3, .long (-1088415371068898945)), (0, .ref x), (1, .long (-1160429273186388225))]) hx hb dX6_mixThings_49 hl (k := 2) rfl (by decide) (by decide) rfl (fun ls hl => ?_)
  refine lv_goto (tgt := 5) hx hb dX6_mixThings_52 (by decide) ?_
  refine lv_iload hx hb dX6_mixThings_5 (lv_at hl 0 rfl) ?_
  refine lv_aload_n hx hb dX6_mixThings_7 rfl (lv_at hl 3 rfl) ?_
  refine va_get (D := (dC, dI)) (ci := 8) (v := .ref rm) (C := RX6) (T := TX6) (N := 3) hx hb hts zi_X6_mixThings_X6 hown hK (zo_R hR0 hS hAr) 0 rfl rfl 0 (by decide) (hts (.fieldLink RX6 12 "LockRooms" "room" "LLockRooms$Room;") (by decide +kernel)) (fun _ h9 => h9) rfl dX6_mixThings_8 ?_
  refine va_get (D := (dC, dI)) (ci := 5) (v := .int 10) (C := RX3) (T := TX3) (N := 12) hx hb hts zi_X6_mixThings_X3 hown hK (zo_R hR0 hS hAr) 1 rfl rfl 5 (by decide) (hts (.fieldLink RX6 71 "LockRooms$Room" "thingCount" "I") (by decide +kernel)) (fun _ h9 => h9) rfl dX6_mixThings_11 ?_
  refine lv_icmp_ge (tgt := 55) hx hb dX6_mixThings_14 (by decide) (fun _ => ?_) (fun h => absurd h (by decide))
  refine lv_lload_n hx hb dX6_mixThings_55 rfl (lv_at hl 2 rfl) ?_
  refine W.widen (k := 0) (n := 0) (Nat.le_of_ble_eq_true rfl) (Nat.le_of_ble_eq_true rfl) ?_
  exact W.lret hx hb hr (fun t ht hW => ⟨⟨(-1088415371068898945), (), rfl, rfl, trivial⟩, hS.F ht⟩) hS.2.2 dX6_mixThings_56

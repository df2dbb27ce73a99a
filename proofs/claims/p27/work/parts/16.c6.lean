set_option maxHeartbeats 4000000 in
set_option maxRecDepth 100000 in
theorem cz_RX8_endsAt (l : Launch) (dC : Nat → ClassId) (dI : Nat → Nat → Nat) (ed sz : Nat) (mo : Nat) (mr : Nat) (x9 : Int32) (s9 : Int64) (ll : Nat) (lt : Nat) (lp : Nat) (oa : Nat) (cO : ClassId) (fo : Nat → Option Nat) (e1 : Nat) (cE : ClassId) (fe : Nat → Int32) (ho : fo 0 = some e1) (he0 : fe 0 = 1) (he1 : fe 1 = (-1)) (he2 : fe 2 = (-1)) (he3 : fe 3 = 0) : Met l yX8_endsAt wsX8_endsAt ({ frames := 7, cells := 129, slots := 529, locals := 145 } : Jvm.Room) (va_Pc [.ref mo] (zB dC dI ed sz [(ll, .inr (1, [.int 0, .ref ed, .int 0])), (lt, .inr (1, [.int 0, .ref ed, .int 0]))] [(mo, .inr (10, [.int x9, .ref mr, .int 1, .long s9])), (mr, .inr (9, [.ref ll, .ref lt, .ref lp, .int (-1), .int 0, .int 1, .int 0, .int 0, .int 0, .int 0, .int (-1), .int 18, .int 0, .int 0])), (lp, .inr (1, [.int 1, .ref oa, .int 1])), (oa, .inl (cO, 10, .inr (.inr (.inr (.inr fo))))), (e1, .inl (cE, 4, .inl fe))] [(cO, .object "java/lang/Object"), (cE, .int)])) (va_Qi (fun (r : Int32) (_ : Unit) => r = (-1)) (fun (_ : Unit) (t : State) => (sz + 129 ≤ t.heap.size) ∧ (fo 0 = some e1 ∧ fe 0 = 1 ∧ fe 1 = (-1) ∧ fe 2 = (-1) ∧ fe 3 = 0) ∧ va_P (dC, dI) vwCl [(mo, .inr (10, [.int 0, .ref mr, .int 1, .long s9])), (mr, .inr (9, [.ref ll, .ref lt, .ref lp, .int (-1), .int 0, .int 1, .int 0, .int 0, .int 0, .int 0, .int (-1), .int 18, .int 0, .int 0])), (lp, .inr (1, [.int 1, .ref oa, .int 1])), (oa, .inl (cO, 10, .inr (.inr (.inr (.inr fo))))), (e1, .inl (cE, 4, .inl fe))] t.heap ∧ va_D (va_A [(mo, .inr (10, [.int x9, .ref mr, .int 1, .long s9])), (mr, .inr (9, [.ref ll, .ref lt, .ref lp, .int (-1), .int 0, .int 1, .int 0, .int 0, .int 0, .int 0, .int (-1), .int 18, .int 0, .int 0])), (lp, .inr (1, [.int 1, .ref oa, .int 1])), (oa, .inl (cO, 10, .inr (.inr (.inr (.inr fo))))), (e1, .inl (cE, 4, .inl fe))] sz) [(mo, .inr (10, [.int 0, .ref mr, .int 1, .long s9])), (mr, .inr (9, [.ref ll, .ref lt, .ref lp, .int (-1), .int 0, .int 1, .int 0, .int 0, .int 0, .int 0, .int (-1), .int 18, .int 0, .int 0])), (lp, .inr (1, [.int 1, .ref oa, .int 1])), (oa, .inl (cO, 10, .inr (.inr (.inr (.inr fo))))), (e1, .inl (cE, 4, .inl fe))] ∧ va_K (dC, dI) vwCl [(cO, .object "java/lang/Object"), (cE, .int)] t) (va_A [(mo, .inr (10, [.int x9, .ref mr, .int 1, .long s9])), (mr, .inr (9, [.ref ll, .ref lt, .ref lp, .int (-1), .int 0, .int 1, .int 0, .int 0, .int 0, .int 0, .int (-1), .int 18, .int 0, .int 0])), (lp, .inr (1, [.int 1, .ref oa, .int 1])), (oa, .inl (cO, 10, .inr (.inr (.inr (.inr fo))))), (e1, .inl (cE, 4, .inl fe))] sz)) 129 529 (va_A [(mo, .inr (10, [.int x9, .ref mr, .int 1, .long s9])), (mr, .inr (9, [.ref ll, .ref lt, .ref lp, .int (-1), .int 0, .int 1, .int 0, .int 0, .int 0, .int 0, .int (-1), .int 18, .int 0, .int 0])), (lp, .inr (1, [.int 1, .ref oa, .int 1])), (oa, .inl (cO, 10, .inr (.inr (.inr (.inr fo))))), (e1, .inl (cE, 4, .inl fe))] sz) := by
  refine Met.ofW (cc := cX8_endsAt) (maxL := 1) (ret := (some .int)) (by decide) rfl ?_
  intro p e s m args below meth c s₁ B hml hv
  obtain ⟨rfl, hsz, hR0, hP, hK, hD0, hN, hH, hX0⟩ := hv
  have hx := B.exec
  have hb := B.bytes
  have hr := B.returns
  have hts := atoms_spec (ws := wsX8_endsAt) B.pre
  have hown : s.vm.findClass RX8 = some m.cls := findClass_of_methodNamed B.named
  have hlocks := B.notSynchronized
  subst hsz
  have hD := hD0.self (sz := s.heap.size)
  have hAr := zx_A hX0 hR0
  generalize hAe : va_A [(mo, .inr (10, [.int x9, .ref mr, .int 1, .long s9])), (mr, .inr (9, [.ref ll, .ref lt, .ref lp, .int (-1), .int 0, .int 1, .int 0, .int 0, .int 0, .int 0, .int (-1), .int 18, .int 0, .int 0])), (lp, .inr (1, [.int 1, .ref oa, .int 1])), (oa, .inl (cO, 10, .inr (.inr (.inr (.inr fo))))), (e1, .inl (cE, 4, .inl fe))] s.heap.size = A at hD hAr hH ⊢
  have hA : ∀ q : Nat, s.heap.size ≤ q → A q := fun q h => by rw [← hAe]; exact Or.inr h
  have hS : va_S A s.heap s.heap [] := va_S.rf
  have hl := lv_entry ([.ref mo]) (n := 1) (Nat.le_of_ble_eq_true rfl)
  rw [lg_entry_eq]
  generalize (lg_sl ([.ref mo]) ++ List.replicate (1 - (lg_sl ([.ref mo])).length) Slot.unset).toArray = ls at hl ⊢
  have hl : lv_has ls 1 [(0, .ref mo)] := hl
  refine lv_aload_n hx hb dX8_endsAt_0 rfl (lv_at hl 0 rfl) ?_
  refine lv_iconst (v := 0) hx hb dX8_endsAt_1 (by decide) ?_
  refine va_put (D := (dC, dI)) (ci := 10) (v := .int 0) (ty := .int) (C := RX8) (T := TX8) (N := 4) hx hb hts zi_X8_endsAt_X8 tyX8 tyX8_ok nmX8 hown hK hP hD hS 0 rfl rfl 0 (by decide) (hts (.fieldLink RX8 20 "LockRoomsModel" "thrown" "I") (by decide +kernel)) (fun _ h9 => h9) rfl (by decide +kernel) rfl rfl (Nat.le_of_ble_eq_true rfl) dX8_endsAt_2 (fun H1 locs hP hD hS => ?_)
  have hP : va_P (dC, dI) vwCl [(mo, .inr (10, [.int 0, .ref mr, .int 1, .long s9])), (mr, .inr (9, [.ref ll, .ref lt, .ref lp, .int (-1), .int 0, .int 1, .int 0, .int 0, .int 0, .int 0, .int (-1), .int 18, .int 0, .int 0])), (lp, .inr (1, [.int 1, .ref oa, .int 1])), (oa, .inl (cO, 10, .inr (.inr (.inr (.inr fo))))), (e1, .inl (cE, 4, .inl fe))] H1 := hP
  have hD : va_D A [(mo, .inr (10, [.int 0, .ref mr, .int 1, .long s9])), (mr, .inr (9, [.ref ll, .ref lt, .ref lp, .int (-1), .int 0, .int 1, .int 0, .int 0, .int 0, .int 0, .int (-1), .int 18, .int 0, .int 0])), (lp, .inr (1, [.int 1, .ref oa, .int 1])), (oa, .inl (cO, 10, .inr (.inr (.inr (.inr fo))))), (e1, .inl (cE, 4, .inl fe))] := hD
  refine lv_aload_n hx hb dX8_endsAt_5 rfl (lv_at hl 0 rfl) ?_
  have huz2 : s.heap.size + 0 ≤ H1.size := hS.1
  have hPr := (show va_P (dC, dI) vwCl [(mo, .inr (10, [.int 0, .ref mr, .int 1, .long s9])), (ll, .inr (1, [.int 0, .ref ed, .int 0])), (lt, .inr (1, [.int 0, .ref ed, .int 0]))] H1 from (zo_cons ((hP) 0 _ rfl) (zo_cons (((zo_R hR0 hS hAr)) 0 _ rfl) (zo_cons (((zo_R hR0 hS hAr)) 1 _ rfl) (zo_nil : va_P (dC, dI) vwCl [] H1)))))
  have hPc := hP.sub (ws' := [(mr, .inr (9, [.ref ll, .ref lt, .ref lp, .int (-1), .int 0, .int 1, .int 0, .int 0, .int 0, .int 0, .int (-1), .int 18, .int 0, .int 0])), (lp, .inr (1, [.int 1, .ref oa, .int 1])), (oa, .inl (cO, 10, .inr (.inr (.inr (.inr fo))))), (e1, .inl (cE, 4, .inl fe))]) [1, 2, 3, 4] rfl
  have hDc := hD.sub (ws' := [(mr, .inr (9, [.ref ll, .ref lt, .ref lp, .int (-1), .int 0, .int 1, .int 0, .int 0, .int 0, .int 0, .int (-1), .int 18, .int 0, .int 0])), (lp, .inr (1, [.int 1, .ref oa, .int 1])), (oa, .inl (cO, 10, .inr (.inr (.inr (.inr fo))))), (e1, .inl (cE, 4, .inl fe))]) [1, 2, 3, 4] (by decide) rfl
  have hKc := hK.sub (tys' := [(cO, .object "java/lang/Object"), (cE, .int)]) [0, 1] rfl
  have hFc := va_free (wc := [(mr, .inr (9, [.ref ll, .ref lt, .ref lp, .int (-1), .int 0, .int 1, .int 0, .int 0, .int 0, .int 0, .int (-1), .int 18, .int 0, .int 0])), (lp, .inr (1, [.int 1, .ref oa, .int 1])), (oa, .inl (cO, 10, .inr (.inr (.inr (.inr fo))))), (e1, .inl (cE, 4, .inl fe))]) hD hS hA [1, 2, 3, 4] rfl
  refine va_calli (va_runV (As := []) (rest := []) ⟨hx, hb, hml, hown, hts⟩ (cz_RendsNow l dC dI ed H1.size mo mr 0 s9 ll lt lp oa cO fo e1 cE fe ho he0 he1 he2 he3) (cwV 0 hts gX8_endsAt_X8_endsNow rfl rfl rfl (by decide +kernel) ⟨Nat.le_of_ble_eq_true rfl, Nat.le_of_ble_eq_true rfl⟩) ⟨zb_blind, va_recv hK hP (ci := 10) (q0 := 0) rfl rfl, fun U hU hW => ⟨rfl, zb_mk hU hW hPr hPc hKc hDc hN hH hS hFc (zx_cons (zx_o hD 0 [1, 2, 3, 4] rfl rfl (by decide)) (zx_cons (zx_r (hAr _ (List.mem_of_getElem? (i := 0) rfl)) hDc) (zx_cons (zx_r (hAr _ (List.mem_of_getElem? (i := 1) rfl)) hDc) zx_nil)))⟩⟩ rfl rfl hl.1 rfl (lv_room (Nat.le_of_ble_eq_true rfl)) dX8_endsAt_6 ⟨Nat.le_of_ble_eq_true rfl, Nat.le_of_ble_eq_true rfl⟩) hS (fun q _ h => hFc q h) hFc (fun r4 u t H3 locs ht hvm hw hB hz1 hk1 hS => ?_)
  obtain rfl : r4 = (-1) := hw
  obtain ⟨hq5_0, ⟨k5_0, k5_1, k5_2, k5_3, k5_4⟩, hP1, hD1, hK1⟩ := hB
  rw [ht] at hP1
  obtain ⟨hP, hD⟩ := va_join (wr := [(mo, .inr (10, [.int 0, .ref mr, .int 1, .long s9]))]) (w1 := [(mr, .inr (9, [.ref ll, .ref lt, .ref lp, .int (-1), .int 0, .int 1, .int 0, .int 0, .int 0, .int 0, .int (-1), .int 18, .int 0, .int 0])), (lp, .inr (1, [.int 1, .ref oa, .int 1])), (oa, .inl (cO, 10, .inr (.inr (.inr (.inr fo))))), (e1, .inl (cE, 4, .inl fe))]) hP hD [1, 2, 3, 4] [0] rfl rfl (by decide) (by decide) hk1 hFc hP1 hD1
  have hP : va_P (dC, dI) vwCl [(mo, .inr (10, [.int 0, .ref mr, .int 1, .long s9])), (mr, .inr (9, [.ref ll, .ref lt, .ref lp, .int (-1), .int 0, .int 1, .int 0, .int 0, .int 0, .int 0, .int (-1), .int 18, .int 0, .int 0])), (lp, .inr (1, [.int 1, .ref oa, .int 1])), (oa, .inl (cO, 10, .inr (.inr (.inr (.inr fo))))), (e1, .inl (cE, 4, .inl fe))] H3 := hP
  have hD : va_D A [(mo, .inr (10, [.int 0, .ref mr, .int 1, .long s9])), (mr, .inr (9, [.ref ll, .ref lt, .ref lp, .int (-1), .int 0, .int 1, .int 0, .int 0, .int 0, .int 0, .int (-1), .int 18, .int 0, .int 0])), (lp, .inr (1, [.int 1, .ref oa, .int 1])), (oa, .inl (cO, 10, .inr (.inr (.inr (.inr fo))))), (e1, .inl (cE, 4, .inl fe))] := hD
  have hvz2 : s.heap.size + 129 ≤ H3.size := by have h9 := hq5_0; rw [ht] at h9; omega
  refine W.widen (k := 129) (n := 529) (Nat.le_of_ble_eq_true rfl) (Nat.le_of_ble_eq_true rfl) ?_
  have hP9 := hP.sub (ws' := [(mo, .inr (10, [.int 0, .ref mr, .int 1, .long s9])), (mr, .inr (9, [.ref ll, .ref lt, .ref lp, .int (-1), .int 0, .int 1, .int 0, .int 0, .int 0, .int 0, .int (-1), .int 18, .int 0, .int 0])), (lp, .inr (1, [.int 1, .ref oa, .int 1])), (oa, .inl (cO, 10, .inr (.inr (.inr (.inr fo))))), (e1, .inl (cE, 4, .inl fe))]) [0, 1, 2, 3, 4] rfl
  have hD9 := hD.sub (ws' := [(mo, .inr (10, [.int 0, .ref mr, .int 1, .long s9])), (mr, .inr (9, [.ref ll, .ref lt, .ref lp, .int (-1), .int 0, .int 1, .int 0, .int 0, .int 0, .int 0, .int (-1), .int 18, .int 0, .int 0])), (lp, .inr (1, [.int 1, .ref oa, .int 1])), (oa, .inl (cO, 10, .inr (.inr (.inr (.inr fo))))), (e1, .inl (cE, 4, .inl fe))]) [0, 1, 2, 3, 4] (by decide) rfl
  have hK9 := hK.sub (tys' := [(cO, .object "java/lang/Object"), (cE, .int)]) [0, 1] rfl
  exact W.iret hx hb hr (fun t ht hW => ⟨⟨(-1), (), rfl, rfl, ⟨(by rw [ht]; exact Nat.le_trans (Nat.add_le_add_left (Nat.le_of_ble_eq_true rfl) _) hvz2), ⟨k5_0, k5_1, k5_2, k5_3, k5_4⟩, by rw [ht]; exact hP9, hD9, va_K.moved hW.alike hK9⟩⟩, hS.F ht⟩) hS.2.2 dX8_endsAt_9
set_option maxHeartbeats 4000000 in
set_option maxRecDepth 100000 in
theorem cz_RL_player (l : Launch) (dC : Nat → ClassId) (dI : Nat → Nat → Nat) (ed sz : Nat) (x : Nat) (rm : Nat) (tr : Nat) (st : Nat) (lk : Nat) (th : Nat) (pl : Nat) (gm : Nat) (cP : ClassId) (fp : Nat → Option Nat) (p0 : Nat) (ou : Nat) (cQ : ClassId) (fo9 : Nat → Int64) (htr : l.stackTraces = false) (hkp : fp 0 = some p0) : vx_Met l yL_player wsL_player ({ frames := 4, cells := 0, slots := 0, locals := 84 } : Jvm.Room) (va_Pc [.ref x, .int 1, .ref ou] (zB dC dI ed sz [(x, .inr (8, [.ref rm, .ref tr, .ref st])), (gm, .inr (2, [.int 0, .int 0, .int 0, .int 0, .int 0, .int (-1), .long 0])), (pl, .inl (cP, 6, .inr (.inr (.inr (.inr fp)))))] [(rm, .inr (5, [.ref lk, .ref th, .ref pl, .ref gm, .int 0, .int 0, .int 0, .int (-1), .int 1, .int 0, .int 0, .int 0])), (p0, .inr (4, [.int 0, .int 0, .int 0, .int 0])), (ou, .inl (cQ, 1, .inr (.inl fo9)))] [(cP, .object "LockRooms$Player"), (cQ, .long)])) (va_Qi (fun (r : Int32) (_ : Unit) => r = 0) (fun (_ : Unit) (t : State) => ∃ (fo8 : Nat → Int64), (fo8 0 = 0) ∧ va_P (dC, dI) vwCl [(rm, .inr (5, [.ref lk, .ref th, .ref pl, .ref gm, .int 0, .int 0, .int 1, .int (-1), .int 1, .int 0, .int 0, .int 0])), (p0, .inr (4, [.int 1, .int (-1), .int (-1), .int 0])), (ou, .inl (cQ, 1, .inr (.inl fo8)))] t.heap ∧ va_D (va_A [(rm, .inr (5, [.ref lk, .ref th, .ref pl, .ref gm, .int 0, .int 0, .int 0, .int (-1), .int 1, .int 0, .int 0, .int 0])), (p0, .inr (4, [.int 0, .int 0, .int 0, .int 0])), (ou, .inl (cQ, 1, .inr (.inl fo9)))] sz) [(rm, .inr (5, [.ref lk, .ref th, .ref pl, .ref gm, .int 0, .int 0, .int 1, .int (-1), .int 1, .int 0, .int 0, .int 0])), (p0, .inr (4, [.int 1, .int (-1), .int (-1), .int 0])), (ou, .inl (cQ, 1, .inr (.inl fo8)))] ∧ va_K (dC, dI) vwCl [(cQ, .long)] t) (va_A [(rm, .inr (5, [.ref lk, .ref th, .ref pl, .ref gm, .int 0, .int 0, .int 0, .int (-1), .int 1, .int 0, .int 0, .int 0])), (p0, .inr (4, [.int 0, .int 0, .int 0, .int 0])), (ou, .inl (cQ, 1, .inr (.inl fo9)))] sz)) (vx_X (fun (_ : Unit) => False) (fun (_ : String) (_ : Unit) (_ : State) => True) (va_A [(rm, .inr (5, [.ref lk, .ref th, .ref pl, .ref gm, .int 0, .int 0, .int 0, .int (-1), .int 1, .int 0, .int 0, .int 0])), (p0, .inr (4, [.int 0, .int 0, .int 0, .int 0])), (ou, .inl (cQ, 1, .inr (.inl fo9)))] sz)) 0 0 (va_A [(rm, .inr (5, [.ref lk, .ref th, .ref pl, .ref gm, .int 0, .int 0, .int 0, .int (-1), .int 1, .int 0, .int 0, .int 0])), (p0, .inr (4, [.int 0, .int 0, .int 0, .int 0])), (ou, .inl (cQ, 1, .inr (.inl fo9)))] sz) := by
  refine vx_ofWH (cc := cL_player) (maxL := 4) (ret := (some .int)) (by decide) rfl ?_
  intro p e s m args below meth c s₁ B hml hv
  obtain ⟨rfl, hsz, hR0, hP, hK, hD0, hN, hH, hX0⟩ := hv
  have hx := B.exec
  have hb := B.bytes
  have hr := B.returns
  have hts := atoms_spec (ws := wsL_player) B.pre
  have hown : s.vm.findClass RL = some m.cls := findClass_of_methodNamed B.named
  have hlocks := B.notSynchronized
  have hex : c.exceptionTable.toList = tableOf [(0, 9, 12, 13), (0, 9, 15, 15)] := vx_table (x := yL_player) B (hts _ List.mem_cons_self)
  subst hsz
  have hD := hD0.self (sz := s.heap.size)
  have hAr := zx_A hX0 hR0
  generalize hAe : va_A [(rm, .inr (5, [.ref lk, .ref th, .ref pl, .ref gm, .int 0, .int 0, .int 0, .int (-1), .int 1, .int 0, .int 0, .int 0])), (p0, .inr (4, [.int 0, .int 0, .int 0, .int 0])), (ou, .inl (cQ, 1, .inr (.inl fo9)))] s.heap.size = A at hD hAr hH ⊢
  have hA : ∀ q : Nat, s.heap.size ≤ q → A q := fun q h => by rw [← hAe]; exact Or.inr h
  have hS : va_S A s.heap s.heap [] := va_S.rf
  have hl := lv_entry ([.ref x, .int 1, .ref ou]) (n := 4) (Nat.le_of_ble_eq_true rfl)
  rw [lg_entry_eq]
  generalize (lg_sl ([.ref x, .int 1, .ref ou]) ++ List.replicate (4 - (lg_sl ([.ref x, .int 1, .ref ou])).length) Slot.unset).toArray = ls at hl ⊢
  have hl : lv_has ls 4 [(0, .ref x), (1, .int 1), (2, .ref ou)] := hl
  refine lv_aload_n hx hb dL_player_0 rfl (lv_at hl 2 rfl) ?_
  refine lv_iconst (v := 0) hx hb dL_player_1 (by decide) ?_
  refine lv_aload_n hx hb dL_player_2 rfl (lv_at hl 0 rfl) ?_
  refine lv_iload_n hx hb dL_player_3 rfl (lv_at hl 1 rfl) ?_
  have hPr := (hR0).sub (ws' := [(x, .inr (8, [.ref rm, .ref tr, .ref st])), (gm, .inr (2, [.int 0, .int 0, .int 0, .int 0, .int 0, .int (-1), .long 0])), (pl, .inl (cP, 6, .inr (.inr (.inr (.inr fp)))))]) [0, 1, 2] rfl
  have hPc := hP.sub (ws' := [(rm, .inr (5, [.ref lk, .ref th, .ref pl, .ref gm, .int 0, .int 0, .int 0, .int (-1), .int 1, .int 0, .int 0, .int 0])), (p0, .inr (4, [.int 0, .int 0, .int 0, .int 0]))]) [0, 1] rfl
  have hDc := hD.sub (ws' := [(rm, .inr (5, [.ref lk, .ref th, .ref pl, .ref gm, .int 0, .int 0, .int 0, .int (-1), .int 1, .int 0, .int 0, .int 0])), (p0, .inr (4, [.int 0, .int 0, .int 0, .int 0]))]) [0, 1] (by decide) rfl
  have hKc := hK.sub (tys' := [(cP, .object "LockRooms$Player")]) [0] rfl
  have hFc := va_free (wc := [(rm, .inr (5, [.ref lk, .ref th, .ref pl, .ref gm, .int 0, .int 0, .int 0, .int (-1), .int 1, .int 0, .int 0, .int 0])), (p0, .inr (4, [.int 0, .int 0, .int 0, .int 0]))]) hD hS hA [0, 1] rfl
  refine va_calli (va_runV (As := [.int 1]) (rest := [.int 0, .ref ou]) ⟨hx, hb, hml, hown, hts⟩ (cz_RX6_player l dC dI ed s.heap.size x rm tr st lk th pl gm cP fp p0 hkp) (cwV 1 hts gL_player_X6_player rfl rfl rfl (by decide +kernel) ⟨Nat.le_of_ble_eq_true rfl, Nat.le_of_ble_eq_true rfl⟩) ⟨zb_blind, va_recv hK hR0 (ci := 8) (q0 := 0) rfl rfl, fun U hU hW => ⟨rfl, zb_mk hU hW hPr hPc hKc hDc hN hH hS hFc (zx_cons (zx_r (hAr _ (List.mem_of_getElem? (i := 0) rfl)) hDc) (zx_cons (zx_r (hAr _ (List.mem_of_getElem? (i := 1) rfl)) hDc) (zx_cons (zx_r (hAr _ (List.mem_of_getElem? (i := 2) rfl)) hDc) zx_nil)))⟩⟩ rfl rfl hl.1 rfl (lv_room (Nat.le_of_ble_eq_true rfl)) dL_player_4 ⟨Nat.le_of_ble_eq_true rfl, Nat.le_of_ble_eq_true rfl⟩) hS (fun q _ h => hFc q h) hFc (fun r2 u t H1 locs ht hvm hw hB hz1 hk1 hS => ?_)
  obtain rfl : r2 = 0 := hw
  obtain ⟨hP1, hD1, hK1⟩ := hB
  rw [ht] at hP1
  obtain ⟨hP, hD⟩ := va_join (wr := [(ou, .inl (cQ, 1, .inr (.inl fo9)))]) (w1 := [(rm, .inr (5, [.ref lk, .ref th, .ref pl, .ref gm, .int 0, .int 0, .int 1, .int (-1), .int 1, .int 0, .int 0, .int 0])), (p0, .inr (4, [.int 1, .int (-1), .int (-1), .int 0]))]) hP hD [0, 1] [2] rfl rfl (by decide) (by decide) hk1 hFc hP1 hD1
  have hP : va_P (dC, dI) vwCl [(ou, .inl (cQ, 1, .inr (.inl fo9))), (rm, .inr (5, [.ref lk, .ref th, .ref pl, .ref gm, .int 0, .int 0, .int 1, .int (-1), .int 1, .int 0, .int 0, .int 0])), (p0, .inr (4, [.int 1, .int (-1), .int (-1), .int 0]))] H1 := hP
  have hD : va_D A [(ou, .inl (cQ, 1, .inr (.inl fo9))), (rm, .inr (5, [.ref lk, .ref th, .ref pl, .ref gm, .int 0, .int 0, .int 1, .int (-1), .int 1, .int 0, .int 0, .int 0])), (p0, .inr (4, [.int 1, .int (-1), .int (-1), .int 0]))] := hD
  refine lv_i2l (v := 0) hx hb dL_player_7 (by decide) ?_
  refine va_last hx hb hK hP hD hS 0 1 rfl rfl (by unfold vp_in; decide) dL_player_8 (fun H4 locs hP hD hS => ?_)
  obtain ⟨f5, ef5⟩ : ∃ z : Nat → Int64, z = vp_updL fo9 0 0 := ⟨_, rfl⟩
  have k6 : f5 0 = 0 := by rw [ef5]; exact pk_uLs
  have hP : va_P (dC, dI) vwCl [(ou, .inl (cQ, 1, .inr (.inl f5))), (rm, .inr (5, [.ref lk, .ref th, .ref pl, .ref gm, .int 0, .int 0, .int 1, .int (-1), .int 1, .int 0, .int 0, .int 0])), (p0, .inr (4, [.int 1, .int (-1), .int (-1), .int 0]))] H4 := by rw [ef5]; exact hP
  have hD : va_D A [(ou, .inl (cQ, 1, .inr (.inl f5))), (rm, .inr (5, [.ref lk, .ref th, .ref pl, .ref gm, .int 0, .int 0, .int 1, .int (-1), .int 1, .int 0, .int 0, .int 0])), (p0, .inr (4, [.int 1, .int (-1), .int (-1), .int 0]))] := by rw [ef5]; exact hD
  refine lv_goto (tgt := 18) hx hb dL_player_9 (by decide) ?_
  refine lv_iconst (v := 0) hx hb dL_player_18 (by decide) ?_
  refine vx_ret ?_
  refine W.widen (k := 0) (n := 0) (Nat.le_of_ble_eq_true rfl) (Nat.le_of_ble_eq_true rfl) ?_
  have hP9 := hP.sub (ws' := [(rm, .inr (5, [.ref lk, .ref th, .ref pl, .ref gm, .int 0, .int 0, .int 1, .int (-1), .int 1, .int 0, .int 0, .int 0])), (p0, .inr (4, [.int 1, .int (-1), .int (-1), .int 0])), (ou, .inl (cQ, 1, .inr (.inl f5)))]) [1, 2, 0] rfl
  have hD9 := hD.sub (ws' := [(rm, .inr (5, [.ref lk, .ref th, .ref pl, .ref gm, .int 0, .int 0, .int 1, .int (-1), .int 1, .int 0, .int 0, .int 0])), (p0, .inr (4, [.int 1, .int (-1), .int (-1), .int 0])), (ou, .inl (cQ, 1, .inr (.inl f5)))]) [1, 2, 0] (by decide) rfl
  have hK9 := hK.sub (tys' := [(cQ, .long)]) [1] rfl
  exact W.iret hx hb hr (fun t ht hW => ⟨⟨0, (), rfl, rfl, ⟨f5, k6, by rw [ht]; exact hP9, hD9, va_K.moved hW.alike hK9⟩⟩, hS.F ht⟩) hS.2.2 dL_player_19
set_option maxHeartbeats 4000000 in
set_option maxRecDepth 100000 in
theorem cz_RL_begin (l : Launch) (dC : Nat → ClassId) (dI : Nat → Nat → Nat) (ed sz : Nat) (x : Nat) (rm : Nat) (tr : Nat) (st : Nat) (lk : Nat) (th : Nat) (pl : Nat) (gm : Nat) (ou : Nat) (cQ : ClassId) (fo9 : Nat → Int64) (htr : l.stackTraces = false) : vx_Met l yL_begin wsL_begin ({ frames := 3, cells := 0, slots := 0, locals := 62 } : Jvm.Room) (va_Pc [.ref x, .ref ou] (zB dC dI ed sz [(x, .inr (8, [.ref rm, .ref tr, .ref st]))] [(rm, .inr (5, [.ref lk, .ref th, .ref pl, .ref gm, .int 0, .int 0, .int 1, .int (-1), .int 1, .int 0, .int 0, .int 0])), (gm, .inr (2, [.int 0, .int 0, .int 0, .int 0, .int 0, .int (-1), .long 0])), (ou, .inl (cQ, 1, .inr (.inl fo9)))] [(cQ, .long)])) (va_Qi (fun (r : Int32) (_ : Unit) => r = 0) (fun (_ : Unit) (t : State) => ∃ (fo8 : Nat → Int64), (fo8 0 = 1) ∧ va_P (dC, dI) vwCl [(rm, .inr (5, [.ref lk, .ref th, .ref pl, .ref gm, .int 0, .int 0, .int 1, .int (-1), .int 1, .int 0, .int 18, .int 0])), (gm, .inr (2, [.int 1, .int 0, .int 0, .int 0, .int 0, .int (-1), .long 0])), (ou, .inl (cQ, 1, .inr (.inl fo8)))] t.heap ∧ va_D (va_A [(rm, .inr (5, [.ref lk, .ref th, .ref pl, .ref gm, .int 0, .int 0, .int 1, .int (-1), .int 1, .int 0, .int 0, .int 0])), (gm, .inr (2, [.int 0, .int 0, .int 0, .int 0, .int 0, .int (-1), .long 0])), (ou, .inl (cQ, 1, .inr (.inl fo9)))] sz) [(rm, .inr (5, [.ref lk, .ref th, .ref pl, .ref gm, .int 0, .int 0, .int 1, .int (-1), .int 1, .int 0, .int 18, .int 0])), (gm, .inr (2, [.int 1, .int 0, .int 0, .int 0, .int 0, .int (-1), .long 0])), (ou, .inl (cQ, 1, .inr (.inl fo8)))] ∧ va_K (dC, dI) vwCl [(cQ, .long)] t) (va_A [(rm, .inr (5, [.ref lk, .ref th, .ref pl, .ref gm, .int 0, .int 0, .int 1, .int (-1), .int 1, .int 0, .int 0, .int 0])), (gm, .inr (2, [.int 0, .int 0, .int 0, .int 0, .int 0, .int (-1), .long 0])), (ou, .inl (cQ, 1, .inr (.inl fo9)))] sz)) (vx_X (fun (_ : Unit) => False) (fun (_ : String) (_ : Unit) (_ : State) => True) (va_A [(rm, .inr (5, [.ref lk, .ref th, .ref pl, .ref gm, .int 0, .int 0, .int 1, .int (-1), .int 1, .int 0, .int 0, .int 0])), (gm, .inr (2, [.int 0, .int 0, .int 0, .int 0, .int 0, .int (-1), .long 0])), (ou, .inl (cQ, 1, .inr (.inl fo9)))] sz)) 0 0 (va_A [(rm, .inr (5, [.ref lk, .ref th, .ref pl, .ref gm, .int 0, .int 0, .int 1, .int (-1), .int 1, .int 0, .int 0, .int 0])), (gm, .inr (2, [.int 0, .int 0, .int 0, .int 0, .int 0, .int (-1), .long 0])), (ou, .inl (cQ, 1, .inr (.inl fo9)))] sz) := by
  refine vx_ofWH (cc := cL_begin) (maxL := 3) (ret := (some .int)) (by decide) rfl ?_
  intro p e s m args below meth c s₁ B hml hv
  obtain ⟨rfl, hsz, hR0, hP, hK, hD0, hN, hH, hX0⟩ := hv
  have hx := B.exec
  have hb := B.bytes
  have hr := B.returns
  have hts := atoms_spec (ws := wsL_begin) B.pre
  have hown : s.vm.findClass RL = some m.cls := findClass_of_methodNamed B.named
  have hlocks := B.notSynchronized
  have hex : c.exceptionTable.toList = tableOf [(0, 8, 11, 15)] := vx_table (x := yL_begin) B (hts _ List.mem_cons_self)
  subst hsz
  have hD := hD0.self (sz := s.heap.size)
  have hAr := zx_A hX0 hR0
  generalize hAe : va_A [(rm, .inr (5, [.ref lk, .ref th, .ref pl, .ref gm, .int 0, .int 0, .int 1, .int (-1), .int 1, .int 0, .int 0, .int 0])), (gm, .inr (2, [.int 0, .int 0, .int 0, .int 0, .int 0, .int (-1), .long 0])), (ou, .inl (cQ, 1, .inr (.inl fo9)))] s.heap.size = A at hD hAr hH ⊢
  have hA : ∀ q : Nat, s.heap.size ≤ q → A q := fun q h => by rw [← hAe]; exact Or.inr h
  have hS : va_S A s.heap s.heap [] := va_S.rf
  have hl := lv_entry ([.ref x, .ref ou]) (n := 3) (Nat.le_of_ble_eq_true rfl)
  rw [lg_entry_eq]
  generalize (lg_sl ([.ref x, .ref ou]) ++ List.replicate (3 - (lg_sl ([.ref x, .ref ou])).length) Slot.unset).toArray = ls at hl ⊢
  have hl : lv_has ls 3 [(0, .ref x), (1, .ref ou)] := hl
  refine lv_aload_n hx hb dL_begin_0 rfl (lv_at hl 1 rfl) ?_
  refine lv_iconst (v := 0) hx hb dL_begin_1 (by decide) ?_
  refine lv_aload_n hx hb dL_begin_2 rfl (lv_at hl 0 rfl) ?_
  have hPr := (hR0).sub (ws' := [(x, .inr (8, [.ref rm, .ref tr, .ref st]))]) [0] rfl
  have hPc := hP.sub (ws' := [(rm, .inr (5, [.ref lk, .ref th, .ref pl, .ref gm, .int 0, .int 0, .int 1, .int (-1), .int 1, .int 0, .int 0, .int 0])), (gm, .inr (2, [.int 0, .int 0, .int 0, .int 0, .int 0, .int (-1), .long 0]))]) [0, 1] rfl
  have hDc := hD.sub (ws' := [(rm, .inr (5, [.ref lk, .ref th, .ref pl, .ref gm, .int 0, .int 0, .int 1, .int (-1), .int 1, .int 0, .int 0, .int 0])), (gm, .inr (2, [.int 0, .int 0, .int 0, .int 0, .int 0, .int (-1), .long 0]))]) [0, 1] (by decide) rfl
  have hKc := hK.sub (tys' := []) [] rfl
  have hFc := va_free (wc := [(rm, .inr (5, [.ref lk, .ref th, .ref pl, .ref gm, .int 0, .int 0, .int 1, .int (-1), .int 1, .int 0, .int 0, .int 0])), (gm, .inr (2, [.int 0, .int 0, .int 0, .int 0, .int 0, .int (-1), .long 0]))]) hD hS hA [0, 1] rfl
  refine va_calli (va_runV (As := []) (rest := [.int 0, .ref ou]) ⟨hx, hb, hml, hown, hts⟩ (cz_RX6_begin l dC dI ed s.heap.size x rm tr st lk th pl gm) (cwV 0 hts gL_begin_X6_begin rfl rfl rfl (by decide +kernel) ⟨Nat.le_of_ble_eq_true rfl, Nat.le_of_ble_eq_true rfl⟩) ⟨zb_blind, va_recv hK hR0 (ci := 8) (q0 := 0) rfl rfl, fun U hU hW => ⟨rfl, zb_mk hU hW hPr hPc hKc hDc hN hH hS hFc (zx_cons (zx_r (hAr _ (List.mem_of_getElem? (i := 0) rfl)) hDc) zx_nil)⟩⟩ rfl rfl hl.1 rfl (lv_room (Nat.le_of_ble_eq_true rfl)) dL_begin_3 ⟨Nat.le_of_ble_eq_true rfl, Nat.le_of_ble_eq_true rfl⟩) hS (fun q _ h => hFc q h) hFc (fun r2 u t H1 locs ht hvm hw hB hz1 hk1 hS => ?_)
  obtain rfl : r2 = 1 := hw
  obtain ⟨hP1, hD1, hK1⟩ := hB
  rw [ht] at hP1
  obtain ⟨hP, hD⟩ := va_join (wr := [(ou, .inl (cQ, 1, .inr (.inl fo9)))]) (w1 := [(rm, .inr (5, [.ref lk, .ref th, .ref pl, .ref gm, .int 0, .int 0, .int 1, .int (-1), .int 1, .int 0, .int 18, .int 0])), (gm, .inr (2, [.int 1, .int 0, .int 0, .int 0, .int 0, .int (-1), .long 0]))]) hP hD [0, 1] [2] rfl rfl (by decide) (by decide) hk1 hFc hP1 hD1
  have hP : va_P (dC, dI) vwCl [(ou, .inl (cQ, 1, .inr (.inl fo9))), (rm, .inr (5, [.ref lk, .ref th, .ref pl, .ref gm, .int 0, .int 0, .int 1, .int (-1), .int 1, .int 0, .int 18, .int 0])), (gm, .inr (2, [.int 1, .int 0, .int 0, .int 0, .int 0, .int (-1), .long 0]))] H1 := hP
  have hD : va_D A [(ou, .inl (cQ, 1, .inr (.inl fo9))), (rm, .inr (5, [.ref lk, .ref th, .ref pl, .ref gm, .int 0, .int 0, .int 1, .int (-1), .int 1, .int 0, .int 18, .int 0])), (gm, .inr (2, [.int 1, .int 0, .int 0, .int 0, .int 0, .int (-1), .long 0]))] := hD
  refine lv_i2l (v := 1) hx hb dL_begin_6 (by decide) ?_
  refine va_last hx hb hK hP hD hS 0 0 rfl rfl (by unfold vp_in; decide) dL_begin_7 (fun H4 locs hP hD hS => ?_)
  obtain ⟨f5, ef5⟩ : ∃ z : Nat → Int64, z = vp_updL fo9 0 1 := ⟨_, rfl⟩
  have k6 : f5 0 = 1 := by rw [ef5]; exact pk_uLs
  have hP : va_P (dC, dI) vwCl [(ou, .inl (cQ, 1, .inr (.inl f5))), (rm, .inr (5, [.ref lk, .ref th, .ref pl, .ref gm, .int 0, .int 0, .int 1, .int (-1), .int 1, .int 0, .int 18, .int 0])), (gm, .inr (2, [.int 1, .int 0, .int 0, .int 0, .int 0, .int (-1), .long 0]))] H4 := by rw [ef5]; exact hP
  have hD : va_D A [(ou, .inl (cQ, 1, .inr (.inl f5))), (rm, .inr (5, [.ref lk, .ref th, .ref pl, .ref gm, .int 0, .int 0, .int 1, .int (-1), .int 1, .int 0, .int 18, .int 0])), (gm, .inr (2, [.int 1, .int 0, .int 0, .int 0, .int 0, .int (-1), .long 0]))] := by rw [ef5]; exact hD
  refine lv_goto (tgt := 14) hx hb dL_begin_8 (by decide) ?_
  refine lv_iconst (v := 0) hx hb dL_begin_14 (by decide) ?_
  refine vx_ret ?_
  refine W.widen (k := 0) (n := 0) (Nat.le_of_ble_eq_true rfl) (Nat.le_of_ble_eq_true rfl) ?_
  have hP9 := hP.sub (ws' := [(rm, .inr (5, [.ref lk, .ref th, .ref pl, .ref gm, .int 0, .int 0, .int 1, .int (-1), .int 1, .int 0, .int 18, .int 0])), (gm, .inr (2, [.int 1, .int 0, .int 0, .int 0, .int 0, .int (-1), .long 0])), (ou, .inl (cQ, 1, .inr (.inl f5)))]) [1, 2, 0] rfl
  have hD9 := hD.sub (ws' := [(rm, .inr (5, [.ref lk, .ref th, .ref pl, .ref gm, .int 0, .int 0, .int 1, .int (-1), .int 1, .int 0, .int 18, .int 0])), (gm, .inr (2, [.int 1, .int 0, .int 0, .int 0, .int 0, .int (-1), .long 0])), (ou, .inl (cQ, 1, .inr (.inl f5)))]) [1, 2, 0] (by decide) rfl
  have hK9 := hK.sub (tys' := [(cQ, .long)]) [0] rfl
  exact W.iret hx hb hr (fun t ht hW => ⟨⟨0, (), rfl, rfl, ⟨f5, k6, by rw [ht]; exact hP9, hD9, va_K.moved hW.alike hK9⟩⟩, hS.F ht⟩) hS.2.2 dL_begin_15

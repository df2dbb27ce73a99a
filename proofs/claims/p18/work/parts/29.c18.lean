set_option maxHeartbeats 4000000 in
set_option maxRecDepth 100000 in
theorem cz_Qadd3_4 (l : Launch) (dC : Nat → ClassId) (dI : Nat → Nat → Nat) (ed sz : Nat) (e1 : Nat) (cE : ClassId) (ne : Nat) (fe : Nat → Int32) (h0 : Nat) (oa : Nat) (cO : ClassId) (fo : Nat → Option Nat) (d0 : Nat) (d1 : Nat) (d2 : Nat) (d3 : Nat) (ho0 : fo 0 = some d0) (ho1 : fo 1 = some d1) (ho2 : fo 2 = some d2) (ho3 : fo 3 = some d3) : Met l yJx4a65c_add_72be8 wsJx4a65c_add_72be8 ({ frames := 0, cells := 0, slots := 0, locals := 0 } : Jvm.Room) (va_Pc [.ref h0, .ref e1, .ref oa, .int 4] (zB dC dI ed sz [(e1, .inl (cE, ne, .inl fe))] [(h0, .inr (1, [.int 5, .ref oa, .int 4])), (oa, .inl (cO, 10, .inr (.inr (.inr (.inr fo)))))] [(cE, .int), (cO, .object "java/lang/Object")])) (va_Qv (fun (_ : Unit) => True) (fun (_ : Unit) (t : State) => ∃ (go : Nat → Option Nat), (go 0 = some d0 ∧ go 1 = some d1 ∧ go 2 = some d2 ∧ go 3 = some d3 ∧ go 4 = some e1) ∧ va_P (dC, dI) vwCl [(h0, .inr (1, [.int 5, .ref oa, .int 5])), (oa, .inl (cO, 10, .inr (.inr (.inr (.inr go)))))] t.heap ∧ va_D (va_A [(h0, .inr (1, [.int 5, .ref oa, .int 4])), (oa, .inl (cO, 10, .inr (.inr (.inr (.inr fo)))))] sz) [(h0, .inr (1, [.int 5, .ref oa, .int 5])), (oa, .inl (cO, 10, .inr (.inr (.inr (.inr go)))))] ∧ va_K (dC, dI) vwCl [(cO, .object "java/lang/Object")] t) (va_A [(h0, .inr (1, [.int 5, .ref oa, .int 4])), (oa, .inl (cO, 10, .inr (.inr (.inr (.inr fo)))))] sz)) 0 0 (va_A [(h0, .inr (1, [.int 5, .ref oa, .int 4])), (oa, .inl (cO, 10, .inr (.inr (.inr (.inr fo)))))] sz) := by
  refine Met.ofW (cc := cJx4a65c_add_72be8) (maxL := 4) (ret := none) (by decide) rfl ?_
  intro p e s m args below meth c s₁ B hml hv
  obtain ⟨rfl, hsz, hR0, hP, hK, hD0, hN, hH, hX0⟩ := hv
  have hx := B.exec
  have hb := B.bytes
  have hr := B.returns
  have hts := atoms_spec (ws := wsJx4a65c_add_72be8) B.pre
  have hown : s.vm.findClass RJx4a65c = some m.cls := findClass_of_methodNamed B.named
  have hlocks := B.notSynchronized
  subst hsz
  have hD := hD0.self (sz := s.heap.size)
  have hAr := zx_A hX0 hR0
  generalize hAe : va_A [(h0, .inr (1, [.int 5, .ref oa, .int 4])), (oa, .inl (cO, 10, .inr (.inr (.inr (.inr fo)))))] s.heap.size = A at hD hAr hH ⊢
  have hA : ∀ q : Nat, s.heap.size ≤ q → A q := fun q h => by rw [← hAe]; exact Or.inr h
  have hS : va_S A s.heap s.heap [] := va_S.rf
  have hl := lv_entry ([.ref h0, .ref e1, .ref oa, .int 4]) (n := 4) (Nat.le_of_ble_eq_true rfl)
  rw [lg_entry_eq]
  generalize (lg_sl ([.ref h0, .ref e1, .ref oa, .int 4]) ++ List.replicate (4 - (lg_sl ([.ref h0, .ref e1, .ref oa, .int 4])).length) Slot.unset).toArray = ls at hl ⊢
  have hl : lv_has ls 4 [(0, .ref h0), (1, .ref e1), (2, .ref oa), (3, .int 4)] := hl
  refine lv_iload_n hx hb dJx4a65c_add_72be8_0 rfl (lv_at hl 3 rfl) ?_
  refine lv_aload_n hx hb dJx4a65c_add_72be8_1 rfl (lv_at hl 2 rfl) ?_
  refine va_alen hx hb hK hP 1 1 rfl rfl (v := 10) (by exact rfl) dJx4a65c_add_72be8_2 ?_
  refine lv_icmp_ne (tgt := 11) hx hb dJx4a65c_add_72be8_3 (by decide) (fun _ => ?_) (fun h => absurd h (by decide))
  refine lv_aload_n hx hb dJx4a65c_add_72be8_11 rfl (lv_at hl 2 rfl) ?_
  refine lv_iload_n hx hb dJx4a65c_add_72be8_12 rfl (lv_at hl 3 rfl) ?_
  refine lv_aload_n hx hb dJx4a65c_add_72be8_13 rfl (lv_at hl 1 rfl) ?_
  refine va_astqM hx hb hK hP hD hS 1 1 rfl rfl (zo_anyI hK hR0 0 0 rfl rfl (hN.2.2.2.2.1 ("[I", "java/lang/Object") (by decide))) (by unfold vp_in; decide) dJx4a65c_add_72be8_14 (fun H1 locs hP hD hS => ?_)
  obtain ⟨f2, ef2⟩ : ∃ z : Nat → Option Nat, z = va_up fo 4 (some e1) := ⟨_, rfl⟩
  have k3 : f2 0 = some d0 := by rw [ef2]; exact (va_up_ne _ _ (by decide)).trans (ho0)
  have k4 : f2 1 = some d1 := by rw [ef2]; exact (va_up_ne _ _ (by decide)).trans (ho1)
  have k5 : f2 2 = some d2 := by rw [ef2]; exact (va_up_ne _ _ (by decide)).trans (ho2)
  have k6 : f2 3 = some d3 := by rw [ef2]; exact (va_up_ne _ _ (by decide)).trans (ho3)
  have k7 : f2 4 = some e1 := by rw [ef2]; exact va_up_self _ _ _
  have hP : va_P (dC, dI) vwCl [(h0, .inr (1, [.int 5, .ref oa, .int 4])), (oa, .inl (cO, 10, .inr (.inr (.inr (.inr f2)))))] H1 := by rw [ef2]; exact hP
  have hD : va_D A [(h0, .inr (1, [.int 5, .ref oa, .int 4])), (oa, .inl (cO, 10, .inr (.inr (.inr (.inr f2)))))] := by rw [ef2]; exact hD
  refine lv_aload_n hx hb dJx4a65c_add_72be8_15 rfl (lv_at hl 0 rfl) ?_
  refine lv_iload_n hx hb dJx4a65c_add_72be8_16 rfl (lv_at hl 3 rfl) ?_
  refine lv_iconst (v := 1) hx hb dJx4a65c_add_72be8_17 (by decide) ?_
  refine lv_iadd hx hb dJx4a65c_add_72be8_18 ?_
  refine zo_i (v := 5) (by decide) ?_
  refine va_put (D := (dC, dI)) (ci := 1) (v := .int 5) (ty := .int) (C := RJx4a65c) (T := TJx4a65c) (N := 3) hx hb hts zi_Jx4a65c_add_72be8_Jx4a65c tyJx4a65c tyJx4a65c_ok nmJx4a65c hown hK hP hD hS 0 rfl rfl 2 (by decide) (hts (.fieldLink RJx4a65c 48 "java/util/ArrayList" "size" "I") (by decide +kernel)) (fun _ h9 => h9) rfl (by decide +kernel) rfl rfl (Nat.le_of_ble_eq_true rfl) dJx4a65c_add_72be8_19 (fun H8 locs hP hD hS => ?_)
  have hP : va_P (dC, dI) vwCl [(h0, .inr (1, [.int 5, .ref oa, .int 5])), (oa, .inl (cO, 10, .inr (.inr (.inr (.inr f2)))))] H8 := hP
  have hD : va_D A [(h0, .inr (1, [.int 5, .ref oa, .int 5])), (oa, .inl (cO, 10, .inr (.inr (.inr (.inr f2)))))] := hD
  refine W.widen (k := 0) (n := 0) (Nat.le_of_ble_eq_true rfl) (Nat.le_of_ble_eq_true rfl) ?_
  have hP9 := hP.sub (ws' := [(h0, .inr (1, [.int 5, .ref oa, .int 5])), (oa, .inl (cO, 10, .inr (.inr (.inr (.inr f2)))))]) [0, 1] rfl
  have hD9 := hD.sub (ws' := [(h0, .inr (1, [.int 5, .ref oa, .int 5])), (oa, .inl (cO, 10, .inr (.inr (.inr (.inr f2)))))]) [0, 1] (by decide) rfl
  have hK9 := hK.sub (tys' := [(cO, .object "java/lang/Object")]) [1] rfl
  exact W.vret hx hb hr (fun t ht hW => ⟨⟨(), rfl, trivial, ⟨f2, ⟨k3, k4, k5, k6, k7⟩, by rw [ht]; exact hP9, hD9, va_K.moved hW.alike hK9⟩⟩, hS.F ht⟩) hS.2.2 dJx4a65c_add_72be8_22
set_option maxHeartbeats 4000000 in
set_option maxRecDepth 100000 in
theorem cz_Qadd_4 (l : Launch) (dC : Nat → ClassId) (dI : Nat → Nat → Nat) (ed sz : Nat) (e1 : Nat) (cE : ClassId) (ne : Nat) (fe : Nat → Int32) (h0 : Nat) (oa : Nat) (cO : ClassId) (fo : Nat → Option Nat) (d0 : Nat) (d1 : Nat) (d2 : Nat) (d3 : Nat) (ho0 : fo 0 = some d0) (ho1 : fo 1 = some d1) (ho2 : fo 2 = some d2) (ho3 : fo 3 = some d3) : Met l yJx4a65c_add_9ea2d wsJx4a65c_add_9ea2d ({ frames := 1, cells := 0, slots := 0, locals := 23 } : Jvm.Room) (va_Pc [.ref h0, .ref e1] (zB dC dI ed sz [(e1, .inl (cE, ne, .inl fe))] [(h0, .inr (1, [.int 4, .ref oa, .int 4])), (oa, .inl (cO, 10, .inr (.inr (.inr (.inr fo)))))] [(cE, .int), (cO, .object "java/lang/Object")])) (va_Qi (fun (r : Int32) (_ : Unit) => r = 1) (fun (_ : Unit) (t : State) => ∃ (go : Nat → Option Nat), (go 0 = some d0 ∧ go 1 = some d1 ∧ go 2 = some d2 ∧ go 3 = some d3 ∧ go 4 = some e1) ∧ va_P (dC, dI) vwCl [(h0, .inr (1, [.int 5, .ref oa, .int 5])), (oa, .inl (cO, 10, .inr (.inr (.inr (.inr go)))))] t.heap ∧ va_D (va_A [(h0, .inr (1, [.int 4, .ref oa, .int 4])), (oa, .inl (cO, 10, .inr (.inr (.inr (.inr fo)))))] sz) [(h0, .inr (1, [.int 5, .ref oa, .int 5])), (oa, .inl (cO, 10, .inr (.inr (.inr (.inr go)))))] ∧ va_K (dC, dI) vwCl [(cO, .object "java/lang/Object")] t) (va_A [(h0, .inr (1, [.int 4, .ref oa, .int 4])), (oa, .inl (cO, 10, .inr (.inr (.inr (.inr fo)))))] sz)) 0 0 (va_A [(h0, .inr (1, [.int 4, .ref oa, .int 4])), (oa, .inl (cO, 10, .inr (.inr (.inr (.inr fo)))))] sz) := by
  refine Met.ofW (cc := cJx4a65c_add_9ea2d) (maxL := 2) (ret := (some .boolean)) (by decide) rfl ?_
  intro p e s m args below meth c s₁ B hml hv
  obtain ⟨rfl, hsz, hR0, hP, hK, hD0, hN, hH, hX0⟩ := hv
  have hx := B.exec
  have hb := B.bytes
  have hr := B.returns
  have hts := atoms_spec (ws := wsJx4a65c_add_9ea2d) B.pre
  have hown : s.vm.findClass RJx4a65c = some m.cls := findClass_of_methodNamed B.named
  have hlocks := B.notSynchronized
  subst hsz
  have hD := hD0.self (sz := s.heap.size)
  have hAr := zx_A hX0 hR0
  generalize hAe : va_A [(h0, .inr (1, [.int 4, .ref oa, .int 4])), (oa, .inl (cO, 10, .inr (.inr (.inr (.inr fo)))))] s.heap.size = A at hD hAr hH ⊢
  have hA : ∀ q : Nat, s.heap.size ≤ q → A q := fun q h => by rw [← hAe]; exact Or.inr h
  have hS : va_S A s.heap s.heap [] := va_S.rf
  have hl := lv_entry ([.ref h0, .ref e1]) (n := 2) (Nat.le_of_ble_eq_true rfl)
  rw [lg_entry_eq]
  generalize (lg_sl ([.ref h0, .ref e1]) ++ List.replicate (2 - (lg_sl ([.ref h0, .ref e1])).length) Slot.unset).toArray = ls at hl ⊢
  have hl : lv_has ls 2 [(0, .ref h0), (1, .ref e1)] := hl
  refine lv_aload_n hx hb dJx4a65c_add_9ea2d_0 rfl (lv_at hl 0 rfl) ?_
  refine lv_dup hx hb dJx4a65c_add_9ea2d_1 rfl ?_
  refine va_get (D := (dC, dI)) (ci := 1) (v := .int 4) (C := RJx4a65c) (T := TJx4a65c) (N := 3) hx hb hts zi_Jx4a65c_add_9ea2d_Jx4a65c hown hK hP 0 rfl rfl 0 (by decide) (hts (.fieldLink RJx4a65c 63 "java/util/ArrayList" "modCount" "I") (by decide +kernel)) (fun x9 h9 => u_same (hts (.sameField "java/util/ArrayList" "java/util/AbstractList" "modCount" "I") (by decide +kernel)) x9 h9) rfl dJx4a65c_add_9ea2d_2 ?_
  refine lv_iconst (v := 1) hx hb dJx4a65c_add_9ea2d_5 (by decide) ?_
  refine lv_iadd hx hb dJx4a65c_add_9ea2d_6 ?_
  refine zo_i (v := 5) (by decide) ?_
  refine va_put (D := (dC, dI)) (ci := 1) (v := .int 5) (ty := .int) (C := RJx4a65c) (T := TJx4a65c) (N := 3) hx hb hts zi_Jx4a65c_add_9ea2d_Jx4a65c tyJx4a65c tyJx4a65c_ok nmJx4a65c hown hK hP hD hS 0 rfl rfl 0 (by decide) (hts (.fieldLink RJx4a65c 63 "java/util/ArrayList" "modCount" "I") (by decide +kernel)) (fun x9 h9 => u_same (hts (.sameField "java/util/ArrayList" "java/util/AbstractList" "modCount" "I") (by decide +kernel)) x9 h9) rfl (by decide +kernel) rfl rfl (Nat.le_of_ble_eq_true rfl) dJx4a65c_add_9ea2d_7 (fun H1 locs hP hD hS => ?_)
  have hP : va_P (dC, dI) vwCl [(h0, .inr (1, [.int 5, .ref oa, .int 4])), (oa, .inl (cO, 10, .inr (.inr (.inr (.inr fo)))))] H1 := hP
  have hD : va_D A [(h0, .inr (1, [.int 5, .ref oa, .int 4])), (oa, .inl (cO, 10, .inr (.inr (.inr (.inr fo)))))] := hD
  refine lv_aload_n hx hb dJx4a65c_add_9ea2d_10 rfl (lv_at hl 0 rfl) ?_
  refine lv_aload_n hx hb dJx4a65c_add_9ea2d_11 rfl (lv_at hl 1 rfl) ?_
  refine lv_aload_n hx hb dJx4a65c_add_9ea2d_12 rfl (lv_at hl 0 rfl) ?_
  refine va_get (D := (dC, dI)) (ci := 1) (v := .ref oa) (C := RJx4a65c) (T := TJx4a65c) (N := 3) hx hb hts zi_Jx4a65c_add_9ea2d_Jx4a65c hown hK hP 0 rfl rfl 1 (by decide) (hts (.fieldLink RJx4a65c 9 "java/util/ArrayList" "elementData" "[Ljava/lang/Object;") (by decide +kernel)) (fun _ h9 => h9) rfl dJx4a65c_add_9ea2d_13 ?_
  refine lv_aload_n hx hb dJx4a65c_add_9ea2d_16 rfl (lv_at hl 0 rfl) ?_
  refine va_get (D := (dC, dI)) (ci := 1) (v := .int 4) (C := RJx4a65c) (T := TJx4a65c) (N := 3) hx hb hts zi_Jx4a65c_add_9ea2d_Jx4a65c hown hK hP 0 rfl rfl 2 (by decide) (hts (.fieldLink RJx4a65c 48 "java/util/ArrayList" "size" "I") (by decide +kernel)) (fun _ h9 => h9) rfl dJx4a65c_add_9ea2d_17 ?_
  have hPr := ((zo_R hR0 hS hAr)).sub (ws' := [(e1, .inl (cE, ne, .inl fe))]) [0] rfl
  have hPc := hP.sub (ws' := [(h0, .inr (1, [.int 5, .ref oa, .int 4])), (oa, .inl (cO, 10, .inr (.inr (.inr (.inr fo)))))]) [0, 1] rfl
  have hDc := hD.sub (ws' := [(h0, .inr (1, [.int 5, .ref oa, .int 4])), (oa, .inl (cO, 10, .inr (.inr (.inr (.inr fo)))))]) [0, 1] (by decide) rfl
  have hKc := hK.sub (tys' := [(cE, .int), (cO, .object "java/lang/Object")]) [0, 1] rfl
  have hFc := va_free (wc := [(h0, .inr (1, [.int 5, .ref oa, .int 4])), (oa, .inl (cO, 10, .inr (.inr (.inr (.inr fo)))))]) hD hS hA [0, 1] rfl
  refine va_callv (va_runV (As := [.ref e1, .ref oa, .int 4]) (rest := []) ⟨hx, hb, hml, hown, hts⟩ (cz_Qadd3_4 l dC dI ed H1.size e1 cE ne fe h0 oa cO fo d0 d1 d2 d3 ho0 ho1 ho2 ho3) (cwV 3 hts gJx4a65c_add_9ea2d_Jx4a65c_add_72be8 rfl rfl rfl (by decide +kernel) ⟨Nat.le_of_ble_eq_true rfl, Nat.le_of_ble_eq_true rfl⟩) ⟨zb_blind, va_recv hK hP (ci := 1) (q0 := 0) rfl rfl, fun U hU hW => ⟨rfl, zb_mk hU hW hPr hPc hKc hDc hN hH hS hFc (zx_cons (zx_r (hAr _ (List.mem_of_getElem? (i := 0) rfl)) hDc) zx_nil)⟩⟩ rfl rfl hl.1 rfl (lv_room (Nat.le_of_ble_eq_true rfl)) dJx4a65c_add_9ea2d_20 ⟨Nat.le_of_ble_eq_true rfl, Nat.le_of_ble_eq_true rfl⟩) hS (fun q _ h => hFc q h) hFc (fun u t H2 locs ht hvm hw hB hz1 hk1 hS => ?_)
  obtain ⟨go_4, ⟨k4_0, k4_1, k4_2, k4_3, k4_4⟩, hP1, hD1, hK1⟩ := hB
  rw [ht] at hP1
  obtain ⟨hP, hD⟩ := va_join (wr := []) (w1 := [(h0, .inr (1, [.int 5, .ref oa, .int 5])), (oa, .inl (cO, 10, .inr (.inr (.inr (.inr go_4)))))]) hP hD [0, 1] [] rfl rfl (by decide) (by decide) hk1 hFc hP1 hD1
  have hP : va_P (dC, dI) vwCl [(h0, .inr (1, [.int 5, .ref oa, .int 5])), (oa, .inl (cO, 10, .inr (.inr (.inr (.inr go_4)))))] H2 := hP
  have hD : va_D A [(h0, .inr (1, [.int 5, .ref oa, .int 5])), (oa, .inl (cO, 10, .inr (.inr (.inr (.inr go_4)))))] := hD
  refine lv_iconst (v := 1) hx hb dJx4a65c_add_9ea2d_23 (by decide) ?_
  refine W.widen (k := 0) (n := 0) (Nat.le_of_ble_eq_true rfl) (Nat.le_of_ble_eq_true rfl) ?_
  have hP9 := hP.sub (ws' := [(h0, .inr (1, [.int 5, .ref oa, .int 5])), (oa, .inl (cO, 10, .inr (.inr (.inr (.inr go_4)))))]) [0, 1] rfl
  have hD9 := hD.sub (ws' := [(h0, .inr (1, [.int 5, .ref oa, .int 5])), (oa, .inl (cO, 10, .inr (.inr (.inr (.inr go_4)))))]) [0, 1] (by decide) rfl
  have hK9 := hK.sub (tys' := [(cO, .object "java/lang/Object")]) [1] rfl
  exact W.zret hx hb hr (by decide) (fun t ht hW => ⟨⟨1, (), rfl, rfl, ⟨go_4, ⟨k4_0, k4_1, k4_2, k4_3, k4_4⟩, by rw [ht]; exact hP9, hD9, va_K.moved hW.alike hK9⟩⟩, hS.F ht⟩) hS.2.2 dJx4a65c_add_9ea2d_24
set_option maxHeartbeats 4000000 in
set_option maxRecDepth 100000 in
theorem cz_Qadd3_5 (l : Launch) (dC : Nat → ClassId) (dI : Nat → Nat → Nat) (ed sz : Nat) (e1 : Nat) (cE : ClassId) (ne : Nat) (fe : Nat → Int32) (h0 : Nat) (oa : Nat) (cO : ClassId) (fo : Nat → Option Nat) (d0 : Nat) (d1 : Nat) (d2 : Nat) (d3 : Nat) (d4 : Nat) (ho0 : fo 0 = some d0) (ho1 : fo 1 = some d1) (ho2 : fo 2 = some d2) (ho3 : fo 3 = some d3) (ho4 : fo 4 = some d4) : Met l yJx4a65c_add_72be8 wsJx4a65c_add_72be8 ({ frames := 0, cells := 0, slots := 0, locals := 0 } : Jvm.Room) (va_Pc [.ref h0, .ref e1, .ref oa, .int 5] (zB dC dI ed sz [(e1, .inl (cE, ne, .inl fe))] [(h0, .inr (1, [.int 6, .ref oa, .int 5])), (oa, .inl (cO, 10, .inr (.inr (.inr (.inr fo)))))] [(cE, .int), (cO, .object "java/lang/Object")])) (va_Qv (fun (_ : Unit) => True) (fun (_ : Unit) (t : State) => ∃ (go : Nat → Option Nat), (go 0 = some d0 ∧ go 1 = some d1 ∧ go 2 = some d2 ∧ go 3 = some d3 ∧ go 4 = some d4 ∧ go 5 = some e1) ∧ va_P (dC, dI) vwCl [(h0, .inr (1, [.int 6, .ref oa, .int 6])), (oa, .inl (cO, 10, .inr (.inr (.inr (.inr go)))))] t.heap ∧ va_D (va_A [(h0, .inr (1, [.int 6, .ref oa, .int 5])), (oa, .inl (cO, 10, .inr (.inr (.inr (.inr fo)))))] sz) [(h0, .inr (1, [.int 6, .ref oa, .int 6])), (oa, .inl (cO, 10, .inr (.inr (.inr (.inr go)))))] ∧ va_K (dC, dI) vwCl [(cO, .object "java/lang/Object")] t) (va_A [(h0, .inr (1, [.int 6, .ref oa, .int 5])), (oa, .inl (cO, 10, .inr (.inr (.inr (.inr fo)))))] sz)) 0 0 (va_A [(h0, .inr (1, [.int 6, .ref oa, .int 5])), (oa, .inl (cO, 10, .inr (.inr (.inr (.inr fo)))))] sz) := by
  refine Met.ofW (cc := cJx4a65c_add_72be8) (maxL := 4) (ret := none) (by decide) rfl ?_
  intro p e s m args below meth c s₁ B hml hv
  obtain ⟨rfl, hsz, hR0, hP, hK, hD0, hN, hH, hX0⟩ := hv
  have hx := B.exec
  have hb := B.bytes
  have hr := B.returns
  have hts := atoms_spec (ws := wsJx4a65c_add_72be8) B.pre
  have hown : s.vm.findClass RJx4a65c = some m.cls := findClass_of_methodNamed B.named
  have hlocks := B.notSynchronized
  subst hsz
  have hD := hD0.self (sz := s.heap.size)
  have hAr := zx_A hX0 hR0
  generalize hAe : va_A [(h0, .inr (1, [.int 6, .ref oa, .int 5])), (oa, .inl (cO, 10, .inr (.inr (.inr (.inr fo)))))] s.heap.size = A at hD hAr hH ⊢
  have hA : ∀ q : Nat, s.heap.size ≤ q → A q := fun q h => by rw [← hAe]; exact Or.inr h
  have hS : va_S A s.heap s.heap [] := va_S.rf
  have hl := lv_entry ([.ref h0, .ref e1, .ref oa, .int 5]) (n := 4) (Nat.le_of_ble_eq_true rfl)
  rw [lg_entry_eq]
  generalize (lg_sl ([.ref h0, .ref e1, .ref oa, .int 5]) ++ List.replicate (4 - (lg_sl ([.ref h0, .ref e1, .ref oa, .int 5])).length) Slot.unset).toArray = ls at hl ⊢
  have hl : lv_has ls 4 [(0, .ref h0), (1, .ref e1), (2, .ref oa), (3, .int 5)] := hl
  refine lv_iload_n hx hb dJx4a65c_add_72be8_0 rfl (lv_at hl 3 rfl) ?_
  refine lv_aload_n hx hb dJx4a65c_add_72be8_1 rfl (lv_at hl 2 rfl) ?_
  refine va_alen hx hb hK hP 1 1 rfl rfl (v := 10) (by exact rfl) dJx4a65c_add_72be8_2 ?_
  refine lv_icmp_ne (tgt := 11) hx hb dJx4a65c_add_72be8_3 (by decide) (fun _ => ?_) (fun h => absurd h (by decide))
  refine lv_aload_n hx hb dJx4a65c_add_72be8_11 rfl (lv_at hl 2 rfl) ?_
  refine lv_iload_n hx hb dJx4a65c_add_72be8_12 rfl (lv_at hl 3 rfl) ?_
  refine lv_aload_n hx hb dJx4a65c_add_72be8_13 rfl (lv_at hl 1 rfl) ?_
  refine va_astqM hx hb hK hP hD hS 1 1 rfl rfl (zo_anyI hK hR0 0 0 rfl rfl (hN.2.2.2.2.1 ("[I", "java/lang/Object") (by decide))) (by unfold vp_in; decide) dJx4a65c_add_72be8_14 (fun H1 locs hP hD hS => ?_)
  obtain ⟨f2, ef2⟩ : ∃ z : Nat → Option Nat, z = va_up fo 5 (some e1) := ⟨_, rfl⟩
  have k3 : f2 0 = some d0 := by rw [ef2]; exact (va_up_ne _ _ (by decide)).trans (ho0)
  have k4 : f2 1 = some d1 := by rw [ef2]; exact (va_up_ne _ _ (by decide)).trans (ho1)
  have k5 : f2 2 = some d2 := by rw [ef2]; exact (va_up_ne _ _ (by decide)).trans (ho2)
  have k6 : f2 3 = some d3 := by rw [ef2]; exact (va_up_ne _ _ (by decide)).trans (ho3)
  have k7 : f2 4 = some d4 := by rw [ef2]; exact (va_up_ne _ _ (by decide)).trans (ho4)
  have k8 : f2 5 = some e1 := by rw [ef2]; exact va_up_self _ _ _
  have hP : va_P (dC, dI) vwCl [(h0, .inr (1, [.int 6, .ref oa, .int 5])), (oa, .inl (cO, 10, .inr (.inr (.inr (.inr f2)))))] H1 := by rw [ef2]; exact hP
  have hD : va_D A [(h0, .inr (1, [.int 6, .ref oa, .int 5])), (oa, .inl (cO, 10, .inr (.inr (.inr (.inr f2)))))] := by rw [ef2]; exact hD
  refine lv_aload_n hx hb dJx4a65c_add_72be8_15 rfl (lv_at hl 0 rfl) ?_
  refine lv_iload_n hx hb dJx4a65c_add_72be8_16 rfl (lv_at hl 3 rfl) ?_
  refine lv_iconst (v := 1) hx hb dJx4a65c_add_72be8_17 (by decide) ?_
  refine lv_iadd hx hb dJx4a65c_add_72be8_18 ?_
  refine zo_i (v := 6) (by decide) ?_
  refine va_put (D := (dC, dI)) (ci := 1) (v := .int 6) (ty := .int) (C := RJx4a65c) (T := TJx4a65c) (N := 3) hx hb hts zi_Jx4a65c_add_72be8_Jx4a65c tyJx4a65c tyJx4a65c_ok nmJx4a65c hown hK hP hD hS 0 rfl rfl 2 (by decide) (hts (.fieldLink RJx4a65c 48 "java/util/ArrayList" "size" "I") (by decide +kernel)) (fun _ h9 => h9) rfl (by decide +kernel) rfl rfl (Nat.le_of_ble_eq_true rfl) dJx4a65c_add_72be8_19 (fun H9 locs hP hD hS => ?_)
  have hP : va_P (dC, dI) vwCl [(h0, .inr (1, [.int 6, .ref oa, .int 6])), (oa, .inl (cO, 10, .inr (.inr (.inr (.inr f2)))))] H9 := hP
  have hD : va_D A [(h0, .inr (1, [.int 6, .ref oa, .int 6])), (oa, .inl (cO, 10, .inr (.inr (.inr (.inr f2)))))] := hD
  refine W.widen (k := 0) (n := 0) (Nat.le_of_ble_eq_true rfl) (Nat.le_of_ble_eq_true rfl) ?_
  have hP9 := hP.sub (ws' := [(h0, .inr (1, [.int 6, .ref oa, .int 6])), (oa, .inl (cO, 10, .inr (.inr (.inr (.inr f2)))))]) [0, 1] rfl
  have hD9 := hD.sub (ws' := [(h0, .inr (1, [.int 6, .ref oa, .int 6])), (oa, .inl (cO, 10, .inr (.inr (.inr (.inr f2)))))]) [0, 1] (by decide) rfl
  have hK9 := hK.sub (tys' := [(cO, .object "java/lang/Object")]) [1] rfl
  exact W.vret hx hb hr (fun t ht hW => ⟨⟨(), rfl, trivial, ⟨f2, ⟨k3, k4, k5, k6, k7, k8⟩, by rw [ht]; exact hP9, hD9, va_K.moved hW.alike hK9⟩⟩, hS.F ht⟩) hS.2.2 dJx4a65c_add_72be8_22
set_option maxHeartbeats 4000000 in
set_option maxRecDepth 100000 in
theorem cz_Qadd_5 (l : Launch) (dC : Nat → ClassId) (dI : Nat → Nat → Nat) (ed sz : Nat) (e1 : Nat) (cE : ClassId) (ne : Nat) (fe : Nat → Int32) (h0 : Nat) (oa : Nat) (cO : ClassId) (fo : Nat → Option Nat) (d0 : Nat) (d1 : Nat) (d2 : Nat) (d3 : Nat) (d4 : Nat) (ho0 : fo 0 = some d0) (ho1 : fo 1 = some d1) (ho2 : fo 2 = some d2) (ho3 : fo 3 = some d3) (ho4 : fo 4 = some d4) : Met l yJx4a65c_add_9ea2d wsJx4a65c_add_9ea2d ({ frames := 1, cells := 0, slots := 0, locals := 23 } : Jvm.Room) (va_Pc [.ref h0, .ref e1] (zB dC dI ed sz [(e1, .inl (cE, ne, .inl fe))] [(h0, .inr (1, [.int 5, .ref oa, .int 5])), (oa, .inl (cO, 10, .inr (.inr (.inr (.inr fo)))))] [(cE, .int), (cO, .object "java/lang/Object")])) (va_Qi (fun (r : Int32) (_ : Unit) => r = 1) (fun (_ : Unit) (t : State) => ∃ (go : Nat → Option Nat), (go 0 = some d0 ∧ go 1 = some d1 ∧ go 2 = some d2 ∧ go 3 = some d3 ∧ go 4 = some d4 ∧ go 5 = some e1) ∧ va_P (dC, dI) vwCl [(h0, .inr (1, [.int 6, .ref oa, .int 6])), (oa, .inl (cO, 10, .inr (.inr (.inr (.inr go)))))] t.heap ∧ va_D (va_A [(h0, .inr (1, [.int 5, .ref oa, .int 5])), (oa, .inl (cO, 10, .inr (.inr (.inr (.inr fo)))))] sz) [(h0, .inr (1, [.int 6, .ref oa, .int 6])), (oa, .inl (cO, 10, .inr (.inr (.inr (.inr go)))))] ∧ va_K (dC, dI) vwCl [(cO, .object "java/lang/Object")] t) (va_A [(h0, .inr (1, [.int 5, .ref oa, .int 5])), (oa, .inl (cO, 10, .inr (.inr (.inr (.inr fo)))))] sz)) 0 0 (va_A [(h0, .inr (1, [.int 5, .ref oa, .int 5])), (oa, .inl (cO, 10, .inr (.inr (.inr (.inr fo)))))] sz) := by
  refine Met.ofW (cc := cJx4a65c_add_9ea2d) (maxL := 2) (ret := (some .boolean)) (by decide) rfl ?_
  intro p e s m args below meth c s₁ B hml hv
  obtain ⟨rfl, hsz, hR0, hP, hK, hD0, hN, hH, hX0⟩ := hv
  have hx := B.exec
  have hb := B.bytes
  have hr := B.returns
  have hts := atoms_spec (ws := wsJx4a65c_add_9ea2d) B.pre
  have hown : s.vm.findClass RJx4a65c = some m.cls := findClass_of_methodNamed B.named
  have hlocks := B.notSynchronized
  subst hsz
  have hD := hD0.self (sz := s.heap.size)
  have hAr := zx_A hX0 hR0
  generalize hAe : va_A [(h0, .inr (1, [.int 5, .ref oa, .int 5])), (oa, .inl (cO, 10, .inr (.inr (.inr (.inr fo)))))] s.heap.size = A at hD hAr hH ⊢
  have hA : ∀ q : Nat, s.heap.size ≤ q → A q := fun q h => by rw [← hAe]; exact Or.inr h
  have hS : va_S A s.heap s.heap [] := va_S.rf
  have hl := lv_entry ([.ref h0, .ref e1]) (n := 2) (Nat.le_of_ble_eq_true rfl)
  rw [lg_entry_eq]
  generalize (lg_sl ([.ref h0, .ref e1]) ++ List.replicate (2 - (lg_sl ([.ref h0, .ref e1])).length) Slot.unset).toArray = ls at hl ⊢
  have hl : lv_has ls 2 [(0, .ref h0), (1, .ref e1)] := hl
  refine lv_aload_n hx hb dJx4a65c_add_9ea2d_0 rfl (lv_at hl 0 rfl) ?_
  refine lv_dup hx hb dJx4a65c_add_9ea2d_1 rfl ?_
  refine va_get (D := (dC, dI)) (ci := 1) (v := .int 5) (C := RJx4a65c) (T := TJx4a65c) (N := 3) hx hb hts zi_Jx4a65c_add_9ea2d_Jx4a65c hown hK hP 0 rfl rfl 0 (by decide) (hts (.fieldLink RJx4a65c 63 "java/util/ArrayList" "modCount" "I") (by decide +kernel)) (fun x9 h9 => u_same (hts (.sameField "java/util/ArrayList" "java/util/AbstractList" "modCount" "I") (by decide +kernel)) x9 h9) rfl dJx4a65c_add_9ea2d_2 ?_
  refine lv_iconst (v := 1) hx hb dJx4a65c_add_9ea2d_5 (by decide) ?_
  refine lv_iadd hx hb dJx4a65c_add_9ea2d_6 ?_
  refine zo_i (v := 6) (by decide) ?_
  refine va_put (D := (dC, dI)) (ci := 1) (v := .int 6) (ty := .int) (C := RJx4a65c) (T := TJx4a65c) (N := 3) hx hb hts zi_Jx4a65c_add_9ea2d_Jx4a65c tyJx4a65c tyJx4a65c_ok nmJx4a65c hown hK hP hD hS 0 rfl rfl 0 (by decide) (hts (.fieldLink RJx4a65c 63 "java/util/ArrayList" "modCount" "I") (by decide +kernel)) (fun x9 h9 => u_same (hts (.sameField "java/util/ArrayList" "java/util/AbstractList" "modCount" "I") (by decide +kernel)) x9 h9) rfl (by decide +kernel) rfl rfl (Nat.le_of_ble_eq_true rfl) dJx4a65c_add_9ea2d_7 (fun H1 locs hP hD hS => ?_)
  have hP : va_P (dC, dI) vwCl [(h0, .inr (1, [.int 6, .ref oa, .int 5])), (oa, .inl (cO, 10, .inr (.inr (.inr (.inr fo)))))] H1 := hP
  have hD : va_D A [(h0, .inr (1, [.int 6, .ref oa, .int 5])), (oa, .inl (cO, 10, .inr (.inr (.inr (.inr fo)))))] := hD
  refine lv_aload_n hx hb dJx4a65c_add_9ea2d_10 rfl (lv_at hl 0 rfl) ?_
  refine lv_aload_n hx hb dJx4a65c_add_9ea2d_11 rfl (lv_at hl 1 rfl) ?_
  refine lv_aload_n hx hb dJx4a65c_add_9ea2d_12 rfl (lv_at hl 0 rfl) ?_
  refine va_get (D := (dC, dI)) (ci := 1) (v := .ref oa) (C := RJx4a65c) (T := TJx4a65c) (N := 3) hx hb hts zi_Jx4a65c_add_9ea2d_Jx4a65c hown hK hP 0 rfl rfl 1 (by decide) (hts (.fieldLink RJx4a65c 9 "java/util/ArrayList" "elementData" "[Ljava/lang/Object;") (by decide +kernel)) (fun _ h9 => h9) rfl dJx4a65c_add_9ea2d_13 ?_
  refine lv_aload_n hx hb dJx4a65c_add_9ea2d_16 rfl (lv_at hl 0 rfl) ?_
  refine va_get (D := (dC, dI)) (ci := 1) (v := .int 5) (C := RJx4a65c) (T := TJx4a65c) (N := 3) hx hb hts zi_Jx4a65c_add_9ea2d_Jx4a65c hown hK hP 0 rfl rfl 2 (by decide) (hts (.fieldLink RJx4a65c 48 "java/util/ArrayList" "size" "I") (by decide +kernel)) (fun _ h9 => h9) rfl dJx4a65c_add_9ea2d_17 ?_
  have hPr := ((zo_R hR0 hS hAr)).sub (ws' := [(e1, .inl (cE, ne, .inl fe))]) [0] rfl
  have hPc := hP.sub (ws' := [(h0, .inr (1, [.int 6, .ref oa, .int 5])), (oa, .inl (cO, 10, .inr (.inr (.inr (.inr fo)))))]) [0, 1] rfl
  have hDc := hD.sub (ws' := [(h0, .inr (1, [.int 6, .ref oa, .int 5])), (oa, .inl (cO, 10, .inr (.inr (.inr (.inr fo)))))]) [0, 1] (by decide) rfl
  have hKc := hK.sub (tys' := [(cE, .int), (cO, .object "java/lang/Object")]) [0, 1] rfl
  have hFc := va_free (wc := [(h0, .inr (1, [.int 6, .ref oa, .int 5])), (oa, .inl (cO, 10, .inr (.inr (.inr (.inr fo)))))]) hD hS hA [0, 1] rfl
  refine va_callv (va_runV (As := [.ref e1, .ref oa, .int 5]) (rest := []) ⟨hx, hb, hml, hown, hts⟩ (cz_Qadd3_5 l dC dI ed H1.size e1 cE ne fe h0 oa cO fo d0 d1 d2 d3 d4 ho0 ho1 ho2 ho3 ho4) (cwV 3 hts gJx4a65c_add_9ea2d_Jx4a65c_add_72be8 rfl rfl rfl (by decide +kernel) ⟨Nat.le_of_ble_eq_true rfl, Nat.le_of_ble_eq_true rfl⟩) ⟨zb_blind, va_recv hK hP (ci := 1) (q0 := 0) rfl rfl, fun U hU hW => ⟨rfl, zb_mk hU hW hPr hPc hKc hDc hN hH hS hFc (zx_cons (zx_r (hAr _ (List.mem_of_getElem? (i := 0) rfl)) hDc) zx_nil)⟩⟩ rfl rfl hl.1 rfl (lv_room (Nat.le_of_ble_eq_true rfl)) dJx4a65c_add_9ea2d_20 ⟨Nat.le_of_ble_eq_true rfl, Nat.le_of_ble_eq_true rfl⟩) hS (fun q _ h => hFc q h) hFc (fun u t H2 locs ht hvm hw hB hz1 hk1 hS => ?_)
  obtain ⟨go_4, ⟨k4_0, k4_1, k4_2, k4_3, k4_4, k4_5⟩, hP1, hD1, hK1⟩ := hB
  rw [ht] at hP1
  obtain ⟨hP, hD⟩ := va_join (wr := []) (w1 := [(h0, .inr (1, [.int 6, .ref oa, .int 6])), (oa, .inl (cO, 10, .inr (.inr (.inr (.inr go_4)))))]) hP hD [0, 1] [] rfl rfl (by decide) (by decide) hk1 hFc hP1 hD1
  have hP : va_P (dC, dI) vwCl [(h0, .inr (1, [.int 6, .ref oa, .int 6])), (oa, .inl (cO, 10, .inr (.inr (.inr (.inr go_4)))))] H2 := hP
  have hD : va_D A [(h0, .inr (1, [.int 6, .ref oa, .int 6])), (oa, .inl (cO, 10, .inr (.inr (.inr (.inr go_4)))))] := hD
  refine lv_iconst (v := 1) hx hb dJx4a65c_add_9ea2d_23 (by decide) ?_
  refine W.widen (k := 0) (n := 0) (Nat.le_of_ble_eq_true rfl) (Nat.le_of_ble_eq_true rfl) ?_
  have hP9 := hP.sub (ws' := [(h0, .inr (1, [.int 6, .ref oa, .int 6])), (oa, .inl (cO, 10, .inr (.inr (.inr (.inr go_4)))))]) [0, 1] rfl
  have hD9 := hD.sub (ws' := [(h0, .inr (1, [.int 6, .ref oa, .int 6])), (oa, .inl (cO, 10, .inr (.inr (.inr (.inr go_4)))))]) [0, 1] (by decide) rfl
  have hK9 := hK.sub (tys' := [(cO, .object "java/lang/Object")]) [1] rfl
  exact W.zret hx hb hr (by decide) (fun t ht hW => ⟨⟨1, (), rfl, rfl, ⟨go_4, ⟨k4_0, k4_1, k4_2, k4_3, k4_4, k4_5⟩, by rw [ht]; exact hP9, hD9, va_K.moved hW.alike hK9⟩⟩, hS.F ht⟩) hS.2.2 dJx4a65c_add_9ea2d_24
set_option maxHeartbeats 4000000 in
set_option maxRecDepth 100000 in
theorem cz_Qadd3_6 (l : Launch) (dC : Nat → ClassId) (dI : Nat → Nat → Nat) (ed sz : Nat) (e1 : Nat) (cE : ClassId) (ne : Nat) (fe : Nat → Int32) (h0 : Nat) (oa : Nat) (cO : ClassId) (fo : Nat → Option Nat) (d0 : Nat) (d1 : Nat) (d2 : Nat) (d3 : Nat) (d4 : Nat) (d5 : Nat) (ho0 : fo 0 = some d0) (ho1 : fo 1 = some d1) (ho2 : fo 2 = some d2) (ho3 : fo 3 = some d3) (ho4 : fo 4 = some d4) (ho5 : fo 5 = some d5) : Met l yJx4a65c_add_72be8 wsJx4a65c_add_72be8 ({ frames := 0, cells := 0, slots := 0, locals := 0 } : Jvm.Room) (va_Pc [.ref h0, .ref e1, .ref oa, .int 6] (zB dC dI ed sz [(e1, .inl (cE, ne, .inl fe))] [(h0, .inr (1, [.int 7, .ref oa, .int 6])), (oa, .inl (cO, 10, .inr (.inr (.inr (.inr fo)))))] [(cE, .int), (cO, .object "java/lang/Object")])) (va_Qv (fun (_ : Unit) => True) (fun (_ : Unit) (t : State) => ∃ (go : Nat → Option Nat), (go 0 = some d0 ∧ go 1 = some d1 ∧ go 2 = some d2 ∧ go 3 = some d3 ∧ go 4 = some d4 ∧ go 5 = some d5 ∧ go 6 = some e1) ∧ va_P (dC, dI) vwCl [(h0, .inr (1, [.int 7, .ref oa, .int 7])), (oa, .inl (cO, 10, .inr (.inr (.inr (.inr go)))))] t.heap ∧ va_D (va_A [(h0, .inr (1, [.int 7, .ref oa, .int 6])), (oa, .inl (cO, 10, .inr (.inr (.inr (.inr fo)))))] sz) [(h0, .inr (1, [.int 7, .ref oa, .int 7])), (oa, .inl (cO, 10, .inr (.inr (.inr (.inr go)))))] ∧ va_K (dC, dI) vwCl [(cO, .object "java/lang/Object")] t) (va_A [(h0, .inr (1, [.int 7, .ref oa, .int 6])), (oa, .inl (cO, 10, .inr (.inr (.inr (.inr fo)))))] sz)) 0 0 (va_A [(h0, .inr (1, [.int 7, .ref oa, .int 6])), (oa, .inl (cO, 10, .inr (.inr (.inr (.inr fo)))))] sz) := by
  refine Met.ofW (cc := cJx4a65c_add_72be8) (maxL := 4) (ret := none) (by decide) rfl ?_
  intro p e s m args below meth c s₁ B hml hv
  obtain ⟨rfl, hsz, hR0, hP, hK, hD0, hN, hH, hX0⟩ := hv
  have hx := B.exec
  have hb := B.bytes
  have hr := B.returns
  have hts := atoms_spec (ws := wsJx4a65c_add_72be8) B.pre
  have hown : s.vm.findClass RJx4a65c = some m.cls := findClass_of_methodNamed B.named
  have hlocks := B.notSynchronized
  subst hsz
  have hD := hD0.self (sz := s.heap.size)
  have hAr := zx_A hX0 hR0
  generalize hAe : va_A [(h0, .inr (1, [.int 7, .ref oa, .int 6])), (oa, .inl (cO, 10, .inr (.inr (.inr (.inr fo)))))] s.heap.size = A at hD hAr hH ⊢
  have hA : ∀ q : Nat, s.heap.size ≤ q → A q := fun q h => by rw [← hAe]; exact Or.inr h
  have hS : va_S A s.heap s.heap [] := va_S.rf
  have hl := lv_entry ([.ref h0, .ref e1, .ref oa, .int 6]) (n := 4) (Nat.le_of_ble_eq_true rfl)
  rw [lg_entry_eq]
  generalize (lg_sl ([.ref h0, .ref e1, .ref oa, .int 6]) ++ List.replicate (4 - (lg_sl ([.ref h0, .ref e1, .ref oa, .int 6])).length) Slot.unset).toArray = ls at hl ⊢
  have hl : lv_has ls 4 [(0, .ref h0), (1, .ref e1), (2, .ref oa), (3, .int 6)] := hl
  refine lv_iload_n hx hb dJx4a65c_add_72be8_0 rfl (lv_at hl 3 rfl) ?_
  refine lv_aload_n hx hb dJx4a65c_add_72be8_1 rfl (lv_at hl 2 rfl) ?_
  refine va_alen hx hb hK hP 1 1 rfl rfl (v := 10) (by exact rfl) dJx4a65c_add_72be8_2 ?_
  refine lv_icmp_ne (tgt := 11) hx hb dJx4a65c_add_72be8_3 (by decide) (fun _ => ?_) (fun h => absurd h (by decide))
  refine lv_aload_n hx hb dJx4a65c_add_72be8_11 rfl (lv_at hl 2 rfl) ?_
  refine lv_iload_n hx hb dJx4a65c_add_72be8_12 rfl (lv_at hl 3 rfl) ?_
  refine lv_aload_n hx hb dJx4a65c_add_72be8_13 rfl (lv_at hl 1 rfl) ?_
  refine va_astqM hx hb hK hP hD hS 1 1 rfl rfl (zo_anyI hK hR0 0 0 rfl rfl (hN.2.2.2.2.1 ("[I", "java/lang/Object") (by decide))) (by unfold vp_in; decide) dJx4a65c_add_72be8_14 (fun H1 locs hP hD hS => ?_)
  obtain ⟨f2, ef2⟩ : ∃ z : Nat → Option Nat, z = va_up fo 6 (some e1) := ⟨_, rfl⟩
  have k3 : f2 0 = some d0 := by rw [ef2]; exact (va_up_ne _ _ (by decide)).trans (ho0)
  have k4 : f2 1 = some d1 := by rw [ef2]; exact (va_up_ne _ _ (by decide)).trans (ho1)
  have k5 : f2 2 = some d2 := by rw [ef2]; exact (va_up_ne _ _ (by decide)).trans (ho2)
  have k6 : f2 3 = some d3 := by rw [ef2]; exact (va_up_ne _ _ (by decide)).trans (ho3)
  have k7 : f2 4 = some d4 := by rw [ef2]; exact (va_up_ne _ _ (by decide)).trans (ho4)
  have k8 : f2 5 = some d5 := by rw [ef2]; exact (va_up_ne _ _ (by decide)).trans (ho5)
  have k9 : f2 6 = some e1 := by rw [ef2]; exact va_up_self _ _ _
  have hP : va_P (dC, dI) vwCl [(h0, .inr (1, [.int 7, .ref oa, .int 6])), (oa, .inl (cO, 10, .inr (.inr (.inr (.inr f2)))))] H1 := by rw [ef2]; exact hP
  have hD : va_D A [(h0, .inr (1, [.int 7, .ref oa, .int 6])), (oa, .inl (cO, 10, .inr (.inr (.inr (.inr f2)))))] := by rw [ef2]; exact hD
  refine lv_aload_n hx hb dJx4a65c_add_72be8_15 rfl (lv_at hl 0 rfl) ?_
  refine lv_iload_n hx hb dJx4a65c_add_72be8_16 rfl (lv_at hl 3 rfl) ?_
  refine lv_iconst (v := 1) hx hb dJx4a65c_add_72be8_17 (by decide) ?_
  refine lv_iadd hx hb dJx4a65c_add_72be8_18 ?_
  refine zo_i (v := 7) (by decide) ?_
  refine va_put (D := (dC, dI)) (ci := 1) (v := .int 7) (ty := .int) (C := RJx4a65c) (T := TJx4a65c) (N := 3) hx hb hts zi_Jx4a65c_add_72be8_Jx4a65c tyJx4a65c tyJx4a65c_ok nmJx4a65c hown hK hP hD hS 0 rfl rfl 2 (by decide) (hts (.fieldLink RJx4a65c 48 "java/util/ArrayList" "size" "I") (by decide +kernel)) (fun _ h9 => h9) rfl (by decide +kernel) rfl rfl (Nat.le_of_ble_eq_true rfl) dJx4a65c_add_72be8_19 (fun H10 locs hP hD hS => ?_)
  have hP : va_P (dC, dI) vwCl [(h0, .inr (1, [.int 7, .ref oa, .int 7])), (oa, .inl (cO, 10, .inr (.inr (.inr (.inr f2)))))] H10 := hP
  have hD : va_D A [(h0, .inr (1, [.int 7, .ref oa, .int 7])), (oa, .inl (cO, 10, .inr (.inr (.inr (.inr f2)))))] := hD
  refine W.widen (k := 0) (n := 0) (Nat.le_of_ble_eq_true rfl) (Nat.le_of_ble_eq_true rfl) ?_
  have hP9 := hP.sub (ws' := [(h0, .inr (1, [.int 7, .ref oa, .int 7])), (oa, .inl (cO, 10, .inr (.inr (.inr (.inr f2)))))]) [0, 1] rfl
  have hD9 := hD.sub (ws' := [(h0, .inr (1, [.int 7, .ref oa, .int 7])), (oa, .inl (cO, 10, .inr (.inr (.inr (.inr f2)))))]) [0, 1] (by decide) rfl
  have hK9 := hK.sub (tys' := [(cO, .object "java/lang/Object")]) [1] rfl
  exact W.vret hx hb hr (fun t ht hW => ⟨⟨(), rfl, trivial, ⟨f2, ⟨k3, k4, k5, k6, k7, k8, k9⟩, by rw [ht]; exact hP9, hD9, va_K.moved hW.alike hK9⟩⟩, hS.F ht⟩) hS.2.2 dJx4a65c_add_72be8_22
set_option maxHeartbeats 4000000 in
set_option maxRecDepth 100000 in
theorem cz_Qadd_6 (l : Launch) (dC : Nat → ClassId) (dI : Nat → Nat → Nat) (ed sz : Nat) (e1 : Nat) (cE : ClassId) (ne : Nat) (fe : Nat → Int32) (h0 : Nat) (oa : Nat) (cO : ClassId) (fo : Nat → Option Nat) (d0 : Nat) (d1 : Nat) (d2 : Nat) (d3 : Nat) (d4 : Nat) (d5 : Nat) (ho0 : fo 0 = some d0) (ho1 : fo 1 = some d1) (ho2 : fo 2 = some d2) (ho3 : fo 3 = some d3) (ho4 : fo 4 = some d4) (ho5 : fo 5 = some d5) : Met l yJx4a65c_add_9ea2d wsJx4a65c_add_9ea2d ({ frames := 1, cells := 0, slots := 0, locals := 23 } : Jvm.Room) (va_Pc [.ref h0, .ref e1] (zB dC dI ed sz [(e1, .inl (cE, ne, .inl fe))] [(h0, .inr (1, [.int 6, .ref oa, .int 6])), (oa, .inl (cO, 10, .inr (.inr (.inr (.inr fo)))))] [(cE, .int), (cO, .object "java/lang/Object")])) (va_Qi (fun (r : Int32) (_ : Unit) => r = 1) (fun (_ : Unit) (t : State) => ∃ (go : Nat → Option Nat), (go 0 = some d0 ∧ go 1 = some d1 ∧ go 2 = some d2 ∧ go 3 = some d3 ∧ go 4 = some d4 ∧ go 5 = some d5 ∧ go 6 = some e1) ∧ va_P (dC, dI) vwCl [(h0, .inr (1, [.int 7, .ref oa, .int 7])), (oa, .inl (cO, 10, .inr (.inr (.inr (.inr go)))))] t.heap ∧ va_D (va_A [(h0, .inr (1, [.int 6, .ref oa, .int 6])), (oa, .inl (cO, 10, .inr (.inr (.inr (.inr fo)))))] sz) [(h0, .inr (1, [.int 7, .ref oa, .int 7])), (oa, .inl (cO, 10, .inr (.inr (.inr (.inr go)))))] ∧ va_K (dC, dI) vwCl [(cO, .object "java/lang/Object")] t) (va_A [(h0, .inr (1, [.int 6, .ref oa, .int 6])), (oa, .inl (cO, 10, .inr (.inr (.inr (.inr fo)))))] sz)) 0 0 (va_A [(h0, .inr (1, [.int 6, .ref oa, .int 6])), (oa, .inl (cO, 10, .inr (.inr (.inr (.inr fo)))))] sz) := by
  refine Met.ofW (cc := cJx4a65c_add_9ea2d) (maxL := 2) (ret := (some .boolean)) (by decide) rfl ?_
  intro p e s m args below meth c s₁ B hml hv
  obtain ⟨rfl, hsz, hR0, hP, hK, hD0, hN, hH, hX0⟩ := hv
  have hx := B.exec
  have hb := B.bytes
  have hr := B.returns
  have hts := atoms_spec (ws := wsJx4a65c_add_9ea2d) B.pre
  have hown : s.vm.findClass RJx4a65c = some m.cls := findClass_of_methodNamed B.named
  have hlocks := B.notSynchronized
  subst hsz
  have hD := hD0.self (sz := s.heap.size)
  have hAr := zx_A hX0 hR0
  generalize hAe : va_A [(h0, .inr (1, [.int 6, .ref oa, .int 6])), (oa, .inl (cO, 10, .inr (.inr (.inr (.inr fo)))))] s.heap.size = A at hD hAr hH ⊢
  have hA : ∀ q : Nat, s.heap.size ≤ q → A q := fun q h => by rw [← hAe]; exact Or.inr h
  have hS : va_S A s.heap s.heap [] := va_S.rf
  have hl := lv_entry ([.ref h0, .ref e1]) (n := 2) (Nat.le_of_ble_eq_true rfl)
  rw [lg_entry_eq]
  generalize (lg_sl ([.ref h0, .ref e1]) ++ List.replicate (2 - (lg_sl ([.ref h0, .ref e1])).length) Slot.unset).toArray = ls at hl ⊢
  have hl : lv_has ls 2 [(0, .ref h0), (1, .ref e1)] := hl
  refine lv_aload_n hx hb dJx4a65c_add_9ea2d_0 rfl (lv_at hl 0 rfl) ?_
  refine lv_dup hx hb dJx4a65c_add_9ea2d_1 rfl ?_
  refine va_get (D := (dC, dI)) (ci := 1) (v := .int 6) (C := RJx4a65c) (T := TJx4a65c) (N := 3) hx hb hts zi_Jx4a65c_add_9ea2d_Jx4a65c hown hK hP 0 rfl rfl 0 (by decide) (hts (.fieldLink RJx4a65c 63 "java/util/ArrayList" "modCount" "I") (by decide +kernel)) (fun x9 h9 => u_same (hts (.sameField "java/util/ArrayList" "java/util/AbstractList" "modCount" "I") (by decide +kernel)) x9 h9) rfl dJx4a65c_add_9ea2d_2 ?_
  refine lv_iconst (v := 1) hx hb dJx4a65c_add_9ea2d_5 (by decide) ?_
  refine lv_iadd hx hb dJx4a65c_add_9ea2d_6 ?_
  refine zo_i (v := 7) (by decide) ?_
  refine va_put (D := (dC, dI)) (ci := 1) (v := .int 7) (ty := .int) (C := RJx4a65c) (T := TJx4a65c) (N := 3) hx hb hts zi_Jx4a65c_add_9ea2d_Jx4a65c tyJx4a65c tyJx4a65c_ok nmJx4a65c hown hK hP hD hS 0 rfl rfl 0 (by decide) (hts (.fieldLink RJx4a65c 63 "java/util/ArrayList" "modCount" "I") (by decide +kernel)) (fun x9 h9 => u_same (hts (.sameField "java/util/ArrayList" "java/util/AbstractList" "modCount" "I") (by decide +kernel)) x9 h9) rfl (by decide +kernel) rfl rfl (Nat.le_of_ble_eq_true rfl) dJx4a65c_add_9ea2d_7 (fun H1 locs hP hD hS => ?_)
  have hP : va_P (dC, dI) vwCl [(h0, .inr (1, [.int 7, .ref oa, .int 6])), (oa, .inl (cO, 10, .inr (.inr (.inr (.inr fo)))))] H1 := hP
  have hD : va_D A [(h0, .inr (1, [.int 7, .ref oa, .int 6])), (oa, .inl (cO, 10, .inr (.inr (.inr (.inr fo)))))] := hD
  refine lv_aload_n hx hb dJx4a65c_add_9ea2d_10 rfl (lv_at hl 0 rfl) ?_
  refine lv_aload_n hx hb dJx4a65c_add_9ea2d_11 rfl (lv_at hl 1 rfl) ?_
  refine lv_aload_n hx hb dJx4a65c_add_9ea2d_12 rfl (lv_at hl 0 rfl) ?_
  refine va_get (D := (dC, dI)) (ci := 1) (v := .ref oa) (C := RJx4a65c) (T := TJx4a65c) (N := 3) hx hb hts zi_Jx4a65c_add_9ea2d_Jx4a65c hown hK hP 0 rfl rfl 1 (by decide) (hts (.fieldLink RJx4a65c 9 "java/util/ArrayList" "elementData" "[Ljava/lang/Object;") (by decide +kernel)) (fun _ h9 => h9) rfl dJx4a65c_add_9ea2d_13 ?_
  refine lv_aload_n hx hb dJx4a65c_add_9ea2d_16 rfl (lv_at hl 0 rfl) ?_
  refine va_get (D := (dC, dI)) (ci := 1) (v := .int 6) (C := RJx4a65c) (T := TJx4a65c) (N := 3) hx hb hts zi_Jx4a65c_add_9ea2d_Jx4a65c hown hK hP 0 rfl rfl 2 (by decide) (hts (.fieldLink RJx4a65c 48 "java/util/ArrayList" "size" "I") (by decide +kernel)) (fun _ h9 => h9) rfl dJx4a65c_add_9ea2d_17 ?_
  have hPr := ((zo_R hR0 hS hAr)).sub (ws' := [(e1, .inl (cE, ne, .inl fe))]) [0] rfl
  have hPc := hP.sub (ws' := [(h0, .inr (1, [.int 7, .ref oa, .int 6])), (oa, .inl (cO, 10, .inr (.inr (.inr (.inr fo)))))]) [0, 1] rfl
  have hDc := hD.sub (ws' := [(h0, .inr (1, [.int 7, .ref oa, .int 6])), (oa, .inl (cO, 10, .inr (.inr (.inr (.inr fo)))))]) [0, 1] (by decide) rfl
  have hKc := hK.sub (tys' := [(cE, .int), (cO, .object "java/lang/Object")]) [0, 1] rfl
  have hFc := va_free (wc := [(h0, .inr (1, [.int 7, .ref oa, .int 6])), (oa, .inl (cO, 10, .inr (.inr (.inr (.inr fo)))))]) hD hS hA [0, 1] rfl
  refine va_callv (va_runV (As := [.ref e1, .ref oa, .int 6]) (rest := []) ⟨hx, hb, hml, hown, hts⟩ (cz_Qadd3_6 l dC dI ed H1.size e1 cE ne fe h0 oa cO fo d0 d1 d2 d3 d4 d5 ho0 ho1 ho2 ho3 ho4 ho5) (cwV 3 hts gJx4a65c_add_9ea2d_Jx4a65c_add_72be8 rfl rfl rfl (by decide +kernel) ⟨Nat.le_of_ble_eq_true rfl, Nat.le_of_ble_eq_true rfl⟩) ⟨zb_blind, va_recv hK hP (ci := 1) (q0 := 0) rfl rfl, fun U hU hW => ⟨rfl, zb_mk hU hW hPr hPc hKc hDc hN hH hS hFc (zx_cons (zx_r (hAr _ (List.mem_of_getElem? (i := 0) rfl)) hDc) zx_nil)⟩⟩ rfl rfl hl.1 rfl (lv_room (Nat.le_of_ble_eq_true rfl)) dJx4a65c_add_9ea2d_20 ⟨Nat.le_of_ble_eq_true rfl, Nat.le_of_ble_eq_true rfl⟩) hS (fun q _ h => hFc q h) hFc (fun u t H2 locs ht hvm hw hB hz1 hk1 hS => ?_)
  obtain ⟨go_4, ⟨k4_0, k4_1, k4_2, k4_3, k4_4, k4_5, k4_6⟩, hP1, hD1, hK1⟩ := hB
  rw [ht] at hP1
  obtain ⟨hP, hD⟩ := va_join (wr := []) (w1 := [(h0, .inr (1, [.int 7, .ref oa, .int 7])), (oa, .inl (cO, 10, .inr (.inr (.inr (.inr go_4)))))]) hP hD [0, 1] [] rfl rfl (by decide) (by decide) hk1 hFc hP1 hD1
  have hP : va_P (dC, dI) vwCl [(h0, .inr (1, [.int 7, .ref oa, .int 7])), (oa, .inl (cO, 10, .inr (.inr (.inr (.inr go_4)))))] H2 := hP
  have hD : va_D A [(h0, .inr (1, [.int 7, .ref oa, .int 7])), (oa, .inl (cO, 10, .inr (.inr (.inr (.inr go_4)))))] := hD
  refine lv_iconst (v := 1) hx hb dJx4a65c_add_9ea2d_23 (by decide) ?_
  refine W.widen (k := 0) (n := 0) (Nat.le_of_ble_eq_true rfl) (Nat.le_of_ble_eq_true rfl) ?_
  have hP9 := hP.sub (ws' := [(h0, .inr (1, [.int 7, .ref oa, .int 7])), (oa, .inl (cO, 10, .inr (.inr (.inr (.inr go_4)))))]) [0, 1] rfl
  have hD9 := hD.sub (ws' := [(h0, .inr (1, [.int 7, .ref oa, .int 7])), (oa, .inl (cO, 10, .inr (.inr (.inr (.inr go_4)))))]) [0, 1] (by decide) rfl
  have hK9 := hK.sub (tys' := [(cO, .object "java/lang/Object")]) [1] rfl
  exact W.zret hx hb hr (by decide) (fun t ht hW => ⟨⟨1, (), rfl, rfl, ⟨go_4, ⟨k4_0, k4_1, k4_2, k4_3, k4_4, k4_5, k4_6⟩, by rw [ht]; exact hP9, hD9, va_K.moved hW.alike hK9⟩⟩, hS.F ht⟩) hS.2.2 dJx4a65c_add_9ea2d_24
set_option maxHeartbeats 4000000 in
set_option maxRecDepth 100000 in
theorem cz_Qadd3_7 (l : Launch) (dC : Nat → ClassId) (dI : Nat → Nat → Nat) (ed sz : Nat) (e1 : Nat) (cE : ClassId) (ne : Nat) (fe : Nat → Int32) (h0 : Nat) (oa : Nat) (cO : ClassId) (fo : Nat → Option Nat) (d0 : Nat) (d1 : Nat) (d2 : Nat) (d3 : Nat) (d4 : Nat) (d5 : Nat) (d6 : Nat) (ho0 : fo 0 = some d0) (ho1 : fo 1 = some d1) (ho2 : fo 2 = some d2) (ho3 : fo 3 = some d3) (ho4 : fo 4 = some d4) (ho5 : fo 5 = some d5) (ho6 : fo 6 = some d6) : Met l yJx4a65c_add_72be8 wsJx4a65c_add_72be8 ({ frames := 0, cells := 0, slots := 0, locals := 0 } : Jvm.Room) (va_Pc [.ref h0, .ref e1, .ref oa, .int 7] (zB dC dI ed sz [(e1, .inl (cE, ne, .inl fe))] [(h0, .inr (1, [.int 8, .ref oa, .int 7])), (oa, .inl (cO, 10, .inr (.inr (.inr (.inr fo)))))] [(cE, .int), (cO, .object "java/lang/Object")])) (va_Qv (fun (_ : Unit) => True) (fun (_ : Unit) (t : State) => ∃ (go : Nat → Option Nat), (go 0 = some d0 ∧ go 1 = some d1 ∧ go 2 = some d2 ∧ go 3 = some d3 ∧ go 4 = some d4 ∧ go 5 = some d5 ∧ go 6 = some d6 ∧ go 7 = some e1) ∧ va_P (dC, dI) vwCl [(h0, .inr (1, [.int 8, .ref oa, .int 8])), (oa, .inl (cO, 10, .inr (.inr (.inr (.inr go)))))] t.heap ∧ va_D (va_A [(h0, .inr (1, [.int 8, .ref oa, .int 7])), (oa, .inl (cO, 10, .inr (.inr (.inr (.inr fo)))))] sz) [(h0, .inr (1, [.int 8, .ref oa, .int 8])), (oa, .inl (cO, 10, .inr (.inr (.inr (.inr go)))))] ∧ va_K (dC, dI) vwCl [(cO, .object "java/lang/Object")] t) (va_A [(h0, .inr (1, [.int 8, .ref oa, .int 7])), (oa, .inl (cO, 10, .inr (.inr (.inr (.inr fo)))))] sz)) 0 0 (va_A [(h0, .inr (1, [.int 8, .ref oa, .int 7])), (oa, .inl (cO, 10, .inr (.inr (.inr (.inr fo)))))] sz) := by
  refine Met.ofW (cc := cJx4a65c_add_72be8) (maxL := 4) (ret := none) (by decide) rfl ?_
  intro p e s m args below meth c s₁ B hml hv
  obtain ⟨rfl, hsz, hR0, hP, hK, hD0, hN, hH, hX0⟩ := hv
  have hx := B.exec
  have hb := B.bytes
  have hr := B.returns
  have hts := atoms_spec (ws := wsJx4a65c_add_72be8) B.pre
  have hown : s.vm.findClass RJx4a65c = some m.cls := findClass_of_methodNamed B.named
  have hlocks := B.notSynchronized
  subst hsz
  have hD := hD0.self (sz := s.heap.size)
  have hAr := zx_A hX0 hR0
  generalize hAe : va_A [(h0, .inr (1, [.int 8, .ref oa, .int 7])), (oa, .inl (cO, 10, .inr (.inr (.inr (.inr fo)))))] s.heap.size = A at hD hAr hH ⊢
  have hA : ∀ q : Nat, s.heap.size ≤ q → A q := fun q h => by rw [← hAe]; exact Or.inr h
  have hS : va_S A s.heap s.heap [] := va_S.rf
  have hl := lv_entry ([.ref h0, .ref e1, .ref oa, .int 7]) (n := 4) (Nat.le_of_ble_eq_true rfl)
  rw [lg_entry_eq]
  generalize (lg_sl ([.ref h0, .ref e1, .ref oa, .int 7]) ++ List.replicate (4 - (lg_sl ([.ref h0, .ref e1, .ref oa, .int 7])).length) Slot.unset).toArray = ls at hl ⊢
  have hl : lv_has ls 4 [(0, .ref h0), (1, .ref e1), (2, .ref oa), (3, .int 7)] := hl
  refine lv_iload_n hx hb dJx4a65c_add_72be8_0 rfl (lv_at hl 3 rfl) ?_
  refine lv_aload_n hx hb dJx4a65c_add_72be8_1 rfl (lv_at hl 2 rfl) ?_
  refine va_alen hx hb hK hP 1 1 rfl rfl (v := 10) (by exact rfl) dJx4a65c_add_72be8_2 ?_
  refine lv_icmp_ne (tgt := 11) hx hb dJx4a65c_add_72be8_3 (by decide) (fun _ => ?_) (fun h => absurd h (by decide))
  refine lv_aload_n hx hb dJx4a65c_add_72be8_11 rfl (lv_at hl 2 rfl) ?_
  refine lv_iload_n hx hb dJx4a65c_add_72be8_12 rfl (lv_at hl 3 rfl) ?_
  refine lv_aload_n hx hb dJx4a65c_add_72be8_13 rfl (lv_at hl 1 rfl) ?_
  refine va_astqM hx hb hK hP hD hS 1 1 rfl rfl (zo_anyI hK hR0 0 0 rfl rfl (hN.2.2.2.2.1 ("[I", "java/lang/Object") (by decide))) (by unfold vp_in; decide) dJx4a65c_add_72be8_14 (fun H1 locs hP hD hS => ?_)
  obtain ⟨f2, ef2⟩ : ∃ z : Nat → Option Nat, z = va_up fo 7 (some e1) := ⟨_, rfl⟩
  have k3 : f2 0 = some d0 := by rw [ef2]; exact (va_up_ne _ _ (by decide)).trans (ho0)
  have k4 : f2 1 = some d1 := by rw [ef2]; exact (va_up_ne _ _ (by decide)).trans (ho1)
  have k5 : f2 2 = some d2 := by rw [ef2]; exact (va_up_ne _ _ (by decide)).trans (ho2)
  have k6 : f2 3 = some d3 := by rw [ef2]; exact (va_up_ne _ _ (by decide)).trans (ho3)
  have k7 : f2 4 = some d4 := by rw [ef2]; exact (va_up_ne _ _ (by decide)).trans (ho4)
  have k8 : f2 5 = some d5 := by rw [ef2]; exact (va_up_ne _ _ (by decide)).trans (ho5)
  have k9 : f2 6 = some d6 := by rw [ef2]; exact (va_up_ne _ _ (by decide)).trans (ho6)
  have k10 : f2 7 = some e1 := by rw [ef2]; exact va_up_self _ _ _
  have hP : va_P (dC, dI) vwCl [(h0, .inr (1, [.int 8, .ref oa, .int 7])), (oa, .inl (cO, 10, .inr (.inr (.inr (.inr f2)))))] H1 := by rw [ef2]; exact hP
  have hD : va_D A [(h0, .inr (1, [.int 8, .ref oa, .int 7])), (oa, .inl (cO, 10, .inr (.inr (.inr (.inr f2)))))] := by rw [ef2]; exact hD
  refine lv_aload_n hx hb dJx4a65c_add_72be8_15 rfl (lv_at hl 0 rfl) ?_
  refine lv_iload_n hx hb dJx4a65c_add_72be8_16 rfl (lv_at hl 3 rfl) ?_
  refine lv_iconst (v := 1) hx hb dJx4a65c_add_72be8_17 (by decide) ?_
  refine lv_iadd hx hb dJx4a65c_add_72be8_18 ?_
  refine zo_i (v := 8) (by decide) ?_
  refine va_put (D := (dC, dI)) (ci := 1) (v := .int 8) (ty := .int) (C := RJx4a65c) (T := TJx4a65c) (N := 3) hx hb hts zi_Jx4a65c_add_72be8_Jx4a65c tyJx4a65c tyJx4a65c_ok nmJx4a65c hown hK hP hD hS 0 rfl rfl 2 (by decide) (hts (.fieldLink RJx4a65c 48 "java/util/ArrayList" "size" "I") (by decide +kernel)) (fun _ h9 => h9) rfl (by decide +kernel) rfl rfl (Nat.le_of_ble_eq_true rfl) dJx4a65c_add_72be8_19 (fun H11 locs hP hD hS => ?_)
  have hP : va_P (dC, dI) vwCl [(h0, .inr (1, [.int 8, .ref oa, .int 8])), (oa, .inl (cO, 10, .inr (.inr (.inr (.inr f2)))))] H11 := hP
  have hD : va_D A [(h0, .inr (1, [.int 8, .ref oa, .int 8])), (oa, .inl (cO, 10, .inr (.inr (.inr (.inr f2)))))] := hD
  refine W.widen (k := 0) (n := 0) (Nat.le_of_ble_eq_true rfl) (Nat.le_of_ble_eq_true rfl) ?_
  have hP9 := hP.sub (ws' := [(h0, .inr (1, [.int 8, .ref oa, .int 8])), (oa, .inl (cO, 10, .inr (.inr (.inr (.inr f2)))))]) [0, 1] rfl
  have hD9 := hD.sub (ws' := [(h0, .inr (1, [.int 8, .ref oa, .int 8])), (oa, .inl (cO, 10, .inr (.inr (.inr (.inr f2)))))]) [0, 1] (by decide) rfl
  have hK9 := hK.sub (tys' := [(cO, .object "java/lang/Object")]) [1] rfl
  exact W.vret hx hb hr (fun t ht hW => ⟨⟨(), rfl, trivial, ⟨f2, ⟨k3, k4, k5, k6, k7, k8, k9, k10⟩, by rw [ht]; exact hP9, hD9, va_K.moved hW.alike hK9⟩⟩, hS.F ht⟩) hS.2.2 dJx4a65c_add_72be8_22
set_option maxHeartbeats 4000000 in
set_option maxRecDepth 100000 in
theorem cz_Qadd_7 (l : Launch) (dC : Nat → ClassId) (dI : Nat → Nat → Nat) (ed sz : Nat) (e1 : Nat) (cE : ClassId) (ne : Nat) (fe : Nat → Int32) (h0 : Nat) (oa : Nat) (cO : ClassId) (fo : Nat → Option Nat) (d0 : Nat) (d1 : Nat) (d2 : Nat) (d3 : Nat) (d4 : Nat) (d5 : Nat) (d6 : Nat) (ho0 : fo 0 = some d0) (ho1 : fo 1 = some d1) (ho2 : fo 2 = some d2) (ho3 : fo 3 = some d3) (ho4 : fo 4 = some d4) (ho5 : fo 5 = some d5) (ho6 : fo 6 = some d6) : Met l yJx4a65c_add_9ea2d wsJx4a65c_add_9ea2d ({ frames := 1, cells := 0, slots := 0, locals := 23 } : Jvm.Room) (va_Pc [.ref h0, .ref e1] (zB dC dI ed sz [(e1, .inl (cE, ne, .inl fe))] [(h0, .inr (1, [.int 7, .ref oa, .int 7])), (oa, .inl (cO, 10, .inr (.inr (.inr (.inr fo)))))] [(cE, .int), (cO, .object "java/lang/Object")])) (va_Qi (fun (r : Int32) (_ : Unit) => r = 1) (fun (_ : Unit) (t : State) => ∃ (go : Nat → Option Nat), (go 0 = some d0 ∧ go 1 = some d1 ∧ go 2 = some d2 ∧ go 3 = some d3 ∧ go 4 = some d4 ∧ go 5 = some d5 ∧ go 6 = some d6 ∧ go 7 = some e1) ∧ va_P (dC, dI) vwCl [(h0, .inr (1, [.int 8, .ref oa, .int 8])), (oa, .inl (cO, 10, .inr (.inr (.inr (.inr go)))))] t.heap ∧ va_D (va_A [(h0, .inr (1, [.int 7, .ref oa, .int 7])), (oa, .inl (cO, 10, .inr (.inr (.inr (.inr fo)))))] sz) [(h0, .inr (1, [.int 8, .ref oa, .int 8])), (oa, .inl (cO, 10, .inr (.inr (.inr (.inr go)))))] ∧ va_K (dC, dI) vwCl [(cO, .object "java/lang/Object")] t) (va_A [(h0, .inr (1, [.int 7, .ref oa, .int 7])), (oa, .inl (cO, 10, .inr (.inr (.inr (.inr fo)))))] sz)) 0 0 (va_A [(h0, .inr (1, [.int 7, .ref oa, .int 7])), (oa, .inl (cO, 10, .inr (.inr (.inr (.inr fo)))))] sz) := by
  refine Met.ofW (cc := cJx4a65c_add_9ea2d) (maxL := 2) (ret := (some .boolean)) (by decide) rfl ?_
  intro p e s m args below meth c s₁ B hml hv
  obtain ⟨rfl, hsz, hR0, hP, hK, hD0, hN, hH, hX0⟩ := hv
  have hx := B.exec
  have hb := B.bytes
  have hr := B.returns
  have hts := atoms_spec (ws := wsJx4a65c_add_9ea2d) B.pre
  have hown : s.vm.findClass RJx4a65c = some m.cls := findClass_of_methodNamed B.named
  have hlocks := B.notSynchronized
  subst hsz
  have hD := hD0.self (sz := s.heap.size)
  have hAr := zx_A hX0 hR0
  generalize hAe : va_A [(h0, .inr (1, [.int 7, .ref oa, .int 7])), (oa, .inl (cO, 10, .inr (.inr (.inr (.inr fo)))))] s.heap.size = A at hD hAr hH ⊢
  have hA : ∀ q : Nat, s.heap.size ≤ q → A q := fun q h => by rw [← hAe]; exact Or.inr h
  have hS : va_S A s.heap s.heap [] := va_S.rf
  have hl := lv_entry ([.ref h0, .ref e1]) (n := 2) (Nat.le_of_ble_eq_true rfl)
  rw [lg_entry_eq]
  generalize (lg_sl ([.ref h0, .ref e1]) ++ List.replicate (2 - (lg_sl ([.ref h0, .ref e1])).length) Slot.unset).toArray = ls at hl ⊢
  have hl : lv_has ls 2 [(0, .ref h0), (1, .ref e1)] := hl
  refine lv_aload_n hx hb dJx4a65c_add_9ea2d_0 rfl (lv_at hl 0 rfl) ?_
  refine lv_dup hx hb dJx4a65c_add_9ea2d_1 rfl ?_
  refine va_get (D := (dC, dI)) (ci := 1) (v := .int 7) (C := RJx4a65c) (T := TJx4a65c) (N := 3) hx hb hts zi_Jx4a65c_add_9ea2d_Jx4a65c hown hK hP 0 rfl rfl 0 (by decide) (hts (.fieldLink RJx4a65c 63 "java/util/ArrayList" "modCount" "I") (by decide +kernel)) (fun x9 h9 => u_same (hts (.sameField "java/util/ArrayList" "java/util/AbstractList" "modCount" "I") (by decide +kernel)) x9 h9) rfl dJx4a65c_add_9ea2d_2 ?_
  refine lv_iconst (v := 1) hx hb dJx4a65c_add_9ea2d_5 (by decide) ?_
  refine lv_iadd hx hb dJx4a65c_add_9ea2d_6 ?_
  refine zo_i (v := 8) (by decide) ?_
  refine va_put (D := (dC, dI)) (ci := 1) (v := .int 8) (ty := .int) (C := RJx4a65c) (T := TJx4a65c) (N := 3) hx hb hts zi_Jx4a65c_add_9ea2d_Jx4a65c tyJx4a65c tyJx4a65c_ok nmJx4a65c hown hK hP hD hS 0 rfl rfl 0 (by decide) (hts (.fieldLink RJx4a65c 63 "java/util/ArrayList" "modCount" "I") (by decide +kernel)) (fun x9 h9 => u_same (hts (.sameField "java/util/ArrayList" "java/util/AbstractList" "modCount" "I") (by decide +kernel)) x9 h9) rfl (by decide +kernel) rfl rfl (Nat.le_of_ble_eq_true rfl) dJx4a65c_add_9ea2d_7 (fun H1 locs hP hD hS => ?_)
  have hP : va_P (dC, dI) vwCl [(h0, .inr (1, [.int 8, .ref oa, .int 7])), (oa, .inl (cO, 10, .inr (.inr (.inr (.inr fo)))))] H1 := hP
  have hD : va_D A [(h0, .inr (1, [.int 8, .ref oa, .int 7])), (oa, .inl (cO, 10, .inr (.inr (.inr (.inr fo)))))] := hD
  refine lv_aload_n hx hb dJx4a65c_add_9ea2d_10 rfl (lv_at hl 0 rfl) ?_
  refine lv_aload_n hx hb dJx4a65c_add_9ea2d_11 rfl (lv_at hl 1 rfl) ?_
  refine lv_aload_n hx hb dJx4a65c_add_9ea2d_12 rfl (lv_at hl 0 rfl) ?_
  refine va_get (D := (dC, dI)) (ci := 1) (v := .ref oa) (C := RJx4a65c) (T := TJx4a65c) (N := 3) hx hb hts zi_Jx4a65c_add_9ea2d_Jx4a65c hown hK hP 0 rfl rfl 1 (by decide) (hts (.fieldLink RJx4a65c 9 "java/util/ArrayList" "elementData" "[Ljava/lang/Object;") (by decide +kernel)) (fun _ h9 => h9) rfl dJx4a65c_add_9ea2d_13 ?_
  refine lv_aload_n hx hb dJx4a65c_add_9ea2d_16 rfl (lv_at hl 0 rfl) ?_
  refine va_get (D := (dC, dI)) (ci := 1) (v := .int 7) (C := RJx4a65c) (T := TJx4a65c) (N := 3) hx hb hts zi_Jx4a65c_add_9ea2d_Jx4a65c hown hK hP 0 rfl rfl 2 (by decide) (hts (.fieldLink RJx4a65c 48 "java/util/ArrayList" "size" "I") (by decide +kernel)) (fun _ h9 => h9) rfl dJx4a65c_add_9ea2d_17 ?_
  have hPr := ((zo_R hR0 hS hAr)).sub (ws' := [(e1, .inl (cE, ne, .inl fe))]) [0] rfl
  have hPc := hP.sub (ws' := [(h0, .inr (1, [.int 8, .ref oa, .int 7])), (oa, .inl (cO, 10, .inr (.inr (.inr (.inr fo)))))]) [0, 1] rfl
  have hDc := hD.sub (ws' := [(h0, .inr (1, [.int 8, .ref oa, .int 7])), (oa, .inl (cO, 10, .inr (.inr (.inr (.inr fo)))))]) [0, 1] (by decide) rfl
  have hKc := hK.sub (tys' := [(cE, .int), (cO, .object "java/lang/Object")]) [0, 1] rfl
  have hFc := va_free (wc := [(h0, .inr (1, [.int 8, .ref oa, .int 7])), (oa, .inl (cO, 10, .inr (.inr (.inr (.inr fo)))))]) hD hS hA [0, 1] rfl
  refine va_callv (va_runV (As := [.ref e1, .ref oa, .int 7]) (rest := []) ⟨hx, hb, hml, hown, hts⟩ (cz_Qadd3_7 l dC dI ed H1.size e1 cE ne fe h0 oa cO fo d0 d1 d2 d3 d4 d5 d6 ho0 ho1 ho2 ho3 ho4 ho5 ho6) (cwV 3 hts gJx4a65c_add_9ea2d_Jx4a65c_add_72be8 rfl rfl rfl (by decide +kernel) ⟨Nat.le_of_ble_eq_true rfl, Nat.le_of_ble_eq_true rfl⟩) ⟨zb_blind, va_recv hK hP (ci := 1) (q0 := 0) rfl rfl, fun U hU hW => ⟨rfl, zb_mk hU hW hPr hPc hKc hDc hN hH hS hFc (zx_cons (zx_r (hAr _ (List.mem_of_getElem? (i := 0) rfl)) hDc) zx_nil)⟩⟩ rfl rfl hl.1 rfl (lv_room (Nat.le_of_ble_eq_true rfl)) dJx4a65c_add_9ea2d_20 ⟨Nat.le_of_ble_eq_true rfl, Nat.le_of_ble_eq_true rfl⟩) hS (fun q _ h => hFc q h) hFc (fun u t H2 locs ht hvm hw hB hz1 hk1 hS => ?_)
  obtain ⟨go_4, ⟨k4_0, k4_1, k4_2, k4_3, k4_4, k4_5, k4_6, k4_7⟩, hP1, hD1, hK1⟩ := hB
  rw [ht] at hP1
  obtain ⟨hP, hD⟩ := va_join (wr := []) (w1 := [(h0, .inr (1, [.int 8, .ref oa, .int 8])), (oa, .inl (cO, 10, .inr (.inr (.inr (.inr go_4)))))]) hP hD [0, 1] [] rfl rfl (by decide) (by decide) hk1 hFc hP1 hD1
  have hP : va_P (dC, dI) vwCl [(h0, .inr (1, [.int 8, .ref oa, .int 8])), (oa, .inl (cO, 10, .inr (.inr (.inr (.inr go_4)))))] H2 := hP
  have hD : va_D A [(h0, .inr (1, [.int 8, .ref oa, .int 8])), (oa, .inl (cO, 10, .inr (.inr (.inr (.inr go_4)))))] := hD
  refine lv_iconst (v := 1) hx hb dJx4a65c_add_9ea2d_23 (by decide) ?_
  refine W.widen (k := 0) (n := 0) (Nat.le_of_ble_eq_true rfl) (Nat.le_of_ble_eq_true rfl) ?_
  have hP9 := hP.sub (ws' := [(h0, .inr (1, [.int 8, .ref oa, .int 8])), (oa, .inl (cO, 10, .inr (.inr (.inr (.inr go_4)))))]) [0, 1] rfl
  have hD9 := hD.sub (ws' := [(h0, .inr (1, [.int 8, .ref oa, .int 8])), (oa, .inl (cO, 10, .inr (.inr (.inr (.inr go_4)))))]) [0, 1] (by decide) rfl
  have hK9 := hK.sub (tys' := [(cO, .object "java/lang/Object")]) [1] rfl
  exact W.zret hx hb hr (by decide) (fun t ht hW => ⟨⟨1, (), rfl, rfl, ⟨go_4, ⟨k4_0, k4_1, k4_2, k4_3, k4_4, k4_5, k4_6, k4_7⟩, by rw [ht]; exact hP9, hD9, va_K.moved hW.alike hK9⟩⟩, hS.F ht⟩) hS.2.2 dJx4a65c_add_9ea2d_24
set_option maxHeartbeats 4000000 in
set_option maxRecDepth 100000 in
theorem cz_Qadd3_8 (l : Launch) (dC : Nat → ClassId) (dI : Nat → Nat → Nat) (ed sz : Nat) (e1 : Nat) (cE : ClassId) (ne : Nat) (fe : Nat → Int32) (h0 : Nat) (oa : Nat) (cO : ClassId) (fo : Nat → Option Nat) (d0 : Nat) (d1 : Nat) (d2 : Nat) (d3 : Nat) (d4 : Nat) (d5 : Nat) (d6 : Nat) (d7 : Nat) (ho0 : fo 0 = some d0) (ho1 : fo 1 = some d1) (ho2 : fo 2 = some d2) (ho3 : fo 3 = some d3) (ho4 : fo 4 = some d4) (ho5 : fo 5 = some d5) (ho6 : fo 6 = some d6) (ho7 : fo 7 = some d7) : Met l yJx4a65c_add_72be8 wsJx4a65c_add_72be8 ({ frames := 0, cells := 0, slots := 0, locals := 0 } : Jvm.Room) (va_Pc [.ref h0, .ref e1, .ref oa, .int 8] (zB dC dI ed sz [(e1, .inl (cE, ne, .inl fe))] [(h0, .inr (1, [.int 9, .ref oa, .int 8])), (oa, .inl (cO, 10, .inr (.inr (.inr (.inr fo)))))] [(cE, .int), (cO, .object "java/lang/Object")])) (va_Qv (fun (_ : Unit) => True) (fun (_ : Unit) (t : State) => ∃ (go : Nat → Option Nat), (go 0 = some d0 ∧ go 1 = some d1 ∧ go 2 = some d2 ∧ go 3 = some d3 ∧ go 4 = some d4 ∧ go 5 = some d5 ∧ go 6 = some d6 ∧ go 7 = some d7 ∧ go 8 = some e1) ∧ va_P (dC, dI) vwCl [(h0, .inr (1, [.int 9, .ref oa, .int 9])), (oa, .inl (cO, 10, .inr (.inr (.inr (.inr go)))))] t.heap ∧ va_D (va_A [(h0, .inr (1, [.int 9, .ref oa, .int 8])), (oa, .inl (cO, 10, .inr (.inr (.inr (.inr fo)))))] sz) [(h0, .inr (1, [.int 9, .ref oa, .int 9])), (oa, .inl (cO, 10, .inr (.inr (.inr (.inr go)))))] ∧ va_K (dC, dI) vwCl [(cO, .object "java/lang/Object")] t) (va_A [(h0, .inr (1, [.int 9, .ref oa, .int 8])), (oa, .inl (cO, 10, .inr (.inr (.inr (.inr fo)))))] sz)) 0 0 (va_A [(h0, .inr (1, [.int 9, .ref oa, .int 8])), (oa, .inl (cO, 10, .inr (.inr (.inr (.inr fo)))))] sz) := by
  refine Met.ofW (cc := cJx4a65c_add_72be8) (maxL := 4) (ret := none) (by decide) rfl ?_
  intro p e s m args below meth c s₁ B hml hv
  obtain ⟨rfl, hsz, hR0, hP, hK, hD0, hN, hH, hX0⟩ := hv
  have hx := B.exec
  have hb := B.bytes
  have hr := B.returns
  have hts := atoms_spec (ws := wsJx4a65c_add_72be8) B.pre
  have hown : s.vm.findClass RJx4a65c = some m.cls := findClass_of_methodNamed B.named
  have hlocks := B.notSynchronized
  subst hsz
  have hD := hD0.self (sz := s.heap.size)
  have hAr := zx_A hX0 hR0
  generalize hAe : va_A [(h0, .inr (1, [.int 9, .ref oa, .int 8])), (oa, .inl (cO, 10, .inr (.inr (.inr (.inr fo)))))] s.heap.size = A at hD hAr hH ⊢
  have hA : ∀ q : Nat, s.heap.size ≤ q → A q := fun q h => by rw [← hAe]; exact Or.inr h
  have hS : va_S A s.heap s.heap [] := va_S.rf
  have hl := lv_entry ([.ref h0, .ref e1, .ref oa, .int 8]) (n := 4) (Nat.le_of_ble_eq_true rfl)
  rw [lg_entry_eq]
  generalize (lg_sl ([.ref h0, .ref e1, .ref oa, .int 8]) ++ List.replicate (4 - (lg_sl ([.ref h0, .ref e1, .ref oa, .int 8])).length) Slot.unset).toArray = ls at hl ⊢
  have hl : lv_has ls 4 [(0, .ref h0), (1, .ref e1), (2, .ref oa), (3, .int 8)] := hl
  refine lv_iload_n hx hb dJx4a65c_add_72be8_0 rfl (lv_at hl 3 rfl) ?_
  refine lv_aload_n hx hb dJx4a65c_add_72be8_1 rfl (lv_at hl 2 rfl) ?_
  refine va_alen hx hb hK hP 1 1 rfl rfl (v := 10) (by exact rfl) dJx4a65c_add_72be8_2 ?_
  refine lv_icmp_ne (tgt := 11) hx hb dJx4a65c_add_72be8_3 (by decide) (fun _ => ?_) (fun h => absurd h (by decide))
  refine lv_aload_n hx hb dJx4a65c_add_72be8_11 rfl (lv_at hl 2 rfl) ?_
  refine lv_iload_n hx hb dJx4a65c_add_72be8_12 rfl (lv_at hl 3 rfl) ?_
  refine lv_aload_n hx hb dJx4a65c_add_72be8_13 rfl (lv_at hl 1 rfl) ?_
  refine va_astqM hx hb hK hP hD hS 1 1 rfl rfl (zo_anyI hK hR0 0 0 rfl rfl (hN.2.2.2.2.1 ("[I", "java/lang/Object") (by decide))) (by unfold vp_in; decide) dJx4a65c_add_72be8_14 (fun H1 locs hP hD hS => ?_)
  obtain ⟨f2, ef2⟩ : ∃ z : Nat → Option Nat, z = va_up fo 8 (some e1) := ⟨_, rfl⟩
  have k3 : f2 0 = some d0 := by rw [ef2]; exact (va_up_ne _ _ (by decide)).trans (ho0)
  have k4 : f2 1 = some d1 := by rw [ef2]; exact (va_up_ne _ _ (by decide)).trans (ho1)
  have k5 : f2 2 = some d2 := by rw [ef2]; exact (va_up_ne _ _ (by decide)).trans (ho2)
  have k6 : f2 3 = some d3 := by rw [ef2]; exact (va_up_ne _ _ (by decide)).trans (ho3)
  have k7 : f2 4 = some d4 := by rw [ef2]; exact (va_up_ne _ _ (by decide)).trans (ho4)
  have k8 : f2 5 = some d5 := by rw [ef2]; exact (va_up_ne _ _ (by decide)).trans (ho5)
  have k9 : f2 6 = some d6 := by rw [ef2]; exact (va_up_ne _ _ (by decide)).trans (ho6)
  have k10 : f2 7 = some d7 := by rw [ef2]; exact (va_up_ne _ _ (by decide)).trans (ho7)
  have k11 : f2 8 = some e1 := by rw [ef2]; exact va_up_self _ _ _
  have hP : va_P (dC, dI) vwCl [(h0, .inr (1, [.int 9, .ref oa, .int 8])), (oa, .inl (cO, 10, .inr (.inr (.inr (.inr f2)))))] H1 := by rw [ef2]; exact hP
  have hD : va_D A [(h0, .inr (1, [.int 9, .ref oa, .int 8])), (oa, .inl (cO, 10, .inr (.inr (.inr (.inr f2)))))] := by rw [ef2]; exact hD
  refine lv_aload_n hx hb dJx4a65c_add_72be8_15 rfl (lv_at hl 0 rfl) ?_
  refine lv_iload_n hx hb dJx4a65c_add_72be8_16 rfl (lv_at hl 3 rfl) ?_
  refine lv_iconst (v := 1) hx hb dJx4a65c_add_72be8_17 (by decide) ?_
  refine lv_iadd hx hb dJx4a65c_add_72be8_18 ?_
  refine zo_i (v := 9) (by decide) ?_
  refine va_put (D := (dC, dI)) (ci := 1) (v := .int 9) (ty := .int) (C := RJx4a65c) (T := TJx4a65c) (N := 3) hx hb hts zi_Jx4a65c_add_72be8_Jx4a65c tyJx4a65c tyJx4a65c_ok nmJx4a65c hown hK hP hD hS 0 rfl rfl 2 (by decide) (hts (.fieldLink RJx4a65c 48 "java/util/ArrayList" "size" "I") (by decide +kernel)) (fun _ h9 => h9) rfl (by decide +kernel) rfl rfl (Nat.le_of_ble_eq_true rfl) dJx4a65c_add_72be8_19 (fun H12 locs hP hD hS => ?_)
  have hP : va_P (dC, dI) vwCl [(h0, .inr (1, [.int 9, .ref oa, .int 9])), (oa, .inl (cO, 10, .inr (.inr (.inr (.inr f2)))))] H12 := hP
  have hD : va_D A [(h0, .inr (1, [.int 9, .ref oa, .int 9])), (oa, .inl (cO, 10, .inr (.inr (.inr (.inr f2)))))] := hD
  refine W.widen (k := 0) (n := 0) (Nat.le_of_ble_eq_true rfl) (Nat.le_of_ble_eq_true rfl) ?_
  have hP9 := hP.sub (ws' := [(h0, .inr (1, [.int 9, .ref oa, .int 9])), (oa, .inl (cO, 10, .inr (.inr (.inr (.inr f2)))))]) [0, 1] rfl
  have hD9 := hD.sub (ws' := [(h0, .inr (1, [.int 9, .ref oa, .int 9])), (oa, .inl (cO, 10, .inr (.inr (.inr (.inr f2)))))]) [0, 1] (by decide) rfl
  have hK9 := hK.sub (tys' := [(cO, .object "java/lang/Object")]) [1] rfl
  exact W.vret hx hb hr (fun t ht hW => ⟨⟨(), rfl, trivial, ⟨f2, ⟨k3, k4, k5, k6, k7, k8, k9, k10, k11⟩, by rw [ht]; exact hP9, hD9, va_K.moved hW.alike hK9⟩⟩, hS.F ht⟩) hS.2.2 dJx4a65c_add_72be8_22
set_option maxHeartbeats 4000000 in
set_option maxRecDepth 100000 in
theorem cz_Qadd_8 (l : Launch) (dC : Nat → ClassId) (dI : Nat → Nat → Nat) (ed sz : Nat) (e1 : Nat) (cE : ClassId) (ne : Nat) (fe : Nat → Int32) (h0 : Nat) (oa : Nat) (cO : ClassId) (fo : Nat → Option Nat) (d0 : Nat) (d1 : Nat) (d2 : Nat) (d3 : Nat) (d4 : Nat) (d5 : Nat) (d6 : Nat) (d7 : Nat) (ho0 : fo 0 = some d0) (ho1 : fo 1 = some d1) (ho2 : fo 2 = some d2) (ho3 : fo 3 = some d3) (ho4 : fo 4 = some d4) (ho5 : fo 5 = some d5) (ho6 : fo 6 = some d6) (ho7 : fo 7 = some d7) : Met l yJx4a65c_add_9ea2d wsJx4a65c_add_9ea2d ({ frames := 1, cells := 0, slots := 0, locals := 23 } : Jvm.Room) (va_Pc [.ref h0, .ref e1] (zB dC dI ed sz [(e1, .inl (cE, ne, .inl fe))] [(h0, .inr (1, [.int 8, .ref oa, .int 8])), (oa, .inl (cO, 10, .inr (.inr (.inr (.inr fo)))))] [(cE, .int), (cO, .object "java/lang/Object")])) (va_Qi (fun (r : Int32) (_ : Unit) => r = 1) (fun (_ : Unit) (t : State) => ∃ (go : Nat → Option Nat), (go 0 = some d0 ∧ go 1 = some d1 ∧ go 2 = some d2 ∧ go 3 = some d3 ∧ go 4 = some d4 ∧ go 5 = some d5 ∧ go 6 = some d6 ∧ go 7 = some d7 ∧ go 8 = some e1) ∧ va_P (dC, dI) vwCl [(h0, .inr (1, [.int 9, .ref oa, .int 9])), (oa, .inl (cO, 10, .inr (.inr (.inr (.inr go)))))] t.heap ∧ va_D (va_A [(h0, .inr (1, [.int 8, .ref oa, .int 8])), (oa, .inl (cO, 10, .inr (.inr (.inr (.inr fo)))))] sz) [(h0, .inr (1, [.int 9, .ref oa, .int 9])), (oa, .inl (cO, 10, .inr (.inr (.inr (.inr go)))))] ∧ va_K (dC, dI) vwCl [(cO, .object "java/lang/Object")] t) (va_A [(h0, .inr (1, [.int 8, .ref oa, .int 8])), (oa, .inl (cO, 10, .inr (.inr (.inr (.inr fo)))))] sz)) 0 0 (va_A [(h0, .inr (1, [.int 8, .ref oa, .int 8])), (oa, .inl (cO, 10, .inr (.inr (.inr (.inr fo)))))] sz) := by
  refine Met.ofW (cc := cJx4a65c_add_9ea2d) (maxL := 2) (ret := (some .boolean)) (by decide) rfl ?_
  intro p e s m args below meth c s₁ B hml hv
  obtain ⟨rfl, hsz, hR0, hP, hK, hD0, hN, hH, hX0⟩ := hv
  have hx := B.exec
  have hb := B.bytes
  have hr := B.returns
  have hts := atoms_spec (ws := wsJx4a65c_add_9ea2d) B.pre
  have hown : s.vm.findClass RJx4a65c = some m.cls := findClass_of_methodNamed B.named
  have hlocks := B.notSynchronized
  subst hsz
  have hD := hD0.self (sz := s.heap.size)
  have hAr := zx_A hX0 hR0
  generalize hAe : va_A [(h0, .inr (1, [.int 8, .ref oa, .int 8])), (oa, .inl (cO, 10, .inr (.inr (.inr (.inr fo)))))] s.heap.size = A at hD hAr hH ⊢
  have hA : ∀ q : Nat, s.heap.size ≤ q → A q := fun q h => by rw [← hAe]; exact Or.inr h
  have hS : va_S A s.heap s.heap [] := va_S.rf
  have hl := lv_entry ([.ref h0, .ref e1]) (n := 2) (Nat.le_of_ble_eq_true rfl)
  rw [lg_entry_eq]
  generalize (lg_sl ([.ref h0, .ref e1]) ++ List.replicate (2 - (lg_sl ([.ref h0, .ref e1])).length) Slot.unset).toArray = ls at hl ⊢
  have hl : lv_has ls 2 [(0, .ref h0), (1, .ref e1)] := hl
  refine lv_aload_n hx hb dJx4a65c_add_9ea2d_0 rfl (lv_at hl 0 rfl) ?_
  refine lv_dup hx hb dJx4a65c_add_9ea2d_1 rfl ?_
  refine va_get (D := (dC, dI)) (ci := 1) (v := .int 8) (C := RJx4a65c) (T := TJx4a65c) (N := 3) hx hb hts zi_Jx4a65c_add_9ea2d_Jx4a65c hown hK hP 0 rfl rfl 0 (by decide) (hts (.fieldLink RJx4a65c 63 "java/util/ArrayList" "modCount" "I") (by decide +kernel)) (fun x9 h9 => u_same (hts (.sameField "java/util/ArrayList" "java/util/AbstractList" "modCount" "I") (by decide +kernel)) x9 h9) rfl dJx4a65c_add_9ea2d_2 ?_
  refine lv_iconst (v := 1) hx hb dJx4a65c_add_9ea2d_5 (by decide) ?_
  refine lv_iadd hx hb dJx4a65c_add_9ea2d_6 ?_
  refine zo_i (v := 9) (by decide) ?_
  refine va_put (D := (dC, dI)) (ci := 1) (v := .int 9) (ty := .int) (C := RJx4a65c) (T := TJx4a65c) (N := 3) hx hb hts zi_Jx4a65c_add_9ea2d_Jx4a65c tyJx4a65c tyJx4a65c_ok nmJx4a65c hown hK hP hD hS 0 rfl rfl 0 (by decide) (hts (.fieldLink RJx4a65c 63 "java/util/ArrayList" "modCount" "I") (by decide +kernel)) (fun x9 h9 => u_same (hts (.sameField "java/util/ArrayList" "java/util/AbstractList" "modCount" "I") (by decide +kernel)) x9 h9) rfl (by decide +kernel) rfl rfl (Nat.le_of_ble_eq_true rfl) dJx4a65c_add_9ea2d_7 (fun H1 locs hP hD hS => ?_)
  have hP : va_P (dC, dI) vwCl [(h0, .inr (1, [.int 9, .ref oa, .int 8])), (oa, .inl (cO, 10, .inr (.inr (.inr (.inr fo)))))] H1 := hP
  have hD : va_D A [(h0, .inr (1, [.int 9, .ref oa, .int 8])), (oa, .inl (cO, 10, .inr (.inr (.inr (.inr fo)))))] := hD
  refine lv_aload_n hx hb dJx4a65c_add_9ea2d_10 rfl (lv_at hl 0 rfl) ?_
  refine lv_aload_n hx hb dJx4a65c_add_9ea2d_11 rfl (lv_at hl 1 rfl) ?_
  refine lv_aload_n hx hb dJx4a65c_add_9ea2d_12 rfl (lv_at hl 0 rfl) ?_
  refine va_get (D := (dC, dI)) (ci := 1) (v := .ref oa) (C := RJx4a65c) (T := TJx4a65c) (N := 3) hx hb hts zi_Jx4a65c_add_9ea2d_Jx4a65c hown hK hP 0 rfl rfl 1 (by decide) (hts (.fieldLink RJx4a65c 9 "java/util/ArrayList" "elementData" "[Ljava/lang/Object;") (by decide +kernel)) (fun _ h9 => h9) rfl dJx4a65c_add_9ea2d_13 ?_
  refine lv_aload_n hx hb dJx4a65c_add_9ea2d_16 rfl (lv_at hl 0 rfl) ?_
  refine va_get (D := (dC, dI)) (ci := 1) (v := .int 8) (C := RJx4a65c) (T := TJx4a65c) (N := 3) hx hb hts zi_Jx4a65c_add_9ea2d_Jx4a65c hown hK hP 0 rfl rfl 2 (by decide) (hts (.fieldLink RJx4a65c 48 "java/util/ArrayList" "size" "I") (by decide +kernel)) (fun _ h9 => h9) rfl dJx4a65c_add_9ea2d_17 ?_
  have hPr := ((zo_R hR0 hS hAr)).sub (ws' := [(e1, .inl (cE, ne, .inl fe))]) [0] rfl
  have hPc := hP.sub (ws' := [(h0, .inr (1, [.int 9, .ref oa, .int 8])), (oa, .inl (cO, 10, .inr (.inr (.inr (.inr fo)))))]) [0, 1] rfl
  have hDc := hD.sub (ws' := [(h0, .inr (1, [.int 9, .ref oa, .int 8])), (oa, .inl (cO, 10, .inr (.inr (.inr (.inr fo)))))]) [0, 1] (by decide) rfl
  have hKc := hK.sub (tys' := [(cE, .int), (cO, .object "java/lang/Object")]) [0, 1] rfl
  have hFc := va_free (wc := [(h0, .inr (1, [.int 9, .ref oa, .int 8])), (oa, .inl (cO, 10, .inr (.inr (.inr (.inr fo)))))]) hD hS hA [0, 1] rfl
  refine va_callv (va_runV (As := [.ref e1, .ref oa, .int 8]) (rest := []) ⟨hx, hb, hml, hown, hts⟩ (cz_Qadd3_8 l dC dI ed H1.size e1 cE ne fe h0 oa cO fo d0 d1 d2 d3 d4 d5 d6 d7 ho0 ho1 ho2 ho3 ho4 ho5 ho6 ho7) (cwV 3 hts gJx4a65c_add_9ea2d_Jx4a65c_add_72be8 rfl rfl rfl (by decide +kernel) ⟨Nat.le_of_ble_eq_true rfl, Nat.le_of_ble_eq_true rfl⟩) ⟨zb_blind, va_recv hK hP (ci := 1) (q0 := 0) rfl rfl, fun U hU hW => ⟨rfl, zb_mk hU hW hPr hPc hKc hDc hN hH hS hFc (zx_cons (zx_r (hAr _ (List.mem_of_getElem? (i := 0) rfl)) hDc) zx_nil)⟩⟩ rfl rfl hl.1 rfl (lv_room (Nat.le_of_ble_eq_true rfl)) dJx4a65c_add_9ea2d_20 ⟨Nat.le_of_ble_eq_true rfl, Nat.le_of_ble_eq_true rfl⟩) hS (fun q _ h => hFc q h) hFc (fun u t H2 locs ht hvm hw hB hz1 hk1 hS => ?_)
  obtain ⟨go_4, ⟨k4_0, k4_1, k4_2, k4_3, k4_4, k4_5, k4_6, k4_7, k4_8⟩, hP1, hD1, hK1⟩ := hB
  rw [ht] at hP1
  obtain ⟨hP, hD⟩ := va_join (wr := []) (w1 := [(h0, .inr (1, [.int 9, .ref oa, .int 9])), (oa, .inl (cO, 10, .inr (.inr (.inr (.inr go_4)))))]) hP hD [0, 1] [] rfl rfl (by decide) (by decide) hk1 hFc hP1 hD1
  have hP : va_P (dC, dI) vwCl [(h0, .inr (1, [.int 9, .ref oa, .int 9])), (oa, .inl (cO, 10, .inr (.inr (.inr (.inr go_4)))))] H2 := hP
  have hD : va_D A [(h0, .inr (1, [.int 9, .ref oa, .int 9])), (oa, .inl (cO, 10, .inr (.inr (.inr (.inr go_4)))))] := hD
  refine lv_iconst (v := 1) hx hb dJx4a65c_add_9ea2d_23 (by decide) ?_
  refine W.widen (k := 0) (n := 0) (Nat.le_of_ble_eq_true rfl) (Nat.le_of_ble_eq_true rfl) ?_
  have hP9 := hP.sub (ws' := [(h0, .inr (1, [.int 9, .ref oa, .int 9])), (oa, .inl (cO, 10, .inr (.inr (.inr (.inr go_4)))))]) [0, 1] rfl
  have hD9 := hD.sub (ws' := [(h0, .inr (1, [.int 9, .ref oa, .int 9])), (oa, .inl (cO, 10, .inr (.inr (.inr (.inr go_4)))))]) [0, 1] (by decide) rfl
  have hK9 := hK.sub (tys' := [(cO, .object "java/lang/Object")]) [1] rfl
  exact W.zret hx hb hr (by decide) (fun t ht hW => ⟨⟨1, (), rfl, rfl, ⟨go_4, ⟨k4_0, k4_1, k4_2, k4_3, k4_4, k4_5, k4_6, k4_7, k4_8⟩, by rw [ht]; exact hP9, hD9, va_K.moved hW.alike hK9⟩⟩, hS.F ht⟩) hS.2.2 dJx4a65c_add_9ea2d_24
set_option maxHeartbeats 4000000 in
set_option maxRecDepth 100000 in
theorem cz_Qadd3_9 (l : Launch) (dC : Nat → ClassId) (dI : Nat → Nat → Nat) (ed sz : Nat) (e1 : Nat) (cE : ClassId) (ne : Nat) (fe : Nat → Int32) (h0 : Nat) (oa : Nat) (cO : ClassId) (fo : Nat → Option Nat) (d0 : Nat) (d1 : Nat) (d2 : Nat) (d3 : Nat) (d4 : Nat) (d5 : Nat) (d6 : Nat) (d7 : Nat) (d8 : Nat) (ho0 : fo 0 = some d0) (ho1 : fo 1 = some d1) (ho2 : fo 2 = some d2) (ho3 : fo 3 = some d3) (ho4 : fo 4 = some d4) (ho5 : fo 5 = some d5) (ho6 : fo 6 = some d6) (ho7 : fo 7 = some d7) (ho8 : fo 8 = some d8) : Met l yJx4a65c_add_72be8 wsJx4a65c_add_72be8 ({ frames := 0, cells := 0, slots := 0, locals := 0 } : Jvm.Room) (va_Pc [.ref h0, .ref e1, .ref oa, .int 9] (zB dC dI ed sz [(e1, .inl (cE, ne, .inl fe))] [(h0, .inr (1, [.int 10, .ref oa, .int 9])), (oa, .inl (cO, 10, .inr (.inr (.inr (.inr fo)))))] [(cE, .int), (cO, .object "java/lang/Object")])) (va_Qv (fun (_ : Unit) => True) (fun (_ : Unit) (t : State) => ∃ (go : Nat → Option Nat), (go 0 = some d0 ∧ go 1 = some d1 ∧ go 2 = some d2 ∧ go 3 = some d3 ∧ go 4 = some d4 ∧ go 5 = some d5 ∧ go 6 = some d6 ∧ go 7 = some d7 ∧ go 8 = some d8 ∧ go 9 = some e1) ∧ va_P (dC, dI) vwCl [(h0, .inr (1, [.int 10, .ref oa, .int 10])), (oa, .inl (cO, 10, .inr (.inr (.inr (.inr go)))))] t.heap ∧ va_D (va_A [(h0, .inr (1, [.int 10, .ref oa, .int 9])), (oa, .inl (cO, 10, .inr (.inr (.inr (.inr fo)))))] sz) [(h0, .inr (1, [.int 10, .ref oa, .int 10])), (oa, .inl (cO, 10, .inr (.inr (.inr (.inr go)))))] ∧ va_K (dC, dI) vwCl [(cO, .object "java/lang/Object")] t) (va_A [(h0, .inr (1, [.int 10, .ref oa, .int 9])), (oa, .inl (cO, 10, .inr (.inr (.inr (.inr fo)))))] sz)) 0 0 (va_A [(h0, .inr (1, [.int 10, .ref oa, .int 9])), (oa, .inl (cO, 10, .inr (.inr (.inr (.inr fo)))))] sz) := by
  refine Met.ofW (cc := cJx4a65c_add_72be8) (maxL := 4) (ret := none) (by decide) rfl ?_
  intro p e s m args below meth c s₁ B hml hv
  obtain ⟨rfl, hsz, hR0, hP, hK, hD0, hN, hH, hX0⟩ := hv
  have hx := B.exec
  have hb := B.bytes
  have hr := B.returns
  have hts := atoms_spec (ws := wsJx4a65c_add_72be8) B.pre
  have hown : s.vm.findClass RJx4a65c = some m.cls := findClass_of_methodNamed B.named
  have hlocks := B.notSynchronized
  subst hsz
  have hD := hD0.self (sz := s.heap.size)
  have hAr := zx_A hX0 hR0
  generalize hAe : va_A [(h0, .inr (1, [.int 10, .ref oa, .int 9])), (oa, .inl (cO, 10, .inr (.inr (.inr (.inr fo)))))] s.heap.size = A at hD hAr hH ⊢
  have hA : ∀ q : Nat, s.heap.size ≤ q → A q := fun q h => by rw [← hAe]; exact Or.inr h
  have hS : va_S A s.heap s.heap [] := va_S.rf
  have hl := lv_entry ([.ref h0, .ref e1, .ref oa, .int 9]) (n := 4) (Nat.le_of_ble_eq_true rfl)
  rw [lg_entry_eq]
  generalize (lg_sl ([.ref h0, .ref e1, .ref oa, .int 9]) ++ List.replicate (4 - (lg_sl ([.ref h0, .ref e1, .ref oa, .int 9])).length) Slot.unset).toArray = ls at hl ⊢
  have hl : lv_has ls 4 [(0, .ref h0), (1, .ref e1), (2, .ref oa), (3, .int 9)] := hl
  refine lv_iload_n hx hb dJx4a65c_add_72be8_0 rfl (lv_at hl 3 rfl) ?_
  refine lv_aload_n hx hb dJx4a65c_add_72be8_1 rfl (lv_at hl 2 rfl) ?_
  refine va_alen hx hb hK hP 1 1 rfl rfl (v := 10) (by exact rfl) dJx4a65c_add_72be8_2 ?_
  refine lv_icmp_ne (tgt := 11) hx hb dJx4a65c_add_72be8_3 (by decide) (fun _ => ?_) (fun h => absurd h (by decide))
  refine lv_aload_n hx hb dJx4a65c_add_72be8_11 rfl (lv_at hl 2 rfl) ?_
  refine lv_iload_n hx hb dJx4a65c_add_72be8_12 rfl (lv_at hl 3 rfl) ?_
  refine lv_aload_n hx hb dJx4a65c_add_72be8_13 rfl (lv_at hl 1 rfl) ?_
  refine va_astqM hx hb hK hP hD hS 1 1 rfl rfl (zo_anyI hK hR0 0 0 rfl rfl (hN.2.2.2.2.1 ("[I", "java/lang/Object") (by decide))) (by unfold vp_in; decide) dJx4a65c_add_72be8_14 (fun H1 locs hP hD hS => ?_)
  obtain ⟨f2, ef2⟩ : ∃ z : Nat → Option Nat, z = va_up fo 9 (some e1) := ⟨_, rfl⟩
  have k3 : f2 0 = some d0 := by rw [ef2]; exact (va_up_ne _ _ (by decide)).trans (ho0)
  have k4 : f2 1 = some d1 := by rw [ef2]; exact (va_up_ne _ _ (by decide)).trans (ho1)
  have k5 : f2 2 = some d2 := by rw [ef2]; exact (va_up_ne _ _ (by decide)).trans (ho2)
  have k6 : f2 3 = some d3 := by rw [ef2]; exact (va_up_ne _ _ (by decide)).trans (ho3)
  have k7 : f2 4 = some d4 := by rw [ef2]; exact (va_up_ne _ _ (by decide)).trans (ho4)
  have k8 : f2 5 = some d5 := by rw [ef2]; exact (va_up_ne _ _ (by decide)).trans (ho5)
  have k9 : f2 6 = some d6 := by rw [ef2]; exact (va_up_ne _ _ (by decide)).trans (ho6)
  have k10 : f2 7 = some d7 := by rw [ef2]; exact (va_up_ne _ _ (by decide)).trans (ho7)
  have k11 : f2 8 = some d8 := by rw [ef2]; exact (va_up_ne _ _ (by decide)).trans (ho8)
  have k12 : f2 9 = some e1 := by rw [ef2]; exact va_up_self _ _ _
  have hP : va_P (dC, dI) vwCl [(h0, .inr (1, [.int 10, .ref oa, .int 9])), (oa, .inl (cO, 10, .inr (.inr (.inr (.inr f2)))))] H1 := by rw [ef2]; exact hP
  have hD : va_D A [(h0, .inr (1, [.int 10, .ref oa, .int 9])), (oa, .inl (cO, 10, .inr (.inr (.inr (.inr f2)))))] := by rw [ef2]; exact hD
  refine lv_aload_n hx hb dJx4a65c_add_72be8_15 rfl (lv_at hl 0 rfl) ?_
  refine lv_iload_n hx hb dJx4a65c_add_72be8_16 rfl (lv_at hl 3 rfl) ?_
  refine lv_iconst (v := 1) hx hb dJx4a65c_add_72be8_17 (by decide) ?_
  refine lv_iadd hx hb dJx4a65c_add_72be8_18 ?_
  refine zo_i (v := 10) (by decide) ?_
  refine va_put (D := (dC, dI)) (ci := 1) (v := .int 10) (ty := .int) (C := RJx4a65c) (T := TJx4a65c) (N := 3) hx hb hts zi_Jx4a65c_add_72be8_Jx4a65c tyJx4a65c tyJx4a65c_ok nmJx4a65c hown hK hP hD hS 0 rfl rfl 2 (by decide) (hts (.fieldLink RJx4a65c 48 "java/util/ArrayList" "size" "I") (by decide +kernel)) (fun _ h9 => h9) rfl (by decide +kernel) rfl rfl (Nat.le_of_ble_eq_true rfl) dJx4a65c_add_72be8_19 (fun H13 locs hP hD hS => ?_)
  have hP : va_P (dC, dI) vwCl [(h0, .inr (1, [.int 10, .ref oa, .int 10])), (oa, .inl (cO, 10, .inr (.inr (.inr (.inr f2)))))] H13 := hP
  have hD : va_D A [(h0, .inr (1, [.int 10, .ref oa, .int 10])), (oa, .inl (cO, 10, .inr (.inr (.inr (.inr f2)))))] := hD
  refine W.widen (k := 0) (n := 0) (Nat.le_of_ble_eq_true rfl) (Nat.le_of_ble_eq_true rfl) ?_
  have hP9 := hP.sub (ws' := [(h0, .inr (1, [.int 10, .ref oa, .int 10])), (oa, .inl (cO, 10, .inr (.inr (.inr (.inr f2)))))]) [0, 1] rfl
  have hD9 := hD.sub (ws' := [(h0, .inr (1, [.int 10, .ref oa, .int 10])), (oa, .inl (cO, 10, .inr (.inr (.inr (.inr f2)))))]) [0, 1] (by decide) rfl
  have hK9 := hK.sub (tys' := [(cO, .object "java/lang/Object")]) [1] rfl
  exact W.vret hx hb hr (fun t ht hW => ⟨⟨(), rfl, trivial, ⟨f2, ⟨k3, k4, k5, k6, k7, k8, k9, k10, k11, k12⟩, by rw [ht]; exact hP9, hD9, va_K.moved hW.alike hK9⟩⟩, hS.F ht⟩) hS.2.2 dJx4a65c_add_72be8_22
set_option maxHeartbeats 4000000 in
set_option maxRecDepth 100000 in
theorem cz_Qadd_9 (l : Launch) (dC : Nat → ClassId) (dI : Nat → Nat → Nat) (ed sz : Nat) (e1 : Nat) (cE : ClassId) (ne : Nat) (fe : Nat → Int32) (h0 : Nat) (oa : Nat) (cO : ClassId) (fo : Nat → Option Nat) (d0 : Nat) (d1 : Nat) (d2 : Nat) (d3 : Nat) (d4 : Nat) (d5 : Nat) (d6 : Nat) (d7 : Nat) (d8 : Nat) (ho0 : fo 0 = some d0) (ho1 : fo 1 = some d1) (ho2 : fo 2 = some d2) (ho3 : fo 3 = some d3) (ho4 : fo 4 = some d4) (ho5 : fo 5 = some d5) (ho6 : fo 6 = some d6) (ho7 : fo 7 = some d7) (ho8 : fo 8 = some d8) : Met l yJx4a65c_add_9ea2d wsJx4a65c_add_9ea2d ({ frames := 1, cells := 0, slots := 0, locals := 23 } : Jvm.Room) (va_Pc [.ref h0, .ref e1] (zB dC dI ed sz [(e1, .inl (cE, ne, .inl fe))] [(h0, .inr (1, [.int 9, .ref oa, .int 9])), (oa, .inl (cO, 10, .inr (.inr (.inr (.inr fo)))))] [(cE, .int), (cO, .object "java/lang/Object")])) (va_Qi (fun (r : Int32) (_ : Unit) => r = 1) (fun (_ : Unit) (t : State) => ∃ (go : Nat → Option Nat), (go 0 = some d0 ∧ go 1 = some d1 ∧ go 2 = some d2 ∧ go 3 = some d3 ∧ go 4 = some d4 ∧ go 5 = some d5 ∧ go 6 = some d6 ∧ go 7 = some d7 ∧ go 8 = some d8 ∧ go 9 = some e1) ∧ va_P (dC, dI) vwCl [(h0, .inr (1, [.int 10, .ref oa, .int 10])), (oa, .inl (cO, 10, .inr (.inr (.inr (.inr go)))))] t.heap ∧ va_D (va_A [(h0, .inr (1, [.int 9, .ref oa, .int 9])), (oa, .inl (cO, 10, .inr (.inr (.inr (.inr fo)))))] sz) [(h0, .inr (1, [.int 10, .ref oa, .int 10])), (oa, .inl (cO, 10, .inr (.inr (.inr (.inr go)))))] ∧ va_K (dC, dI) vwCl [(cO, .object "java/lang/Object")] t) (va_A [(h0, .inr (1, [.int 9, .ref oa, .int 9])), (oa, .inl (cO, 10, .inr (.inr (.inr (.inr fo)))))] sz)) 0 0 (va_A [(h0, .inr (1, [.int 9, .ref oa, .int 9])), (oa, .inl (cO, 10, .inr (.inr (.inr (.inr fo)))))] sz) := by
  refine Met.ofW (cc := cJx4a65c_add_9ea2d) (maxL := 2) (ret := (some .boolean)) (by decide) rfl ?_
  intro p e s m args below meth c s₁ B hml hv
  obtain ⟨rfl, hsz, hR0, hP, hK, hD0, hN, hH, hX0⟩ := hv
  have hx := B.exec
  have hb := B.bytes
  have hr := B.returns
  have hts := atoms_spec (ws := wsJx4a65c_add_9ea2d) B.pre
  have hown : s.vm.findClass RJx4a65c = some m.cls := findClass_of_methodNamed B.named
  have hlocks := B.notSynchronized
  subst hsz
  have hD := hD0.self (sz := s.heap.size)
  have hAr := zx_A hX0 hR0
  generalize hAe : va_A [(h0, .inr (1, [.int 9, .ref oa, .int 9])), (oa, .inl (cO, 10, .inr (.inr (.inr (.inr fo)))))] s.heap.size = A at hD hAr hH ⊢
  have hA : ∀ q : Nat, s.heap.size ≤ q → A q := fun q h => by rw [← hAe]; exact Or.inr h
  have hS : va_S A s.heap s.heap [] := va_S.rf
  have hl := lv_entry ([.ref h0, .ref e1]) (n := 2) (Nat.le_of_ble_eq_true rfl)
  rw [lg_entry_eq]
  generalize (lg_sl ([.ref h0, .ref e1]) ++ List.replicate (2 - (lg_sl ([.ref h0, .ref e1])).length) Slot.unset).toArray = ls at hl ⊢
  have hl : lv_has ls 2 [(0, .ref h0), (1, .ref e1)] := hl
  refine lv_aload_n hx hb dJx4a65c_add_9ea2d_0 rfl (lv_at hl 0 rfl) ?_
  refine lv_dup hx hb dJx4a65c_add_9ea2d_1 rfl ?_
  refine va_get (D := (dC, dI)) (ci := 1) (v := .int 9) (C := RJx4a65c) (T := TJx4a65c) (N := 3) hx hb hts zi_Jx4a65c_add_9ea2d_Jx4a65c hown hK hP 0 rfl rfl 0 (by decide) (hts (.fieldLink RJx4a65c 63 "java/util/ArrayList" "modCount" "I") (by decide +kernel)) (fun x9 h9 => u_same (hts (.sameField "java/util/ArrayList" "java/util/AbstractList" "modCount" "I") (by decide +kernel)) x9 h9) rfl dJx4a65c_add_9ea2d_2 ?_
  refine lv_iconst (v := 1) hx hb dJx4a65c_add_9ea2d_5 (by decide) ?_
  refine lv_iadd hx hb dJx4a65c_add_9ea2d_6 ?_
  refine zo_i (v := 10) (by decide) ?_
  refine va_put (D := (dC, dI)) (ci := 1) (v := .int 10) (ty := .int) (C := RJx4a65c) (T := TJx4a65c) (N := 3) hx hb hts zi_Jx4a65c_add_9ea2d_Jx4a65c tyJx4a65c tyJx4a65c_ok nmJx4a65c hown hK hP hD hS 0 rfl rfl 0 (by decide) (hts (.fieldLink RJx4a65c 63 "java/util/ArrayList" "modCount" "I") (by decide +kernel)) (fun x9 h9 => u_same (hts (.sameField "java/util/ArrayList" "java/util/AbstractList" "modCount" "I") (by decide +kernel)) x9 h9) rfl (by decide +kernel) rfl rfl (Nat.le_of_ble_eq_true rfl) dJx4a65c_add_9ea2d_7 (fun H1 locs hP hD hS => ?_)
  have hP : va_P (dC, dI) vwCl [(h0, .inr (1, [.int 10, .ref oa, .int 9])), (oa, .inl (cO, 10, .inr (.inr (.inr (.inr fo)))))] H1 := hP
  have hD : va_D A [(h0, .inr (1, [.int 10, .ref oa, .int 9])), (oa, .inl (cO, 10, .inr (.inr (.inr (.inr fo)))))] := hD
  refine lv_aload_n hx hb dJx4a65c_add_9ea2d_10 rfl (lv_at hl 0 rfl) ?_
  refine lv_aload_n hx hb dJx4a65c_add_9ea2d_11 rfl (lv_at hl 1 rfl) ?_
  refine lv_aload_n hx hb dJx4a65c_add_9ea2d_12 rfl (lv_at hl 0 rfl) ?_
  refine va_get (D := (dC, dI)) (ci := 1) (v := .ref oa) (C := RJx4a65c) (T := TJx4a65c) (N := 3) hx hb hts zi_Jx4a65c_add_9ea2d_Jx4a65c hown hK hP 0 rfl rfl 1 (by decide) (hts (.fieldLink RJx4a65c 9 "java/util/ArrayList" "elementData" "[Ljava/lang/Object;") (by decide +kernel)) (fun _ h9 => h9) rfl dJx4a65c_add_9ea2d_13 ?_
  refine lv_aload_n hx hb dJx4a65c_add_9ea2d_16 rfl (lv_at hl 0 rfl) ?_
  refine va_get (D := (dC, dI)) (ci := 1) (v := .int 9) (C := RJx4a65c) (T := TJx4a65c) (N := 3) hx hb hts zi_Jx4a65c_add_9ea2d_Jx4a65c hown hK hP 0 rfl rfl 2 (by decide) (hts (.fieldLink RJx4a65c 48 "java/util/ArrayList" "size" "I") (by decide +kernel)) (fun _ h9 => h9) rfl dJx4a65c_add_9ea2d_17 ?_
  have hPr := ((zo_R hR0 hS hAr)).sub (ws' := [(e1, .inl (cE, ne, .inl fe))]) [0] rfl
  have hPc := hP.sub (ws' := [(h0, .inr (1, [.int 10, .ref oa, .int 9])), (oa, .inl (cO, 10, .inr (.inr (.inr (.inr fo)))))]) [0, 1] rfl
  have hDc := hD.sub (ws' := [(h0, .inr (1, [.int 10, .ref oa, .int 9])), (oa, .inl (cO, 10, .inr (.inr (.inr (.inr fo)))))]) [0, 1] (by decide) rfl
  have hKc := hK.sub (tys' := [(cE, .int), (cO, .object "java/lang/Object")]) [0, 1] rfl
  have hFc := va_free (wc := [(h0, .inr (1, [.int 10, .ref oa, .int 9])), (oa, .inl (cO, 10, .inr (.inr (.inr (.inr fo)))))]) hD hS hA [0, 1] rfl
  refine va_callv (va_runV (As := [.ref e1, .ref oa, .int 9]) (rest := []) ⟨hx, hb, hml, hown, hts⟩ (cz_Qadd3_9 l dC dI ed H1.size e1 cE ne fe h0 oa cO fo d0 d1 d2 d3 d4 d5 d6 d7 d8 ho0 ho1 ho2 ho3 ho4 ho5 ho6 ho7 ho8) (cwV 3 hts gJx4a65c_add_9ea2d_Jx4a65c_add_72be8 rfl rfl rfl (by decide +kernel) ⟨Nat.le_of_ble_eq_true rfl, Nat.le_of_ble_eq_true rfl⟩) ⟨zb_blind, va_recv hK hP (ci := 1) (q0 := 0) rfl rfl, fun U hU hW => ⟨rfl, zb_mk hU hW hPr hPc hKc hDc hN hH hS hFc (zx_cons (zx_r (hAr _ (List.mem_of_getElem? (i := 0) rfl)) hDc) zx_nil)⟩⟩ rfl rfl hl.1 rfl (lv_room (Nat.le_of_ble_eq_true rfl)) dJx4a65c_add_9ea2d_20 ⟨Nat.le_of_ble_eq_true rfl, Nat.le_of_ble_eq_true rfl⟩) hS (fun q _ h => hFc q h) hFc (fun u t H2 locs ht hvm hw hB hz1 hk1 hS => ?_)
  obtain ⟨go_4, ⟨k4_0, k4_1, k4_2, k4_3, k4_4, k4_5, k4_6, k4_7, k4_8, k4_9⟩, hP1, hD1, hK1⟩ := hB
  rw [ht] at hP1
  obtain ⟨hP, hD⟩ := va_join (wr := []) (w1 := [(h0, .inr (1, [.int 10, .ref oa, .int 10])), (oa, .inl (cO, 10, .inr (.inr (.inr (.inr go_4)))))]) hP hD [0, 1] [] rfl rfl (by decide) (by decide) hk1 hFc hP1 hD1
  have hP : va_P (dC, dI) vwCl [(h0, .inr (1, [.int 10, .ref oa, .int 10])), (oa, .inl (cO, 10, .inr (.inr (.inr (.inr go_4)))))] H2 := hP
  have hD : va_D A [(h0, .inr (1, [.int 10, .ref oa, .int 10])), (oa, .inl (cO, 10, .inr (.inr (.inr (.inr go_4)))))] := hD
  refine lv_iconst (v := 1) hx hb dJx4a65c_add_9ea2d_23 (by decide) ?_
  refine W.widen (k := 0) (n := 0) (Nat.le_of_ble_eq_true rfl) (Nat.le_of_ble_eq_true rfl) ?_
  have hP9 := hP.sub (ws' := [(h0, .inr (1, [.int 10, .ref oa, .int 10])), (oa, .inl (cO, 10, .inr (.inr (.inr (.inr go_4)))))]) [0, 1] rfl
  have hD9 := hD.sub (ws' := [(h0, .inr (1, [.int 10, .ref oa, .int 10])), (oa, .inl (cO, 10, .inr (.inr (.inr (.inr go_4)))))]) [0, 1] (by decide) rfl
  have hK9 := hK.sub (tys' := [(cO, .object "java/lang/Object")]) [1] rfl
  exact W.zret hx hb hr (by decide) (fun t ht hW => ⟨⟨1, (), rfl, rfl, ⟨go_4, ⟨k4_0, k4_1, k4_2, k4_3, k4_4, k4_5, k4_6, k4_7, k4_8, k4_9⟩, by rw [ht]; exact hP9, hD9, va_K.moved hW.alike hK9⟩⟩, hS.F ht⟩) hS.2.2 dJx4a65c_add_9ea2d_24
set_option maxHeartbeats 4000000 in
set_option maxRecDepth 100000 in
theorem cz_Qopened (l : Launch) (dC : Nat → ClassId) (dI : Nat → Nat → Nat) (ed sz : Nat) (mr : Nat) (ll : Nat) (lt : Nat) (lp : Nat) (ola : Nat) (cOl : ClassId) (fol : Nat → Option Nat) (la0 : Nat) (la1 : Nat) (cA0 : ClassId) (fa0 : Nat → Int32) (cA1 : ClassId) (fa1 : Nat → Int32) (hol0 : fol 0 = some la0) (hol1 : fol 1 = some la1) (ha0_4 : fa0 4 = 0) (ha1_4 : fa1 4 = 0) : Met l yX7_opened wsX7_opened ({ frames := 3, cells := 0, slots := 0, locals := 64 } : Jvm.Room) (va_Pc [.ref mr] (zB dC dI ed sz [(mr, .inr (9, [.ref ll, .ref lt, .ref lp, .int 0, .int 0, .int 0, .int 0, .int 0, .int 0, .int 0, .int (-1), .int 0, .int 0, .int 0])), (ll, .inr (1, [.int 2, .ref ola, .int 2])), (ola, .inl (cOl, 10, .inr (.inr (.inr (.inr fol))))), (la0, .inl (cA0, 10, .inl fa0)), (la1, .inl (cA1, 10, .inl fa1))] [] [(cOl, .object "java/lang/Object"), (cA0, .int), (cA1, .int)])) (va_Qi (fun (r : Int32) (_ : Unit) => r = 0) (fun (_ : Unit) (_ : State) => True) (va_A [] sz)) 0 0 (va_A [] sz) := by
  refine Met.ofW (cc := cX7_opened) (maxL := 3) (ret := (some .int)) (by decide) rfl ?_
  intro p e s m args below meth c s₁ B hml hv
  obtain ⟨rfl, hsz, hR0, hP, hK, hD0, hN, hH, hX0⟩ := hv
  have hx := B.exec
  have hb := B.bytes
  have hr := B.returns
  have hts := atoms_spec (ws := wsX7_opened) B.pre
  have hown : s.vm.findClass RX7 = some m.cls := findClass_of_methodNamed B.named
  have hlocks := B.notSynchronized
  subst hsz
  have hD := hD0.self (sz := s.heap.size)
  have hAr := zx_A hX0 hR0
  generalize hAe : va_A [] s.heap.size = A at hD hAr hH ⊢
  have hA : ∀ q : Nat, s.heap.size ≤ q → A q := fun q h => by rw [← hAe]; exact Or.inr h
  have hS : va_S A s.heap s.heap [] := va_S.rf
  have hl := lv_entry ([.ref mr]) (n := 3) (Nat.le_of_ble_eq_true rfl)
  rw [lg_entry_eq]
  generalize (lg_sl ([.ref mr]) ++ List.replicate (3 - (lg_sl ([.ref mr])).length) Slot.unset).toArray = ls at hl ⊢
  have hl : lv_has ls 3 [(0, .ref mr)] := hl
  refine lv_iconst (v := 0) hx hb dX7_opened_0 (by decide) ?_
  refine lv_istore_n (lv' := [(1, .int 0), (0, .ref mr)]) hx hb dX7_opened_1 rfl hl (by decide) rfl (fun ls hl => ?_)
  refine lv_iconst (v := 0) hx hb dX7_opened_2 (by decide) ?_
  refine lv_istore_n (lv' := [(2, .int 0), (1, .int 0), (0, .ref mr)]) hx hb dX7_opened_3 rfl hl (by decide) rfl (fun ls hl => ?_)
  refine lv_iload_n hx hb dX7_opened_4 rfl (lv_at hl 0 rfl) ?_
  refine lv_aload_n hx hb dX7_opened_5 rfl (lv_at hl 2 rfl) ?_
  refine va_get (D := (dC, dI)) (ci := 9) (v := .ref ll) (C := RX7) (T := TX7) (N := 14) hx hb hts zi_X7_opened_X7 hown hK hR0 0 rfl rfl 0 (by decide) (hts (.fieldLink RX7 12 "LockRoomsModel$Room" "locks" "Ljava/util/ArrayList;") (by decide +kernel)) (fun _ h9 => h9) rfl dX7_opened_6 ?_
  have hPr := (hR0).sub (ws' := [(ll, .inr (1, [.int 2, .ref ola, .int 2]))]) [1] rfl
  have hPc := hP.sub (ws' := []) [] rfl
  have hDc := hD.sub (ws' := []) [] (by decide) rfl
  have hKc := hK.sub (tys' := []) [] rfl
  have hFc := va_free (wc := []) hD hS hA [] rfl
  refine va_calli (va_runV (As := []) (rest := [.int 0]) ⟨hx, hb, hml, hown, hts⟩ (cz_Qsize l dC dI ed s.heap.size ll 2 ola 2) (cwV 0 hts gX7_opened_Jx4a65c_size_8abf5 rfl rfl rfl (by decide +kernel) ⟨Nat.le_of_ble_eq_true rfl, Nat.le_of_ble_eq_true rfl⟩) ⟨zb_blind, va_recv hK hR0 (ci := 1) (q0 := 1) rfl rfl, fun U hU hW => ⟨rfl, zb_mk hU hW hPr hPc hKc hDc hN hH hS hFc zx_e⟩⟩ rfl rfl hl.1 rfl (lv_room (Nat.le_of_ble_eq_true rfl)) dX7_opened_9 ⟨Nat.le_of_ble_eq_true rfl, Nat.le_of_ble_eq_true rfl⟩) hS (fun q _ h => hFc q h) hFc (fun r2 u t H1 locs ht hvm hw hB hz1 hk1 hS => ?_)
  obtain rfl : r2 = 2 := hw.trans (by decide +kernel)
  have hP := zo_K hP hk1
  refine lv_icmp_ge (tgt := 44) hx hb dX7_opened_12 (by decide) (fun h => absurd h (by decide)) (fun _ => ?_)
  refine lv_aload_n hx hb dX7_opened_15 rfl (lv_at hl 2 rfl) ?_
  refine va_get (D := (dC, dI)) (ci := 9) (v := .ref ll) (C := RX7) (T := TX7) (N := 14) hx hb hts zi_X7_opened_X7 hown hK (zo_R hR0 hS hAr) 0 rfl rfl 0 (by decide) (hts (.fieldLink RX7 12 "LockRoomsModel$Room" "locks" "Ljava/util/ArrayList;") (by decide +kernel)) (fun _ h9 => h9) rfl dX7_opened_16 ?_
  refine lv_iload_n hx hb dX7_opened_19 rfl (lv_at hl 0 rfl) ?_
  have hPr := ((zo_R hR0 hS hAr)).sub (ws' := [(ll, .inr (1, [.int 2, .ref ola, .int 2])), (ola, .inl (cOl, 10, .inr (.inr (.inr (.inr fol)))))]) [1, 2] rfl
  have hPc := hP.sub (ws' := []) [] rfl
  have hDc := hD.sub (ws' := []) [] (by decide) rfl
  have hKc := hK.sub (tys' := [(cOl, .object "java/lang/Object")]) [0] rfl
  have hFc := va_free (wc := []) hD hS hA [] rfl
  refine va_callr (va_runV (As := [.int 0]) (rest := []) ⟨hx, hb, hml, hown, hts⟩ (cz_Qget_0_2 l dC dI ed H1.size ll 2 ola cOl fol la0 hol0) (cwV 1 hts gX7_opened_Jx4a65c_get_915e3 rfl rfl rfl (by decide +kernel) ⟨Nat.le_of_ble_eq_true rfl, Nat.le_of_ble_eq_true rfl⟩) ⟨zb_blind, va_recv hK (zo_R hR0 hS hAr) (ci := 1) (q0 := 1) rfl rfl, fun U hU hW => ⟨rfl, zb_mk hU hW hPr hPc hKc hDc hN hH hS hFc zx_e⟩⟩ rfl rfl hl.1 rfl (lv_room (Nat.le_of_ble_eq_true rfl)) dX7_opened_20 ⟨Nat.le_of_ble_eq_true rfl, Nat.le_of_ble_eq_true rfl⟩) hS (fun q _ h => hFc q h) hFc (fun u r4 t H3 locs ht hvm hw hB hz1 hk1 hS => ?_)
  obtain ⟨hq5_0, hP1, hD1, hK1⟩ := hB
  rw [ht] at hP1
  obtain ⟨hP, hD⟩ := va_join (wr := []) (w1 := []) hP hD [] [] rfl rfl (by decide) (by decide) hk1 hFc hP1 hD1
  have hP : va_P (dC, dI) vwCl [] H3 := hP
  have hD : va_D A [] := hD
  obtain rfl : la0 = r4 := hq5_0.symm
  refine va_castA (nm := "[I") hx hb hown (hts (.classLink RX7 46 "[I") (by decide +kernel)) (zo_R hR0 hS hAr) 3 rfl (show s.vm.findClass "[I" = some cA0 from (hK.2 1 _ rfl).2) dX7_opened_23 ?_
  refine lv_iconst (v := 4) hx hb dX7_opened_26 (by decide) ?_
  refine va_iald hx hb hK (zo_R hR0 hS hAr) 3 1 rfl rfl (by unfold vp_in; decide) dX7_opened_27 ?_
  refine zo_i (v := 0) (by rw [show Int32.toNatClampNeg 4 = 4 from by decide]; exact ha0_4) ?_
  refine lv_iconst (v := 1) hx hb dX7_opened_28 (by decide) ?_
  refine lv_icmp_ne (tgt := 38) hx hb dX7_opened_29 (by decide) (fun _ => ?_) (fun h => absurd h (by decide))
  refine lv_iinc (v := 1) (lv' := [(2, .int 1), (1, .int 0), (0, .ref mr)]) hx hb dX7_opened_38 hl (k := 0) rfl (by decide) (by decide) rfl (fun ls hl => ?_)
  refine lv_goto (tgt := 4) hx hb dX7_opened_41 (by decide) ?_
  refine lv_iload_n hx hb dX7_opened_4 rfl (lv_at hl 0 rfl) ?_
  refine lv_aload_n hx hb dX7_opened_5 rfl (lv_at hl 2 rfl) ?_
  refine va_get (D := (dC, dI)) (ci := 9) (v := .ref ll) (C := RX7) (T := TX7) (N := 14) hx hb hts zi_X7_opened_X7 hown hK (zo_R hR0 hS hAr) 0 rfl rfl 0 (by decide) (hts (.fieldLink RX7 12 "LockRoomsModel$Room" "locks" "Ljava/util/ArrayList;") (by decide +kernel)) (fun _ h9 => h9) rfl dX7_opened_6 ?_
  have hPr := ((zo_R hR0 hS hAr)).sub (ws' := [(ll, .inr (1, [.int 2, .ref ola, .int 2]))]) [1] rfl
  have hPc := hP.sub (ws' := []) [] rfl
  have hDc := hD.sub (ws' := []) [] (by decide) rfl
  have hKc := hK.sub (tys' := []) [] rfl
  have hFc := va_free (wc := []) hD hS hA [] rfl
  refine va_calli (va_runV (As := []) (rest := [.int 1]) ⟨hx, hb, hml, hown, hts⟩ (cz_Qsize l dC dI ed H3.size ll 2 ola 2) (cwV 0 hts gX7_opened_Jx4a65c_size_8abf5 rfl rfl rfl (by decide +kernel) ⟨Nat.le_of_ble_eq_true rfl, Nat.le_of_ble_eq_true rfl⟩) ⟨zb_blind, va_recv hK (zo_R hR0 hS hAr) (ci := 1) (q0 := 1) rfl rfl, fun U hU hW => ⟨rfl, zb_mk hU hW hPr hPc hKc hDc hN hH hS hFc zx_e⟩⟩ rfl rfl hl.1 rfl (lv_room (Nat.le_of_ble_eq_true rfl)) dX7_opened_9 ⟨Nat.le_of_ble_eq_true rfl, Nat.le_of_ble_eq_true rfl⟩) hS (fun q _ h => hFc q h) hFc (fun r7 u t H6 locs ht hvm hw hB hz1 hk1 hS => ?_)
  obtain rfl : r7 = 2 := hw.trans (by decide +kernel)
  have hP := zo_K hP hk1
  refine lv_icmp_ge (tgt := 44) hx hb dX7_opened_12 (by decide) (fun h => absurd h (by decide)) (fun _ => ?_)
  refine lv_aload_n hx hb dX7_opened_15 rfl (lv_at hl 2 rfl) ?_
  refine va_get (D := (dC, dI)) (ci := 9) (v := .ref ll) (C := RX7) (T := TX7) (N := 14) hx hb hts zi_X7_opened_X7 hown hK (zo_R hR0 hS hAr) 0 rfl rfl 0 (by decide) (hts (.fieldLink RX7 12 "LockRoomsModel$Room" "locks" "Ljava/util/ArrayList;") (by decide +kernel)) (fun _ h9 => h9) rfl dX7_opened_16 ?_
  refine lv_iload_n hx hb dX7_opened_19 rfl (lv_at hl 0 rfl) ?_
  have hPr := ((zo_R hR0 hS hAr)).sub (ws' := [(ll, .inr (1, [.int 2, .ref ola, .int 2])), (ola, .inl (cOl, 10, .inr (.inr (.inr (.inr fol)))))]) [1, 2] rfl
  have hPc := hP.sub (ws' := []) [] rfl
  have hDc := hD.sub (ws' := []) [] (by decide) rfl
  have hKc := hK.sub (tys' := [(cOl, .object "java/lang/Object")]) [0] rfl
  have hFc := va_free (wc := []) hD hS hA [] rfl
  refine va_callr (va_runV (As := [.int 1]) (rest := []) ⟨hx, hb, hml, hown, hts⟩ (cz_Qget_1_2 l dC dI ed H6.size ll 2 ola cOl fol la1 hol1) (cwV 1 hts gX7_opened_Jx4a65c_get_915e3 rfl rfl rfl (by decide +kernel) ⟨Nat.le_of_ble_eq_true rfl, Nat.le_of_ble_eq_true rfl⟩) ⟨zb_blind, va_recv hK (zo_R hR0 hS hAr) (ci := 1) (q0 := 1) rfl rfl, fun U hU hW => ⟨rfl, zb_mk hU hW hPr hPc hKc hDc hN hH hS hFc zx_e⟩⟩ rfl rfl hl.1 rfl (lv_room (Nat.le_of_ble_eq_true rfl)) dX7_opened_20 ⟨Nat.le_of_ble_eq_true rfl, Nat.le_of_ble_eq_true rfl⟩) hS (fun q _ h => hFc q h) hFc (fun u r9 t H8 locs ht hvm hw hB hz1 hk1 hS => ?_)
  obtain ⟨hq10_0, hP1, hD1, hK1⟩ := hB
  rw [ht] at hP1
  obtain ⟨hP, hD⟩ := va_join (wr := []) (w1 := []) hP hD [] [] rfl rfl (by decide) (by decide) hk1 hFc hP1 hD1
  have hP : va_P (dC, dI) vwCl [] H8 := hP
  have hD : va_D A [] := hD
  obtain rfl : la1 = r9 := hq10_0.symm
  refine va_castA (nm := "[I") hx hb hown (hts (.classLink RX7 46 "[I") (by decide +kernel)) (zo_R hR0 hS hAr) 4 rfl (show s.vm.findClass "[I" = some cA1 from (hK.2 2 _ rfl).2) dX7_opened_23 ?_
  refine lv_iconst (v := 4) hx hb dX7_opened_26 (by decide) ?_
  refine va_iald hx hb hK (zo_R hR0 hS hAr) 4 2 rfl rfl (by unfold vp_in; decide) dX7_opened_27 ?_
  refine zo_i (v := 0) (by rw [show Int32.toNatClampNeg 4 = 4 from by decide]; exact ha1_4) ?_
  refine lv_iconst (v := 1) hx hb dX7_opened_28 (by decide) ?_
  refine lv_icmp_ne (tgt := 38) hx hb dX7_opened_29 (by decide) (fun _ => ?_) (fun h => absurd h (by decide))
  refine lv_iinc (v := 2) (lv' := [(2, .int 2), (1, .int 0), (0, .ref mr)]) hx hb dX7_opened_38 hl (k := 0) rfl (by decide) (by decide) rfl (fun ls hl => ?_)
  refine lv_goto (tgt := 4) hx hb dX7_opened_41 (by decide) ?_
  refine lv_iload_n hx hb dX7_opened_4 rfl (lv_at hl 0 rfl) ?_
  refine lv_aload_n hx hb dX7_opened_5 rfl (lv_at hl 2 rfl) ?_
  refine va_get (D := (dC, dI)) (ci := 9) (v := .ref ll) (C := RX7) (T := TX7) (N := 14) hx hb hts zi_X7_opened_X7 hown hK (zo_R hR0 hS hAr) 0 rfl rfl 0 (by decide) (hts (.fieldLink RX7 12 "LockRoomsModel$Room" "locks" "Ljava/util/ArrayList;") (by decide +kernel)) (fun _ h9 => h9) rfl dX7_opened_6 ?_
  have hPr := ((zo_R hR0 hS hAr)).sub (ws' := [(ll, .inr (1, [.int 2, .ref ola, .int 2]))]) [1] rfl
  have hPc := hP.sub (ws' := []) [] rfl
  have hDc := hD.sub (ws' := []) [] (by decide) rfl
  have hKc := hK.sub (tys' := []) [] rfl
  have hFc := va_free (wc := []) hD hS hA [] rfl
  refine va_calli (va_runV (As := []) (rest := [.int 2]) ⟨hx, hb, hml, hown, hts⟩ (cz_Qsize l dC dI ed H8.size ll 2 ola 2) (cwV 0 hts gX7_opened_Jx4a65c_size_8abf5 rfl rfl rfl (by decide +kernel) ⟨Nat.le_of_ble_eq_true rfl, Nat.le_of_ble_eq_true rfl⟩) ⟨zb_blind, va_recv hK (zo_R hR0 hS hAr) (ci := 1) (q0 := 1) rfl rfl, fun U hU hW => ⟨rfl, zb_mk hU hW hPr hPc hKc hDc hN hH hS hFc zx_e⟩⟩ rfl rfl hl.1 rfl (lv_room (Nat.le_of_ble_eq_true rfl)) dX7_opened_9 ⟨Nat.le_of_ble_eq_true rfl, Nat.le_of_ble_eq_true rfl⟩) hS (fun q _ h => hFc q h) hFc (fun r12 u t H11 locs ht hvm hw hB hz1 hk1 hS => ?_)
  obtain rfl : r12 = 2 := hw.trans (by decide +kernel)
  have hP := zo_K hP hk1
  refine lv_icmp_ge (tgt := 44) hx hb dX7_opened_12 (by decide) (fun _ => ?_) (fun h => absurd h (by decide))
  refine lv_iload_n hx hb dX7_opened_44 rfl (lv_at hl 1 rfl) ?_
  refine W.widen (k := 0) (n := 0) (Nat.le_of_ble_eq_true rfl) (Nat.le_of_ble_eq_true rfl) ?_
  exact W.iret hx hb hr (fun t ht hW => ⟨⟨0, (), rfl, rfl, trivial⟩, hS.F ht⟩) hS.2.2 dX7_opened_45
set_option maxHeartbeats 4000000 in
set_option maxRecDepth 100000 in
theorem cz_QinState_1 (l : Launch) (dC : Nat → ClassId) (dI : Nat → Nat → Nat) (ed sz : Nat) (mr : Nat) (ll : Nat) (lt : Nat) (lp : Nat) (ota : Nat) (cOt : ClassId) (fot : Nat → Option Nat) (ta0 : Nat) (ta1 : Nat) (ta2 : Nat) (ta3 : Nat) (ta4 : Nat) (ta5 : Nat) (ta6 : Nat) (ta7 : Nat) (ta8 : Nat) (ta9 : Nat) (cB0 : ClassId) (fb0 : Nat → Int32) (cB1 : ClassId) (fb1 : Nat → Int32) (cB2 : ClassId) (fb2 : Nat → Int32) (cB3 : ClassId) (fb3 : Nat → Int32) (cB4 : ClassId) (fb4 : Nat → Int32) (cB5 : ClassId) (fb5 : Nat → Int32) (cB6 : ClassId) (fb6 : Nat → Int32) (cB7 : ClassId) (fb7 : Nat → Int32) (cB8 : ClassId) (fb8 : Nat → Int32) (cB9 : ClassId) (fb9 : Nat → Int32) (hot0 : fot 0 = some ta0) (hot1 : fot 1 = some ta1) (hot2 : fot 2 = some ta2) (hot3 : fot 3 = some ta3) (hot4 : fot 4 = some ta4) (hot5 : fot 5 = some ta5) (hot6 : fot 6 = some ta6) (hot7 : fot 7 = some ta7) (hot8 : fot 8 = some ta8) (hot9 : fot 9 = some ta9) (hb0_3 : fb0 3 = 0) (hb1_3 : fb1 3 = 0) (hb2_3 : fb2 3 = 0) (hb3_3 : fb3 3 = 0) (hb4_3 : fb4 3 = 0) (hb5_3 : fb5 3 = 0) (hb6_3 : fb6 3 = 0) (hb7_3 : fb7 3 = 0) (hb8_3 : fb8 3 = 0) (hb9_3 : fb9 3 = 0) : Met l yX7_inState wsX7_inState ({ frames := 3, cells := 0, slots := 0, locals := 64 } : Jvm.Room) (va_Pc [.ref mr, .int 1] (zB dC dI ed sz [(mr, .inr (9, [.ref ll, .ref lt, .ref lp, .int 0, .int 0, .int 0, .int 0, .int 0, .int 0, .int 0, .int (-1), .int 0, .int 0, .int 0])), (lt, .inr (1, [.int 10, .ref ota, .int 10])), (ota, .inl (cOt, 10, .inr (.inr (.inr (.inr fot))))), (ta0, .inl (cB0, 5, .inl fb0)), (ta1, .inl (cB1, 5, .inl fb1)), (ta2, .inl (cB2, 5, .inl fb2)), (ta3, .inl (cB3, 5, .inl fb3)), (ta4, .inl (cB4, 5, .inl fb4)), (ta5, .inl (cB5, 5, .inl fb5)), (ta6, .inl (cB6, 5, .inl fb6)), (ta7, .inl (cB7, 5, .inl fb7)), (ta8, .inl (cB8, 5, .inl fb8)), (ta9, .inl (cB9, 5, .inl fb9))] [] [(cOt, .object "java/lang/Object"), (cB0, .int), (cB1, .int), (cB2, .int), (cB3, .int), (cB4, .int), (cB5, .int), (cB6, .int), (cB7, .int), (cB8, .int), (cB9, .int)])) (va_Qi (fun (r : Int32) (_ : Unit) => r = 0) (fun (_ : Unit) (_ : State) => True) (va_A [] sz)) 0 0 (va_A [] sz) := by
  refine Met.ofW (cc := cX7_inState) (maxL := 4) (ret := (some .int)) (by decide) rfl ?_
  intro p e s m args below meth c s₁ B hml hv
  obtain ⟨rfl, hsz, hR0, hP, hK, hD0, hN, hH, hX0⟩ := hv
  have hx := B.exec
  have hb := B.bytes
  have hr := B.returns
  have hts := atoms_spec (ws := wsX7_inState) B.pre
  have hown : s.vm.findClass RX7 = some m.cls := findClass_of_methodNamed B.named
  have hlocks := B.notSynchronized
  subst hsz
  have hD := hD0.self (sz := s.heap.size)
  have hAr := zx_A hX0 hR0
  generalize hAe : va_A [] s.heap.size = A at hD hAr hH ⊢
  have hA : ∀ q : Nat, s.heap.size ≤ q → A q := fun q h => by rw [← hAe]; exact Or.inr h
  have hS : va_S A s.heap s.heap [] := va_S.rf
  have hl := lv_entry ([.ref mr, .int 1]) (n := 4) (Nat.le_of_ble_eq_true rfl)
  rw [lg_entry_eq]
  generalize (lg_sl ([.ref mr, .int 1]) ++ List.replicate (4 - (lg_sl ([.ref mr, .int 1])).length) Slot.unset).toArray = ls at hl ⊢
  have hl : lv_has ls 4 [(0, .ref mr), (1, .int 1)] := hl
  refine lv_iconst (v := 0) hx hb dX7_inState_0 (by decide) ?_
  refine lv_istore_n (lv' := [(2, .int 0), (0, .ref mr), (1, .int 1)]) hx hb dX7_inState_1 rfl hl (by decide) rfl (fun ls hl => ?_)
  refine lv_iconst (v := 0) hx hb dX7_inState_2 (by decide) ?_
  refine lv_istore_n (lv' := [(3, .int 0), (2, .int 0), (0, .ref mr), (1, .int 1)]) hx hb dX7_inState_3 rfl hl (by decide) rfl (fun ls hl => ?_)
  refine lv_iload_n hx hb dX7_inState_4 rfl (lv_at hl 0 rfl) ?_
  refine lv_aload_n hx hb dX7_inState_5 rfl (lv_at hl 2 rfl) ?_
  refine va_get (D := (dC, dI)) (ci := 9) (v := .ref lt) (C := RX7) (T := TX7) (N := 14) hx hb hts zi_X7_inState_X7 hown hK hR0 0 rfl rfl 1 (by decide) (hts (.fieldLink RX7 18 "LockRoomsModel$Room" "things" "Ljava/util/ArrayList;") (by decide +kernel)) (fun _ h9 => h9) rfl dX7_inState_6 ?_
  have hPr := (hR0).sub (ws' := [(lt, .inr (1, [.int 10, .ref ota, .int 10]))]) [1] rfl
  have hPc := hP.sub (ws' := []) [] rfl
  have hDc := hD.sub (ws' := []) [] (by decide) rfl
  have hKc := hK.sub (tys' := []) [] rfl
  have hFc := va_free (wc := []) hD hS hA [] rfl
  refine va_calli (va_runV (As := []) (rest := [.int 0]) ⟨hx, hb, hml, hown, hts⟩ (cz_Qsize l dC dI ed s.heap.size lt 10 ota 10) (cwV 0 hts gX7_inState_Jx4a65c_size_8abf5 rfl rfl rfl (by decide +kernel) ⟨Nat.le_of_ble_eq_true rfl, Nat.le_of_ble_eq_true rfl⟩) ⟨zb_blind, va_recv hK hR0 (ci := 1) (q0 := 1) rfl rfl, fun U hU hW => ⟨rfl, zb_mk hU hW hPr hPc hKc hDc hN hH hS hFc zx_e⟩⟩ rfl rfl hl.1 rfl (lv_room (Nat.le_of_ble_eq_true rfl)) dX7_inState_9 ⟨Nat.le_of_ble_eq_true rfl, Nat.le_of_ble_eq_true rfl⟩) hS (fun q _ h => hFc q h) hFc (fun r2 u t H1 locs ht hvm hw hB hz1 hk1 hS => ?_)
  obtain rfl : r2 = 10 := hw.trans (by decide +kernel)
  have hP := zo_K hP hk1
  refine lv_icmp_ge (tgt := 44) hx hb dX7_inState_12 (by decide) (fun h => absurd h (by decide)) (fun _ => ?_)
  refine lv_aload_n hx hb dX7_inState_15 rfl (lv_at hl 2 rfl) ?_
  refine va_get (D := (dC, dI)) (ci := 9) (v := .ref lt) (C := RX7) (T := TX7) (N := 14) hx hb hts zi_X7_inState_X7 hown hK (zo_R hR0 hS hAr) 0 rfl rfl 1 (by decide) (hts (.fieldLink RX7 18 "LockRoomsModel$Room" "things" "Ljava/util/ArrayList;") (by decide +kernel)) (fun _ h9 => h9) rfl dX7_inState_16 ?_
  refine lv_iload_n hx hb dX7_inState_19 rfl (lv_at hl 0 rfl) ?_
  have hPr := ((zo_R hR0 hS hAr)).sub (ws' := [(lt, .inr (1, [.int 10, .ref ota, .int 10])), (ota, .inl (cOt, 10, .inr (.inr (.inr (.inr fot)))))]) [1, 2] rfl
  have hPc := hP.sub (ws' := []) [] rfl
  have hDc := hD.sub (ws' := []) [] (by decide) rfl
  have hKc := hK.sub (tys' := [(cOt, .object "java/lang/Object")]) [0] rfl
  have hFc := va_free (wc := []) hD hS hA [] rfl
  refine va_callr (va_runV (As := [.int 0]) (rest := []) ⟨hx, hb, hml, hown, hts⟩ (cz_Qget_0_10 l dC dI ed H1.size lt 10 ota cOt fot ta0 hot0) (cwV 1 hts gX7_inState_Jx4a65c_get_915e3 rfl rfl rfl (by decide +kernel) ⟨Nat.le_of_ble_eq_true rfl, Nat.le_of_ble_eq_true rfl⟩) ⟨zb_blind, va_recv hK (zo_R hR0 hS hAr) (ci := 1) (q0 := 1) rfl rfl, fun U hU hW => ⟨rfl, zb_mk hU hW hPr hPc hKc hDc hN hH hS hFc zx_e⟩⟩ rfl rfl hl.1 rfl (lv_room (Nat.le_of_ble_eq_true rfl)) dX7_inState_20 ⟨Nat.le_of_ble_eq_true rfl, Nat.le_of_ble_eq_true rfl⟩) hS (fun q _ h => hFc q h) hFc (fun u r4 t H3 locs ht hvm hw hB hz1 hk1 hS => ?_)
  obtain ⟨hq5_0, hP1, hD1, hK1⟩ := hB
  rw [ht] at hP1
  obtain ⟨hP, hD⟩ := va_join (wr := []) (w1 := []) hP hD [] [] rfl rfl (by decide) (by decide) hk1 hFc hP1 hD1
  have hP : va_P (dC, dI) vwCl [] H3 := hP
  have hD : va_D A [] := hD
  obtain rfl : ta0 = r4 := hq5_0.symm
  refine va_castA (nm := "[I") hx hb hown (hts (.classLink RX7 46 "[I") (by decide +kernel)) (zo_R hR0 hS hAr) 3 rfl (show s.vm.findClass "[I" = some cB0 from (hK.2 1 _ rfl).2) dX7_inState_23 ?_
  refine lv_iconst (v := 3) hx hb dX7_inState_26 (by decide) ?_
  refine va_iald hx hb hK (zo_R hR0 hS hAr) 3 1 rfl rfl (by unfold vp_in; decide) dX7_inState_27 ?_
  refine zo_i (v := 0) (by rw [show Int32.toNatClampNeg 3 = 3 from by decide]; exact hb0_3) ?_
  refine lv_iload_n hx hb dX7_inState_28 rfl (lv_at hl 3 rfl) ?_
  refine lv_icmp_ne (tgt := 38) hx hb dX7_inState_29 (by decide) (fun _ => ?_) (fun h => absurd h (by decide))
  refine lv_iinc (v := 1) (lv' := [(3, .int 1), (2, .int 0), (0, .ref mr), (1, .int 1)]) hx hb dX7_inState_38 hl (k := 0) rfl (by decide) (by decide) rfl (fun ls hl => ?_)
  refine lv_goto (tgt := 4) hx hb dX7_inState_41 (by decide) ?_
  refine lv_iload_n hx hb dX7_inState_4 rfl (lv_at hl 0 rfl) ?_
  refine lv_aload_n hx hb dX7_inState_5 rfl (lv_at hl 2 rfl) ?_
  refine va_get (D := (dC, dI)) (ci := 9) (v := .ref lt) (C := RX7) (T := TX7) (N := 14) hx hb hts zi_X7_inState_X7 hown hK (zo_R hR0 hS hAr) 0 rfl rfl 1 (by decide) (hts (.fieldLink RX7 18 "LockRoomsModel$Room" "things" "Ljava/util/ArrayList;") (by decide +kernel)) (fun _ h9 => h9) rfl dX7_inState_6 ?_
  have hPr := ((zo_R hR0 hS hAr)).sub (ws' := [(lt, .inr (1, [.int 10, .ref ota, .int 10]))]) [1] rfl
  have hPc := hP.sub (ws' := []) [] rfl
  have hDc := hD.sub (ws' := []) [] (by decide) rfl
  have hKc := hK.sub (tys' := []) [] rfl
  have hFc := va_free (wc := []) hD hS hA [] rfl
  refine va_calli (va_runV (As := []) (rest := [.int 1]) ⟨hx, hb, hml, hown, hts⟩ (cz_Qsize l dC dI ed H3.size lt 10 ota 10) (cwV 0 hts gX7_inState_Jx4a65c_size_8abf5 rfl rfl rfl (by decide +kernel) ⟨Nat.le_of_ble_eq_true rfl, Nat.le_of_ble_eq_true rfl⟩) ⟨zb_blind, va_recv hK (zo_R hR0 hS hAr) (ci := 1) (q0 := 1) rfl rfl, fun U hU hW => ⟨rfl, zb_mk hU hW hPr hPc hKc hDc hN hH hS hFc zx_e⟩⟩ rfl rfl hl.1 rfl (lv_room (Nat.le_of_ble_eq_true rfl)) dX7_inState_9 ⟨Nat.le_of_ble_eq_true rfl, Nat.le_of_ble_eq_true rfl⟩) hS (fun q _ h => hFc q h) hFc (fun r7 u t H6 locs ht hvm hw hB hz1 hk1 hS => ?_)
  obtain rfl : r7 = 10 := hw.trans (by decide +kernel)
  have hP := zo_K hP hk1
  refine lv_icmp_ge (tgt := 44) hx hb dX7_inState_12 (by decide) (fun h => absurd h (by decide)) (fun _ => ?_)
  refine lv_aload_n hx hb dX7_inState_15 rfl (lv_at hl 2 rfl) ?_
  refine va_get (D := (dC, dI)) (ci := 9) (v := .ref lt) (C := RX7) (T := TX7) (N := 14) hx hb hts zi_X7_inState_X7 hown hK (zo_R hR0 hS hAr) 0 rfl rfl 1 (by decide) (hts (.fieldLink RX7 18 "LockRoomsModel$Room" "things" "Ljava/util/ArrayList;") (by decide +kernel)) (fun _ h9 => h9) rfl dX7_inState_16 ?_
  refine lv_iload_n hx hb dX7_inState_19 rfl (lv_at hl 0 rfl) ?_
  have hPr := ((zo_R hR0 hS hAr)).sub (ws' := [(lt, .inr (1, [.int 10, .ref ota, .int 10])), (ota, .inl (cOt, 10, .inr (.inr (.inr (.inr fot)))))]) [1, 2] rfl
  have hPc := hP.sub (ws' := []) [] rfl
  have hDc := hD.sub (ws' := []) [] (by decide) rfl
  have hKc := hK.sub (tys' := [(cOt, .object "java/lang/Object")]) [0] rfl
  have hFc := va_free (wc := []) hD hS hA [] rfl
  refine va_callr (va_runV (As := [.int 1]) (rest := []) ⟨hx, hb, hml, hown, hts⟩ (cz_Qget_1_10 l dC dI ed H6.size lt 10 ota cOt fot ta1 hot1) (cwV 1 hts gX7_inState_Jx4a65c_get_915e3 rfl rfl rfl (by decide +kernel) ⟨Nat.le_of_ble_eq_true rfl, Nat.le_of_ble_eq_true rfl⟩) ⟨zb_blind, va_recv hK (zo_R hR0 hS hAr) (ci := 1) (q0 := 1) rfl rfl, fun U hU hW => ⟨rfl, zb_mk hU hW hPr hPc hKc hDc hN hH hS hFc zx_e⟩⟩ rfl rfl hl.1 rfl (lv_room (Nat.le_of_ble_eq_true rfl)) dX7_inState_20 ⟨Nat.le_of_ble_eq_true rfl, Nat.le_of_ble_eq_true rfl⟩) hS (fun q _ h => hFc q h) hFc (fun u r9 t H8 locs ht hvm hw hB hz1 hk1 hS => ?_)
  obtain ⟨hq10_0, hP1, hD1, hK1⟩ := hB
  rw [ht] at hP1
  obtain ⟨hP, hD⟩ := va_join (wr := []) (w1 := []) hP hD [] [] rfl rfl (by decide) (by decide) hk1 hFc hP1 hD1
  have hP : va_P (dC, dI) vwCl [] H8 := hP
  have hD : va_D A [] := hD
  obtain rfl : ta1 = r9 := hq10_0.symm
  refine va_castA (nm := "[I") hx hb hown (hts (.classLink RX7 46 "[I") (by decide +kernel)) (zo_R hR0 hS hAr) 4 rfl (show s.vm.findClass "[I" = some cB1 from (hK.2 2 _ rfl).2) dX7_inState_23 ?_
  refine lv_iconst (v := 3) hx hb dX7_inState_26 (by decide) ?_
  refine va_iald hx hb hK (zo_R hR0 hS hAr) 4 2 rfl rfl (by unfold vp_in; decide) dX7_inState_27 ?_
  refine zo_i (v := 0) (by rw [show Int32.toNatClampNeg 3 = 3 from by decide]; exact hb1_3) ?_
  refine lv_iload_n hx hb dX7_inState_28 rfl (lv_at hl 3 rfl) ?_
  refine lv_icmp_ne (tgt := 38) hx hb dX7_inState_29 (by decide) (fun _ => ?_) (fun h => absurd h (by decide))
  refine lv_iinc (v := 2) (lv' := [(3, .int 2), (2, .int 0), (0, .ref mr), (1, .int 1)]) hx hb dX7_inState_38 hl (k := 0) rfl (by decide) (by decide) rfl (fun ls hl => ?_)
  refine lv_goto (tgt := 4) hx hb dX7_inState_41 (by decide) ?_
  refine lv_iload_n hx hb dX7_inState_4 rfl (lv_at hl 0 rfl) ?_
  refine lv_aload_n hx hb dX7_inState_5 rfl (lv_at hl 2 rfl) ?_
  refine va_get (D := (dC, dI)) (ci := 9) (v := .ref lt) (C := RX7) (T := TX7) (N := 14) hx hb hts zi_X7_inState_X7 hown hK (zo_R hR0 hS hAr) 0 rfl rfl 1 (by decide) (hts (.fieldLink RX7 18 "LockRoomsModel$Room" "things" "Ljava/util/ArrayList;") (by decide +kernel)) (fun _ h9 => h9) rfl dX7_inState_6 ?_
  have hPr := ((zo_R hR0 hS hAr)).sub (ws' := [(lt, .inr (1, [.int 10, .ref ota, .int 10]))]) [1] rfl
  have hPc := hP.sub (ws' := []) [] rfl
  have hDc := hD.sub (ws' := []) [] (by decide) rfl
  have hKc := hK.sub (tys' := []) [] rfl
  have hFc := va_free (wc := []) hD hS hA [] rfl
  refine va_calli (va_runV (As := []) (rest := [.int 2]) ⟨hx, hb, hml, hown, hts⟩ (cz_Qsize l dC dI ed H8.size lt 10 ota 10) (cwV 0 hts gX7_inState_Jx4a65c_size_8abf5 rfl rfl rfl (by decide +kernel) ⟨Nat.le_of_ble_eq_true rfl, Nat.le_of_ble_eq_true rfl⟩) ⟨zb_blind, va_recv hK (zo_R hR0 hS hAr) (ci := 1) (q0 := 1) rfl rfl, fun U hU hW => ⟨rfl, zb_mk hU hW hPr hPc hKc hDc hN hH hS hFc zx_e⟩⟩ rfl rfl hl.1 rfl (lv_room (Nat.le_of_ble_eq_true rfl)) dX7_inState_9 ⟨Nat.le_of_ble_eq_true rfl, Nat.le_of_ble_eq_true rfl⟩) hS (fun q _ h => hFc q h) hFc (fun r12 u t H11 locs ht hvm hw hB hz1 hk1 hS => ?_)
  obtain rfl : r12 = 10 := hw.trans (by decide +kernel)
  have hP := zo_K hP hk1
  refine lv_icmp_ge (tgt := 44) hx hb dX7_inState_12 (by decide) (fun h => absurd h (by decide)) (fun _ => ?_)
  refine lv_aload_n hx hb dX7_inState_15 rfl (lv_at hl 2 rfl) ?_
  refine va_get (D := (dC, dI)) (ci := 9) (v := .ref lt) (C := RX7) (T := TX7) (N := 14) hx hb hts zi_X7_inState_X7 hown hK (zo_R hR0 hS hAr) 0 rfl rfl 1 (by decide) (hts (.fieldLink RX7 18 "LockRoomsModel$Room" "things" "Ljava/util/ArrayList;") (by decide +kernel)) (fun _ h9 => h9) rfl dX7_inState_16 ?_
  refine lv_iload_n hx hb dX7_inState_19 rfl (lv_at hl 0 rfl) ?_
  have hPr := ((zo_R hR0 hS hAr)).sub (ws' := [(lt, .inr (1, [.int 10, .ref ota, .int 10])), (ota, .inl (cOt, 10, .inr (.inr (.inr (.inr fot)))))]) [1, 2] rfl
  have hPc := hP.sub (ws' := []) [] rfl
  have hDc := hD.sub (ws' := []) [] (by decide) rfl
  have hKc := hK.sub (tys' := [(cOt, .object "java/lang/Object")]) [0] rfl
  have hFc := va_free (wc := []) hD hS hA [] rfl
  refine va_callr (va_runV (As := [.int 2]) (rest := []) ⟨hx, hb, hml, hown, hts⟩ (cz_Qget_2_10 l dC dI ed H11.size lt 10 ota cOt fot ta2 hot2) (cwV 1 hts gX7_inState_Jx4a65c_get_915e3 rfl rfl rfl (by decide +kernel) ⟨Nat.le_of_ble_eq_true rfl, Nat.le_of_ble_eq_true rfl⟩) ⟨zb_blind, va_recv hK (zo_R hR0 hS hAr) (ci := 1) (q0 := 1) rfl rfl, fun U hU hW => ⟨rfl, zb_mk hU hW hPr hPc hKc hDc hN hH hS hFc zx_e⟩⟩ rfl rfl hl.1 rfl (lv_room (Nat.le_of_ble_eq_true rfl)) dX7_inState_20 ⟨Nat.le_of_ble_eq_true rfl, Nat.le_of_ble_eq_true rfl⟩) hS (fun q _ h => hFc q h) hFc (fun u r14 t H13 locs ht hvm hw hB hz1 hk1 hS => ?_)
  obtain ⟨hq15_0, hP1, hD1, hK1⟩ := hB
  rw [ht] at hP1
  obtain ⟨hP, hD⟩ := va_join (wr := []) (w1 := []) hP hD [] [] rfl rfl (by decide) (by decide) hk1 hFc hP1 hD1
  have hP : va_P (dC, dI) vwCl [] H13 := hP
  have hD : va_D A [] := hD
  obtain rfl : ta2 = r14 := hq15_0.symm
  refine va_castA (nm := "[I") hx hb hown (hts (.classLink RX7 46 "[I") (by decide +kernel)) (zo_R hR0 hS hAr) 5 rfl (show s.vm.findClass "[I" = some cB2 from (hK.2 3 _ rfl).2) dX7_inState_23 ?_
  refine lv_iconst (v := 3) hx hb dX7_inState_26 (by decide) ?_
  refine va_iald hx hb hK (zo_R hR0 hS hAr) 5 3 rfl rfl (by unfold vp_in; decide) dX7_inState_27 ?_
  refine zo_i (v := 0) (by rw [show Int32.toNatClampNeg 3 = 3 from by decide]; exact hb2_3) ?_
  refine lv_iload_n hx hb dX7_inState_28 rfl (lv_at hl 3 rfl) ?_
  refine lv_icmp_ne (tgt := 38) hx hb dX7_inState_29 (by decide) (fun _ => ?_) (fun h => absurd h (by decide))
  refine lv_iinc (v := 3) (lv' := [(3, .int 3), (2, .int 0), (0, .ref mr), (1, .int 1)]) hx hb dX7_inState_38 hl (k := 0) rfl (by decide) (by decide) rfl (fun ls hl => ?_)
  refine lv_goto (tgt := 4) hx hb dX7_inState_41 (by decide) ?_
  refine lv_iload_n hx hb dX7_inState_4 rfl (lv_at hl 0 rfl) ?_
  refine lv_aload_n hx hb dX7_inState_5 rfl (lv_at hl 2 rfl) ?_
  refine va_get (D := (dC, dI)) (ci := 9) (v := .ref lt) (C := RX7) (T := TX7) (N := 14) hx hb hts zi_X7_inState_X7 hown hK (zo_R hR0 hS hAr) 0 rfl rfl 1 (by decide) (hts (.fieldLink RX7 18 "LockRoomsModel$Room" "things" "Ljava/util/ArrayList;") (by decide +kernel)) (fun _ h9 => h9) rfl dX7_inState_6 ?_
  have hPr := ((zo_R hR0 hS hAr)).sub (ws' := [(lt, .inr (1, [.int 10, .ref ota, .int 10]))]) [1] rfl
  have hPc := hP.sub (ws' := []) [] rfl
  have hDc := hD.sub (ws' := []) [] (by decide) rfl
  have hKc := hK.sub (tys' := []) [] rfl
  have hFc := va_free (wc := []) hD hS hA [] rfl
  refine va_calli (va_runV (As := []) (rest := [.int 3]) ⟨hx, hb, hml, hown, hts⟩ (cz_Qsize l dC dI ed H13.size lt 10 ota 10) (cwV 0 hts gX7_inState_Jx4a65c_size_8abf5 rfl rfl rfl (by decide +kernel) ⟨Nat.le_of_ble_eq_true rfl, Nat.le_of_ble_eq_true rfl⟩) ⟨zb_blind, va_recv hK (zo_R hR0 hS hAr) (ci := 1) (q0 := 1) rfl rfl, fun U hU hW => ⟨rfl, zb_mk hU hW hPr hPc hKc hDc hN hH hS hFc zx_e⟩⟩ rfl rfl hl.1 rfl (lv_room (Nat.le_of_ble_eq_true rfl)) dX7_inState_9 ⟨Nat.le_of_ble_eq_true rfl, Nat.le_of_ble_eq_true rfl⟩) hS (fun q _ h => hFc q h) hFc (fun r17 u t H16 locs ht hvm hw hB hz1 hk1 hS => ?_)
  obtain rfl : r17 = 10 := hw.trans (by decide +kernel)
  have hP := zo_K hP hk1
  refine lv_icmp_ge (tgt := 44) hx hb dX7_inState_12 (by decide) (fun h => absurd h (by decide)) (fun _ => ?_)
  refine lv_aload_n hx hb dX7_inState_15 rfl (lv_at hl 2 rfl) ?_
  refine va_get (D := (dC, dI)) (ci := 9) (v := .ref lt) (C := RX7) (T := TX7) (N := 14) hx hb hts zi_X7_inState_X7 hown hK (zo_R hR0 hS hAr) 0 rfl rfl 1 (by decide) (hts (.fieldLink RX7 18 "LockRoomsModel$Room" "things" "Ljava/util/ArrayList;") (by decide +kernel)) (fun _ h9 => h9) rfl dX7_inState_16 ?_
  refine lv_iload_n hx hb dX7_inState_19 rfl (lv_at hl 0 rfl) ?_
  have hPr := ((zo_R hR0 hS hAr)).sub (ws' := [(lt, .inr (1, [.int 10, .ref ota, .int 10])), (ota, .inl (cOt, 10, .inr (.inr (.inr (.inr fot)))))]) [1, 2] rfl
  have hPc := hP.sub (ws' := []) [] rfl
  have hDc := hD.sub (ws' := []) [] (by decide) rfl
  have hKc := hK.sub (tys' := [(cOt, .object "java/lang/Object")]) [0] rfl
  have hFc := va_free (wc := []) hD hS hA [] rfl
  refine va_callr (va_runV (As := [.int 3]) (rest := []) ⟨hx, hb, hml, hown, hts⟩ (cz_Qget_3_10 l dC dI ed H16.size lt 10 ota cOt fot ta3 hot3) (cwV 1 hts gX7_inState_Jx4a65c_get_915e3 rfl rfl rfl (by decide +kernel) ⟨Nat.le_of_ble_eq_true rfl, Nat.le_of_ble_eq_true rfl⟩) ⟨zb_blind, va_recv hK (zo_R hR0 hS hAr) (ci := 1) (q0 := 1) rfl rfl, fun U hU hW => ⟨rfl, zb_mk hU hW hPr hPc hKc hDc hN hH hS hFc zx_e⟩⟩ rfl rfl hl.1 rfl (lv_room (Nat.le_of_ble_eq_true rfl)) dX7_inState_20 ⟨Nat.le_of_ble_eq_true rfl, Nat.le_of_ble_eq_true rfl⟩) hS (fun q _ h => hFc q h) hFc (fun u r19 t H18 locs ht hvm hw hB hz1 hk1 hS => ?_)
  obtain ⟨hq20_0, hP1, hD1, hK1⟩ := hB
  rw [ht] at hP1
  obtain ⟨hP, hD⟩ := va_join (wr := []) (w1 := []) hP hD [] [] rfl rfl (by decide) (by decide) hk1 hFc hP1 hD1
  have hP : va_P (dC, dI) vwCl [] H18 := hP
  have hD : va_D A [] := hD
  obtain rfl : ta3 = r19 := hq20_0.symm
  refine va_castA (nm := "[I") hx hb hown (hts (.classLink RX7 46 "[I") (by decide +kernel)) (zo_R hR0 hS hAr) 6 rfl (show s.vm.findClass "[I" = some cB3 from (hK.2 4 _ rfl).2) dX7_inState_23 ?_
  refine lv_iconst (v := 3) hx hb dX7_inState_26 (by decide) ?_
  refine va_iald hx hb hK (zo_R hR0 hS hAr) 6 4 rfl rfl (by unfold vp_in; decide) dX7_inState_27 ?_
  refine zo_i (v := 0) (by rw [show Int32.toNatClampNeg 3 = 3 from by decide]; exact hb3_3) ?_
  refine lv_iload_n hx hb dX7_inState_28 rfl (lv_at hl 3 rfl) ?_
  refine lv_icmp_ne (tgt := 38) hx hb dX7_inState_29 (by decide) (fun _ => ?_) (fun h => absurd h (by decide))
  refine lv_iinc (v := 4) (lv' := [(3, .int 4), (2, .int 0), (0, .ref mr), (1, .int 1)]) hx hb dX7_inState_38 hl (k := 0) rfl (by decide) (by decide) rfl (fun ls hl => ?_)
  refine lv_goto (tgt := 4) hx hb dX7_inState_41 (by decide) ?_
  refine lv_iload_n hx hb dX7_inState_4 rfl (lv_at hl 0 rfl) ?_
  refine lv_aload_n hx hb dX7_inState_5 rfl (lv_at hl 2 rfl) ?_
  refine va_get (D := (dC, dI)) (ci := 9) (v := .ref lt) (C := RX7) (T := TX7) (N := 14) hx hb hts zi_X7_inState_X7 hown hK (zo_R hR0 hS hAr) 0 rfl rfl 1 (by decide) (hts (.fieldLink RX7 18 "LockRoomsModel$Room" "things" "Ljava/util/ArrayList;") (by decide +kernel)) (fun _ h9 => h9) rfl dX7_inState_6 ?_
  have hPr := ((zo_R hR0 hS hAr)).sub (ws' := [(lt, .inr (1, [.int 10, .ref ota, .int 10]))]) [1] rfl
  have hPc := hP.sub (ws' := []) [] rfl
  have hDc := hD.sub (ws' := []) [] (by decide) rfl
  have hKc := hK.sub (tys' := []) [] rfl
  have hFc := va_free (wc := []) hD hS hA [] rfl
  refine va_calli (va_runV (As := []) (rest := [.int 4]) ⟨hx, hb, hml, hown, hts⟩ (cz_Qsize l dC dI ed H18.size lt 10 ota 10) (cwV 0 hts gX7_inState_Jx4a65c_size_8abf5 rfl rfl rfl (by decide +kernel) ⟨Nat.le_of_ble_eq_true rfl, Nat.le_of_ble_eq_true rfl⟩) ⟨zb_blind, va_recv hK (zo_R hR0 hS hAr) (ci := 1) (q0 := 1) rfl rfl, fun U hU hW => ⟨rfl, zb_mk hU hW hPr hPc hKc hDc hN hH hS hFc zx_e⟩⟩ rfl rfl hl.1 rfl (lv_room (Nat.le_of_ble_eq_true rfl)) dX7_inState_9 ⟨Nat.le_of_ble_eq_true rfl, Nat.le_of_ble_eq_true rfl⟩) hS (fun q _ h => hFc q h) hFc (fun r22 u t H21 locs ht hvm hw hB hz1 hk1 hS => ?_)
  obtain rfl : r22 = 10 := hw.trans (by decide +kernel)
  have hP := zo_K hP hk1
  refine lv_icmp_ge (tgt := 44) hx hb dX7_inState_12 (by decide) (fun h => absurd h (by decide)) (fun _ => ?_)
  refine lv_aload_n hx hb dX7_inState_15 rfl (lv_at hl 2 rfl) ?_
  refine va_get (D := (dC, dI)) (ci := 9) (v := .ref lt) (C := RX7) (T := TX7) (N := 14) hx hb hts zi_X7_inState_X7 hown hK (zo_R hR0 hS hAr) 0 rfl rfl 1 (by decide) (hts (.fieldLink RX7 18 "LockRoomsModel$Room" "things" "Ljava/util/ArrayList;") (by decide +kernel)) (fun _ h9 => h9) rfl dX7_inState_16 ?_
  refine lv_iload_n hx hb dX7_inState_19 rfl (lv_at hl 0 rfl) ?_
  have hPr := ((zo_R hR0 hS hAr)).sub (ws' := [(lt, .inr (1, [.int 10, .ref ota, .int 10])), (ota, .inl (cOt, 10, .inr (.inr (.inr (.inr fot)))))]) [1, 2] rfl
  have hPc := hP.sub (ws' := []) [] rfl
  have hDc := hD.sub (ws' := []) [] (by decide) rfl
  have hKc := hK.sub (tys' := [(cOt, .object "java/lang/Object")]) [0] rfl
  have hFc := va_free (wc := []) hD hS hA [] rfl
  refine va_callr (va_runV (As := [.int 4]) (rest := []) ⟨hx, hb, hml, hown, hts⟩ (cz_Qget_4_10 l dC dI ed H21.size lt 10 ota cOt fot ta4 hot4) (cwV 1 hts gX7_inState_Jx4a65c_get_915e3 rfl rfl rfl (by decide +kernel) ⟨Nat.le_of_ble_eq_true rfl, Nat.le_of_ble_eq_true rfl⟩) ⟨zb_blind, va_recv hK (zo_R hR0 hS hAr) (ci := 1) (q0 := 1) rfl rfl, fun U hU hW => ⟨rfl, zb_mk hU hW hPr hPc hKc hDc hN hH hS hFc zx_e⟩⟩ rfl rfl hl.1 rfl (lv_room (Nat.le_of_ble_eq_true rfl)) dX7_inState_20 ⟨Nat.le_of_ble_eq_true rfl, Nat.le_of_ble_eq_true rfl⟩) hS (fun q _ h => hFc q h) hFc (fun u r24 t H23 locs ht hvm hw hB hz1 hk1 hS => ?_)
  obtain ⟨hq25_0, hP1, hD1, hK1⟩ := hB
  rw [ht] at hP1
  obtain ⟨hP, hD⟩ := va_join (wr := []) (w1 := []) hP hD [] [] rfl rfl (by decide) (by decide) hk1 hFc hP1 hD1
  have hP : va_P (dC, dI) vwCl [] H23 := hP
  have hD : va_D A [] := hD
  obtain rfl : ta4 = r24 := hq25_0.symm
  refine va_castA (nm := "[I") hx hb hown (hts (.classLink RX7 46 "[I") (by decide +kernel)) (zo_R hR0 hS hAr) 7 rfl (show s.vm.findClass "[I" = some cB4 from (hK.2 5 _ rfl).2) dX7_inState_23 ?_
  refine lv_iconst (v := 3) hx hb dX7_inState_26 (by decide) ?_
  refine va_iald hx hb hK (zo_R hR0 hS hAr) 7 5 rfl rfl (by unfold vp_in; decide) dX7_inState_27 ?_
  refine zo_i (v := 0) (by rw [show Int32.toNatClampNeg 3 = 3 from by decide]; exact hb4_3) ?_
  refine lv_iload_n hx hb dX7_inState_28 rfl (lv_at hl 3 rfl) ?_
  refine lv_icmp_ne (tgt := 38) hx hb dX7_inState_29 (by decide) (fun _ => ?_) (fun h => absurd h (by decide))
  refine lv_iinc (v := 5) (lv' := [(3, .int 5), (2, .int 0), (0, .ref mr), (1, .int 1)]) hx hb dX7_inState_38 hl (k := 0) rfl (by decide) (by decide) rfl (fun ls hl => ?_)
  refine lv_goto (tgt := 4) hx hb dX7_inState_41 (by decide) ?_
  refine lv_iload_n hx hb dX7_inState_4 rfl (lv_at hl 0 rfl) ?_
  refine lv_aload_n hx hb dX7_inState_5 rfl (lv_at hl 2 rfl) ?_
  refine va_get (D := (dC, dI)) (ci := 9) (v := .ref lt) (C := RX7) (T := TX7) (N := 14) hx hb hts zi_X7_inState_X7 hown hK (zo_R hR0 hS hAr) 0 rfl rfl 1 (by decide) (hts (.fieldLink RX7 18 "LockRoomsModel$Room" "things" "Ljava/util/ArrayList;") (by decide +kernel)) (fun _ h9 => h9) rfl dX7_inState_6 ?_
  have hPr := ((zo_R hR0 hS hAr)).sub (ws' := [(lt, .inr (1, [.int 10, .ref ota, .int 10]))]) [1] rfl
  have hPc := hP.sub (ws' := []) [] rfl
  have hDc := hD.sub (ws' := []) [] (by decide) rfl
  have hKc := hK.sub (tys' := []) [] rfl
  have hFc := va_free (wc := []) hD hS hA [] rfl
  refine va_calli (va_runV (As := []) (rest := [.int 5]) ⟨hx, hb, hml, hown, hts⟩ (cz_Qsize l dC dI ed H23.size lt 10 ota 10) (cwV 0 hts gX7_inState_Jx4a65c_size_8abf5 rfl rfl rfl (by decide +kernel) ⟨Nat.le_of_ble_eq_true rfl, Nat.le_of_ble_eq_true rfl⟩) ⟨zb_blind, va_recv hK (zo_R hR0 hS hAr) (ci := 1) (q0 := 1) rfl rfl, fun U hU hW => ⟨rfl, zb_mk hU hW hPr hPc hKc hDc hN hH hS hFc zx_e⟩⟩ rfl rfl hl.1 rfl (lv_room (Nat.le_of_ble_eq_true rfl)) dX7_inState_9 ⟨Nat.le_of_ble_eq_true rfl, Nat.le_of_ble_eq_true rfl⟩) hS (fun q _ h => hFc q h) hFc (fun r27 u t H26 locs ht hvm hw hB hz1 hk1 hS => ?_)
  obtain rfl : r27 = 10 := hw.trans (by decide +kernel)
  have hP := zo_K hP hk1
  refine lv_icmp_ge (tgt := 44) hx hb dX7_inState_12 (by decide) (fun h => absurd h (by decide)) (fun _ => ?_)
  refine lv_aload_n hx hb dX7_inState_15 rfl (lv_at hl 2 rfl) ?_
  refine va_get (D := (dC, dI)) (ci := 9) (v := .ref lt) (C := RX7) (T := TX7) (N := 14) hx hb hts zi_X7_inState_X7 hown hK (zo_R hR0 hS hAr) 0 rfl rfl 1 (by decide) (hts (.fieldLink RX7 18 "LockRoomsModel$Room" "things" "Ljava/util/ArrayList;") (by decide +kernel)) (fun _ h9 => h9) rfl dX7_inState_16 ?_
  refine lv_iload_n hx hb dX7_inState_19 rfl (lv_at hl 0 rfl) ?_
  have hPr := ((zo_R hR0 hS hAr)).sub (ws' := [(lt, .inr (1, [.int 10, .ref ota, .int 10])), (ota, .inl (cOt, 10, .inr (.inr (.inr (.inr fot)))))]) [1, 2] rfl
  have hPc := hP.sub (ws' := []) [] rfl
  have hDc := hD.sub (ws' := []) [] (by decide) rfl
  have hKc := hK.sub (tys' := [(cOt, .object "java/lang/Object")]) [0] rfl
  have hFc := va_free (wc := []) hD hS hA [] rfl
  refine va_callr (va_runV (As := [.int 5]) (rest := []) ⟨hx, hb, hml, hown, hts⟩ (cz_Qget_5_10 l dC dI ed H26.size lt 10 ota cOt fot ta5 hot5) (cwV 1 hts gX7_inState_Jx4a65c_get_915e3 rfl rfl rfl (by decide +kernel) ⟨Nat.le_of_ble_eq_true rfl, Nat.le_of_ble_eq_true rfl⟩) ⟨zb_blind, va_recv hK (zo_R hR0 hS hAr) (ci := 1) (q0 := 1) rfl rfl, fun U hU hW => ⟨rfl, zb_mk hU hW hPr hPc hKc hDc hN hH hS hFc zx_e⟩⟩ rfl rfl hl.1 rfl (lv_room (Nat.le_of_ble_eq_true rfl)) dX7_inState_20 ⟨Nat.le_of_ble_eq_true rfl, Nat.le_of_ble_eq_true rfl⟩) hS (fun q _ h => hFc q h) hFc (fun u r29 t H28 locs ht hvm hw hB hz1 hk1 hS => ?_)
  obtain ⟨hq30_0, hP1, hD1, hK1⟩ := hB
  rw [ht] at hP1
  obtain ⟨hP, hD⟩ := va_join (wr := []) (w1 := []) hP hD [] [] rfl rfl (by decide) (by decide) hk1 hFc hP1 hD1
  have hP : va_P (dC, dI) vwCl [] H28 := hP
  have hD : va_D A [] := hD
  obtain rfl : ta5 = r29 := hq30_0.symm
  refine va_castA (nm := "[I") hx hb hown (hts (.classLink RX7 46 "[I") (by decide +kernel)) (zo_R hR0 hS hAr) 8 rfl (show s.vm.findClass "[I" = some cB5 from (hK.2 6 _ rfl).2) dX7_inState_23 ?_
  refine lv_iconst (v := 3) hx hb dX7_inState_26 (by decide) ?_
  refine va_iald hx hb hK (zo_R hR0 hS hAr) 8 6 rfl rfl (by unfold vp_in; decide) dX7_inState_27 ?_
  refine zo_i (v := 0) (by rw [show Int32.toNatClampNeg 3 = 3 from by decide]; exact hb5_3) ?_
  refine lv_iload_n hx hb dX7_inState_28 rfl (lv_at hl 3 rfl) ?_
  refine lv_icmp_ne (tgt := 38) hx hb dX7_inState_29 (by decide) (fun _ => ?_) (fun h => absurd h (by decide))
  refine lv_iinc (v := 6) (lv' := [(3, .int 6), (2, .int 0), (0, .ref mr), (1, .int 1)]) hx hb dX7_inState_38 hl (k := 0) rfl (by decide) (by decide) rfl (fun ls hl => ?_)
  refine lv_goto (tgt := 4) hx hb dX7_inState_41 (by decide) ?_
  refine lv_iload_n hx hb dX7_inState_4 rfl (lv_at hl 0 rfl) ?_
  refine lv_aload_n hx hb dX7_inState_5 rfl (lv_at hl 2 rfl) ?_
  refine va_get (D := (dC, dI)) (ci := 9) (v := .ref lt) (C := RX7) (T := TX7) (N := 14) hx hb hts zi_X7_inState_X7 hown hK (zo_R hR0 hS hAr) 0 rfl rfl 1 (by decide) (hts (.fieldLink RX7 18 "LockRoomsModel$Room" "things" "Ljava/util/ArrayList;") (by decide +kernel)) (fun _ h9 => h9) rfl dX7_inState_6 ?_
  have hPr := ((zo_R hR0 hS hAr)).sub (ws' := [(lt, .inr (1, [.int 10, .ref ota, .int 10]))]) [1] rfl
  have hPc := hP.sub (ws' := []) [] rfl
  have hDc := hD.sub (ws' := []) [] (by decide) rfl
  have hKc := hK.sub (tys' := []) [] rfl
  have hFc := va_free (wc := []) hD hS hA [] rfl
  refine va_calli (va_runV (As := []) (rest := [.int 6]) ⟨hx, hb, hml, hown, hts⟩ (cz_Qsize l dC dI ed H28.size lt 10 ota 10) (cwV 0 hts gX7_inState_Jx4a65c_size_8abf5 rfl rfl rfl (by decide +kernel) ⟨Nat.le_of_ble_eq_true rfl, Nat.le_of_ble_eq_true rfl⟩) ⟨zb_blind, va_recv hK (zo_R hR0 hS hAr) (ci := 1) (q0 := 1) rfl rfl, fun U hU hW => ⟨rfl, zb_mk hU hW hPr hPc hKc hDc hN hH hS hFc zx_e⟩⟩ rfl rfl hl.1 rfl (lv_room (Nat.le_of_ble_eq_true rfl)) dX7_inState_9 ⟨Nat.le_of_ble_eq_true rfl, Nat.le_of_ble_eq_true rfl⟩) hS (fun q _ h => hFc q h) hFc (fun r32 u t H31 locs ht hvm hw hB hz1 hk1 hS => ?_)
  obtain rfl : r32 = 10 := hw.trans (by decide +kernel)
  have hP := zo_K hP hk1
  refine lv_icmp_ge (tgt := 44) hx hb dX7_inState_12 (by decide) (fun h => absurd h (by decide)) (fun _ => ?_)
  refine lv_aload_n hx hb dX7_inState_15 rfl (lv_at hl 2 rfl) ?_
  refine va_get (D := (dC, dI)) (ci := 9) (v := .ref lt) (C := RX7) (T := TX7) (N := 14) hx hb hts zi_X7_inState_X7 hown hK (zo_R hR0 hS hAr) 0 rfl rfl 1 (by decide) (hts (.fieldLink RX7 18 "LockRoomsModel$Room" "things" "Ljava/util/ArrayList;") (by decide +kernel)) (fun _ h9 => h9) rfl dX7_inState_16 ?_
  refine lv_iload_n hx hb dX7_inState_19 rfl (lv_at hl 0 rfl) ?_
  have hPr := ((zo_R hR0 hS hAr)).sub (ws' := [(lt, .inr (1, [.int 10, .ref ota, .int 10])), (ota, .inl (cOt, 10, .inr (.inr (.inr (.inr fot)))))]) [1, 2] rfl
  have hPc := hP.sub (ws' := []) [] rfl
  have hDc := hD.sub (ws' := []) [] (by decide) rfl
  have hKc := hK.sub (tys' := [(cOt, .object "java/lang/Object")]) [0] rfl
  have hFc := va_free (wc := []) hD hS hA [] rfl
  refine va_callr (va_runV (As := [.int 6]) (rest := []) ⟨hx, hb, hml, hown, hts⟩ (cz_Qget_6_10 l dC dI ed H31.size lt 10 ota cOt fot ta6 hot6) (cwV 1 hts gX7_inState_Jx4a65c_get_915e3 rfl rfl rfl (by decide +kernel) ⟨Nat.le_of_ble_eq_true rfl, Nat.le_of_ble_eq_true rfl⟩) ⟨zb_blind, va_recv hK (zo_R hR0 hS hAr) (ci := 1) (q0 := 1) rfl rfl, fun U hU hW => ⟨rfl, zb_mk hU hW hPr hPc hKc hDc hN hH hS hFc zx_e⟩⟩ rfl rfl hl.1 rfl (lv_room (Nat.le_of_ble_eq_true rfl)) dX7_inState_20 ⟨Nat.le_of_ble_eq_true rfl, Nat.le_of_ble_eq_true rfl⟩) hS (fun q _ h => hFc q h) hFc (fun u r34 t H33 locs ht hvm hw hB hz1 hk1 hS => ?_)
  obtain ⟨hq35_0, hP1, hD1, hK1⟩ := hB
  rw [ht] at hP1
  obtain ⟨hP, hD⟩ := va_join (wr := []) (w1 := []) hP hD [] [] rfl rfl (by decide) (by decide) hk1 hFc hP1 hD1
  have hP : va_P (dC, dI) vwCl [] H33 := hP
  have hD : va_D A [] := hD
  obtain rfl : ta6 = r34 := hq35_0.symm
  refine va_castA (nm := "[I") hx hb hown (hts (.classLink RX7 46 "[I") (by decide +kernel)) (zo_R hR0 hS hAr) 9 rfl (show s.vm.findClass "[I" = some cB6 from (hK.2 7 _ rfl).2) dX7_inState_23 ?_
  refine lv_iconst (v := 3) hx hb dX7_inState_26 (by decide) ?_
  refine va_iald hx hb hK (zo_R hR0 hS hAr) 9 7 rfl rfl (by unfold vp_in; decide) dX7_inState_27 ?_
  refine zo_i (v := 0) (by rw [show Int32.toNatClampNeg 3 = 3 from by decide]; exact hb6_3) ?_
  refine lv_iload_n hx hb dX7_inState_28 rfl (lv_at hl 3 rfl) ?_
  refine lv_icmp_ne (tgt := 38) hx hb dX7_inState_29 (by decide) (fun _ => ?_) (fun h => absurd h (by decide))
  refine lv_iinc (v := 7) (lv' := [(3, .int 7), (2, .int 0), (0, .ref mr), (1, .int 1)]) hx hb dX7_inState_38 hl (k := 0) rfl (by decide) (by decide) rfl (fun ls hl => ?_)
  refine lv_goto (tgt := 4) hx hb dX7_inState_41 (by decide) ?_
  refine lv_iload_n hx hb dX7_inState_4 rfl (lv_at hl 0 rfl) ?_
  refine lv_aload_n hx hb dX7_inState_5 rfl (lv_at hl 2 rfl) ?_
  refine va_get (D := (dC, dI)) (ci := 9) (v := .ref lt) (C := RX7) (T := TX7) (N := 14) hx hb hts zi_X7_inState_X7 hown hK (zo_R hR0 hS hAr) 0 rfl rfl 1 (by decide) (hts (.fieldLink RX7 18 "LockRoomsModel$Room" "things" "Ljava/util/ArrayList;") (by decide +kernel)) (fun _ h9 => h9) rfl dX7_inState_6 ?_
  have hPr := ((zo_R hR0 hS hAr)).sub (ws' := [(lt, .inr (1, [.int 10, .ref ota, .int 10]))]) [1] rfl
  have hPc := hP.sub (ws' := []) [] rfl
  have hDc := hD.sub (ws' := []) [] (by decide) rfl
  have hKc := hK.sub (tys' := []) [] rfl
  have hFc := va_free (wc := []) hD hS hA [] rfl
  refine va_calli (va_runV (As := []) (rest := [.int 7]) ⟨hx, hb, hml, hown, hts⟩ (cz_Qsize l dC dI ed H33.size lt 10 ota 10) (cwV 0 hts gX7_inState_Jx4a65c_size_8abf5 rfl rfl rfl (by decide +kernel) ⟨Nat.le_of_ble_eq_true rfl, Nat.le_of_ble_eq_true rfl⟩) ⟨zb_blind, va_recv hK (zo_R hR0 hS hAr) (ci := 1) (q0 := 1) rfl rfl, fun U hU hW => ⟨rfl, zb_mk hU hW hPr hPc hKc hDc hN hH hS hFc zx_e⟩⟩ rfl rfl hl.1 rfl (lv_room (Nat.le_of_ble_eq_true rfl)) dX7_inState_9 ⟨Nat.le_of_ble_eq_true rfl, Nat.le_of_ble_eq_true rfl⟩) hS (fun q _ h => hFc q h) hFc (fun r37 u t H36 locs ht hvm hw hB hz1 hk1 hS => ?_)
  obtain rfl : r37 = 10 := hw.trans (by decide +kernel)
  have hP := zo_K hP hk1
  refine lv_icmp_ge (tgt := 44) hx hb dX7_inState_12 (by decide) (fun h => absurd h (by decide)) (fun _ => ?_)
  refine lv_aload_n hx hb dX7_inState_15 rfl (lv_at hl 2 rfl) ?_
  refine va_get (D := (dC, dI)) (ci := 9) (v := .ref lt) (C := RX7) (T := TX7) (N := 14) hx hb hts zi_X7_inState_X7 hown hK (zo_R hR0 hS hAr) 0 rfl rfl 1 (by decide) (hts (.fieldLink RX7 18 "LockRoomsModel$Room" "things" "Ljava/util/ArrayList;") (by decide +kernel)) (fun _ h9 => h9) rfl dX7_inState_16 ?_
  refine lv_iload_n hx hb dX7_inState_19 rfl (lv_at hl 0 rfl) ?_
  have hPr := ((zo_R hR0 hS hAr)).sub (ws' := [(lt, .inr (1, [.int 10, .ref ota, .int 10])), (ota, .inl (cOt, 10, .inr (.inr (.inr (.inr fot)))))]) [1, 2] rfl
  have hPc := hP.sub (ws' := []) [] rfl
  have hDc := hD.sub (ws' := []) [] (by decide) rfl
  have hKc := hK.sub (tys' := [(cOt, .object "java/lang/Object")]) [0] rfl
  have hFc := va_free (wc := []) hD hS hA [] rfl
  refine va_callr (va_runV (As := [.int 7]) (rest := []) ⟨hx, hb, hml, hown, hts⟩ (cz_Qget_7_10 l dC dI ed H36.size lt 10 ota cOt fot ta7 hot7) (cwV 1 hts gX7_inState_Jx4a65c_get_915e3 rfl rfl rfl (by decide +kernel) ⟨Nat.le_of_ble_eq_true rfl, Nat.le_of_ble_eq_true rfl⟩) ⟨zb_blind, va_recv hK (zo_R hR0 hS hAr) (ci := 1) (q0 := 1) rfl rfl, fun U hU hW => ⟨rfl, zb_mk hU hW hPr hPc hKc hDc hN hH hS hFc zx_e⟩⟩ rfl rfl hl.1 rfl (lv_room (Nat.le_of_ble_eq_true rfl)) dX7_inState_20 ⟨Nat.le_of_ble_eq_true rfl, Nat.le_of_ble_eq_true rfl⟩) hS (fun q _ h => hFc q h) hFc (fun u r39 t H38 locs ht hvm hw hB hz1 hk1 hS => ?_)
  obtain ⟨hq40_0, hP1, hD1, hK1⟩ := hB
  rw [ht] at hP1
  obtain ⟨hP, hD⟩ := va_join (wr := []) (w1 := []) hP hD [] [] rfl rfl (by decide) (by decide) hk1 hFc hP1 hD1
  have hP : va_P (dC, dI) vwCl [] H38 := hP
  have hD : va_D A [] := hD
  obtain rfl : ta7 = r39 := hq40_0.symm
  refine va_castA (nm := "[I") hx hb hown (hts (.classLink RX7 46 "[I") (by decide +kernel)) (zo_R hR0 hS hAr) 10 rfl (show s.vm.findClass "[I" = some cB7 from (hK.2 8 _ rfl).2) dX7_inState_23 ?_
  refine lv_iconst (v := 3) hx hb dX7_inState_26 (by decide) ?_
  refine va_iald hx hb hK (zo_R hR0 hS hAr) 10 8 rfl rfl (by unfold vp_in; decide) dX7_inState_27 ?_
  refine zo_i (v := 0) (by rw [show Int32.toNatClampNeg 3 = 3 from by decide]; exact hb7_3) ?_
  refine lv_iload_n hx hb dX7_inState_28 rfl (lv_at hl 3 rfl) ?_
  refine lv_icmp_ne (tgt := 38) hx hb dX7_inState_29 (by decide) (fun _ => ?_) (fun h => absurd h (by decide))
  refine lv_iinc (v := 8) (lv' := [(3, .int 8), (2, .int 0), (0, .ref mr), (1, .int 1)]) hx hb dX7_inState_38 hl (k := 0) rfl (by decide) (by decide) rfl (fun ls hl => ?_)
  refine lv_goto (tgt := 4) hx hb dX7_inState_41 (by decide) ?_
  refine lv_iload_n hx hb dX7_inState_4 rfl (lv_at hl 0 rfl) ?_
  refine lv_aload_n hx hb dX7_inState_5 rfl (lv_at hl 2 rfl) ?_
  refine va_get (D := (dC, dI)) (ci := 9) (v := .ref lt) (C := RX7) (T := TX7) (N := 14) hx hb hts zi_X7_inState_X7 hown hK (zo_R hR0 hS hAr) 0 rfl rfl 1 (by decide) (hts (.fieldLink RX7 18 "LockRoomsModel$Room" "things" "Ljava/util/ArrayList;") (by decide +kernel)) (fun _ h9 => h9) rfl dX7_inState_6 ?_
  have hPr := ((zo_R hR0 hS hAr)).sub (ws' := [(lt, .inr (1, [.int 10, .ref ota, .int 10]))]) [1] rfl
  have hPc := hP.sub (ws' := []) [] rfl
  have hDc := hD.sub (ws' := []) [] (by decide) rfl
  have hKc := hK.sub (tys' := []) [] rfl
  have hFc := va_free (wc := []) hD hS hA [] rfl
  refine va_calli (va_runV (As := []) (rest := [.int 8]) ⟨hx, hb, hml, hown, hts⟩ (cz_Qsize l dC dI ed H38.size lt 10 ota 10) (cwV 0 hts gX7_inState_Jx4a65c_size_8abf5 rfl rfl rfl (by decide +kernel) ⟨Nat.le_of_ble_eq_true rfl, Nat.le_of_ble_eq_true rfl⟩) ⟨zb_blind, va_recv hK (zo_R hR0 hS hAr) (ci := 1) (q0 := 1) rfl rfl, fun U hU hW => ⟨rfl, zb_mk hU hW hPr hPc hKc hDc hN hH hS hFc zx_e⟩⟩ rfl rfl hl.1 rfl (lv_room (Nat.le_of_ble_eq_true rfl)) dX7_inState_9 ⟨Nat.le_of_ble_eq_true rfl, Nat.le_of_ble_eq_true rfl⟩) hS (fun q _ h => hFc q h) hFc (fun r42 u t H41 locs ht hvm hw hB hz1 hk1 hS => ?_)
  obtain rfl : r42 = 10 := hw.trans (by decide +kernel)
  have hP := zo_K hP hk1
  refine lv_icmp_ge (tgt := 44) hx hb dX7_inState_12 (by decide) (fun h => absurd h (by decide)) (fun _ => ?_)
  refine lv_aload_n hx hb dX7_inState_15 rfl (lv_at hl 2 rfl) ?_
  refine va_get (D := (dC, dI)) (ci := 9) (v := .ref lt) (C := RX7) (T := TX7) (N := 14) hx hb hts zi_X7_inState_X7 hown hK (zo_R hR0 hS hAr) 0 rfl rfl 1 (by decide) (hts (.fieldLink RX7 18 "LockRoomsModel$Room" "things" "Ljava/util/ArrayList;") (by decide +kernel)) (fun _ h9 => h9) rfl dX7_inState_16 ?_
  refine lv_iload_n hx hb dX7_inState_19 rfl (lv_at hl 0 rfl) ?_
  have hPr := ((zo_R hR0 hS hAr)).sub (ws' := [(lt, .inr (1, [.int 10, .ref ota, .int 10])), (ota, .inl (cOt, 10, .inr (.inr (.inr (.inr fot)))))]) [1, 2] rfl
  have hPc := hP.sub (ws' := []) [] rfl
  have hDc := hD.sub (ws' := []) [] (by decide) rfl
  have hKc := hK.sub (tys' := [(cOt, .object "java/lang/Object")]) [0] rfl
  have hFc := va_free (wc := []) hD hS hA [] rfl
  refine va_callr (va_runV (As := [.int 8]) (rest := []) ⟨hx, hb, hml, hown, hts⟩ (cz_Qget_8_10 l dC dI ed H41.size lt 10 ota cOt fot ta8 hot8) (cwV 1 hts gX7_inState_Jx4a65c_get_915e3 rfl rfl rfl (by decide +kernel) ⟨Nat.le_of_ble_eq_true rfl, Nat.le_of_ble_eq_true rfl⟩) ⟨zb_blind, va_recv hK (zo_R hR0 hS hAr) (ci := 1) (q0 := 1) rfl rfl, fun U hU hW => ⟨rfl, zb_mk hU hW hPr hPc hKc hDc hN hH hS hFc zx_e⟩⟩ rfl rfl hl.1 rfl (lv_room (Nat.le_of_ble_eq_true rfl)) dX7_inState_20 ⟨Nat.le_of_ble_eq_true rfl, Nat.le_of_ble_eq_true rfl⟩) hS (fun q _ h => hFc q h) hFc (fun u r44 t H43 locs ht hvm hw hB hz1 hk1 hS => ?_)
  obtain ⟨hq45_0, hP1, hD1, hK1⟩ := hB
  rw [ht] at hP1
  obtain ⟨hP, hD⟩ := va_join (wr := []) (w1 := []) hP hD [] [] rfl rfl (by decide) (by decide) hk1 hFc hP1 hD1
  have hP : va_P (dC, dI) vwCl [] H43 := hP
  have hD : va_D A [] := hD
  obtain rfl : ta8 = r44 := hq45_0.symm
  refine va_castA (nm := "[I") hx hb hown (hts (.classLink RX7 46 "[I") (by decide +kernel)) (zo_R hR0 hS hAr) 11 rfl (show s.vm.findClass "[I" = some cB8 from (hK.2 9 _ rfl).2) dX7_inState_23 ?_
  refine lv_iconst (v := 3) hx hb dX7_inState_26 (by decide) ?_
  refine va_iald hx hb hK (zo_R hR0 hS hAr) 11 9 rfl rfl (by unfold vp_in; decide) dX7_inState_27 ?_
  refine zo_i (v := 0) (by rw [show Int32.toNatClampNeg 3 = 3 from by decide]; exact hb8_3) ?_
  refine lv_iload_n hx hb dX7_inState_28 rfl (lv_at hl 3 rfl) ?_
  refine lv_icmp_ne (tgt := 38) hx hb dX7_inState_29 (by decide) (fun _ => ?_) (fun h => absurd h (by decide))
  refine lv_iinc (v := 9) (lv' := [(3, .int 9), (2, .int 0), (0, .ref mr), (1, .int 1)]) hx hb dX7_inState_38 hl (k := 0) rfl (by decide) (by decide) rfl (fun ls hl => ?_)
  refine lv_goto (tgt := 4) hx hb dX7_inState_41 (by decide) ?_
  refine lv_iload_n hx hb dX7_inState_4 rfl (lv_at hl 0 rfl) ?_
  refine lv_aload_n hx hb dX7_inState_5 rfl (lv_at hl 2 rfl) ?_
  refine va_get (D := (dC, dI)) (ci := 9) (v := .ref lt) (C := RX7) (T := TX7) (N := 14) hx hb hts zi_X7_inState_X7 hown hK (zo_R hR0 hS hAr) 0 rfl rfl 1 (by decide) (hts (.fieldLink RX7 18 "LockRoomsModel$Room" "things" "Ljava/util/ArrayList;") (by decide +kernel)) (fun _ h9 => h9) rfl dX7_inState_6 ?_
  have hPr := ((zo_R hR0 hS hAr)).sub (ws' := [(lt, .inr (1, [.int 10, .ref ota, .int 10]))]) [1] rfl
  have hPc := hP.sub (ws' := []) [] rfl
  have hDc := hD.sub (ws' := []) [] (by decide) rfl
  have hKc := hK.sub (tys' := []) [] rfl
  have hFc := va_free (wc := []) hD hS hA [] rfl
  refine va_calli (va_runV (As := []) (rest := [.int 9]) ⟨hx, hb, hml, hown, hts⟩ (cz_Qsize l dC dI ed H43.size lt 10 ota 10) (cwV 0 hts gX7_inState_Jx4a65c_size_8abf5 rfl rfl rfl (by decide +kernel) ⟨Nat.le_of_ble_eq_true rfl, Nat.le_of_ble_eq_true rfl⟩) ⟨zb_blind, va_recv hK (zo_R hR0 hS hAr) (ci := 1) (q0 := 1) rfl rfl, fun U hU hW => ⟨rfl, zb_mk hU hW hPr hPc hKc hDc hN hH hS hFc zx_e⟩⟩ rfl rfl hl.1 rfl (lv_room (Nat.le_of_ble_eq_true rfl)) dX7_inState_9 ⟨Nat.le_of_ble_eq_true rfl, Nat.le_of_ble_eq_true rfl⟩) hS (fun q _ h => hFc q h) hFc (fun r47 u t H46 locs ht hvm hw hB hz1 hk1 hS => ?_)
  obtain rfl : r47 = 10 := hw.trans (by decide +kernel)
  have hP := zo_K hP hk1
  refine lv_icmp_ge (tgt := 44) hx hb dX7_inState_12 (by decide) (fun h => absurd h (by decide)) (fun _ => ?_)
  refine lv_aload_n hx hb dX7_inState_15 rfl (lv_at hl 2 rfl) ?_
  refine va_get (D := (dC, dI)) (ci := 9) (v := .ref lt) (C := RX7) (T := TX7) (N := 14) hx hb hts zi_X7_inState_X7 hown hK (zo_R hR0 hS hAr) 0 rfl rfl 1 (by decide) (hts (.fieldLink RX7 18 "LockRoomsModel$Room" "things" "Ljava/util/ArrayList;") (by decide +kernel)) (fun _ h9 => h9) rfl dX7_inState_16 ?_
  refine lv_iload_n hx hb dX7_inState_19 rfl (lv_at hl 0 rfl) ?_
  have hPr := ((zo_R hR0 hS hAr)).sub (ws' := [(lt, .inr (1, [.int 10, .ref ota, .int 10])), (ota, .inl (cOt, 10, .inr (.inr (.inr (.inr fot)))))]) [1, 2] rfl
  have hPc := hP.sub (ws' := []) [] rfl
  have hDc := hD.sub (ws' := []) [] (by decide) rfl
  have hKc := hK.sub (tys' := [(cOt, .object "java/lang/Object")]) [0] rfl
  have hFc := va_free (wc := []) hD hS hA [] rfl
  refine va_callr (va_runV (As := [.int 9]) (rest := []) ⟨hx, hb, hml, hown, hts⟩ (cz_Qget_9_10 l dC dI ed H46.size lt 10 ota cOt fot ta9 hot9) (cwV 1 hts gX7_inState_Jx4a65c_get_915e3 rfl rfl rfl (by decide +kernel) ⟨Nat.le_of_ble_eq_true rfl, Nat.le_of_ble_eq_true rfl⟩) ⟨zb_blind, va_recv hK (zo_R hR0 hS hAr) (ci := 1) (q0 := 1) rfl rfl, fun U hU hW => ⟨rfl, zb_mk hU hW hPr hPc hKc hDc hN hH hS hFc zx_e⟩⟩ rfl rfl hl.1 rfl (lv_room (Nat.le_of_ble_eq_true rfl)) dX7_inState_20 ⟨Nat.le_of_ble_eq_true rfl, Nat.le_of_ble_eq_true rfl⟩) hS (fun q _ h => hFc q h) hFc (fun u r49 t H48 locs ht hvm hw hB hz1 hk1 hS => ?_)
  obtain ⟨hq50_0, hP1, hD1, hK1⟩ := hB
  rw [ht] at hP1
  obtain ⟨hP, hD⟩ := va_join (wr := []) (w1 := []) hP hD [] [] rfl rfl (by decide) (by decide) hk1 hFc hP1 hD1
  have hP : va_P (dC, dI) vwCl [] H48 := hP
  have hD : va_D A [] := hD
  obtain rfl : ta9 = r49 := hq50_0.symm
  refine va_castA (nm := "[I") hx hb hown (hts (.classLink RX7 46 "[I") (by decide +kernel)) (zo_R hR0 hS hAr) 12 rfl (show s.vm.findClass "[I" = some cB9 from (hK.2 10 _ rfl).2) dX7_inState_23 ?_
  refine lv_iconst (v := 3) hx hb dX7_inState_26 (by decide) ?_
  refine va_iald hx hb hK (zo_R hR0 hS hAr) 12 10 rfl rfl (by unfold vp_in; decide) dX7_inState_27 ?_
  refine zo_i (v := 0) (by rw [show Int32.toNatClampNeg 3 = 3 from by decide]; exact hb9_3) ?_
  refine lv_iload_n hx hb dX7_inState_28 rfl (lv_at hl 3 rfl) ?_
  refine lv_icmp_ne (tgt := 38) hx hb dX7_inState_29 (by decide) (fun _ => ?_) (fun h => absurd h (by decide))
  refine lv_iinc (v := 10) (lv' := [(3, .int 10), (2, .int 0), (0, .ref mr), (1, .int 1)]) hx hb dX7_inState_38 hl (k := 0) rfl (by decide) (by decide) rfl (fun ls hl => ?_)
  refine lv_goto (tgt := 4) hx hb dX7_inState_41 (by decide) ?_
  refine lv_iload_n hx hb dX7_inState_4 rfl (lv_at hl 0 rfl) ?_
  refine lv_aload_n hx hb dX7_inState_5 rfl (lv_at hl 2 rfl) ?_
  refine va_get (D := (dC, dI)) (ci := 9) (v := .ref lt) (C := RX7) (T := TX7) (N := 14) hx hb hts zi_X7_inState_X7 hown hK (zo_R hR0 hS hAr) 0 rfl rfl 1 (by decide) (hts (.fieldLink RX7 18 "LockRoomsModel$Room" "things" "Ljava/util/ArrayList;") (by decide +kernel)) (fun _ h9 => h9) rfl dX7_inState_6 ?_
  have hPr := ((zo_R hR0 hS hAr)).sub (ws' := [(lt, .inr (1, [.int 10, .ref ota, .int 10]))]) [1] rfl
  have hPc := hP.sub (ws' := []) [] rfl
  have hDc := hD.sub (ws' := []) [] (by decide) rfl
  have hKc := hK.sub (tys' := []) [] rfl
  have hFc := va_free (wc := []) hD hS hA [] rfl
  refine va_calli (va_runV (As := []) (rest := [.int 10]) ⟨hx, hb, hml, hown, hts⟩ (cz_Qsize l dC dI ed H48.size lt 10 ota 10) (cwV 0 hts gX7_inState_Jx4a65c_size_8abf5 rfl rfl rfl (by decide +kernel) ⟨Nat.le_of_ble_eq_true rfl, Nat.le_of_ble_eq_true rfl⟩) ⟨zb_blind, va_recv hK (zo_R hR0 hS hAr) (ci := 1) (q0 := 1) rfl rfl, fun U hU hW => ⟨rfl, zb_mk hU hW hPr hPc hKc hDc hN hH hS hFc zx_e⟩⟩ rfl rfl hl.1 rfl (lv_room (Nat.le_of_ble_eq_true rfl)) dX7_inState_9 ⟨Nat.le_of_ble_eq_true rfl, Nat.le_of_ble_eq_true rfl⟩) hS (fun q _ h => hFc q h) hFc (fun r52 u t H51 locs ht hvm hw hB hz1 hk1 hS => ?_)
  obtain rfl : r52 = 10 := hw.trans (by decide +kernel)
  have hP := zo_K hP hk1
  refine lv_icmp_ge (tgt := 44) hx hb dX7_inState_12 (by decide) (fun _ => ?_) (fun h => absurd h (by decide))
  refine lv_iload_n hx hb dX7_inState_44 rfl (lv_at hl 1 rfl) ?_
  refine W.widen (k := 0) (n := 0) (Nat.le_of_ble_eq_true rfl) (Nat.le_of_ble_eq_true rfl) ?_
  exact W.iret hx hb hr (fun t ht hW => ⟨⟨0, (), rfl, rfl, trivial⟩, hS.F ht⟩) hS.2.2 dX7_inState_45

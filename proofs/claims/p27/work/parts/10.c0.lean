set_option maxHeartbeats 4000000 in
set_option maxRecDepth 100000 in
theorem cz_isIn_n1 (l : Launch) (dC : Nat → ClassId) (dI : Nat → Nat → Nat) (ed sz : Nat) (x0 : Int32) : Met l yX6_isIn wsX6_isIn ({ frames := 0, cells := 0, slots := 0, locals := 0 } : Jvm.Room) (va_Pc [.int x0, .int (-1)] (zB dC dI ed sz [] [] [])) (va_Qi (fun (r : Int32) (_ : Unit) => r = 0) (fun (_ : Unit) (_ : State) => True) (va_A [] sz)) 0 0 (va_A [] sz) := by
  refine Met.ofW (cc := cX6_isIn) (maxL := 2) (ret := (some .boolean)) (by decide) rfl ?_
  intro p e s m args below meth c s₁ B hml hv
  obtain ⟨rfl, hsz, hR0, hP, hK, hD0, hN, hH, hX0⟩ := hv
  have hx := B.exec
  have hb := B.bytes
  have hr := B.returns
  have hts := atoms_spec (ws := wsX6_isIn) B.pre
  have hown : s.vm.findClass RX6 = some m.cls := findClass_of_methodNamed B.named
  have hlocks := B.notSynchronized
  subst hsz
  have hD := hD0.self (sz := s.heap.size)
  have hAr := zx_A hX0 hR0
  generalize hAe : va_A [] s.heap.size = A at hD hAr hH ⊢
  have hA : ∀ q : Nat, s.heap.size ≤ q → A q := fun q h => by rw [← hAe]; exact Or.inr h
  have hS : va_S A s.heap s.heap [] := va_S.rf
  have hl := lv_entry ([.int x0, .int (-1)]) (n := 2) (Nat.le_of_ble_eq_true rfl)
  rw [lg_entry_eq]
  generalize (lg_sl ([.int x0, .int (-1)]) ++ List.replicate (2 - (lg_sl ([.int x0, .int (-1)])).length) Slot.unset).toArray = ls at hl ⊢
  have hl : lv_has ls 2 [(0, .int x0), (1, .int (-1))] := hl
  refine lv_iload_n hx hb dX6_isIn_0 rfl (lv_at hl 1 rfl) ?_
  refine lv_iconst (v := (-1)) hx hb dX6_isIn_1 (by decide) ?_
  refine lv_icmp_eq (tgt := 18) hx hb dX6_isIn_2 (by decide) (fun _ => ?_) (fun h => absurd h (by decide))
  refine lv_iconst (v := 0) hx hb dX6_isIn_18 (by decide) ?_
  refine W.widen (k := 0) (n := 0) (Nat.le_of_ble_eq_true rfl) (Nat.le_of_ble_eq_true rfl) ?_
  exact W.zret hx hb hr (by decide) (fun t ht hW => ⟨⟨0, (), rfl, rfl, trivial⟩, hS.F ht⟩) hS.2.2 dX6_isIn_19
set_option maxHeartbeats 4000000 in
set_option maxRecDepth 100000 in
theorem cz_oneIf_0 (l : Launch) (dC : Nat → ClassId) (dI : Nat → Nat → Nat) (ed sz : Nat) : Met l yX6_oneIf wsX6_oneIf ({ frames := 0, cells := 0, slots := 0, locals := 0 } : Jvm.Room) (va_Pc [.int 0] (zB dC dI ed sz [] [] [])) (va_Qi (fun (r : Int32) (_ : Unit) => r = 0) (fun (_ : Unit) (_ : State) => True) (va_A [] sz)) 0 0 (va_A [] sz) := by
  refine Met.ofW (cc := cX6_oneIf) (maxL := 1) (ret := (some .int)) (by decide) rfl ?_
  intro p e s m args below meth c s₁ B hml hv
  obtain ⟨rfl, hsz, hR0, hP, hK, hD0, hN, hH, hX0⟩ := hv
  have hx := B.exec
  have hb := B.bytes
  have hr := B.returns
  have hts := atoms_spec (ws := wsX6_oneIf) B.pre
  have hown : s.vm.findClass RX6 = some m.cls := findClass_of_methodNamed B.named
  have hlocks := B.notSynchronized
  subst hsz
  have hD := hD0.self (sz := s.heap.size)
  have hAr := zx_A hX0 hR0
  generalize hAe : va_A [] s.heap.size = A at hD hAr hH ⊢
  have hA : ∀ q : Nat, s.heap.size ≤ q → A q := fun q h => by rw [← hAe]; exact Or.inr h
  have hS : va_S A s.heap s.heap [] := va_S.rf
  have hl := lv_entry ([.int 0]) (n := 1) (Nat.le_of_ble_eq_true rfl)
  rw [lg_entry_eq]
  generalize (lg_sl ([.int 0]) ++ List.replicate (1 - (lg_sl ([.int 0])).length) Slot.unset).toArray = ls at hl ⊢
  have hl : lv_has ls 1 [(0, .int 0)] := hl
  refine lv_iload_n hx hb dX6_oneIf_0 rfl (lv_at hl 0 rfl) ?_
  refine lv_if_eq (tgt := 8) hx hb dX6_oneIf_1 (by decide) (fun _ => ?_) (fun h => absurd h (by decide))
  refine lv_iconst (v := 0) hx hb dX6_oneIf_8 (by decide) ?_
  refine W.widen (k := 0) (n := 0) (Nat.le_of_ble_eq_true rfl) (Nat.le_of_ble_eq_true rfl) ?_
  exact W.iret hx hb hr (fun t ht hW => ⟨⟨0, (), rfl, rfl, trivial⟩, hS.F ht⟩) hS.2.2 dX6_oneIf_9
set_option maxRecDepth 20000 in
theorem zi_X3_thingsIn_X3 : ∀ w ∈ u_ws RX3 TX3 12, w ∈ wsX3_thingsIn := by decide +kernel
set_option maxRecDepth 20000 in
theorem zi_X3_openLocks_X3 : ∀ w ∈ u_ws RX3 TX3 12, w ∈ wsX3_openLocks := by decide +kernel
set_option maxHeartbeats 4000000 in
set_option maxRecDepth 100000 in
theorem cz_X1_init (l : Launch) (dC : Nat → ClassId) (dI : Nat → Nat → Nat) (ed sz : Nat) (h0 : Nat) : Met l yX1_init wsX1_init ({ frames := 1, cells := 0, slots := 0, locals := 12 } : Jvm.Room) (va_Pc [.ref h0] (zB dC dI ed sz [] [] [])) (va_Qv (fun (_ : Unit) => True) (fun (_ : Unit) (_ : State) => True) (va_A [] sz)) 0 0 (va_A [] sz) := by
  refine Met.ofW (cc := cX1_init) (maxL := 1) (ret := none) (by decide) rfl ?_
  intro p e s m args below meth c s₁ B hml hv
  obtain ⟨rfl, hsz, hR0, hP, hK, hD0, hN, hH, hX0⟩ := hv
  have hx := B.exec
  have hb := B.bytes
  have hr := B.returns
  have hts := atoms_spec (ws := wsX1_init) B.pre
  have hown : s.vm.findClass RX1 = some m.cls := findClass_of_methodNamed B.named
  have hlocks := B.notSynchronized
  have hin : meth.name = "<init>" := (name_of_methodNamed B.named B.method).1
  subst hsz
  have hD := hD0.self (sz := s.heap.size)
  have hAr := zx_A hX0 hR0
  generalize hAe : va_A [] s.heap.size = A at hD hAr hH ⊢
  have hA : ∀ q : Nat, s.heap.size ≤ q → A q := fun q h => by rw [← hAe]; exact Or.inr h
  have hS : va_S A s.heap s.heap [] := va_S.rf
  have hl := lv_entry ([.ref h0]) (n := 1) (Nat.le_of_ble_eq_true rfl)
  rw [lg_entry_eq]
  generalize (lg_sl ([.ref h0]) ++ List.replicate (1 - (lg_sl ([.ref h0])).length) Slot.unset).toArray = ls at hl ⊢
  have hl : lv_has ls 1 [(0, .ref h0)] := hl
  refine lv_aload_n hx hb dX1_init_0 rfl (lv_at hl 0 rfl) ?_
  refine W.objInit hx hb hown (hts (.methodLink RX1 3 objectInit) (by decide +kernel)) (hts (.instanceMethod objectInit) (by decide +kernel)) (hts (.code objectInit ⟨#[0xb1]⟩ 1 none) (by decide +kernel)) rfl (by rw [hml]; exact hl.1) rfl dX1_init_1 (Nat.le_of_ble_eq_true rfl) (Nat.le_of_ble_eq_true rfl) ?_
  refine W.eq (g2 := F0 m 4 ls []) rfl ?_
  refine W.widen (k := 0) (n := 0) (Nat.le_of_ble_eq_true rfl) (Nat.le_of_ble_eq_true rfl) ?_
  exact W.vret hx hb hr (fun t ht hW => ⟨⟨(), rfl, trivial, trivial⟩, hS.F ht⟩) hS.2.2 dX1_init_4
set_option maxHeartbeats 4000000 in
set_option maxRecDepth 100000 in
theorem cz_X5_init (l : Launch) (dC : Nat → ClassId) (dI : Nat → Nat → Nat) (ed sz : Nat) (h0 : Nat) : Met l yX5_init wsX5_init ({ frames := 1, cells := 0, slots := 0, locals := 12 } : Jvm.Room) (va_Pc [.ref h0] (zB dC dI ed sz [] [] [])) (va_Qv (fun (_ : Unit) => True) (fun (_ : Unit) (_ : State) => True) (va_A [] sz)) 0 0 (va_A [] sz) := by
  refine Met.ofW (cc := cX5_init) (maxL := 1) (ret := none) (by decide) rfl ?_
  intro p e s m args below meth c s₁ B hml hv
  obtain ⟨rfl, hsz, hR0, hP, hK, hD0, hN, hH, hX0⟩ := hv
  have hx := B.exec
  have hb := B.bytes
  have hr := B.returns
  have hts := atoms_spec (ws := wsX5_init) B.pre
  have hown : s.vm.findClass RX5 = some m.cls := findClass_of_methodNamed B.named
  have hlocks := B.notSynchronized
  have hin : meth.name = "<init>" := (name_of_methodNamed B.named B.method).1
  subst hsz
  have hD := hD0.self (sz := s.heap.size)
  have hAr := zx_A hX0 hR0
  generalize hAe : va_A [] s.heap.size = A at hD hAr hH ⊢
  have hA : ∀ q : Nat, s.heap.size ≤ q → A q := fun q h => by rw [← hAe]; exact Or.inr h
  have hS : va_S A s.heap s.heap [] := va_S.rf
  have hl := lv_entry ([.ref h0]) (n := 1) (Nat.le_of_ble_eq_true rfl)
  rw [lg_entry_eq]
  generalize (lg_sl ([.ref h0]) ++ List.replicate (1 - (lg_sl ([.ref h0])).length) Slot.unset).toArray = ls at hl ⊢
  have hl : lv_has ls 1 [(0, .ref h0)] := hl
  refine lv_aload_n hx hb dX5_init_0 rfl (lv_at hl 0 rfl) ?_
  refine W.objInit hx hb hown (hts (.methodLink RX5 3 objectInit) (by decide +kernel)) (hts (.instanceMethod objectInit) (by decide +kernel)) (hts (.code objectInit ⟨#[0xb1]⟩ 1 none) (by decide +kernel)) rfl (by rw [hml]; exact hl.1) rfl dX5_init_1 (Nat.le_of_ble_eq_true rfl) (Nat.le_of_ble_eq_true rfl) ?_
  refine W.eq (g2 := F0 m 4 ls []) rfl ?_
  refine W.widen (k := 0) (n := 0) (Nat.le_of_ble_eq_true rfl) (Nat.le_of_ble_eq_true rfl) ?_
  exact W.vret hx hb hr (fun t ht hW => ⟨⟨(), rfl, trivial, trivial⟩, hS.F ht⟩) hS.2.2 dX5_init_4
set_option maxHeartbeats 4000000 in
set_option maxRecDepth 100000 in
theorem cz_X2_init (l : Launch) (dC : Nat → ClassId) (dI : Nat → Nat → Nat) (ed sz : Nat) (h0 : Nat) : Met l yX2_init wsX2_init ({ frames := 1, cells := 0, slots := 0, locals := 12 } : Jvm.Room) (va_Pc [.ref h0] (zB dC dI ed sz [] [] [])) (va_Qv (fun (_ : Unit) => True) (fun (_ : Unit) (_ : State) => True) (va_A [] sz)) 0 0 (va_A [] sz) := by
  refine Met.ofW (cc := cX2_init) (maxL := 1) (ret := none) (by decide) rfl ?_
  intro p e s m args below meth c s₁ B hml hv
  obtain ⟨rfl, hsz, hR0, hP, hK, hD0, hN, hH, hX0⟩ := hv
  have hx := B.exec
  have hb := B.bytes
  have hr := B.returns
  have hts := atoms_spec (ws := wsX2_init) B.pre
  have hown : s.vm.findClass RX2 = some m.cls := findClass_of_methodNamed B.named
  have hlocks := B.notSynchronized
  have hin : meth.name = "<init>" := (name_of_methodNamed B.named B.method).1
  subst hsz
  have hD := hD0.self (sz := s.heap.size)
  have hAr := zx_A hX0 hR0
  generalize hAe : va_A [] s.heap.size = A at hD hAr hH ⊢
  have hA : ∀ q : Nat, s.heap.size ≤ q → A q := fun q h => by rw [← hAe]; exact Or.inr h
  have hS : va_S A s.heap s.heap [] := va_S.rf
  have hl := lv_entry ([.ref h0]) (n := 1) (Nat.le_of_ble_eq_true rfl)
  rw [lg_entry_eq]
  generalize (lg_sl ([.ref h0]) ++ List.replicate (1 - (lg_sl ([.ref h0])).length) Slot.unset).toArray = ls at hl ⊢
  have hl : lv_has ls 1 [(0, .ref h0)] := hl
  refine lv_aload_n hx hb dX2_init_0 rfl (lv_at hl 0 rfl) ?_
  refine W.objInit hx hb hown (hts (.methodLink RX2 3 objectInit) (by decide +kernel)) (hts (.instanceMethod objectInit) (by decide +kernel)) (hts (.code objectInit ⟨#[0xb1]⟩ 1 none) (by decide +kernel)) rfl (by rw [hml]; exact hl.1) rfl dX2_init_1 (Nat.le_of_ble_eq_true rfl) (Nat.le_of_ble_eq_true rfl) ?_
  refine W.eq (g2 := F0 m 4 ls []) rfl ?_
  refine W.widen (k := 0) (n := 0) (Nat.le_of_ble_eq_true rfl) (Nat.le_of_ble_eq_true rfl) ?_
  exact W.vret hx hb hr (fun t ht hW => ⟨⟨(), rfl, trivial, trivial⟩, hS.F ht⟩) hS.2.2 dX2_init_4
set_option maxRecDepth 20000 in
theorem zi_X0_init_X0 : ∀ w ∈ u_ws RX0 TX0 7, w ∈ wsX0_init := by decide +kernel
set_option maxHeartbeats 4000000 in
set_option maxRecDepth 100000 in
theorem cz_X0_init (l : Launch) (dC : Nat → ClassId) (dI : Nat → Nat → Nat) (ed sz : Nat) (gm : Nat) : Met l yX0_init wsX0_init ({ frames := 1, cells := 0, slots := 0, locals := 12 } : Jvm.Room) (va_Pc [.ref gm] (zB dC dI ed sz [] [(gm, .inr (2, [.int 0, .int 0, .int 0, .int 0, .int 0, .int 0, .long 0]))] [])) (va_Qv (fun (_ : Unit) => True) (fun (_ : Unit) (t : State) => va_P (dC, dI) vwCl [(gm, .inr (2, [.int 0, .int 0, .int 0, .int 0, .int 0, .int (-1), .long 0]))] t.heap ∧ va_D (va_A [(gm, .inr (2, [.int 0, .int 0, .int 0, .int 0, .int 0, .int 0, .long 0]))] sz) [(gm, .inr (2, [.int 0, .int 0, .int 0, .int 0, .int 0, .int (-1), .long 0]))] ∧ va_K (dC, dI) vwCl [] t) (va_A [(gm, .inr (2, [.int 0, .int 0, .int 0, .int 0, .int 0, .int 0, .long 0]))] sz)) 0 0 (va_A [(gm, .inr (2, [.int 0, .int 0, .int 0, .int 0, .int 0, .int 0, .long 0]))] sz) := by
  refine Met.ofW (cc := cX0_init) (maxL := 1) (ret := none) (by decide) rfl ?_
  intro p e s m args below meth c s₁ B hml hv
  obtain ⟨rfl, hsz, hR0, hP, hK, hD0, hN, hH, hX0⟩ := hv
  have hx := B.exec
  have hb := B.bytes
  have hr := B.returns
  have hts := atoms_spec (ws := wsX0_init) B.pre
  have hown : s.vm.findClass RX0 = some m.cls := findClass_of_methodNamed B.named
  have hlocks := B.notSynchronized
  have hin : meth.name = "<init>" := (name_of_methodNamed B.named B.method).1
  subst hsz
  have hD := hD0.self (sz := s.heap.size)
  have hAr := zx_A hX0 hR0
  generalize hAe : va_A [(gm, .inr (2, [.int 0, .int 0, .int 0, .int 0, .int 0, .int 0, .long 0]))] s.heap.size = A at hD hAr hH ⊢
  have hA : ∀ q : Nat, s.heap.size ≤ q → A q := fun q h => by rw [← hAe]; exact Or.inr h
  have hS : va_S A s.heap s.heap [] := va_S.rf
  have hl := lv_entry ([.ref gm]) (n := 1) (Nat.le_of_ble_eq_true rfl)
  rw [lg_entry_eq]
  generalize (lg_sl ([.ref gm]) ++ List.replicate (1 - (lg_sl ([.ref gm])).length) Slot.unset).toArray = ls at hl ⊢
  have hl : lv_has ls 1 [(0, .ref gm)] := hl
  refine lv_aload_n hx hb dX0_init_0 rfl (lv_at hl 0 rfl) ?_
  refine W.objInit hx hb hown (hts (.methodLink RX0 3 objectInit) (by decide +kernel)) (hts (.instanceMethod objectInit) (by decide +kernel)) (hts (.code objectInit ⟨#[0xb1]⟩ 1 none) (by decide +kernel)) rfl (by rw [hml]; exact hl.1) rfl dX0_init_1 (Nat.le_of_ble_eq_true rfl) (Nat.le_of_ble_eq_true rfl) ?_
  refine W.eq (g2 := F0 m 4 ls []) rfl ?_
  refine lv_aload_n hx hb dX0_init_4 rfl (lv_at hl 0 rfl) ?_
  refine lv_iconst (v := (-1)) hx hb dX0_init_5 (by decide) ?_
  refine va_put (D := (dC, dI)) (ci := 2) (v := .int (-1)) (ty := .int) (C := RX0) (T := TX0) (N := 7) hx hb hts zi_X0_init_X0 tyX0 tyX0_ok nmX0 hown hK hP hD hS 0 rfl rfl 5 (by decide) (hts (.fieldLink RX0 9 "LockRooms$Games" "record" "I") (by decide +kernel)) (fun _ h9 => h9) rfl (by decide +kernel) rfl rfl (Nat.le_of_ble_eq_true rfl) dX0_init_6 (fun H1 locs hP hD hS => ?_)
  have hP : va_P (dC, dI) vwCl [(gm, .inr (2, [.int 0, .int 0, .int 0, .int 0, .int 0, .int (-1), .long 0]))] H1 := hP
  have hD : va_D A [(gm, .inr (2, [.int 0, .int 0, .int 0, .int 0, .int 0, .int (-1), .long 0]))] := hD
  refine W.widen (k := 0) (n := 0) (Nat.le_of_ble_eq_true rfl) (Nat.le_of_ble_eq_true rfl) ?_
  have hP9 := hP.sub (ws' := [(gm, .inr (2, [.int 0, .int 0, .int 0, .int 0, .int 0, .int (-1), .long 0]))]) [0] rfl
  have hD9 := hD.sub (ws' := [(gm, .inr (2, [.int 0, .int 0, .int 0, .int 0, .int 0, .int (-1), .long 0]))]) [0] (by decide) rfl
  have hK9 := hK.sub (tys' := []) [] rfl
  exact W.vret hx hb hr (fun t ht hW => ⟨⟨(), rfl, trivial, ⟨by rw [ht]; exact hP9, hD9, va_K.moved hW.alike hK9⟩⟩, hS.F ht⟩) hS.2.2 dX0_init_9
set_option maxRecDepth 20000 in
theorem zi_X3_init_X3 : ∀ w ∈ u_ws RX3 TX3 12, w ∈ wsX3_init := by decide +kernel
set_option maxRecDepth 20000 in
theorem zi_X3_init_X0 : ∀ w ∈ u_ws RX0 TX0 7, w ∈ wsX3_init := by decide +kernel
set_option maxRecDepth 20000 in
theorem zi_X3_init_X1 : ∀ w ∈ u_ws RX1 TX1 10, w ∈ wsX3_init := by decide +kernel
set_option maxRecDepth 20000 in
theorem zi_X3_init_X5 : ∀ w ∈ u_ws RX5 TX5 5, w ∈ wsX3_init := by decide +kernel
set_option maxRecDepth 20000 in
theorem zi_X3_init_X2 : ∀ w ∈ u_ws RX2 TX2 4, w ∈ wsX3_init := by decide +kernel
set_option maxRecDepth 20000 in
theorem zi_X4_init_X4 : ∀ w ∈ u_ws RX4 TX4 3, w ∈ wsX4_init := by decide +kernel
set_option maxHeartbeats 4000000 in
set_option maxRecDepth 100000 in
theorem cz_X4_init (l : Launch) (dC : Nat → ClassId) (dI : Nat → Nat → Nat) (ed sz : Nat) (st : Nat) : Met l yX4_init wsX4_init ({ frames := 1, cells := 3, slots := 3072, locals := 12 } : Jvm.Room) (va_Pc [.ref st] (zB dC dI ed sz [] [(st, .inr (6, [.null, .null, .null]))] [])) (va_Qv (fun (_ : Unit) => True) (fun (_ : Unit) (t : State) => ∃ (a1 : Nat), ∃ (a2 : Nat), ∃ (a3 : Nat), ∃ (cZ : ClassId), ∃ (cI : ClassId), ∃ (cJ : ClassId), ∃ (f1 : Nat → Int32), ∃ (f2 : Nat → Int32), ∃ (f3 : Nat → Int32), va_P (dC, dI) vwCl [(st, .inr (6, [.ref a1, .ref a2, .ref a3])), (a1, .inl (cZ, 1024, .inl f1)), (a2, .inl (cI, 1024, .inl f2)), (a3, .inl (cJ, 1024, .inl f3))] t.heap ∧ va_D (va_A [(st, .inr (6, [.null, .null, .null]))] sz) [(st, .inr (6, [.ref a1, .ref a2, .ref a3])), (a1, .inl (cZ, 1024, .inl f1)), (a2, .inl (cI, 1024, .inl f2)), (a3, .inl (cJ, 1024, .inl f3))] ∧ va_K (dC, dI) vwCl [(cZ, .boolean), (cI, .int), (cJ, .int)] t) (va_A [(st, .inr (6, [.null, .null, .null]))] sz)) 3 3072 (va_A [(st, .inr (6, [.null, .null, .null]))] sz) := by
  refine Met.ofW (cc := cX4_init) (maxL := 1) (ret := none) (by decide) rfl ?_
  intro p e s m args below meth c s₁ B hml hv
  obtain ⟨rfl, hsz, hR0, hP, hK, hD0, hN, hH, hX0⟩ := hv
  have hx := B.exec
  have hb := B.bytes
  have hr := B.returns
  have hts := atoms_spec (ws := wsX4_init) B.pre
  have hown : s.vm.findClass RX4 = some m.cls := findClass_of_methodNamed B.named
  have hlocks := B.notSynchronized
  have hin : meth.name = "<init>" := (name_of_methodNamed B.named B.method).1
  subst hsz
  have hD := hD0.self (sz := s.heap.size)
  have hAr := zx_A hX0 hR0
  generalize hAe : va_A [(st, .inr (6, [.null, .null, .null]))] s.heap.size = A at hD hAr hH ⊢
  have hA : ∀ q : Nat, s.heap.size ≤ q → A q := fun q h => by rw [← hAe]; exact Or.inr h
  have hS : va_S A s.heap s.heap [] := va_S.rf
  have hl := lv_entry ([.ref st]) (n := 1) (Nat.le_of_ble_eq_true rfl)
  rw [lg_entry_eq]
  generalize (lg_sl ([.ref st]) ++ List.replicate (1 - (lg_sl ([.ref st])).length) Slot.unset).toArray = ls at hl ⊢
  have hl : lv_has ls 1 [(0, .ref st)] := hl
  refine lv_aload_n hx hb dX4_init_0 rfl (lv_at hl 0 rfl) ?_
  refine W.objInit hx hb hown (hts (.methodLink RX4 3 objectInit) (by decide +kernel)) (hts (.instanceMethod objectInit) (by decide +kernel)) (hts (.code objectInit ⟨#[0xb1]⟩ 1 none) (by decide +kernel)) rfl (by rw [hml]; exact hl.1) rfl dX4_init_1 (Nat.le_of_ble_eq_true rfl) (Nat.le_of_ble_eq_true rfl) ?_
  refine W.eq (g2 := F0 m 4 ls []) rfl ?_
  refine lv_aload_n hx hb dX4_init_4 rfl (lv_at hl 0 rfl) ?_
  refine lv_sipush (v := 1024) hx hb dX4_init_5 (by decide) ?_
  refine va_newa (atype := .boolean) (a0 := (1024, .inl (fun _ => 0))) hx hb (hts (.arrayClass .boolean) (by decide +kernel)) rfl hK hP hD hS hA (fun cA => rfl) (by decide) (N' := 1024) (by decide) (by decide) (Nat.le_of_ble_eq_true rfl) (Nat.le_of_ble_eq_true rfl) dX4_init_8 (fun q1 cA3 H2 hK hP hD hS => ?_)
  have hP : va_P (dC, dI) vwCl [(st, .inr (6, [.null, .null, .null])), (q1, .inl (cA3, 1024, .inl (fun _ => 0)))] H2 := hP
  have hD : va_D A [(st, .inr (6, [.null, .null, .null])), (q1, .inl (cA3, 1024, .inl (fun _ => 0)))] := hD
  refine va_putF (D := (dC, dI)) (ci := 6) (v := .ref q1) (ty := .array .boolean) (C := RX4) (T := TX4) (N := 3) hx hb hts zi_X4_init_X4 tyX4 tyX4_ok nmX4 hown hK hP hD hS 0 rfl rfl 0 (by decide) (hts (.fieldLink RX4 9 "LockRooms$Stands" "isReached" "[Z") (by decide +kernel)) (fun _ h9 => h9) rfl hin rfl (by decide +kernel) rfl rfl (Nat.le_of_ble_eq_true rfl) dX4_init_10 (fun H5 locs hP hD hS => ?_)
  have hP : va_P (dC, dI) vwCl [(st, .inr (6, [.ref q1, .null, .null])), (q1, .inl (cA3, 1024, .inl (fun _ => 0)))] H5 := hP
  have hD : va_D A [(st, .inr (6, [.ref q1, .null, .null])), (q1, .inl (cA3, 1024, .inl (fun _ => 0)))] := hD
  refine lv_aload_n hx hb dX4_init_13 rfl (lv_at hl 0 rfl) ?_
  refine lv_sipush (v := 1024) hx hb dX4_init_14 (by decide) ?_
  refine va_newa (atype := .int) (a0 := (1024, .inl (fun _ => 0))) hx hb (hts (.arrayClass .int) (by decide +kernel)) rfl hK hP hD hS hA (fun cA => rfl) (by decide) (N' := 1024) (by decide) (by decide) (Nat.le_of_ble_eq_true rfl) (Nat.le_of_ble_eq_true rfl) dX4_init_17 (fun q6 cA8 H7 hK hP hD hS => ?_)
  have hP : va_P (dC, dI) vwCl [(st, .inr (6, [.ref q1, .null, .null])), (q1, .inl (cA3, 1024, .inl (fun _ => 0))), (q6, .inl (cA8, 1024, .inl (fun _ => 0)))] H7 := hP
  have hD : va_D A [(st, .inr (6, [.ref q1, .null, .null])), (q1, .inl (cA3, 1024, .inl (fun _ => 0))), (q6, .inl (cA8, 1024, .inl (fun _ => 0)))] := hD
  refine va_putF (D := (dC, dI)) (ci := 6) (v := .ref q6) (ty := .array .int) (C := RX4) (T := TX4) (N := 3) hx hb hts zi_X4_init_X4 tyX4 tyX4_ok nmX4 hown hK hP hD hS 0 rfl rfl 1 (by decide) (hts (.fieldLink RX4 15 "LockRooms$Stands" "ways" "[I") (by decide +kernel)) (fun _ h9 => h9) rfl hin rfl (by decide +kernel) rfl rfl (Nat.le_of_ble_eq_true rfl) dX4_init_19 (fun H10 locs hP hD hS => ?_)
  have hP : va_P (dC, dI) vwCl [(st, .inr (6, [.ref q1, .ref q6, .null])), (q1, .inl (cA3, 1024, .inl (fun _ => 0))), (q6, .inl (cA8, 1024, .inl (fun _ => 0)))] H10 := hP
  have hD : va_D A [(st, .inr (6, [.ref q1, .ref q6, .null])), (q1, .inl (cA3, 1024, .inl (fun _ => 0))), (q6, .inl (cA8, 1024, .inl (fun _ => 0)))] := hD
  refine lv_aload_n hx hb dX4_init_22 rfl (lv_at hl 0 rfl) ?_
  refine lv_sipush (v := 1024) hx hb dX4_init_23 (by decide) ?_
  refine va_newa (atype := .int) (a0 := (1024, .inl (fun _ => 0))) hx hb (hts (.arrayClass .int) (by decide +kernel)) rfl hK hP hD hS hA (fun cA => rfl) (by decide) (N' := 1024) (by decide) (by decide) (Nat.le_of_ble_eq_true rfl) (Nat.le_of_ble_eq_true rfl) dX4_init_26 (fun q11 cA13 H12 hK hP hD hS => ?_)
  have hP : va_P (dC, dI) vwCl [(st, .inr (6, [.ref q1, .ref q6, .null])), (q1, .inl (cA3, 1024, .inl (fun _ => 0))), (q6, .inl (cA8, 1024, .inl (fun _ => 0))), (q11, .inl (cA13, 1024, .inl (fun _ => 0)))] H12 := hP
  have hD : va_D A [(st, .inr (6, [.ref q1, .ref q6, .null])), (q1, .inl (cA3, 1024, .inl (fun _ => 0))), (q6, .inl (cA8, 1024, .inl (fun _ => 0))), (q11, .inl (cA13, 1024, .inl (fun _ => 0)))] := hD
  refine va_putF (D := (dC, dI)) (ci := 6) (v := .ref q11) (ty := .array .int) (C := RX4) (T := TX4) (N := 3) hx hb hts zi_X4_init_X4 tyX4 tyX4_ok nmX4 hown hK hP hD hS 0 rfl rfl 2 (by decide) (hts (.fieldLink RX4 19 "LockRooms$Stands" "yet" "[I") (by decide +kernel)) (fun _ h9 => h9) rfl hin rfl (by decide +kernel) rfl rfl (Nat.le_of_ble_eq_true rfl) dX4_init_28 (fun H15 locs hP hD hS => ?_)
  have hP : va_P (dC, dI) vwCl [(st, .inr (6, [.ref q1, .ref q6, .ref q11])), (q1, .inl (cA3, 1024, .inl (fun _ => 0))), (q6, .inl (cA8, 1024, .inl (fun _ => 0))), (q11, .inl (cA13, 1024, .inl (fun _ => 0)))] H15 := hP
  have hD : va_D A [(st, .inr (6, [.ref q1, .ref q6, .ref q11])), (q1, .inl (cA3, 1024, .inl (fun _ => 0))), (q6, .inl (cA8, 1024, .inl (fun _ => 0))), (q11, .inl (cA13, 1024, .inl (fun _ => 0)))] := hD
  refine W.widen (k := 3) (n := 3072) (Nat.le_of_ble_eq_true rfl) (Nat.le_of_ble_eq_true rfl) ?_
  have hP9 := hP.sub (ws' := [(st, .inr (6, [.ref q1, .ref q6, .ref q11])), (q1, .inl (cA3, 1024, .inl (fun _ => 0))), (q6, .inl (cA8, 1024, .inl (fun _ => 0))), (q11, .inl (cA13, 1024, .inl (fun _ => 0)))]) [0, 1, 2, 3] rfl
  have hD9 := hD.sub (ws' := [(st, .inr (6, [.ref q1, .ref q6, .ref q11])), (q1, .inl (cA3, 1024, .inl (fun _ => 0))), (q6, .inl (cA8, 1024, .inl (fun _ => 0))), (q11, .inl (cA13, 1024, .inl (fun _ => 0)))]) [0, 1, 2, 3] (by decide) rfl
  have hK9 := hK.sub (tys' := [(cA3, .boolean), (cA8, .int), (cA13, .int)]) [0, 1, 2] rfl
  exact W.vret hx hb hr (fun t ht hW => ⟨⟨(), rfl, trivial, ⟨q1, q6, q11, cA3, cA8, cA13, (fun _ => 0), (fun _ => 0), (fun _ => 0), by rw [ht]; exact hP9, hD9, va_K.moved hW.alike hK9⟩⟩, hS.F ht⟩) hS.2.2 dX4_init_31
set_option maxRecDepth 20000 in
theorem zi_X6_init_X3 : ∀ w ∈ u_ws RX3 TX3 12, w ∈ wsX6_init := by decide +kernel
set_option maxRecDepth 20000 in
theorem zi_X6_init_X6 : ∀ w ∈ u_ws RX6 TX6 3, w ∈ wsX6_init := by decide +kernel
set_option maxRecDepth 20000 in
theorem zi_X6_init_X4 : ∀ w ∈ u_ws RX4 TX4 3, w ∈ wsX6_init := by decide +kernel
set_option maxHeartbeats 4000000 in
set_option maxRecDepth 100000 in
theorem cz_Jobj (l : Launch) (dC : Nat → ClassId) (dI : Nat → Nat → Nat) (ed sz : Nat) (h0 : Nat) : Met l yJxa1e45_init_da8c8 wsJxa1e45_init_da8c8 ({ frames := 1, cells := 0, slots := 0, locals := 12 } : Jvm.Room) (va_Pc [.ref h0] (zB dC dI ed sz [] [] [])) (va_Qv (fun (_ : Unit) => True) (fun (_ : Unit) (_ : State) => True) (va_A [] sz)) 0 0 (va_A [] sz) := by
  refine Met.ofW (cc := cJxa1e45_init_da8c8) (maxL := 1) (ret := none) (by decide) rfl ?_
  intro p e s m args below meth c s₁ B hml hv
  obtain ⟨rfl, hsz, hR0, hP, hK, hD0, hN, hH, hX0⟩ := hv
  have hx := B.exec
  have hb := B.bytes
  have hr := B.returns
  have hts := atoms_spec (ws := wsJxa1e45_init_da8c8) B.pre
  have hown : s.vm.findClass RJxa1e45 = some m.cls := findClass_of_methodNamed B.named
  have hlocks := B.notSynchronized
  have hin : meth.name = "<init>" := (name_of_methodNamed B.named B.method).1
  subst hsz
  have hD := hD0.self (sz := s.heap.size)
  have hAr := zx_A hX0 hR0
  generalize hAe : va_A [] s.heap.size = A at hD hAr hH ⊢
  have hA : ∀ q : Nat, s.heap.size ≤ q → A q := fun q h => by rw [← hAe]; exact Or.inr h
  have hS : va_S A s.heap s.heap [] := va_S.rf
  have hl := lv_entry ([.ref h0]) (n := 1) (Nat.le_of_ble_eq_true rfl)
  rw [lg_entry_eq]
  generalize (lg_sl ([.ref h0]) ++ List.replicate (1 - (lg_sl ([.ref h0])).length) Slot.unset).toArray = ls at hl ⊢
  have hl : lv_has ls 1 [(0, .ref h0)] := hl
  refine lv_aload_n hx hb dJxa1e45_init_da8c8_0 rfl (lv_at hl 0 rfl) ?_
  refine W.objInit hx hb hown (hts (.methodLink RJxa1e45 1 objectInit) (by decide +kernel)) (hts (.instanceMethod objectInit) (by decide +kernel)) (hts (.code objectInit ⟨#[0xb1]⟩ 1 none) (by decide +kernel)) rfl (by rw [hml]; exact hl.1) rfl dJxa1e45_init_da8c8_1 (Nat.le_of_ble_eq_true rfl) (Nat.le_of_ble_eq_true rfl) ?_
  refine W.eq (g2 := F0 m 4 ls []) rfl ?_
  refine W.widen (k := 0) (n := 0) (Nat.le_of_ble_eq_true rfl) (Nat.le_of_ble_eq_true rfl) ?_
  exact W.vret hx hb hr (fun t ht hW => ⟨⟨(), rfl, trivial, trivial⟩, hS.F ht⟩) hS.2.2 dJxa1e45_init_da8c8_4
set_option maxRecDepth 20000 in
theorem zi_Jxc12de_init_da8c8_Jx4a65c : ∀ w ∈ u_ws RJx4a65c TJx4a65c 3, w ∈ wsJxc12de_init_da8c8 := by decide +kernel
set_option maxHeartbeats 4000000 in
set_option maxRecDepth 100000 in
theorem cz_Jabs (l : Launch) (dC : Nat → ClassId) (dI : Nat → Nat → Nat) (ed sz : Nat) (h0 : Nat) : Met l yJxc12de_init_da8c8 wsJxc12de_init_da8c8 ({ frames := 2, cells := 0, slots := 0, locals := 32 } : Jvm.Room) (va_Pc [.ref h0] (zB dC dI ed sz [] [(h0, .inr (1, [.int 0, .null, .int 0]))] [])) (va_Qv (fun (_ : Unit) => True) (fun (_ : Unit) (t : State) => va_P (dC, dI) vwCl [(h0, .inr (1, [.int 0, .null, .int 0]))] t.heap ∧ va_D (va_A [(h0, .inr (1, [.int 0, .null, .int 0]))] sz) [(h0, .inr (1, [.int 0, .null, .int 0]))] ∧ va_K (dC, dI) vwCl [] t) (va_A [(h0, .inr (1, [.int 0, .null, .int 0]))] sz)) 0 0 (va_A [(h0, .inr (1, [.int 0, .null, .int 0]))] sz) := by
  refine Met.ofW (cc := cJxc12de_init_da8c8) (maxL := 1) (ret := none) (by decide) rfl ?_
  intro p e s m args below meth c s₁ B hml hv
  obtain ⟨rfl, hsz, hR0, hP, hK, hD0, hN, hH, hX0⟩ := hv
  have hx := B.exec
  have hb := B.bytes
  have hr := B.returns
  have hts := atoms_spec (ws := wsJxc12de_init_da8c8) B.pre
  have hown : s.vm.findClass RJxc12de = some m.cls := findClass_of_methodNamed B.named
  have hlocks := B.notSynchronized
  have hin : meth.name = "<init>" := (name_of_methodNamed B.named B.method).1
  subst hsz
  have hD := hD0.self (sz := s.heap.size)
  have hAr := zx_A hX0 hR0
  generalize hAe : va_A [(h0, .inr (1, [.int 0, .null, .int 0]))] s.heap.size = A at hD hAr hH ⊢
  have hA : ∀ q : Nat, s.heap.size ≤ q → A q := fun q h => by rw [← hAe]; exact Or.inr h
  have hS : va_S A s.heap s.heap [] := va_S.rf
  have hl := lv_entry ([.ref h0]) (n := 1) (Nat.le_of_ble_eq_true rfl)
  rw [lg_entry_eq]
  generalize (lg_sl ([.ref h0]) ++ List.replicate (1 - (lg_sl ([.ref h0])).length) Slot.unset).toArray = ls at hl ⊢
  have hl : lv_has ls 1 [(0, .ref h0)] := hl
  refine lv_aload_n hx hb dJxc12de_init_da8c8_0 rfl (lv_at hl 0 rfl) ?_
  have hPr := (zo_nil : va_P (dC, dI) vwCl [] s.heap)
  have hPc := hP.sub (ws' := []) [] rfl
  have hDc := hD.sub (ws' := []) [] (by decide) rfl
  have hKc := hK.sub (tys' := []) [] rfl
  have hFc := va_free (wc := []) hD hS hA [] rfl
  refine va_callv (va_runI (As := []) (rest := []) ⟨hx, hb, hml, hown, hts⟩ (cz_Jobj l dC dI ed s.heap.size h0) (cwI 0 hts gJxc12de_init_da8c8_Jxa1e45_init_da8c8 rfl rfl rfl (hts (.initialized RJxa1e45) (by decide +kernel)) (hts (.methodLink RJxc12de 1 yJxa1e45_init_da8c8) (by decide +kernel)) (hts (.instanceMethod yJxa1e45_init_da8c8) (by decide +kernel)) rfl (by decide +kernel) ⟨Nat.le_of_ble_eq_true rfl, Nat.le_of_ble_eq_true rfl⟩) ⟨zb_blind, fun U hU hW => ⟨rfl, zb_mk hU hW hPr hPc hKc hDc hN hH hS hFc zx_e⟩⟩ rfl rfl hl.1 rfl (lv_room (Nat.le_of_ble_eq_true rfl)) dJxc12de_init_da8c8_1 ⟨Nat.le_of_ble_eq_true rfl, Nat.le_of_ble_eq_true rfl⟩) hS (fun q _ h => hFc q h) hFc (fun u t H1 locs ht hvm hw hB hz1 hk1 hS => ?_)
  have hP := zo_K hP hk1
  refine lv_aload_n hx hb dJxc12de_init_da8c8_4 rfl (lv_at hl 0 rfl) ?_
  refine lv_iconst (v := 0) hx hb dJxc12de_init_da8c8_5 (by decide) ?_
  refine va_put (D := (dC, dI)) (ci := 1) (v := .int 0) (ty := .int) (C := RJx4a65c) (T := TJx4a65c) (N := 3) hx hb hts zi_Jxc12de_init_da8c8_Jx4a65c tyJx4a65c tyJx4a65c_ok nmJx4a65c hown hK hP hD hS 0 rfl rfl 0 (by decide) (hts (.fieldLink RJxc12de 7 "java/util/AbstractList" "modCount" "I") (by decide +kernel)) (fun _ h9 => h9) rfl (by decide +kernel) rfl rfl (Nat.le_of_ble_eq_true rfl) dJxc12de_init_da8c8_6 (fun H3 locs hP hD hS => ?_)
  have hP : va_P (dC, dI) vwCl [(h0, .inr (1, [.int 0, .null, .int 0]))] H3 := hP
  have hD : va_D A [(h0, .inr (1, [.int 0, .null, .int 0]))] := hD
  refine W.widen (k := 0) (n := 0) (Nat.le_of_ble_eq_true rfl) (Nat.le_of_ble_eq_true rfl) ?_
  have hP9 := hP.sub (ws' := [(h0, .inr (1, [.int 0, .null, .int 0]))]) [0] rfl
  have hD9 := hD.sub (ws' := [(h0, .inr (1, [.int 0, .null, .int 0]))]) [0] (by decide) rfl
  have hK9 := hK.sub (tys' := []) [] rfl
  exact W.vret hx hb hr (fun t ht hW => ⟨⟨(), rfl, trivial, ⟨by rw [ht]; exact hP9, hD9, va_K.moved hW.alike hK9⟩⟩, hS.F ht⟩) hS.2.2 dJxc12de_init_da8c8_9
set_option maxRecDepth 20000 in
theorem zi_Jx4a65c_init_da8c8_Jx4a65c : ∀ w ∈ u_ws RJx4a65c TJx4a65c 3, w ∈ wsJx4a65c_init_da8c8 := by decide +kernel
set_option maxHeartbeats 4000000 in
set_option maxRecDepth 100000 in
theorem cz_Jlist (l : Launch) (dC : Nat → ClassId) (dI : Nat → Nat → Nat) (ed sz : Nat) (h0 : Nat) : Met l yJx4a65c_init_da8c8 wsJx4a65c_init_da8c8 ({ frames := 3, cells := 0, slots := 0, locals := 52 } : Jvm.Room) (va_Pc [.ref h0] (zB dC dI ed sz [] [(h0, .inr (1, [.int 0, .null, .int 0]))] [])) (va_Qv (fun (_ : Unit) => True) (fun (_ : Unit) (t : State) => va_P (dC, dI) vwCl [(h0, .inr (1, [.int 0, .ref ed, .int 0]))] t.heap ∧ va_D (va_A [(h0, .inr (1, [.int 0, .null, .int 0]))] sz) [(h0, .inr (1, [.int 0, .ref ed, .int 0]))] ∧ va_K (dC, dI) vwCl [] t) (va_A [(h0, .inr (1, [.int 0, .null, .int 0]))] sz)) 0 0 (va_A [(h0, .inr (1, [.int 0, .null, .int 0]))] sz) := by
  refine Met.ofW (cc := cJx4a65c_init_da8c8) (maxL := 1) (ret := none) (by decide) rfl ?_
  intro p e s m args below meth c s₁ B hml hv
  obtain ⟨rfl, hsz, hR0, hP, hK, hD0, hN, hH, hX0⟩ := hv
  have hx := B.exec
  have hb := B.bytes
  have hr := B.returns
  have hts := atoms_spec (ws := wsJx4a65c_init_da8c8) B.pre
  have hown : s.vm.findClass RJx4a65c = some m.cls := findClass_of_methodNamed B.named
  have hlocks := B.notSynchronized
  have hin : meth.name = "<init>" := (name_of_methodNamed B.named B.method).1
  subst hsz
  have hD := hD0.self (sz := s.heap.size)
  have hAr := zx_A hX0 hR0
  generalize hAe : va_A [(h0, .inr (1, [.int 0, .null, .int 0]))] s.heap.size = A at hD hAr hH ⊢
  have hA : ∀ q : Nat, s.heap.size ≤ q → A q := fun q h => by rw [← hAe]; exact Or.inr h
  have hS : va_S A s.heap s.heap [] := va_S.rf
  have hl := lv_entry ([.ref h0]) (n := 1) (Nat.le_of_ble_eq_true rfl)
  rw [lg_entry_eq]
  generalize (lg_sl ([.ref h0]) ++ List.replicate (1 - (lg_sl ([.ref h0])).length) Slot.unset).toArray = ls at hl ⊢
  have hl : lv_has ls 1 [(0, .ref h0)] := hl
  refine lv_aload_n hx hb dJx4a65c_init_da8c8_0 rfl (lv_at hl 0 rfl) ?_
  have hPr := (zo_nil : va_P (dC, dI) vwCl [] s.heap)
  have hPc := hP.sub (ws' := [(h0, .inr (1, [.int 0, .null, .int 0]))]) [0] rfl
  have hDc := hD.sub (ws' := [(h0, .inr (1, [.int 0, .null, .int 0]))]) [0] (by decide) rfl
  have hKc := hK.sub (tys' := []) [] rfl
  have hFc := va_free (wc := [(h0, .inr (1, [.int 0, .null, .int 0]))]) hD hS hA [0] rfl
  refine va_callv (va_runI (As := []) (rest := []) ⟨hx, hb, hml, hown, hts⟩ (cz_Jabs l dC dI ed s.heap.size h0) (cwI 0 hts gJx4a65c_init_da8c8_Jxc12de_init_da8c8 rfl rfl rfl (hts (.initialized RJxc12de) (by decide +kernel)) (hts (.methodLink RJx4a65c 1 yJxc12de_init_da8c8) (by decide +kernel)) (hts (.instanceMethod yJxc12de_init_da8c8) (by decide +kernel)) rfl (by decide +kernel) ⟨Nat.le_of_ble_eq_true rfl, Nat.le_of_ble_eq_true rfl⟩) ⟨zb_blind, fun U hU hW => ⟨rfl, zb_mk hU hW hPr hPc hKc hDc hN hH hS hFc zx_nil⟩⟩ rfl rfl hl.1 rfl (lv_room (Nat.le_of_ble_eq_true rfl)) dJx4a65c_init_da8c8_1 ⟨Nat.le_of_ble_eq_true rfl, Nat.le_of_ble_eq_true rfl⟩) hS (fun q _ h => hFc q h) hFc (fun u t H1 locs ht hvm hw hB hz1 hk1 hS => ?_)
  obtain ⟨hP1, hD1, hK1⟩ := hB
  rw [ht] at hP1
  obtain ⟨hP, hD⟩ := va_join (wr := []) (w1 := [(h0, .inr (1, [.int 0, .null, .int 0]))]) hP hD [0] [] rfl rfl (by decide) (by decide) hk1 hFc hP1 hD1
  have hP : va_P (dC, dI) vwCl [(h0, .inr (1, [.int 0, .null, .int 0]))] H1 := hP
  have hD : va_D A [(h0, .inr (1, [.int 0, .null, .int 0]))] := hD
  refine lv_aload_n hx hb dJx4a65c_init_da8c8_4 rfl (lv_at hl 0 rfl) ?_
  refine va_gets hx hb hH.2.2.1 hS hown (hts (.fieldLink RJx4a65c 39 "java/util/ArrayList" "DEFAULTCAPACITY_EMPTY_ELEMENTDATA" "[Ljava/lang/Object;") (by decide +kernel)) (fun _ h9 => h9) dJx4a65c_init_da8c8_5 ?_
  refine va_put (D := (dC, dI)) (ci := 1) (v := .ref ed) (ty := .array (.object "java/lang/Object")) (C := RJx4a65c) (T := TJx4a65c) (N := 3) hx hb hts zi_Jx4a65c_init_da8c8_Jx4a65c tyJx4a65c tyJx4a65c_ok nmJx4a65c hown hK hP hD hS 0 rfl rfl 1 (by decide) (hts (.fieldLink RJx4a65c 9 "java/util/ArrayList" "elementData" "[Ljava/lang/Object;") (by decide +kernel)) (fun _ h9 => h9) rfl (by decide +kernel) rfl rfl (Nat.le_of_ble_eq_true rfl) dJx4a65c_init_da8c8_8 (fun H4 locs hP hD hS => ?_)
  have hP : va_P (dC, dI) vwCl [(h0, .inr (1, [.int 0, .ref ed, .int 0]))] H4 := hP
  have hD : va_D A [(h0, .inr (1, [.int 0, .ref ed, .int 0]))] := hD
  refine W.widen (k := 0) (n := 0) (Nat.le_of_ble_eq_true rfl) (Nat.le_of_ble_eq_true rfl) ?_
  have hP9 := hP.sub (ws' := [(h0, .inr (1, [.int 0, .ref ed, .int 0]))]) [0] rfl
  have hD9 := hD.sub (ws' := [(h0, .inr (1, [.int 0, .ref ed, .int 0]))]) [0] (by decide) rfl
  have hK9 := hK.sub (tys' := []) [] rfl
  exact W.vret hx hb hr (fun t ht hW => ⟨⟨(), rfl, trivial, ⟨by rw [ht]; exact hP9, hD9, va_K.moved hW.alike hK9⟩⟩, hS.F ht⟩) hS.2.2 dJx4a65c_init_da8c8_11
set_option maxRecDepth 20000 in
theorem zi_Jx4a65c_size_8abf5_Jx4a65c : ∀ w ∈ u_ws RJx4a65c TJx4a65c 3, w ∈ wsJx4a65c_size_8abf5 := by decide +kernel
set_option maxRecDepth 20000 in
theorem zi_Jx4a65c_isEmpty_aae02_Jx4a65c : ∀ w ∈ u_ws RJx4a65c TJx4a65c 3, w ∈ wsJx4a65c_isEmpty_aae02 := by decide +kernel
set_option maxRecDepth 20000 in
theorem zi_X7_init_Jx4a65c : ∀ w ∈ u_ws RJx4a65c TJx4a65c 3, w ∈ wsX7_init := by decide +kernel
set_option maxRecDepth 20000 in
theorem zi_X7_init_X7 : ∀ w ∈ u_ws RX7 TX7 14, w ∈ wsX7_init := by decide +kernel
set_option maxHeartbeats 4000000 in
set_option maxRecDepth 100000 in
theorem cz_X7_init (l : Launch) (dC : Nat → ClassId) (dI : Nat → Nat → Nat) (ed sz : Nat) (mr : Nat) : Met l yX7_init wsX7_init ({ frames := 4, cells := 3, slots := 9, locals := 72 } : Jvm.Room) (va_Pc [.ref mr] (zB dC dI ed sz [] [(mr, .inr (9, [.null, .null, .null, .int 0, .int 0, .int 0, .int 0, .int 0, .int 0, .int 0, .int 0, .int 0, .int 0, .int 0]))] [])) (va_Qv (fun (_ : Unit) => True) (fun (_ : Unit) (t : State) => ∃ (ll : Nat), ∃ (lt : Nat), ∃ (lp : Nat), va_P (dC, dI) vwCl [(mr, .inr (9, [.ref ll, .ref lt, .ref lp, .int (-1), .int 0, .int 0, .int 0, .int 0, .int 0, .int 0, .int (-1), .int 0, .int 0, .int 0])), (ll, .inr (1, [.int 0, .ref ed, .int 0])), (lt, .inr (1, [.int 0, .ref ed, .int 0])), (lp, .inr (1, [.int 0, .ref ed, .int 0]))] t.heap ∧ va_D (va_A [(mr, .inr (9, [.null, .null, .null, .int 0, .int 0, .int 0, .int 0, .int 0, .int 0, .int 0, .int 0, .int 0, .int 0, .int 0]))] sz) [(mr, .inr (9, [.ref ll, .ref lt, .ref lp, .int (-1), .int 0, .int 0, .int 0, .int 0, .int 0, .int 0, .int (-1), .int 0, .int 0, .int 0])), (ll, .inr (1, [.int 0, .ref ed, .int 0])), (lt, .inr (1, [.int 0, .ref ed, .int 0])), (lp, .inr (1, [.int 0, .ref ed, .int 0]))] ∧ va_K (dC, dI) vwCl [] t) (va_A [(mr, .inr (9, [.null, .null, .null, .int 0, .int 0, .int 0, .int 0, .int 0, .int 0, .int 0, .int 0, .int 0, .int 0, .int 0]))] sz)) 3 9 (va_A [(mr, .inr (9, [.null, .null, .null, .int 0, .int 0, .int 0, .int 0, .int 0, .int 0, .int 0, .int 0, .int 0, .int 0, .int 0]))] sz) := by
  refine Met.ofW (cc := cX7_init) (maxL := 1) (ret := none) (by decide) rfl ?_
  intro p e s m args below meth c s₁ B hml hv
  obtain ⟨rfl, hsz, hR0, hP, hK, hD0, hN, hH, hX0⟩ := hv
  have hx := B.exec
  have hb := B.bytes
  have hr := B.returns
  have hts := atoms_spec (ws := wsX7_init) B.pre
  have hown : s.vm.findClass RX7 = some m.cls := findClass_of_methodNamed B.named
  have hlocks := B.notSynchronized
  have hin : meth.name = "<init>" := (name_of_methodNamed B.named B.method).1
  subst hsz
  have hD := hD0.self (sz := s.heap.size)
  have hAr := zx_A hX0 hR0
  generalize hAe : va_A [(mr, .inr (9, [.null, .null, .null, .int 0, .int 0, .int 0, .int 0, .int 0, .int 0, .int 0, .int 0, .int 0, .int 0, .int 0]))] s.heap.size = A at hD hAr hH ⊢
  have hA : ∀ q : Nat, s.heap.size ≤ q → A q := fun q h => by rw [← hAe]; exact Or.inr h
  have hS : va_S A s.heap s.heap [] := va_S.rf
  have hl := lv_entry ([.ref mr]) (n := 1) (Nat.le_of_ble_eq_true rfl)
  rw [lg_entry_eq]
  generalize (lg_sl ([.ref mr]) ++ List.replicate (1 - (lg_sl ([.ref mr])).length) Slot.unset).toArray = ls at hl ⊢
  have hl : lv_has ls 1 [(0, .ref mr)] := hl
  refine lv_aload_n hx hb dX7_init_0 rfl (lv_at hl 0 rfl) ?_
  refine W.objInit hx hb hown (hts (.methodLink RX7 3 objectInit) (by decide +kernel)) (hts (.instanceMethod objectInit) (by decide +kernel)) (hts (.code objectInit ⟨#[0xb1]⟩ 1 none) (by decide +kernel)) rfl (by rw [hml]; exact hl.1) rfl dX7_init_1 (Nat.le_of_ble_eq_true rfl) (Nat.le_of_ble_eq_true rfl) ?_
  refine W.eq (g2 := F0 m 4 ls []) rfl ?_
  refine lv_aload_n hx hb dX7_init_4 rfl (lv_at hl 0 rfl) ?_
  refine va_new (ci := 1) (fs := [.int 0, .null, .int 0]) (C := RJx4a65c) (T := TJx4a65c) (N := 3) hx hb hts zi_X7_init_Jx4a65c tyJx4a65c tyJx4a65c_ok hown (hts (.classLink RX7 9 RJx4a65c) (by decide +kernel)) (hts (.instantiable RJx4a65c 3) (by decide +kernel)) (hts (.initialized RJx4a65c) (by decide +kernel)) hK hP hD hS hA rfl (fun j hj => by rcases (show j = 0 ∨ j = 1 ∨ j = 2 by omega) with rfl | rfl | rfl <;> rfl) (Nat.le_of_ble_eq_true rfl) (Nat.le_of_ble_eq_true rfl) dX7_init_5 (fun q1 H2 hP hD hS => ?_)
  have hP : va_P (dC, dI) vwCl [(mr, .inr (9, [.null, .null, .null, .int 0, .int 0, .int 0, .int 0, .int 0, .int 0, .int 0, .int 0, .int 0, .int 0, .int 0])), (q1, .inr (1, [.int 0, .null, .int 0]))] H2 := hP
  have hD : va_D A [(mr, .inr (9, [.null, .null, .null, .int 0, .int 0, .int 0, .int 0, .int 0, .int 0, .int 0, .int 0, .int 0, .int 0, .int 0])), (q1, .inr (1, [.int 0, .null, .int 0]))] := hD
  refine lv_dup hx hb dX7_init_8 rfl ?_
  have hPr := (zo_nil : va_P (dC, dI) vwCl [] H2)
  have hPc := hP.sub (ws' := [(q1, .inr (1, [.int 0, .null, .int 0]))]) [1] rfl
  have hDc := hD.sub (ws' := [(q1, .inr (1, [.int 0, .null, .int 0]))]) [1] (by decide) rfl
  have hKc := hK.sub (tys' := []) [] rfl
  have hFc := va_free (wc := [(q1, .inr (1, [.int 0, .null, .int 0]))]) hD hS hA [1] rfl
  refine va_callv (va_runI (As := []) (rest := [.ref q1, .ref mr]) ⟨hx, hb, hml, hown, hts⟩ (cz_Jlist l dC dI ed H2.size q1) (cwI 0 hts gX7_init_Jx4a65c_init_da8c8 rfl rfl rfl (hts (.initialized RJx4a65c) (by decide +kernel)) (hts (.methodLink RX7 11 yJx4a65c_init_da8c8) (by decide +kernel)) (hts (.instanceMethod yJx4a65c_init_da8c8) (by decide +kernel)) rfl (by decide +kernel) ⟨Nat.le_of_ble_eq_true rfl, Nat.le_of_ble_eq_true rfl⟩) ⟨zb_blind, fun U hU hW => ⟨rfl, zb_mk hU hW hPr hPc hKc hDc hN hH hS hFc zx_nil⟩⟩ rfl rfl hl.1 rfl (lv_room (Nat.le_of_ble_eq_true rfl)) dX7_init_9 ⟨Nat.le_of_ble_eq_true rfl, Nat.le_of_ble_eq_true rfl⟩) hS (fun q _ h => hFc q h) hFc (fun u t H3 locs ht hvm hw hB hz1 hk1 hS => ?_)
  obtain ⟨hP1, hD1, hK1⟩ := hB
  rw [ht] at hP1
  obtain ⟨hP, hD⟩ := va_join (wr := [(mr, .inr (9, [.null, .null, .null, .int 0, .int 0, .int 0, .int 0, .int 0, .int 0, .int 0, .int 0, .int 0, .int 0, .int 0]))]) (w1 := [(q1, .inr (1, [.int 0, .ref ed, .int 0]))]) hP hD [1] [0] rfl rfl (by decide) (by decide) hk1 hFc hP1 hD1
  have hP : va_P (dC, dI) vwCl [(mr, .inr (9, [.null, .null, .null, .int 0, .int 0, .int 0, .int 0, .int 0, .int 0, .int 0, .int 0, .int 0, .int 0, .int 0])), (q1, .inr (1, [.int 0, .ref ed, .int 0]))] H3 := hP
  have hD : va_D A [(mr, .inr (9, [.null, .null, .null, .int 0, .int 0, .int 0, .int 0, .int 0, .int 0, .int 0, .int 0, .int 0, .int 0, .int 0])), (q1, .inr (1, [.int 0, .ref ed, .int 0]))] := hD
  refine va_putF (D := (dC, dI)) (ci := 9) (v := .ref q1) (ty := .object "java/util/ArrayList") (C := RX7) (T := TX7) (N := 14) hx hb hts zi_X7_init_X7 tyX7 tyX7_ok nmX7 hown hK hP hD hS 0 rfl rfl 0 (by decide) (hts (.fieldLink RX7 12 "LockRoomsModel$Room" "locks" "Ljava/util/ArrayList;") (by decide +kernel)) (fun _ h9 => h9) rfl hin rfl (by decide +kernel) rfl rfl (Nat.le_of_ble_eq_true rfl) dX7_init_12 (fun H6 locs hP hD hS => ?_)
  have hP : va_P (dC, dI) vwCl [(mr, .inr (9, [.ref q1, .null, .null, .int 0, .int 0, .int 0, .int 0, .int 0, .int 0, .int 0, .int 0, .int 0, .int 0, .int 0])), (q1, .inr (1, [.int 0, .ref ed, .int 0]))] H6 := hP
  have hD : va_D A [(mr, .inr (9, [.ref q1, .null, .null, .int 0, .int 0, .int 0, .int 0, .int 0, .int 0, .int 0, .int 0, .int 0, .int 0, .int 0])), (q1, .inr (1, [.int 0, .ref ed, .int 0]))] := hD
  refine lv_aload_n hx hb dX7_init_15 rfl (lv_at hl 0 rfl) ?_
  refine va_new (ci := 1) (fs := [.int 0, .null, .int 0]) (C := RJx4a65c) (T := TJx4a65c) (N := 3) hx hb hts zi_X7_init_Jx4a65c tyJx4a65c tyJx4a65c_ok hown (hts (.classLink RX7 9 RJx4a65c) (by decide +kernel)) (hts (.instantiable RJx4a65c 3) (by decide +kernel)) (hts (.initialized RJx4a65c) (by decide +kernel)) hK hP hD hS hA rfl (fun j hj => by rcases (show j = 0 ∨ j = 1 ∨ j = 2 by omega) with rfl | rfl | rfl <;> rfl) (Nat.le_of_ble_eq_true rfl) (Nat.le_of_ble_eq_true rfl) dX7_init_16 (fun q7 H8 hP hD hS => ?_)
  have hP : va_P (dC, dI) vwCl [(mr, .inr (9, [.ref q1, .null, .null, .int 0, .int 0, .int 0, .int 0, .int 0, .int 0, .int 0, .int 0, .int 0, .int 0, .int 0])), (q1, .inr (1, [.int 0, .ref ed, .int 0])), (q7, .inr (1, [.int 0, .null, .int 0]))] H8 := hP
  have hD : va_D A [(mr, .inr (9, [.ref q1, .null, .null, .int 0, .int 0, .int 0, .int 0, .int 0, .int 0, .int 0, .int 0, .int 0, .int 0, .int 0])), (q1, .inr (1, [.int 0, .ref ed, .int 0])), (q7, .inr (1, [.int 0, .null, .int 0]))] := hD
  refine lv_dup hx hb dX7_init_19 rfl ?_
  have hPr := (zo_nil : va_P (dC, dI) vwCl [] H8)
  have hPc := hP.sub (ws' := [(q7, .inr (1, [.int 0, .null, .int 0]))]) [2] rfl
  have hDc := hD.sub (ws' := [(q7, .inr (1, [.int 0, .null, .int 0]))]) [2] (by decide) rfl
  have hKc := hK.sub (tys' := []) [] rfl
  have hFc := va_free (wc := [(q7, .inr (1, [.int 0, .null, .int 0]))]) hD hS hA [2] rfl
  refine va_callv (va_runI (As := []) (rest := [.ref q7, .ref mr]) ⟨hx, hb, hml, hown, hts⟩ (cz_Jlist l dC dI ed H8.size q7) (cwI 0 hts gX7_init_Jx4a65c_init_da8c8 rfl rfl rfl (hts (.initialized RJx4a65c) (by decide +kernel)) (hts (.methodLink RX7 11 yJx4a65c_init_da8c8) (by decide +kernel)) (hts (.instanceMethod yJx4a65c_init_da8c8) (by decide +kernel)) rfl (by decide +kernel) ⟨Nat.le_of_ble_eq_true rfl, Nat.le_of_ble_eq_true rfl⟩) ⟨zb_blind, fun U hU hW => ⟨rfl, zb_mk hU hW hPr hPc hKc hDc hN hH hS hFc zx_nil⟩⟩ rfl rfl hl.1 rfl (lv_room (Nat.le_of_ble_eq_true rfl)) dX7_init_20 ⟨Nat.le_of_ble_eq_true rfl, Nat.le_of_ble_eq_true rfl⟩) hS (fun q _ h => hFc q h) hFc (fun u t H9 locs ht hvm hw hB hz1 hk1 hS => ?_)
  obtain ⟨hP1, hD1, hK1⟩ := hB
  rw [ht] at hP1
  obtain ⟨hP, hD⟩ := va_join (wr := [(mr, .inr (9, [.ref q1, .null, .null, .int 0, .int 0, .int 0, .int 0, .int 0, .int 0, .int 0, .int 0, .int 0, .int 0, .int 0])), (q1, .inr (1, [.int 0, .ref ed, .int 0]))]) (w1 := [(q7, .inr (1, [.int 0, .ref ed, .int 0]))]) hP hD [2] [0, 1] rfl rfl (by decide) (by decide) hk1 hFc hP1 hD1
  have hP : va_P (dC, dI) vwCl [(mr, .inr (9, [.ref q1, .null, .null, .int 0, .int 0, .int 0, .int 0, .int 0, .int 0, .int 0, .int 0, .int 0, .int 0, .int 0])), (q1, .inr (1, [.int 0, .ref ed, .int 0])), (q7, .inr (1, [.int 0, .ref ed, .int 0]))] H9 := hP
  have hD : va_D A [(mr, .inr (9, [.ref q1, .null, .null, .int 0, .int 0, .int 0, .int 0, .int 0, .int 0, .int 0, .int 0, .int 0, .int 0, .int 0])), (q1, .inr (1, [.int 0, .ref ed, .int 0])), (q7, .inr (1, [.int 0, .ref ed, .int 0]))] := hD
  refine va_putF (D := (dC, dI)) (ci := 9) (v := .ref q7) (ty := .object "java/util/ArrayList") (C := RX7) (T := TX7) (N := 14) hx hb hts zi_X7_init_X7 tyX7 tyX7_ok nmX7 hown hK hP hD hS 0 rfl rfl 1 (by decide) (hts (.fieldLink RX7 18 "LockRoomsModel$Room" "things" "Ljava/util/ArrayList;") (by decide +kernel)) (fun _ h9 => h9) rfl hin rfl (by decide +kernel) rfl rfl (Nat.le_of_ble_eq_true rfl) dX7_init_23 (fun H12 locs hP hD hS => ?_)
  have hP : va_P (dC, dI) vwCl [(mr, .inr (9, [.ref q1, .ref q7, .null, .int 0, .int 0, .int 0, .int 0, .int 0, .int 0, .int 0, .int 0, .int 0, .int 0, .int 0])), (q1, .inr (1, [.int 0, .ref ed, .int 0])), (q7, .inr (1, [.int 0, .ref ed, .int 0]))] H12 := hP
  have hD : va_D A [(mr, .inr (9, [.ref q1, .ref q7, .null, .int 0, .int 0, .int 0, .int 0, .int 0, .int 0, .int 0, .int 0, .int 0, .int 0, .int 0])), (q1, .inr (1, [.int 0, .ref ed, .int 0])), (q7, .inr (1, [.int 0, .ref ed, .int 0]))] := hD
  refine lv_aload_n hx hb dX7_init_26 rfl (lv_at hl 0 rfl) ?_
  refine va_new (ci := 1) (fs := [.int 0, .null, .int 0]) (C := RJx4a65c) (T := TJx4a65c) (N := 3) hx hb hts zi_X7_init_Jx4a65c tyJx4a65c tyJx4a65c_ok hown (hts (.classLink RX7 9 RJx4a65c) (by decide +kernel)) (hts (.instantiable RJx4a65c 3) (by decide +kernel)) (hts (.initialized RJx4a65c) (by decide +kernel)) hK hP hD hS hA rfl (fun j hj => by rcases (show j = 0 ∨ j = 1 ∨ j = 2 by omega) with rfl | rfl | rfl <;> rfl) (Nat.le_of_ble_eq_true rfl) (Nat.le_of_ble_eq_true rfl) dX7_init_27 (fun q13 H14 hP hD hS => ?_)
  have hP : va_P (dC, dI) vwCl [(mr, .inr (9, [.ref q1, .ref q7, .null, .int 0, .int 0, .int 0, .int 0, .int 0, .int 0, .int 0, .int 0, .int 0, .int 0, .int 0])), (q1, .inr (1, [.int 0, .ref ed, .int 0])), (q7, .inr (1, [.int 0, .ref ed, .int 0])), (q13, .inr (1, [.int 0, .null, .int 0]))] H14 := hP
  have hD : va_D A [(mr, .inr (9, [.ref q1, .ref q7, .null, .int 0, .int 0, .int 0, .int 0, .int 0, .int 0, .int 0, .int 0, .int 0, .int 0, .int 0])), (q1, .inr (1, [.int 0, .ref ed, .int 0])), (q7, .inr (1, [.int 0, .ref ed, .int 0])), (q13, .inr (1, [.int 0, .null, .int 0]))] := hD
  refine lv_dup hx hb dX7_init_30 rfl ?_
  have hPr := (zo_nil : va_P (dC, dI) vwCl [] H14)
  have hPc := hP.sub (ws' := [(q13, .inr (1, [.int 0, .null, .int 0]))]) [3] rfl
  have hDc := hD.sub (ws' := [(q13, .inr (1, [.int 0, .null, .int 0]))]) [3] (by decide) rfl
  have hKc := hK.sub (tys' := []) [] rfl
  have hFc := va_free (wc := [(q13, .inr (1, [.int 0, .null, .int 0]))]) hD hS hA [3] rfl
  refine va_callv (va_runI (As := []) (rest := [.ref q13, .ref mr]) ⟨hx, hb, hml, hown, hts⟩ (cz_Jlist l dC dI ed H14.size q13) (cwI 0 hts gX7_init_Jx4a65c_init_da8c8 rfl rfl rfl (hts (.initialized RJx4a65c) (by decide +kernel)) (hts (.methodLink RX7 11 yJx4a65c_init_da8c8) (by decide +kernel)) (hts (.instanceMethod yJx4a65c_init_da8c8) (by decide +kernel)) rfl (by decide +kernel) ⟨Nat.le_of_ble_eq_true rfl, Nat.le_of_ble_eq_true rfl⟩) ⟨zb_blind, fun U hU hW => ⟨rfl, zb_mk hU hW hPr hPc hKc hDc hN hH hS hFc zx_nil⟩⟩ rfl rfl hl.1 rfl (lv_room (Nat.le_of_ble_eq_true rfl)) dX7_init_31 ⟨Nat.le_of_ble_eq_true rfl, Nat.le_of_ble_eq_true rfl⟩) hS (fun q _ h => hFc q h) hFc (fun u t H15 locs ht hvm hw hB hz1 hk1 hS => ?_)
  obtain ⟨hP1, hD1, hK1⟩ := hB
  rw [ht] at hP1
  obtain ⟨hP, hD⟩ := va_join (wr := [(mr, .inr (9, [.ref q1, .ref q7, .null, .int 0, .int 0, .int 0, .int 0, .int 0, .int 0, .int 0, .int 0, .int 0, .int 0, .int 0])), (q1, .inr (1, [.int 0, .ref ed, .int 0])), (q7, .inr (1, [.int 0, .ref ed, .int 0]))]) (w1 := [(q13, .inr (1, [.int 0, .ref ed, .int 0]))]) hP hD [3] [0, 1, 2] rfl rfl (by decide) (by decide) hk1 hFc hP1 hD1
  have hP : va_P (dC, dI) vwCl [(mr, .inr (9, [.ref q1, .ref q7, .null, .int 0, .int 0, .int 0, .int 0, .int 0, .int 0, .int 0, .int 0, .int 0, .int 0, .int 0])), (q1, .inr (1, [.int 0, .ref ed, .int 0])), (q7, .inr (1, [.int 0, .ref ed, .int 0])), (q13, .inr (1, [.int 0, .ref ed, .int 0]))] H15 := hP
  have hD : va_D A [(mr, .inr (9, [.ref q1, .ref q7, .null, .int 0, .int 0, .int 0, .int 0, .int 0, .int 0, .int 0, .int 0, .int 0, .int 0, .int 0])), (q1, .inr (1, [.int 0, .ref ed, .int 0])), (q7, .inr (1, [.int 0, .ref ed, .int 0])), (q13, .inr (1, [.int 0, .ref ed, .int 0]))] := hD
  refine va_putF (D := (dC, dI)) (ci := 9) (v := .ref q13) (ty := .object "java/util/ArrayList") (C := RX7) (T := TX7) (N := 14) hx hb hts zi_X7_init_X7 tyX7 tyX7_ok nmX7 hown hK hP hD hS 0 rfl rfl 2 (by decide) (hts (.fieldLink RX7 21 "LockRoomsModel$Room" "players" "Ljava/util/ArrayList;") (by decide +kernel)) (fun _ h9 => h9) rfl hin rfl (by decide +kernel) rfl rfl (Nat.le_of_ble_eq_true rfl) dX7_init_34 (fun H18 locs hP hD hS => ?_)
  have hP : va_P (dC, dI) vwCl [(mr, .inr (9, [.ref q1, .ref q7, .ref q13, .int 0, .int 0, .int 0, .int 0, .int 0, .int 0, .int 0, .int 0, .int 0, .int 0, .int 0])), (q1, .inr (1, [.int 0, .ref ed, .int 0])), (q7, .inr (1, [.int 0, .ref ed, .int 0])), (q13, .inr (1, [.int 0, .ref ed, .int 0]))] H18 := hP
  have hD : va_D A [(mr, .inr (9, [.ref q1, .ref q7, .ref q13, .int 0, .int 0, .int 0, .int 0, .int 0, .int 0, .int 0, .int 0, .int 0, .int 0, .int 0])), (q1, .inr (1, [.int 0, .ref ed, .int 0])), (q7, .inr (1, [.int 0, .ref ed, .int 0])), (q13, .inr (1, [.int 0, .ref ed, .int 0]))] := hD
  refine lv_aload_n hx hb dX7_init_37 rfl (lv_at hl 0 rfl) ?_
  refine lv_iconst (v := (-1)) hx hb dX7_init_38 (by decide) ?_
  refine va_put (D := (dC, dI)) (ci := 9) (v := .int (-1)) (ty := .int) (C := RX7) (T := TX7) (N := 14) hx hb hts zi_X7_init_X7 tyX7 tyX7_ok nmX7 hown hK hP hD hS 0 rfl rfl 3 (by decide) (hts (.fieldLink RX7 24 "LockRoomsModel$Room" "exit" "I") (by decide +kernel)) (fun _ h9 => h9) rfl (by decide +kernel) rfl rfl (Nat.le_of_ble_eq_true rfl) dX7_init_39 (fun H19 locs hP hD hS => ?_)
  have hP : va_P (dC, dI) vwCl [(mr, .inr (9, [.ref q1, .ref q7, .ref q13, .int (-1), .int 0, .int 0, .int 0, .int 0, .int 0, .int 0, .int 0, .int 0, .int 0, .int 0])), (q1, .inr (1, [.int 0, .ref ed, .int 0])), (q7, .inr (1, [.int 0, .ref ed, .int 0])), (q13, .inr (1, [.int 0, .ref ed, .int 0]))] H19 := hP
  have hD : va_D A [(mr, .inr (9, [.ref q1, .ref q7, .ref q13, .int (-1), .int 0, .int 0, .int 0, .int 0, .int 0, .int 0, .int 0, .int 0, .int 0, .int 0])), (q1, .inr (1, [.int 0, .ref ed, .int 0])), (q7, .inr (1, [.int 0, .ref ed, .int 0])), (q13, .inr (1, [.int 0, .ref ed, .int 0]))] := hD
  refine lv_aload_n hx hb dX7_init_42 rfl (lv_at hl 0 rfl) ?_
  refine lv_iconst (v := (-1)) hx hb dX7_init_43 (by decide) ?_
  refine va_put (D := (dC, dI)) (ci := 9) (v := .int (-1)) (ty := .int) (C := RX7) (T := TX7) (N := 14) hx hb hts zi_X7_init_X7 tyX7 tyX7_ok nmX7 hown hK hP hD hS 0 rfl rfl 10 (by decide) (hts (.fieldLink RX7 28 "LockRoomsModel$Room" "record" "I") (by decide +kernel)) (fun _ h9 => h9) rfl (by decide +kernel) rfl rfl (Nat.le_of_ble_eq_true rfl) dX7_init_44 (fun H20 locs hP hD hS => ?_)
  have hP : va_P (dC, dI) vwCl [(mr, .inr (9, [.ref q1, .ref q7, .ref q13, .int (-1), .int 0, .int 0, .int 0, .int 0, .int 0, .int 0, .int (-1), .int 0, .int 0, .int 0])), (q1, .inr (1, [.int 0, .ref ed, .int 0])), (q7, .inr (1, [.int 0, .ref ed, .int 0])), (q13, .inr (1, [.int 0, .ref ed, .int 0]))] H20 := hP
  have hD : va_D A [(mr, .inr (9, [.ref q1, .ref q7, .ref q13, .int (-1), .int 0, .int 0, .int 0, .int 0, .int 0, .int 0, .int (-1), .int 0, .int 0, .int 0])), (q1, .inr (1, [.int 0, .ref ed, .int 0])), (q7, .inr (1, [.int 0, .ref ed, .int 0])), (q13, .inr (1, [.int 0, .ref ed, .int 0]))] := hD
  refine W.widen (k := 3) (n := 9) (Nat.le_of_ble_eq_true rfl) (Nat.le_of_ble_eq_true rfl) ?_
  have hP9 := hP.sub (ws' := [(mr, .inr (9, [.ref q1, .ref q7, .ref q13, .int (-1), .int 0, .int 0, .int 0, .int 0, .int 0, .int 0, .int (-1), .int 0, .int 0, .int 0])), (q1, .inr (1, [.int 0, .ref ed, .int 0])), (q7, .inr (1, [.int 0, .ref ed, .int 0])), (q13, .inr (1, [.int 0, .ref ed, .int 0]))]) [0, 1, 2, 3] rfl
  have hD9 := hD.sub (ws' := [(mr, .inr (9, [.ref q1, .ref q7, .ref q13, .int (-1), .int 0, .int 0, .int 0, .int 0, .int 0, .int 0, .int (-1), .int 0, .int 0, .int 0])), (q1, .inr (1, [.int 0, .ref ed, .int 0])), (q7, .inr (1, [.int 0, .ref ed, .int 0])), (q13, .inr (1, [.int 0, .ref ed, .int 0]))]) [0, 1, 2, 3] (by decide) rfl
  have hK9 := hK.sub (tys' := []) [] rfl
  exact W.vret hx hb hr (fun t ht hW => ⟨⟨(), rfl, trivial, ⟨q1, q7, q13, by rw [ht]; exact hP9, hD9, va_K.moved hW.alike hK9⟩⟩, hS.F ht⟩) hS.2.2 dX7_init_47
set_option maxRecDepth 20000 in
theorem zi_X8_init_X7 : ∀ w ∈ u_ws RX7 TX7 14, w ∈ wsX8_init := by decide +kernel
set_option maxRecDepth 20000 in
theorem zi_X8_init_X8 : ∀ w ∈ u_ws RX8 TX8 4, w ∈ wsX8_init := by decide +kernel
set_option maxHeartbeats 4000000 in
set_option maxRecDepth 100000 in
theorem cz_X8_init (l : Launch) (dC : Nat → ClassId) (dI : Nat → Nat → Nat) (ed sz : Nat) (mo : Nat) : Met l yX8_init wsX8_init ({ frames := 5, cells := 4, slots := 23, locals := 92 } : Jvm.Room) (va_Pc [.ref mo] (zB dC dI ed sz [] [(mo, .inr (10, [.int 0, .null, .int 0, .long 0]))] [])) (va_Qv (fun (_ : Unit) => True) (fun (_ : Unit) (t : State) => ∃ (mr : Nat), ∃ (ll : Nat), ∃ (lt : Nat), ∃ (lp : Nat), va_P (dC, dI) vwCl [(mo, .inr (10, [.int 0, .ref mr, .int 1, .long 0])), (mr, .inr (9, [.ref ll, .ref lt, .ref lp, .int (-1), .int 0, .int 0, .int 0, .int 0, .int 0, .int 0, .int (-1), .int 0, .int 0, .int 0])), (ll, .inr (1, [.int 0, .ref ed, .int 0])), (lt, .inr (1, [.int 0, .ref ed, .int 0])), (lp, .inr (1, [.int 0, .ref ed, .int 0]))] t.heap ∧ va_D (va_A [(mo, .inr (10, [.int 0, .null, .int 0, .long 0]))] sz) [(mo, .inr (10, [.int 0, .ref mr, .int 1, .long 0])), (mr, .inr (9, [.ref ll, .ref lt, .ref lp, .int (-1), .int 0, .int 0, .int 0, .int 0, .int 0, .int 0, .int (-1), .int 0, .int 0, .int 0])), (ll, .inr (1, [.int 0, .ref ed, .int 0])), (lt, .inr (1, [.int 0, .ref ed, .int 0])), (lp, .inr (1, [.int 0, .ref ed, .int 0]))] ∧ va_K (dC, dI) vwCl [] t) (va_A [(mo, .inr (10, [.int 0, .null, .int 0, .long 0]))] sz)) 4 23 (va_A [(mo, .inr (10, [.int 0, .null, .int 0, .long 0]))] sz) := by
  refine Met.ofW (cc := cX8_init) (maxL := 1) (ret := none) (by decide) rfl ?_
  intro p e s m args below meth c s₁ B hml hv
  obtain ⟨rfl, hsz, hR0, hP, hK, hD0, hN, hH, hX0⟩ := hv
  have hx := B.exec
  have hb := B.bytes
  have hr := B.returns
  have hts := atoms_spec (ws := wsX8_init) B.pre
  have hown : s.vm.findClass RX8 = some m.cls := findClass_of_methodNamed B.named
  have hlocks := B.notSynchronized
  have hin : meth.name = "<init>" := (name_of_methodNamed B.named B.method).1
  subst hsz
  have hD := hD0.self (sz := s.heap.size)
  have hAr := zx_A hX0 hR0
  generalize hAe : va_A [(mo, .inr (10, [.int 0, .null, .int 0, .long 0]))] s.heap.size = A at hD hAr hH ⊢
  have hA : ∀ q : Nat, s.heap.size ≤ q → A q := fun q h => by rw [← hAe]; exact Or.inr h
  have hS : va_S A s.heap s.heap [] := va_S.rf
  have hl := lv_entry ([.ref mo]) (n := 1) (Nat.le_of_ble_eq_true rfl)
  rw [lg_entry_eq]
  generalize (lg_sl ([.ref mo]) ++ List.replicate (1 - (lg_sl ([.ref mo])).length) Slot.unset).toArray = ls at hl ⊢
  have hl : lv_has ls 1 [(0, .ref mo)] := hl
  refine lv_aload_n hx hb dX8_init_0 rfl (lv_at hl 0 rfl) ?_
  refine W.objInit hx hb hown (hts (.methodLink RX8 1 objectInit) (by decide +kernel)) (hts (.instanceMethod objectInit) (by decide +kernel)) (hts (.code objectInit ⟨#[0xb1]⟩ 1 none) (by decide +kernel)) rfl (by rw [hml]; exact hl.1) rfl dX8_init_1 (Nat.le_of_ble_eq_true rfl) (Nat.le_of_ble_eq_true rfl) ?_
  refine W.eq (g2 := F0 m 4 ls []) rfl ?_
  refine lv_aload_n hx hb dX8_init_4 rfl (lv_at hl 0 rfl) ?_
  refine va_new (ci := 9) (fs := [.null, .null, .null, .int 0, .int 0, .int 0, .int 0, .int 0, .int 0, .int 0, .int 0, .int 0, .int 0, .int 0]) (C := RX7) (T := TX7) (N := 14) hx hb hts zi_X8_init_X7 tyX7 tyX7_ok hown (hts (.classLink RX8 7 RX7) (by decide +kernel)) (hts (.instantiable RX7 14) (by decide +kernel)) (hts (.initialized RX7) (by decide +kernel)) hK hP hD hS hA rfl (fun j hj => by rcases (show j = 0 ∨ j = 1 ∨ j = 2 ∨ j = 3 ∨ j = 4 ∨ j = 5 ∨ j = 6 ∨ j = 7 ∨ j = 8 ∨ j = 9 ∨ j = 10 ∨ j = 11 ∨ j = 12 ∨ j = 13 by omega) with rfl | rfl | rfl | rfl | rfl | rfl | rfl | rfl | rfl | rfl | rfl | rfl | rfl | rfl <;> rfl) (Nat.le_of_ble_eq_true rfl) (Nat.le_of_ble_eq_true rfl) dX8_init_5 (fun q1 H2 hP hD hS => ?_)
  have hP : va_P (dC, dI) vwCl [(mo, .inr (10, [.int 0, .null, .int 0, .long 0])), (q1, .inr (9, [.null, .null, .null, .int 0, .int 0, .int 0, .int 0, .int 0, .int 0, .int 0, .int 0, .int 0, .int 0, .int 0]))] H2 := hP
  have hD : va_D A [(mo, .inr (10, [.int 0, .null, .int 0, .long 0])), (q1, .inr (9, [.null, .null, .null, .int 0, .int 0, .int 0, .int 0, .int 0, .int 0, .int 0, .int 0, .int 0, .int 0, .int 0]))] := hD
  refine lv_dup hx hb dX8_init_8 rfl ?_
  have hPr := (zo_nil : va_P (dC, dI) vwCl [] H2)
  have hPc := hP.sub (ws' := [(q1, .inr (9, [.null, .null, .null, .int 0, .int 0, .int 0, .int 0, .int 0, .int 0, .int 0, .int 0, .int 0, .int 0, .int 0]))]) [1] rfl
  have hDc := hD.sub (ws' := [(q1, .inr (9, [.null, .null, .null, .int 0, .int 0, .int 0, .int 0, .int 0, .int 0, .int 0, .int 0, .int 0, .int 0, .int 0]))]) [1] (by decide) rfl
  have hKc := hK.sub (tys' := []) [] rfl
  have hFc := va_free (wc := [(q1, .inr (9, [.null, .null, .null, .int 0, .int 0, .int 0, .int 0, .int 0, .int 0, .int 0, .int 0, .int 0, .int 0, .int 0]))]) hD hS hA [1] rfl
  refine va_callv (va_runIN (As := []) (rest := [.ref q1, .ref mo]) ⟨hx, hb, hml, hown, hts⟩ (cz_X7_init l dC dI ed H2.size q1) ⟨(va_cnB 0 hts gX8_init_X7_init_n9 rfl rfl rfl (hN.2.1 ("LockRoomsModel", 9, yX7_init, "LockRoomsModel") (List.mem_of_getElem? (i := 9) rfl)) (hts (.initialized RX7) (by decide +kernel)) (by decide +kernel) ⟨Nat.le_of_ble_eq_true rfl, Nat.le_of_ble_eq_true rfl⟩), rfl, (hts (.instanceMethod yX7_init) (by decide +kernel))⟩ ⟨zb_blind, fun U hU hW => ⟨rfl, zb_mk hU hW hPr hPc hKc hDc hN hH hS hFc zx_nil⟩⟩ rfl rfl hl.1 rfl (lv_room (Nat.le_of_ble_eq_true rfl)) dX8_init_9 ⟨Nat.le_of_ble_eq_true rfl, Nat.le_of_ble_eq_true rfl⟩) hS (fun q _ h => hFc q h) hFc (fun u t H3 locs ht hvm hw hB hz1 hk1 hS => ?_)
  obtain ⟨ll_5, lt_5, lp_5, hP1, hD1, hK1⟩ := hB
  rw [ht] at hP1
  obtain ⟨hP, hD⟩ := va_join (wr := [(mo, .inr (10, [.int 0, .null, .int 0, .long 0]))]) (w1 := [(q1, .inr (9, [.ref ll_5, .ref lt_5, .ref lp_5, .int (-1), .int 0, .int 0, .int 0, .int 0, .int 0, .int 0, .int (-1), .int 0, .int 0, .int 0])), (ll_5, .inr (1, [.int 0, .ref ed, .int 0])), (lt_5, .inr (1, [.int 0, .ref ed, .int 0])), (lp_5, .inr (1, [.int 0, .ref ed, .int 0]))]) hP hD [1] [0] rfl rfl (by decide) (by decide) hk1 hFc hP1 hD1
  have hP : va_P (dC, dI) vwCl [(mo, .inr (10, [.int 0, .null, .int 0, .long 0])), (q1, .inr (9, [.ref ll_5, .ref lt_5, .ref lp_5, .int (-1), .int 0, .int 0, .int 0, .int 0, .int 0, .int 0, .int (-1), .int 0, .int 0, .int 0])), (ll_5, .inr (1, [.int 0, .ref ed, .int 0])), (lt_5, .inr (1, [.int 0, .ref ed, .int 0])), (lp_5, .inr (1, [.int 0, .ref ed, .int 0]))] H3 := hP
  have hD : va_D A [(mo, .inr (10, [.int 0, .null, .int 0, .long 0])), (q1, .inr (9, [.ref ll_5, .ref lt_5, .ref lp_5, .int (-1), .int 0, .int 0, .int 0, .int 0, .int 0, .int 0, .int (-1), .int 0, .int 0, .int 0])), (ll_5, .inr (1, [.int 0, .ref ed, .int 0])), (lt_5, .inr (1, [.int 0, .ref ed, .int 0])), (lp_5, .inr (1, [.int 0, .ref ed, .int 0]))] := hD
  refine va_putF (D := (dC, dI)) (ci := 10) (v := .ref q1) (ty := .object "LockRoomsModel$Room") (C := RX8) (T := TX8) (N := 4) hx hb hts zi_X8_init_X8 tyX8 tyX8_ok nmX8 hown hK hP hD hS 0 rfl rfl 1 (by decide) (hts (.fieldLink RX8 10 "LockRoomsModel" "room" "LLockRoomsModel$Room;") (by decide +kernel)) (fun _ h9 => h9) rfl hin rfl (by decide +kernel) rfl rfl (Nat.le_of_ble_eq_true rfl) dX8_init_12 (fun H6 locs hP hD hS => ?_)
  have hP : va_P (dC, dI) vwCl [(mo, .inr (10, [.int 0, .ref q1, .int 0, .long 0])), (q1, .inr (9, [.ref ll_5, .ref lt_5, .ref lp_5, .int (-1), .int 0, .int 0, .int 0, .int 0, .int 0, .int 0, .int (-1), .int 0, .int 0, .int 0])), (ll_5, .inr (1, [.int 0, .ref ed, .int 0])), (lt_5, .inr (1, [.int 0, .ref ed, .int 0])), (lp_5, .inr (1, [.int 0, .ref ed, .int 0]))] H6 := hP
  have hD : va_D A [(mo, .inr (10, [.int 0, .ref q1, .int 0, .long 0])), (q1, .inr (9, [.ref ll_5, .ref lt_5, .ref lp_5, .int (-1), .int 0, .int 0, .int 0, .int 0, .int 0, .int 0, .int (-1), .int 0, .int 0, .int 0])), (ll_5, .inr (1, [.int 0, .ref ed, .int 0])), (lt_5, .inr (1, [.int 0, .ref ed, .int 0])), (lp_5, .inr (1, [.int 0, .ref ed, .int 0]))] := hD
  refine lv_aload_n hx hb dX8_init_15 rfl (lv_at hl 0 rfl) ?_
  refine lv_iconst (v := 1) hx hb dX8_init_16 (by decide) ?_
  refine va_put (D := (dC, dI)) (ci := 10) (v := .int 1) (ty := .boolean) (C := RX8) (T := TX8) (N := 4) hx hb hts zi_X8_init_X8 tyX8 tyX8_ok nmX8 hown hK hP hD hS 0 rfl rfl 2 (by decide) (hts (.fieldLink RX8 16 "LockRoomsModel" "hasPower" "Z") (by decide +kernel)) (fun _ h9 => h9) rfl (by decide +kernel) (by decide) (by decide) (Nat.le_of_ble_eq_true rfl) dX8_init_17 (fun H7 locs hP hD hS => ?_)
  have hP : va_P (dC, dI) vwCl [(mo, .inr (10, [.int 0, .ref q1, .int 1, .long 0])), (q1, .inr (9, [.ref ll_5, .ref lt_5, .ref lp_5, .int (-1), .int 0, .int 0, .int 0, .int 0, .int 0, .int 0, .int (-1), .int 0, .int 0, .int 0])), (ll_5, .inr (1, [.int 0, .ref ed, .int 0])), (lt_5, .inr (1, [.int 0, .ref ed, .int 0])), (lp_5, .inr (1, [.int 0, .ref ed, .int 0]))] H7 := hP
  have hD : va_D A [(mo, .inr (10, [.int 0, .ref q1, .int 1, .long 0])), (q1, .inr (9, [.ref ll_5, .ref lt_5, .ref lp_5, .int (-1), .int 0, .int 0, .int 0, .int 0, .int 0, .int 0, .int (-1), .int 0, .int 0, .int 0])), (ll_5, .inr (1, [.int 0, .ref ed, .int 0])), (lt_5, .inr (1, [.int 0, .ref ed, .int 0])), (lp_5, .inr (1, [.int 0, .ref ed, .int 0]))] := hD
  refine W.widen (k := 4) (n := 23) (Nat.le_of_ble_eq_true rfl) (Nat.le_of_ble_eq_true rfl) ?_
  have hP9 := hP.sub (ws' := [(mo, .inr (10, [.int 0, .ref q1, .int 1, .long 0])), (q1, .inr (9, [.ref ll_5, .ref lt_5, .ref lp_5, .int (-1), .int 0, .int 0, .int 0, .int 0, .int 0, .int 0, .int (-1), .int 0, .int 0, .int 0])), (ll_5, .inr (1, [.int 0, .ref ed, .int 0])), (lt_5, .inr (1, [.int 0, .ref ed, .int 0])), (lp_5, .inr (1, [.int 0, .ref ed, .int 0]))]) [0, 1, 2, 3, 4] rfl
  have hD9 := hD.sub (ws' := [(mo, .inr (10, [.int 0, .ref q1, .int 1, .long 0])), (q1, .inr (9, [.ref ll_5, .ref lt_5, .ref lp_5, .int (-1), .int 0, .int 0, .int 0, .int 0, .int 0, .int 0, .int (-1), .int 0, .int 0, .int 0])), (ll_5, .inr (1, [.int 0, .ref ed, .int 0])), (lt_5, .inr (1, [.int 0, .ref ed, .int 0])), (lp_5, .inr (1, [.int 0, .ref ed, .int 0]))]) [0, 1, 2, 3, 4] (by decide) rfl
  have hK9 := hK.sub (tys' := []) [] rfl
  exact W.vret hx hb hr (fun t ht hW => ⟨⟨(), rfl, trivial, ⟨q1, ll_5, lt_5, lp_5, by rw [ht]; exact hP9, hD9, va_K.moved hW.alike hK9⟩⟩, hS.F ht⟩) hS.2.2 dX8_init_20
set_option maxRecDepth 20000 in
theorem zi_X6_begin_X6 : ∀ w ∈ u_ws RX6 TX6 3, w ∈ wsX6_begin := by decide +kernel
set_option maxRecDepth 20000 in
theorem zi_X6_begin_X3 : ∀ w ∈ u_ws RX3 TX3 12, w ∈ wsX6_begin := by decide +kernel
set_option maxRecDepth 20000 in
theorem zi_X6_begin_X0 : ∀ w ∈ u_ws RX0 TX0 7, w ∈ wsX6_begin := by decide +kernel
set_option maxRecDepth 20000 in
theorem zi_X6_endsAt_X6 : ∀ w ∈ u_ws RX6 TX6 3, w ∈ wsX6_endsAt := by decide +kernel
set_option maxRecDepth 20000 in
theorem zi_X6_endsAt_X3 : ∀ w ∈ u_ws RX3 TX3 12, w ∈ wsX6_endsAt := by decide +kernel
set_option maxRecDepth 20000 in
theorem zi_X6_endsAt_X0 : ∀ w ∈ u_ws RX0 TX0 7, w ∈ wsX6_endsAt := by decide +kernel
set_option maxRecDepth 20000 in
theorem zi_X2_rest_X2 : ∀ w ∈ u_ws RX2 TX2 4, w ∈ wsX2_rest := by decide +kernel
set_option maxRecDepth 20000 in
theorem zi_X2_come_X2 : ∀ w ∈ u_ws RX2 TX2 4, w ∈ wsX2_come := by decide +kernel
set_option maxRecDepth 20000 in
theorem zi_X3_addPlayer_X3 : ∀ w ∈ u_ws RX3 TX3 12, w ∈ wsX3_addPlayer := by decide +kernel
set_option maxRecDepth 20000 in
theorem zi_X6_player_X6 : ∀ w ∈ u_ws RX6 TX6 3, w ∈ wsX6_player := by decide +kernel
set_option maxRecDepth 20000 in
theorem zi_X6_player_X3 : ∀ w ∈ u_ws RX3 TX3 12, w ∈ wsX6_player := by decide +kernel
set_option maxRecDepth 20000 in
theorem zi_X6_player_X0 : ∀ w ∈ u_ws RX0 TX0 7, w ∈ wsX6_player := by decide +kernel
set_option maxRecDepth 20000 in
theorem zi_X3_letMinuteGoBy_X3 : ∀ w ∈ u_ws RX3 TX3 12, w ∈ wsX3_letMinuteGoBy := by decide +kernel
set_option maxRecDepth 20000 in
theorem zi_X3_letMinuteGoBy_X0 : ∀ w ∈ u_ws RX0 TX0 7, w ∈ wsX3_letMinuteGoBy := by decide +kernel
set_option maxRecDepth 20000 in
theorem zi_Jx35411_init_45d68_Jx35411 : ∀ w ∈ u_ws RJx35411 TJx35411 4, w ∈ wsJx35411_init_45d68 := by decide +kernel
set_option maxRecDepth 20000 in
theorem zi_Jx35411_init_45d68_Jx4a65c : ∀ w ∈ u_ws RJx4a65c TJx4a65c 3, w ∈ wsJx35411_init_45d68 := by decide +kernel
set_option maxRecDepth 20000 in
theorem zi_Jx4a65c_iterator_32c93_Jx35411 : ∀ w ∈ u_ws RJx35411 TJx35411 4, w ∈ wsJx4a65c_iterator_32c93 := by decide +kernel
set_option maxRecDepth 20000 in
theorem zi_Jx35411_hasNext_aae02_Jx35411 : ∀ w ∈ u_ws RJx35411 TJx35411 4, w ∈ wsJx35411_hasNext_aae02 := by decide +kernel
set_option maxRecDepth 20000 in
theorem zi_Jx35411_hasNext_aae02_Jx4a65c : ∀ w ∈ u_ws RJx4a65c TJx4a65c 3, w ∈ wsJx35411_hasNext_aae02 := by decide +kernel
set_option maxRecDepth 20000 in
theorem zi_Jx4a65c_grow_92f84_Jx4a65c : ∀ w ∈ u_ws RJx4a65c TJx4a65c 3, w ∈ wsJx4a65c_grow_92f84 := by decide +kernel
set_option maxRecDepth 20000 in
theorem zi_Jx4a65c_grow_d5877_Jx4a65c : ∀ w ∈ u_ws RJx4a65c TJx4a65c 3, w ∈ wsJx4a65c_grow_d5877 := by decide +kernel
set_option maxRecDepth 20000 in
theorem zi_Jx4a65c_add_72be8_Jx4a65c : ∀ w ∈ u_ws RJx4a65c TJx4a65c 3, w ∈ wsJx4a65c_add_72be8 := by decide +kernel
set_option maxRecDepth 20000 in
theorem zi_Jx4a65c_add_9ea2d_Jx4a65c : ∀ w ∈ u_ws RJx4a65c TJx4a65c 3, w ∈ wsJx4a65c_add_9ea2d := by decide +kernel
set_option maxRecDepth 20000 in
theorem zi_X7_pass_X7 : ∀ w ∈ u_ws RX7 TX7 14, w ∈ wsX7_pass := by decide +kernel
set_option maxRecDepth 20000 in
theorem zi_X7_copy_X7 : ∀ w ∈ u_ws RX7 TX7 14, w ∈ wsX7_copy := by decide +kernel
set_option maxRecDepth 20000 in
theorem zi_X8_begin_X8 : ∀ w ∈ u_ws RX8 TX8 4, w ∈ wsX8_begin := by decide +kernel
set_option maxRecDepth 20000 in
theorem zi_X8_begin_X7 : ∀ w ∈ u_ws RX7 TX7 14, w ∈ wsX8_begin := by decide +kernel
set_option maxRecDepth 20000 in
theorem zi_X8_endsNow_X8 : ∀ w ∈ u_ws RX8 TX8 4, w ∈ wsX8_endsNow := by decide +kernel
set_option maxRecDepth 20000 in
theorem zi_X8_endsNow_X7 : ∀ w ∈ u_ws RX7 TX7 14, w ∈ wsX8_endsNow := by decide +kernel
set_option maxRecDepth 20000 in
theorem zi_X8_endsAt_X8 : ∀ w ∈ u_ws RX8 TX8 4, w ∈ wsX8_endsAt := by decide +kernel
set_option maxRecDepth 20000 in
theorem zi_X8_player_X8 : ∀ w ∈ u_ws RX8 TX8 4, w ∈ wsX8_player := by decide +kernel
set_option maxRecDepth 20000 in
theorem zi_X8_player_X7 : ∀ w ∈ u_ws RX7 TX7 14, w ∈ wsX8_player := by decide +kernel
theorem zo_Dnil {A : Nat → Prop} : va_D A [] := ⟨fun i j p q h => by simp at h, fun k q h => by simp at h⟩
theorem zo_pig : ∀ (n : Nat) (l : List Nat) (a : Nat), l.Nodup → (∀ x ∈ l, a ≤ x ∧ x < a + n) → l.length ≤ n := by
  intro n
  induction n with
  | zero =>
    intro l a _ h
    cases l with
    | nil => exact Nat.le_refl 0
    | cons x t => exact absurd (h x List.mem_cons_self) (by omega)
  | succ n ih =>
    intro l a hn h
    by_cases hm : (a + n) ∈ l
    · have h1 : (l.erase (a + n)).length = l.length - 1 := List.length_erase_of_mem hm
      have h2 := ih (l.erase (a + n)) a (hn.erase _) (fun x hx => by
        have h3 := h x (List.mem_of_mem_erase hx)
        have h4 : x ≠ a + n := fun e => by
          rw [e] at hx
          exact hn.not_mem_erase hx
        omega)
      omega
    · have h2 := ih l a hn (fun x hx => by
        have h3 := h x hx
        have h4 : x ≠ a + n := fun e => hm (by rw [← e]; exact hx)
        omega)
      omega
/-- as many cells as are known, apart and new, the heap has grown by at the least -/
theorem zo_cnt {D : va_G} {cl : List vw_C} {ws : va_W} {H : Heap} {A : Nat → Prop} {n k : Nat} (hP : va_P D cl ws H) (hD : va_D A ws) (hA : ∀ q, A q → n ≤ q) (hk : k ≤ ws.length) (hk0 : 0 < k) : n + k ≤ H.size := by
  have h1 : (ws.map (fun p => p.1)).Nodup := by
    unfold List.Nodup
    rw [List.pairwise_iff_getElem]
    intro i j hi hj hij e
    have hi' : i < ws.length := by rw [List.length_map] at hi; exact hi
    have hj' : j < ws.length := by rw [List.length_map] at hj; exact hj
    rw [List.getElem_map, List.getElem_map] at e
    have := hD.1 i j _ _ (List.getElem?_eq_getElem hi') (List.getElem?_eq_getElem hj') e
    omega
  have h2 : ∀ x ∈ ws.map (fun p => p.1), n ≤ x ∧ x < n + (H.size - n) := by
    intro x hx
    obtain ⟨p, hp, rfl⟩ := List.mem_map.mp hx
    obtain ⟨j, hj⟩ := List.getElem?_of_mem hp
    have h3 := hA _ (hD.2 j p hj)
    have h4 := (hP j p hj).lt
    omega
  have h3 := zo_pig _ _ _ h1 h2
  rw [List.length_map] at h3
  cases ws with
  | nil =>
    have : k = 0 := Nat.le_zero.mp hk
    omega
  | cons p t =>
    have h4 := hA _ (hD.2 0 p rfl)
    have h5 := (hP 0 p rfl).lt
    omega
theorem zo_cnt2 {D : va_G} {cl : List vw_C} {wc wc' ws : va_W} {H : Heap} {n k : Nat} (hP : va_P D cl (wc' ++ ws) H) (hD : va_D (va_A wc n) (wc' ++ ws)) (hm : wc'.map (fun p => p.1) = wc.map (fun p => p.1)) (hk : k ≤ ws.length) (hk0 : 0 < k) : n + k ≤ H.size := by
  have hix : ∀ j : Nat, (wc' ++ ws)[wc'.length + j]? = ws[j]? := fun j => by
    rw [List.getElem?_append_right (Nat.le_add_right _ _), Nat.add_sub_cancel_left]
  refine zo_cnt (D := D) (cl := cl) (ws := ws) (A := fun q => n ≤ q) (fun j q hj => hP (wc'.length + j) q ((hix j).trans hj)) ⟨fun i j p q hi hj e => ?_, fun j q hj => ?_⟩ (fun q h => h) hk hk0
  · have := hD.1 (wc'.length + i) (wc'.length + j) p q ((hix i).trans hi) ((hix j).trans hj) e
    omega
  · rcases hD.2 (wc'.length + j) q ((hix j).trans hj) with ⟨i, e, hi⟩ | h
    · exfalso
      have h1 : (wc.map (fun p => p.1))[i]? = some q.1 := by rw [List.getElem?_map, hi]; rfl
      rw [← hm, List.getElem?_map] at h1
      cases hc : wc'[i]? with
      | none => rw [hc] at h1; cases h1
      | some p =>
        rw [hc] at h1
        have h2 : p.1 = q.1 := Option.some.inj h1
        have h3 : i < wc'.length := (List.getElem?_eq_some_iff.mp hc).1
        have := hD.1 i (wc'.length + j) p q (by rw [List.getElem?_append_left h3]; exact hc) ((hix j).trans hj) h2
        omega
    · exact h
theorem zo_fitI (cA : ClassId) (n : Nat) (f : Nat → Int32) : ∀ (i : Nat) (v : Value), (vp_cell cA (n, .inl f)).slots[i]? = some v → fits .int v = true := by
  intro i v h
  rw [vp_cell_i] at h
  have hlt : i < n := by
    have := (Array.getElem?_eq_some_iff.mp h).1
    rw [arrV_size] at this
    exact this
  rw [arrV_read _ _ hlt] at h
  cases h
  rfl
set_option maxHeartbeats 4000000 in
set_option maxRecDepth 100000 in
theorem cz_RX3_init (l : Launch) (dC : Nat → ClassId) (dI : Nat → Nat → Nat) (ed sz : Nat) (rm : Nat) : Met l yX3_init wsX3_init ({ frames := 2, cells := 32, slots := 219, locals := 32 } : Jvm.Room) (va_Pc [.ref rm] (zB dC dI ed sz [] [(rm, .inr (5, [.null, .null, .null, .null, .int 0, .int 0, .int 0, .int 0, .int 0, .int 0, .int 0, .int 0]))] [])) (va_Qv (fun (_ : Unit) => True) (fun (_ : Unit) (t : State) => ∃ (lk : Nat), ∃ (th : Nat), ∃ (pl : Nat), ∃ (gm : Nat), ∃ (cP : ClassId), ∃ (fp : Nat → Option Nat), ∃ (p0 : Nat), (fp 0 = some p0) ∧ va_P (dC, dI) vwCl [(rm, .inr (5, [.ref lk, .ref th, .ref pl, .ref gm, .int 0, .int 0, .int 0, .int (-1), .int 1, .int 0, .int 0, .int 0])), (pl, .inl (cP, 6, .inr (.inr (.inr (.inr fp))))), (gm, .inr (2, [.int 0, .int 0, .int 0, .int 0, .int 0, .int (-1), .long 0])), (p0, .inr (4, [.int 0, .int 0, .int 0, .int 0]))] t.heap ∧ va_D (va_A [(rm, .inr (5, [.null, .null, .null, .null, .int 0, .int 0, .int 0, .int 0, .int 0, .int 0, .int 0, .int 0]))] sz) [(rm, .inr (5, [.ref lk, .ref th, .ref pl, .ref gm, .int 0, .int 0, .int 0, .int (-1), .int 1, .int 0, .int 0, .int 0])), (pl, .inl (cP, 6, .inr (.inr (.inr (.inr fp))))), (gm, .inr (2, [.int 0, .int 0, .int 0, .int 0, .int 0, .int (-1), .long 0])), (p0, .inr (4, [.int 0, .int 0, .int 0, .int 0]))] ∧ va_K (dC, dI) vwCl [(cP, .object "LockRooms$Player")] t) (va_A [(rm, .inr (5, [.null, .null, .null, .null, .int 0, .int 0, .int 0, .int 0, .int 0, .int 0, .int 0, .int 0]))] sz)) 32 219 (va_A [(rm, .inr (5, [.null, .null, .null, .null, .int 0, .int 0, .int 0, .int 0, .int 0, .int 0, .int 0, .int 0]))] sz) := by
  refine Met.ofW (cc := cX3_init) (maxL := 2) (ret := none) (by decide) rfl ?_
  intro p e s m args below meth c s₁ B hml hv
  obtain ⟨rfl, hsz, hR0, hP, hK, hD0, hN, hH, hX0⟩ := hv
  have hx := B.exec
  have hb := B.bytes
  have hr := B.returns
  have hts := atoms_spec (ws := wsX3_init) B.pre
  have hown : s.vm.findClass RX3 = some m.cls := findClass_of_methodNamed B.named
  have hlocks := B.notSynchronized
  have hin : meth.name = "<init>" := (name_of_methodNamed B.named B.method).1
  subst hsz
  have hD := hD0.self (sz := s.heap.size)
  have hAr := zx_A hX0 hR0
  generalize hAe : va_A [(rm, .inr (5, [.null, .null, .null, .null, .int 0, .int 0, .int 0, .int 0, .int 0, .int 0, .int 0, .int 0]))] s.heap.size = A at hD hAr hH ⊢
  have hA : ∀ q : Nat, s.heap.size ≤ q → A q := fun q h => by rw [← hAe]; exact Or.inr h
  have hS : va_S A s.heap s.heap [] := va_S.rf
  have hl := lv_entry ([.ref rm]) (n := 2) (Nat.le_of_ble_eq_true rfl)
  rw [lg_entry_eq]
  generalize (lg_sl ([.ref rm]) ++ List.replicate (2 - (lg_sl ([.ref rm])).length) Slot.unset).toArray = ls at hl ⊢
  have hl : lv_has ls 2 [(0, .ref rm)] := hl
  refine lv_aload_n hx hb dX3_init_0 rfl (lv_at hl 0 rfl) ?_
  refine W.objInit hx hb hown (hts (.methodLink RX3 3 objectInit) (by decide +kernel)) (hts (.instanceMethod objectInit) (by decide +kernel)) (hts (.code objectInit ⟨#[0xb1]⟩ 1 none) (by decide +kernel)) rfl (by rw [hml]; exact hl.1) rfl dX3_init_1 (Nat.le_of_ble_eq_true rfl) (Nat.le_of_ble_eq_true rfl) ?_
  refine W.eq (g2 := F0 m 4 ls []) rfl ?_
  refine lv_aload_n hx hb dX3_init_4 rfl (lv_at hl 0 rfl) ?_
  refine lv_bipush (v := 10) hx hb dX3_init_5 (by decide) ?_
  refine va_newq hx hb hown (hts (.classLink RX3 9 RX1) (by decide +kernel)) (hN.2.2.1 "LockRooms$Lock" (by decide)) hK hP hD hS hA (by decide) (N' := 10) (by decide) (by decide) (Nat.le_of_ble_eq_true rfl) (Nat.le_of_ble_eq_true rfl) dX3_init_7 (fun q1 cA3 H2 hK hP hD hS => ?_)
  have hP : va_P (dC, dI) vwCl [(rm, .inr (5, [.null, .null, .null, .null, .int 0, .int 0, .int 0, .int 0, .int 0, .int 0, .int 0, .int 0])), (q1, .inl (cA3, 10, .inr (.inr (.inr (.inr (fun _ => none))))))] H2 := hP
  have hD : va_D A [(rm, .inr (5, [.null, .null, .null, .null, .int 0, .int 0, .int 0, .int 0, .int 0, .int 0, .int 0, .int 0])), (q1, .inl (cA3, 10, .inr (.inr (.inr (.inr (fun _ => none))))))] := hD
  refine va_putF (D := (dC, dI)) (ci := 5) (v := .ref q1) (ty := .array (.object "LockRooms$Lock")) (C := RX3) (T := TX3) (N := 12) hx hb hts zi_X3_init_X3 tyX3 tyX3_ok nmX3 hown hK hP hD hS 0 rfl rfl 0 (by decide) (hts (.fieldLink RX3 11 "LockRooms$Room" "locks" "[LLockRooms$Lock;") (by decide +kernel)) (fun _ h9 => h9) rfl hin rfl (by decide +kernel) rfl rfl (Nat.le_of_ble_eq_true rfl) dX3_init_10 (fun H4 locs hP hD hS => ?_)
  have hP : va_P (dC, dI) vwCl [(rm, .inr (5, [.ref q1, .null, .null, .null, .int 0, .int 0, .int 0, .int 0, .int 0, .int 0, .int 0, .int 0])), (q1, .inl (cA3, 10, .inr (.inr (.inr (.inr (fun _ => none))))))] H4 := hP
  have hD : va_D A [(rm, .inr (5, [.ref q1, .null, .null, .null, .int 0, .int 0, .int 0, .int 0, .int 0, .int 0, .int 0, .int 0])), (q1, .inl (cA3, 10, .inr (.inr (.inr (.inr (fun _ => none))))))] := hD
  refine lv_aload_n hx hb dX3_init_13 rfl (lv_at hl 0 rfl) ?_
  refine lv_bipush (v := 12) hx hb dX3_init_14 (by decide) ?_
  refine va_newq hx hb hown (hts (.classLink RX3 17 RX5) (by decide +kernel)) (hN.2.2.1 "LockRooms$Thing" (by decide)) hK hP hD hS hA (by decide) (N' := 12) (by decide) (by decide) (Nat.le_of_ble_eq_true rfl) (Nat.le_of_ble_eq_true rfl) dX3_init_16 (fun q5 cA7 H6 hK hP hD hS => ?_)
  have hP : va_P (dC, dI) vwCl [(rm, .inr (5, [.ref q1, .null, .null, .null, .int 0, .int 0, .int 0, .int 0, .int 0, .int 0, .int 0, .int 0])), (q1, .inl (cA3, 10, .inr (.inr (.inr (.inr (fun _ => none)))))), (q5, .inl (cA7, 12, .inr (.inr (.inr (.inr (fun _ => none))))))] H6 := hP
  have hD : va_D A [(rm, .inr (5, [.ref q1, .null, .null, .null, .int 0, .int 0, .int 0, .int 0, .int 0, .int 0, .int 0, .int 0])), (q1, .inl (cA3, 10, .inr (.inr (.inr (.inr (fun _ => none)))))), (q5, .inl (cA7, 12, .inr (.inr (.inr (.inr (fun _ => none))))))] := hD
  refine va_putF (D := (dC, dI)) (ci := 5) (v := .ref q5) (ty := .array (.object "LockRooms$Thing")) (C := RX3) (T := TX3) (N := 12) hx hb hts zi_X3_init_X3 tyX3 tyX3_ok nmX3 hown hK hP hD hS 0 rfl rfl 1 (by decide) (hts (.fieldLink RX3 19 "LockRooms$Room" "things" "[LLockRooms$Thing;") (by decide +kernel)) (fun _ h9 => h9) rfl hin rfl (by decide +kernel) rfl rfl (Nat.le_of_ble_eq_true rfl) dX3_init_19 (fun H8 locs hP hD hS => ?_)
  have hP : va_P (dC, dI) vwCl [(rm, .inr (5, [.ref q1, .ref q5, .null, .null, .int 0, .int 0, .int 0, .int 0, .int 0, .int 0, .int 0, .int 0])), (q1, .inl (cA3, 10, .inr (.inr (.inr (.inr (fun _ => none)))))), (q5, .inl (cA7, 12, .inr (.inr (.inr (.inr (fun _ => none))))))] H8 := hP
  have hD : va_D A [(rm, .inr (5, [.ref q1, .ref q5, .null, .null, .int 0, .int 0, .int 0, .int 0, .int 0, .int 0, .int 0, .int 0])), (q1, .inl (cA3, 10, .inr (.inr (.inr (.inr (fun _ => none)))))), (q5, .inl (cA7, 12, .inr (.inr (.inr (.inr (fun _ => none))))))] := hD
  refine lv_aload_n hx hb dX3_init_22 rfl (lv_at hl 0 rfl) ?_
  refine lv_bipush (v := 6) hx hb dX3_init_23 (by decide) ?_
  refine va_newq hx hb hown (hts (.classLink RX3 23 RX2) (by decide +kernel)) (hN.2.2.1 "LockRooms$Player" (by decide)) hK hP hD hS hA (by decide) (N' := 6) (by decide) (by decide) (Nat.le_of_ble_eq_true rfl) (Nat.le_of_ble_eq_true rfl) dX3_init_25 (fun q9 cA11 H10 hK hP hD hS => ?_)
  have hP : va_P (dC, dI) vwCl [(rm, .inr (5, [.ref q1, .ref q5, .null, .null, .int 0, .int 0, .int 0, .int 0, .int 0, .int 0, .int 0, .int 0])), (q1, .inl (cA3, 10, .inr (.inr (.inr (.inr (fun _ => none)))))), (q5, .inl (cA7, 12, .inr (.inr (.inr (.inr (fun _ => none)))))), (q9, .inl (cA11, 6, .inr (.inr (.inr (.inr (fun _ => none))))))] H10 := hP
  have hD : va_D A [(rm, .inr (5, [.ref q1, .ref q5, .null, .null, .int 0, .int 0, .int 0, .int 0, .int 0, .int 0, .int 0, .int 0])), (q1, .inl (cA3, 10, .inr (.inr (.inr (.inr (fun _ => none)))))), (q5, .inl (cA7, 12, .inr (.inr (.inr (.inr (fun _ => none)))))), (q9, .inl (cA11, 6, .inr (.inr (.inr (.inr (fun _ => none))))))] := hD
  refine va_putF (D := (dC, dI)) (ci := 5) (v := .ref q9) (ty := .array (.object "LockRooms$Player")) (C := RX3) (T := TX3) (N := 12) hx hb hts zi_X3_init_X3 tyX3 tyX3_ok nmX3 hown hK hP hD hS 0 rfl rfl 2 (by decide) (hts (.fieldLink RX3 25 "LockRooms$Room" "players" "[LLockRooms$Player;") (by decide +kernel)) (fun _ h9 => h9) rfl hin rfl (by decide +kernel) rfl rfl (Nat.le_of_ble_eq_true rfl) dX3_init_28 (fun H12 locs hP hD hS => ?_)
  have hP : va_P (dC, dI) vwCl [(rm, .inr (5, [.ref q1, .ref q5, .ref q9, .null, .int 0, .int 0, .int 0, .int 0, .int 0, .int 0, .int 0, .int 0])), (q1, .inl (cA3, 10, .inr (.inr (.inr (.inr (fun _ => none)))))), (q5, .inl (cA7, 12, .inr (.inr (.inr (.inr (fun _ => none)))))), (q9, .inl (cA11, 6, .inr (.inr (.inr (.inr (fun _ => none))))))] H12 := hP
  have hD : va_D A [(rm, .inr (5, [.ref q1, .ref q5, .ref q9, .null, .int 0, .int 0, .int 0, .int 0, .int 0, .int 0, .int 0, .int 0])), (q1, .inl (cA3, 10, .inr (.inr (.inr (.inr (fun _ => none)))))), (q5, .inl (cA7, 12, .inr (.inr (.inr (.inr (fun _ => none)))))), (q9, .inl (cA11, 6, .inr (.inr (.inr (.inr (fun _ => none))))))] := hD
  refine lv_aload_n hx hb dX3_init_31 rfl (lv_at hl 0 rfl) ?_
  refine va_new (ci := 2) (fs := [.int 0, .int 0, .int 0, .int 0, .int 0, .int 0, .long 0]) (C := RX0) (T := TX0) (N := 7) hx hb hts zi_X3_init_X0 tyX0 tyX0_ok hown (hts (.classLink RX3 29 RX0) (by decide +kernel)) (hts (.instantiable RX0 7) (by decide +kernel)) (hts (.initialized RX0) (by decide +kernel)) hK hP hD hS hA rfl (fun j hj => by rcases (show j = 0 ∨ j = 1 ∨ j = 2 ∨ j = 3 ∨ j = 4 ∨ j = 5 ∨ j = 6 by omega) with rfl | rfl | rfl | rfl | rfl | rfl | rfl <;> rfl) (Nat.le_of_ble_eq_true rfl) (Nat.le_of_ble_eq_true rfl) dX3_init_32 (fun q13 H14 hP hD hS => ?_)
  have hP : va_P (dC, dI) vwCl [(rm, .inr (5, [.ref q1, .ref q5, .ref q9, .null, .int 0, .int 0, .int 0, .int 0, .int 0, .int 0, .int 0, .int 0])), (q1, .inl (cA3, 10, .inr (.inr (.inr (.inr (fun _ => none)))))), (q5, .inl (cA7, 12, .inr (.inr (.inr (.inr (fun _ => none)))))), (q9, .inl (cA11, 6, .inr (.inr (.inr (.inr (fun _ => none)))))), (q13, .inr (2, [.int 0, .int 0, .int 0, .int 0, .int 0, .int 0, .long 0]))] H14 := hP
  have hD : va_D A [(rm, .inr (5, [.ref q1, .ref q5, .ref q9, .null, .int 0, .int 0, .int 0, .int 0, .int 0, .int 0, .int 0, .int 0])), (q1, .inl (cA3, 10, .inr (.inr (.inr (.inr (fun _ => none)))))), (q5, .inl (cA7, 12, .inr (.inr (.inr (.inr (fun _ => none)))))), (q9, .inl (cA11, 6, .inr (.inr (.inr (.inr (fun _ => none)))))), (q13, .inr (2, [.int 0, .int 0, .int 0, .int 0, .int 0, .int 0, .long 0]))] := hD
  refine lv_dup hx hb dX3_init_35 rfl ?_
  have hPr := (zo_nil : va_P (dC, dI) vwCl [] H14)
  have hPc := hP.sub (ws' := [(q13, .inr (2, [.int 0, .int 0, .int 0, .int 0, .int 0, .int 0, .long 0]))]) [4] rfl
  have hDc := hD.sub (ws' := [(q13, .inr (2, [.int 0, .int 0, .int 0, .int 0, .int 0, .int 0, .long 0]))]) [4] (by decide) rfl
  have hKc := hK.sub (tys' := []) [] rfl
  have hFc := va_free (wc := [(q13, .inr (2, [.int 0, .int 0, .int 0, .int 0, .int 0, .int 0, .long 0]))]) hD hS hA [4] rfl
  refine va_callv (va_runIN (As := []) (rest := [.ref q13, .ref rm]) ⟨hx, hb, hml, hown, hts⟩ (cz_X0_init l dC dI ed H14.size q13) ⟨(va_cnB 0 hts gX3_init_X0_init_n31 rfl rfl rfl (hN.2.1 ("LockRooms$Room", 31, yX0_init, "LockRooms") (List.mem_of_getElem? (i := 0) rfl)) (hts (.initialized RX0) (by decide +kernel)) (by decide +kernel) ⟨Nat.le_of_ble_eq_true rfl, Nat.le_of_ble_eq_true rfl⟩), rfl, (hts (.instanceMethod yX0_init) (by decide +kernel))⟩ ⟨zb_blind, fun U hU hW => ⟨rfl, zb_mk hU hW hPr hPc hKc hDc hN hH hS hFc zx_nil⟩⟩ rfl rfl hl.1 rfl (lv_room (Nat.le_of_ble_eq_true rfl)) dX3_init_36 ⟨Nat.le_of_ble_eq_true rfl, Nat.le_of_ble_eq_true rfl⟩) hS (fun q _ h => hFc q h) hFc (fun u t H15 locs ht hvm hw hB hz1 hk1 hS => ?_)
  obtain ⟨hP1, hD1, hK1⟩ := hB
  rw [ht] at hP1
  obtain ⟨hP, hD⟩ := va_join (wr := [(rm, .inr (5, [.ref q1, .ref q5, .ref q9, .null, .int 0, .int 0, .int 0, .int 0, .int 0, .int 0, .int 0, .int 0])), (q1, .inl (cA3, 10, .inr (.inr (.inr (.inr (fun _ => none)))))), (q5, .inl (cA7, 12, .inr (.inr (.inr (.inr (fun _ => none)))))), (q9, .inl (cA11, 6, .inr (.inr (.inr (.inr (fun _ => none))))))]) (w1 := [(q13, .inr (2, [.int 0, .int 0, .int 0, .int 0, .int 0, .int (-1), .long 0]))]) hP hD [4] [0, 1, 2, 3] rfl rfl (by decide) (by decide) hk1 hFc hP1 hD1
  have hP : va_P (dC, dI) vwCl [(rm, .inr (5, [.ref q1, .ref q5, .ref q9, .null, .int 0, .int 0, .int 0, .int 0, .int 0, .int 0, .int 0, .int 0])), (q1, .inl (cA3, 10, .inr (.inr (.inr (.inr (fun _ => none)))))), (q5, .inl (cA7, 12, .inr (.inr (.inr (.inr (fun _ => none)))))), (q9, .inl (cA11, 6, .inr (.inr (.inr (.inr (fun _ => none)))))), (q13, .inr (2, [.int 0, .int 0, .int 0, .int 0, .int 0, .int (-1), .long 0]))] H15 := hP
  have hD : va_D A [(rm, .inr (5, [.ref q1, .ref q5, .ref q9, .null, .int 0, .int 0, .int 0, .int 0, .int 0, .int 0, .int 0, .int 0])), (q1, .inl (cA3, 10, .inr (.inr (.inr (.inr (fun _ => none)))))), (q5, .inl (cA7, 12, .inr (.inr (.inr (.inr (fun _ => none)))))), (q9, .inl (cA11, 6, .inr (.inr (.inr (.inr (fun _ => none)))))), (q13, .inr (2, [.int 0, .int 0, .int 0, .int 0, .int 0, .int (-1), .long 0]))] := hD
  refine va_putF (D := (dC, dI)) (ci := 5) (v := .ref q13) (ty := .object "LockRooms$Games") (C := RX3) (T := TX3) (N := 12) hx hb hts zi_X3_init_X3 tyX3 tyX3_ok nmX3 hown hK hP hD hS 0 rfl rfl 3 (by decide) (hts (.fieldLink RX3 32 "LockRooms$Room" "games" "LLockRooms$Games;") (by decide +kernel)) (fun _ h9 => h9) rfl hin rfl (by decide +kernel) rfl rfl (Nat.le_of_ble_eq_true rfl) dX3_init_39 (fun H18 locs hP hD hS => ?_)
  have hP : va_P (dC, dI) vwCl [(rm, .inr (5, [.ref q1, .ref q5, .ref q9, .ref q13, .int 0, .int 0, .int 0, .int 0, .int 0, .int 0, .int 0, .int 0])), (q1, .inl (cA3, 10, .inr (.inr (.inr (.inr (fun _ => none)))))), (q5, .inl (cA7, 12, .inr (.inr (.inr (.inr (fun _ => none)))))), (q9, .inl (cA11, 6, .inr (.inr (.inr (.inr (fun _ => none)))))), (q13, .inr (2, [.int 0, .int 0, .int 0, .int 0, .int 0, .int (-1), .long 0]))] H18 := hP
  have hD : va_D A [(rm, .inr (5, [.ref q1, .ref q5, .ref q9, .ref q13, .int 0, .int 0, .int 0, .int 0, .int 0, .int 0, .int 0, .int 0])), (q1, .inl (cA3, 10, .inr (.inr (.inr (.inr (fun _ => none)))))), (q5, .inl (cA7, 12, .inr (.inr (.inr (.inr (fun _ => none)))))), (q9, .inl (cA11, 6, .inr (.inr (.inr (.inr (fun _ => none)))))), (q13, .inr (2, [.int 0, .int 0, .int 0, .int 0, .int 0, .int (-1), .long 0]))] := hD
  refine lv_aload_n hx hb dX3_init_42 rfl (lv_at hl 0 rfl) ?_
  refine lv_iconst (v := (-1)) hx hb dX3_init_43 (by decide) ?_
  refine va_put (D := (dC, dI)) (ci := 5) (v := .int (-1)) (ty := .int) (C := RX3) (T := TX3) (N := 12) hx hb hts zi_X3_init_X3 tyX3 tyX3_ok nmX3 hown hK hP hD hS 0 rfl rfl 7 (by decide) (hts (.fieldLink RX3 36 "LockRooms$Room" "exit" "I") (by decide +kernel)) (fun _ h9 => h9) rfl (by decide +kernel) rfl rfl (Nat.le_of_ble_eq_true rfl) dX3_init_44 (fun H19 locs hP hD hS => ?_)
  have hP : va_P (dC, dI) vwCl [(rm, .inr (5, [.ref q1, .ref q5, .ref q9, .ref q13, .int 0, .int 0, .int 0, .int (-1), .int 0, .int 0, .int 0, .int 0])), (q1, .inl (cA3, 10, .inr (.inr (.inr (.inr (fun _ => none)))))), (q5, .inl (cA7, 12, .inr (.inr (.inr (.inr (fun _ => none)))))), (q9, .inl (cA11, 6, .inr (.inr (.inr (.inr (fun _ => none)))))), (q13, .inr (2, [.int 0, .int 0, .int 0, .int 0, .int 0, .int (-1), .long 0]))] H19 := hP
  have hD : va_D A [(rm, .inr (5, [.ref q1, .ref q5, .ref q9, .ref q13, .int 0, .int 0, .int 0, .int (-1), .int 0, .int 0, .int 0, .int 0])), (q1, .inl (cA3, 10, .inr (.inr (.inr (.inr (fun _ => none)))))), (q5, .inl (cA7, 12, .inr (.inr (.inr (.inr (fun _ => none)))))), (q9, .inl (cA11, 6, .inr (.inr (.inr (.inr (fun _ => none)))))), (q13, .inr (2, [.int 0, .int 0, .int 0, .int 0, .int 0, .int (-1), .long 0]))] := hD
  refine lv_aload_n hx hb dX3_init_47 rfl (lv_at hl 0 rfl) ?_
  refine lv_iconst (v := 1) hx hb dX3_init_48 (by decide) ?_
  refine va_put (D := (dC, dI)) (ci := 5) (v := .int 1) (ty := .boolean) (C := RX3) (T := TX3) (N := 12) hx hb hts zi_X3_init_X3 tyX3 tyX3_ok nmX3 hown hK hP hD hS 0 rfl rfl 8 (by decide) (hts (.fieldLink RX3 40 "LockRooms$Room" "hasPower" "Z") (by decide +kernel)) (fun _ h9 => h9) rfl (by decide +kernel) (by decide) (by decide) (Nat.le_of_ble_eq_true rfl) dX3_init_49 (fun H20 locs hP hD hS => ?_)
  have hP : va_P (dC, dI) vwCl [(rm, .inr (5, [.ref q1, .ref q5, .ref q9, .ref q13, .int 0, .int 0, .int 0, .int (-1), .int 1, .int 0, .int 0, .int 0])), (q1, .inl (cA3, 10, .inr (.inr (.inr (.inr (fun _ => none)))))), (q5, .inl (cA7, 12, .inr (.inr (.inr (.inr (fun _ => none)))))), (q9, .inl (cA11, 6, .inr (.inr (.inr (.inr (fun _ => none)))))), (q13, .inr (2, [.int 0, .int 0, .int 0, .int 0, .int 0, .int (-1), .long 0]))] H20 := hP
  have hD : va_D A [(rm, .inr (5, [.ref q1, .ref q5, .ref q9, .ref q13, .int 0, .int 0, .int 0, .int (-1), .int 1, .int 0, .int 0, .int 0])), (q1, .inl (cA3, 10, .inr (.inr (.inr (.inr (fun _ => none)))))), (q5, .inl (cA7, 12, .inr (.inr (.inr (.inr (fun _ => none)))))), (q9, .inl (cA11, 6, .inr (.inr (.inr (.inr (fun _ => none)))))), (q13, .inr (2, [.int 0, .int 0, .int 0, .int 0, .int 0, .int (-1), .long 0]))] := hD
  refine lv_iconst (v := 0) hx hb dX3_init_52 (by decide) ?_
  refine lv_istore_n (lv' := [(1, .int 0), (0, .ref rm)]) hx hb dX3_init_53 rfl hl (by decide) rfl (fun ls hl => ?_)
  refine lv_iload_n hx hb dX3_init_54 rfl (lv_at hl 0 rfl) ?_
  refine lv_bipush (v := 10) hx hb dX3_init_55 (by decide) ?_
  refine lv_icmp_ge (tgt := 79) hx hb dX3_init_57 (by decide) (fun h => absurd h (by decide)) (fun _ => ?_)
  refine lv_aload_n hx hb dX3_init_60 rfl (lv_at hl 1 rfl) ?_
  refine va_get (D := (dC, dI)) (ci := 5) (v := .ref q1) (C := RX3) (T := TX3) (N := 12) hx hb hts zi_X3_init_X3 hown hK hP 0 rfl rfl 0 (by decide) (hts (.fieldLink RX3 11 "LockRooms$Room" "locks" "[LLockRooms$Lock;") (by decide +kernel)) (fun _ h9 => h9) rfl dX3_init_61 ?_
  refine lv_iload_n hx hb dX3_init_64 rfl (lv_at hl 0 rfl) ?_
  refine va_new (ci := 3) (fs := [.int 0, .int 0, .int 0, .int 0, .int 0, .int 0, .int 0, .int 0, .int 0, .int 0]) (C := RX1) (T := TX1) (N := 10) hx hb hts zi_X3_init_X1 tyX1 tyX1_ok hown (hts (.classLink RX3 9 RX1) (by decide +kernel)) (hts (.instantiable RX1 10) (by decide +kernel)) (hts (.initialized RX1) (by decide +kernel)) hK hP hD hS hA rfl (fun j hj => by rcases (show j = 0 ∨ j = 1 ∨ j = 2 ∨ j = 3 ∨ j = 4 ∨ j = 5 ∨ j = 6 ∨ j = 7 ∨ j = 8 ∨ j = 9 by omega) with rfl | rfl | rfl | rfl | rfl | rfl | rfl | rfl | rfl | rfl <;> rfl) (Nat.le_of_ble_eq_true rfl) (Nat.le_of_ble_eq_true rfl) dX3_init_65 (fun q21 H22 hP hD hS => ?_)
  have hP : va_P (dC, dI) vwCl [(rm, .inr (5, [.ref q1, .ref q5, .ref q9, .ref q13, .int 0, .int 0, .int 0, .int (-1), .int 1, .int 0, .int 0, .int 0])), (q1, .inl (cA3, 10, .inr (.inr (.inr (.inr (fun _ => none)))))), (q5, .inl (cA7, 12, .inr (.inr (.inr (.inr (fun _ => none)))))), (q9, .inl (cA11, 6, .inr (.inr (.inr (.inr (fun _ => none)))))), (q13, .inr (2, [.int 0, .int 0, .int 0, .int 0, .int 0, .int (-1), .long 0])), (q21, .inr (3, [.int 0, .int 0, .int 0, .int 0, .int 0, .int 0, .int 0, .int 0, .int 0, .int 0]))] H22 := hP
  have hD : va_D A [(rm, .inr (5, [.ref q1, .ref q5, .ref q9, .ref q13, .int 0, .int 0, .int 0, .int (-1), .int 1, .int 0, .int 0, .int 0])), (q1, .inl (cA3, 10, .inr (.inr (.inr (.inr (fun _ => none)))))), (q5, .inl (cA7, 12, .inr (.inr (.inr (.inr (fun _ => none)))))), (q9, .inl (cA11, 6, .inr (.inr (.inr (.inr (fun _ => none)))))), (q13, .inr (2, [.int 0, .int 0, .int 0, .int 0, .int 0, .int (-1), .long 0])), (q21, .inr (3, [.int 0, .int 0, .int 0, .int 0, .int 0, .int 0, .int 0, .int 0, .int 0, .int 0]))] := hD
  refine lv_dup hx hb dX3_init_68 rfl ?_
  have hPr := (zo_nil : va_P (dC, dI) vwCl [] H22)
  have hPc := hP.sub (ws' := []) [] rfl
  have hDc := hD.sub (ws' := []) [] (by decide) rfl
  have hKc := hK.sub (tys' := []) [] rfl
  have hFc := va_free (wc := []) hD hS hA [] rfl
  refine va_callv (va_runIN (As := []) (rest := [.ref q21, .int 0, .ref q1]) ⟨hx, hb, hml, hown, hts⟩ (cz_X1_init l dC dI ed H22.size q21) ⟨(va_cnB 0 hts gX3_init_X1_init_n44 rfl rfl rfl (hN.2.1 ("LockRooms$Room", 44, yX1_init, "LockRooms") (List.mem_of_getElem? (i := 1) rfl)) (hts (.initialized RX1) (by decide +kernel)) (by decide +kernel) ⟨Nat.le_of_ble_eq_true rfl, Nat.le_of_ble_eq_true rfl⟩), rfl, (hts (.instanceMethod yX1_init) (by decide +kernel))⟩ ⟨zb_blind, fun U hU hW => ⟨rfl, zb_mk hU hW hPr hPc hKc hDc hN hH hS hFc zx_e⟩⟩ rfl rfl hl.1 rfl (lv_room (Nat.le_of_ble_eq_true rfl)) dX3_init_69 ⟨Nat.le_of_ble_eq_true rfl, Nat.le_of_ble_eq_true rfl⟩) hS (fun q _ h => hFc q h) hFc (fun u t H23 locs ht hvm hw hB hz1 hk1 hS => ?_)
  have hP := zo_K hP hk1
  refine va_astq hx hb hK hP hD hS 1 0 5 3 rfl rfl rfl rfl (by unfold vp_in; decide) dX3_init_72 (fun H25 locs hP hD hS => ?_)
  obtain ⟨f26, ef26⟩ : ∃ z : Nat → Option Nat, z = va_up (fun _ => none) 0 (some q21) := ⟨_, rfl⟩
  have k27 : f26 0 = some q21 := by rw [ef26]; exact va_up_self _ _ _
  have hP : va_P (dC, dI) vwCl [(rm, .inr (5, [.ref q1, .ref q5, .ref q9, .ref q13, .int 0, .int 0, .int 0, .int (-1), .int 1, .int 0, .int 0, .int 0])), (q1, .inl (cA3, 10, .inr (.inr (.inr (.inr f26))))), (q5, .inl (cA7, 12, .inr (.inr (.inr (.inr (fun _ => none)))))), (q9, .inl (cA11, 6, .inr (.inr (.inr (.inr (fun _ => none)))))), (q13, .inr (2, [.int 0, .int 0, .int 0, .int 0, .int 0, .int (-1), .long 0])), (q21, .inr (3, [.int 0, .int 0, .int 0, .int 0, .int 0, .int 0, .int 0, .int 0, .int 0, .int 0]))] H25 := by rw [ef26]; exact hP
  have hD : va_D A [(rm, .inr (5, [.ref q1, .ref q5, .ref q9, .ref q13, .int 0, .int 0, .int 0, .int (-1), .int 1, .int 0, .int 0, .int 0])), (q1, .inl (cA3, 10, .inr (.inr (.inr (.inr f26))))), (q5, .inl (cA7, 12, .inr (.inr (.inr (.inr (fun _ => none)))))), (q9, .inl (cA11, 6, .inr (.inr (.inr (.inr (fun _ => none)))))), (q13, .inr (2, [.int 0, .int 0, .int 0, .int 0, .int 0, .int (-1), .long 0])), (q21, .inr (3, [.int 0, .int 0, .int 0, .int 0, .int 0, .int 0, .int 0, .int 0, .int 0, .int 0]))] := by rw [ef26]; exact hD
  refine lv_iinc (v := 1) (lv' := [(1, .int 1), (0, .ref rm)]) hx hb dX3_init_73 hl (k := 0) rfl (by decide) (by decide) rfl (fun ls hl => ?_)
  refine lv_goto (tgt := 54) hx hb dX3_init_76 (by decide) ?_
  refine lv_iload_n hx hb dX3_init_54 rfl (lv_at hl 0 rfl) ?_
  refine lv_bipush (v := 10) hx hb dX3_init_55 (by decide) ?_
  refine lv_icmp_ge (tgt := 79) hx hb dX3_init_57 (by decide) (fun h => absurd h (by decide)) (fun _ => ?_)
  refine lv_aload_n hx hb dX3_init_60 rfl (lv_at hl 1 rfl) ?_
  refine va_get (D := (dC, dI)) (ci := 5) (v := .ref q1) (C := RX3) (T := TX3) (N := 12) hx hb hts zi_X3_init_X3 hown hK hP 0 rfl rfl 0 (by decide) (hts (.fieldLink RX3 11 "LockRooms$Room" "locks" "[LLockRooms$Lock;") (by decide +kernel)) (fun _ h9 => h9) rfl dX3_init_61 ?_
  refine lv_iload_n hx hb dX3_init_64 rfl (lv_at hl 0 rfl) ?_
  refine va_new (ci := 3) (fs := [.int 0, .int 0, .int 0, .int 0, .int 0, .int 0, .int 0, .int 0, .int 0, .int 0]) (C := RX1) (T := TX1) (N := 10) hx hb hts zi_X3_init_X1 tyX1 tyX1_ok hown (hts (.classLink RX3 9 RX1) (by decide +kernel)) (hts (.instantiable RX1 10) (by decide +kernel)) (hts (.initialized RX1) (by decide +kernel)) hK hP hD hS hA rfl (fun j hj => by rcases (show j = 0 ∨ j = 1 ∨ j = 2 ∨ j = 3 ∨ j = 4 ∨ j = 5 ∨ j = 6 ∨ j = 7 ∨ j = 8 ∨ j = 9 by omega) with rfl | rfl | rfl | rfl | rfl | rfl | rfl | rfl | rfl | rfl <;> rfl) (Nat.le_of_ble_eq_true rfl) (Nat.le_of_ble_eq_true rfl) dX3_init_65 (fun q28 H29 hP hD hS => ?_)
  have hP : va_P (dC, dI) vwCl [(rm, .inr (5, [.ref q1, .ref q5, .ref q9, .ref q13, .int 0, .int 0, .int 0, .int (-1), .int 1, .int 0, .int 0, .int 0])), (q1, .inl (cA3, 10, .inr (.inr (.inr (.inr f26))))), (q5, .inl (cA7, 12, .inr (.inr (.inr (.inr (fun _ => none)))))), (q9, .inl (cA11, 6, .inr (.inr (.inr (.inr (fun _ => none)))))), (q13, .inr (2, [.int 0, .int 0, .int 0, .int 0, .int 0, .int (-1), .long 0])), (q21, .inr (3, [.int 0, .int 0, .int 0, .int 0, .int 0, .int 0, .int 0, .int 0, .int 0, .int 0])), (q28, .inr (3, [.int 0, .int 0, .int 0, .int 0, .int 0, .int 0, .int 0, .int 0, .int 0, .int 0]))] H29 := hP
  have hD : va_D A [(rm, .inr (5, [.ref q1, .ref q5, .ref q9, .ref q13, .int 0, .int 0, .int 0, .int (-1), .int 1, .int 0, .int 0, .int 0])), (q1, .inl (cA3, 10, .inr (.inr (.inr (.inr f26))))), (q5, .inl (cA7, 12, .inr (.inr (.inr (.inr (fun _ => none)))))), (q9, .inl (cA11, 6, .inr (.inr (.inr (.inr (fun _ => none)))))), (q13, .inr (2, [.int 0, .int 0, .int 0, .int 0, .int 0, .int (-1), .long 0])), (q21, .inr (3, [.int 0, .int 0, .int 0, .int 0, .int 0, .int 0, .int 0, .int 0, .int 0, .int 0])), (q28, .inr (3, [.int 0, .int 0, .int 0, .int 0, .int 0, .int 0, .int 0, .int 0, .int 0, .int 0]))] := hD
  refine lv_dup hx hb dX3_init_68 rfl ?_
  have hPr := (zo_nil : va_P (dC, dI) vwCl [] H29)
  have hPc := hP.sub (ws' := []) [] rfl
  have hDc := hD.sub (ws' := []) [] (by decide) rfl
  have hKc := hK.sub (tys' := []) [] rfl
  have hFc := va_free (wc := []) hD hS hA [] rfl
  refine va_callv (va_runIN (As := []) (rest := [.ref q28, .int 1, .ref q1]) ⟨hx, hb, hml, hown, hts⟩ (cz_X1_init l dC dI ed H29.size q28) ⟨(va_cnB 0 hts gX3_init_X1_init_n44 rfl rfl rfl (hN.2.1 ("LockRooms$Room", 44, yX1_init, "LockRooms") (List.mem_of_getElem? (i := 1) rfl)) (hts (.initialized RX1) (by decide +kernel)) (by decide +kernel) ⟨Nat.le_of_ble_eq_true rfl, Nat.le_of_ble_eq_true rfl⟩), rfl, (hts (.instanceMethod yX1_init) (by decide +kernel))⟩ ⟨zb_blind, fun U hU hW => ⟨rfl, zb_mk hU hW hPr hPc hKc hDc hN hH hS hFc zx_e⟩⟩ rfl rfl hl.1 rfl (lv_room (Nat.le_of_ble_eq_true rfl)) dX3_init_69 ⟨Nat.le_of_ble_eq_true rfl, Nat.le_of_ble_eq_true rfl⟩) hS (fun q _ h => hFc q h) hFc (fun u t H30 locs ht hvm hw hB hz1 hk1 hS => ?_)
  have hP := zo_K hP hk1
  refine va_astq hx hb hK hP hD hS 1 0 6 3 rfl rfl rfl rfl (by unfold vp_in; decide) dX3_init_72 (fun H32 locs hP hD hS => ?_)
  obtain ⟨f33, ef33⟩ : ∃ z : Nat → Option Nat, z = va_up f26 1 (some q28) := ⟨_, rfl⟩
  have k34 : f33 0 = some q21 := by rw [ef33]; exact (va_up_ne _ _ (by decide)).trans (k27)
  have hP : va_P (dC, dI) vwCl [(rm, .inr (5, [.ref q1, .ref q5, .ref q9, .ref q13, .int 0, .int 0, .int 0, .int (-1), .int 1, .int 0, .int 0, .int 0])), (q1, .inl (cA3, 10, .inr (.inr (.inr (.inr f33))))), (q5, .inl (cA7, 12, .inr (.inr (.inr (.inr (fun _ => none)))))), (q9, .inl (cA11, 6, .inr (.inr (.inr (.inr (fun _ => none)))))), (q13, .inr (2, [.int 0, .int 0, .int 0, .int 0, .int 0, .int (-1), .long 0])), (q21, .inr (3, [.int 0, .int 0, .int 0, .int 0, .int 0, .int 0, .int 0, .int 0, .int 0, .int 0])), (q28, .inr (3, [.int 0, .int 0, .int 0, .int 0, .int 0, .int 0, .int 0, .int 0, .int 0, .int 0]))] H32 := by rw [ef33]; exact hP
  have hD : va_D A [(rm, .inr (5, [.ref q1, .ref q5, .ref q9, .ref q13, .int 0, .int 0, .int 0, .int (-1), .int 1, .int 0, .int 0, .int 0])), (q1, .inl (cA3, 10, .inr (.inr (.inr (.inr f33))))), (q5, .inl (cA7, 12, .inr (.inr (.inr (.inr (fun _ => none)))))), (q9, .inl (cA11, 6, .inr (.inr (.inr (.inr (fun _ => none)))))), (q13, .inr (2, [.int 0, .int 0, .int 0, .int 0, .int 0, .int (-1), .long 0])), (q21, .inr (3, [.int 0, .int 0, .int 0, .int 0, .int 0, .int 0, .int 0, .int 0, .int 0, .int 0])), (q28, .inr (3, [.int 0, .int 0, .int 0, .int 0, .int 0, .int 0, .int 0, .int 0, .int 0, .int 0]))] := by rw [ef33]; exact hD
  have hP := hP.sub (ws' := [(rm, .inr (5, [.ref q1, .ref q5, .ref q9, .ref q13, .int 0, .int 0, .int 0, .int (-1), .int 1, .int 0, .int 0, .int 0])), (q1, .inl (cA3, 10, .inr (.inr (.inr (.inr f33))))), (q5, .inl (cA7, 12, .inr (.inr (.inr (.inr (fun _ => none)))))), (q9, .inl (cA11, 6, .inr (.inr (.inr (.inr (fun _ => none)))))), (q13, .inr (2, [.int 0, .int 0, .int 0, .int 0, .int 0, .int (-1), .long 0])), (q21, .inr (3, [.int 0, .int 0, .int 0, .int 0, .int 0, .int 0, .int 0, .int 0, .int 0, .int 0]))]) [0, 1, 2, 3, 4, 5] rfl
  have hD := hD.sub (ws' := [(rm, .inr (5, [.ref q1, .ref q5, .ref q9, .ref q13, .int 0, .int 0, .int 0, .int (-1), .int 1, .int 0, .int 0, .int 0])), (q1, .inl (cA3, 10, .inr (.inr (.inr (.inr f33))))), (q5, .inl (cA7, 12, .inr (.inr (.inr (.inr (fun _ => none)))))), (q9, .inl (cA11, 6, .inr (.inr (.inr (.inr (fun _ => none)))))), (q13, .inr (2, [.int 0, .int 0, .int 0, .int 0, .int 0, .int (-1), .long 0])), (q21, .inr (3, [.int 0, .int 0, .int 0, .int 0, .int 0, .int 0, .int 0, .int 0, .int 0, .int 0]))]) [0, 1, 2, 3, 4, 5] (by decide) rfl
  refine lv_iinc (v := 2) (lv' := [(1, .int 2), (0, .ref rm)]) hx hb dX3_init_73 hl (k := 0) rfl (by decide) (by decide) rfl (fun ls hl => ?_)
  refine lv_goto (tgt := 54) hx hb dX3_init_76 (by decide) ?_
  refine lv_iload_n hx hb dX3_init_54 rfl (lv_at hl 0 rfl) ?_
  refine lv_bipush (v := 10) hx hb dX3_init_55 (by decide) ?_
  refine lv_icmp_ge (tgt := 79) hx hb dX3_init_57 (by decide) (fun h => absurd h (by decide)) (fun _ => ?_)
  refine lv_aload_n hx hb dX3_init_60 rfl (lv_at hl 1 rfl) ?_
  refine va_get (D := (dC, dI)) (ci := 5) (v := .ref q1) (C := RX3) (T := TX3) (N := 12) hx hb hts zi_X3_init_X3 hown hK hP 0 rfl rfl 0 (by decide) (hts (.fieldLink RX3 11 "LockRooms$Room" "locks" "[LLockRooms$Lock;") (by decide +kernel)) (fun _ h9 => h9) rfl dX3_init_61 ?_
  refine lv_iload_n hx hb dX3_init_64 rfl (lv_at hl 0 rfl) ?_
  refine va_new (ci := 3) (fs := [.int 0, .int 0, .int 0, .int 0, .int 0, .int 0, .int 0, .int 0, .int 0, .int 0]) (C := RX1) (T := TX1) (N := 10) hx hb hts zi_X3_init_X1 tyX1 tyX1_ok hown (hts (.classLink RX3 9 RX1) (by decide +kernel)) (hts (.instantiable RX1 10) (by decide +kernel)) (hts (.initialized RX1) (by decide +kernel)) hK hP hD hS hA rfl (fun j hj => by rcases (show j = 0 ∨ j = 1 ∨ j = 2 ∨ j = 3 ∨ j = 4 ∨ j = 5 ∨ j = 6 ∨ j = 7 ∨ j = 8 ∨ j = 9 by omega) with rfl | rfl | rfl | rfl | rfl | rfl | rfl | rfl | rfl | rfl <;> rfl) (Nat.le_of_ble_eq_true rfl) (Nat.le_of_ble_eq_true rfl) dX3_init_65 (fun q35 H36 hP hD hS => ?_)
  have hP : va_P (dC, dI) vwCl [(rm, .inr (5, [.ref q1, .ref q5, .ref q9, .ref q13, .int 0, .int 0, .int 0, .int (-1), .int 1, .int 0, .int 0, .int 0])), (q1, .inl (cA3, 10, .inr (.inr (.inr (.inr f33))))), (q5, .inl (cA7, 12, .inr (.inr (.inr (.inr (fun _ => none)))))), (q9, .inl (cA11, 6, .inr (.inr (.inr (.inr (fun _ => none)))))), (q13, .inr (2, [.int 0, .int 0, .int 0, .int 0, .int 0, .int (-1), .long 0])), (q21, .inr (3, [.int 0, .int 0, .int 0, .int 0, .int 0, .int 0, .int 0, .int 0, .int 0, .int 0])), (q35, .inr (3, [.int 0, .int 0, .int 0, .int 0, .int 0, .int 0, .int 0, .int 0, .int 0, .int 0]))] H36 := hP
  have hD : va_D A [(rm, .inr (5, [.ref q1, .ref q5, .ref q9, .ref q13, .int 0, .int 0, .int 0, .int (-1), .int 1, .int 0, .int 0, .int 0])), (q1, .inl (cA3, 10, .inr (.inr (.inr (.inr f33))))), (q5, .inl (cA7, 12, .inr (.inr (.inr (.inr (fun _ => none)))))), (q9, .inl (cA11, 6, .inr (.inr (.inr (.inr (fun _ => none)))))), (q13, .inr (2, [.int 0, .int 0, .int 0, .int 0, .int 0, .int (-1), .long 0])), (q21, .inr (3, [.int 0, .int 0, .int 0, .int 0, .int 0, .int 0, .int 0, .int 0, .int 0, .int 0])), (q35, .inr (3, [.int 0, .int 0, .int 0, .int 0, .int 0, .int 0, .int 0, .int 0, .int 0, .int 0]))] := hD
  refine lv_dup hx hb dX3_init_68 rfl ?_
  have hPr := (zo_nil : va_P (dC, dI) vwCl [] H36)
  have hPc := hP.sub (ws' := []) [] rfl
  have hDc := hD.sub (ws' := []) [] (by decide) rfl
  have hKc := hK.sub (tys' := []) [] rfl
  have hFc := va_free (wc := []) hD hS hA [] rfl
  refine va_callv (va_runIN (As := []) (rest := [.ref q35, .int 2, .ref q1]) ⟨hx, hb, hml, hown, hts⟩ (cz_X1_init l dC dI ed H36.size q35) ⟨(va_cnB 0 hts gX3_init_X1_init_n44 rfl rfl rfl (hN.2.1 ("LockRooms$Room", 44, yX1_init, "LockRooms") (List.mem_of_getElem? (i := 1) rfl)) (hts (.initialized RX1) (by decide +kernel)) (by decide +kernel) ⟨Nat.le_of_ble_eq_true rfl, Nat.le_of_ble_eq_true rfl⟩), rfl, (hts (.instanceMethod yX1_init) (by decide +kernel))⟩ ⟨zb_blind, fun U hU hW => ⟨rfl, zb_mk hU hW hPr hPc hKc hDc hN hH hS hFc zx_e⟩⟩ rfl rfl hl.1 rfl (lv_room (Nat.le_of_ble_eq_true rfl)) dX3_init_69 ⟨Nat.le_of_ble_eq_true rfl, Nat.le_of_ble_eq_true rfl⟩) hS (fun q _ h => hFc q h) hFc (fun u t H37 locs ht hvm hw hB hz1 hk1 hS => ?_)
  have hP := zo_K hP hk1
  refine va_astq hx hb hK hP hD hS 1 0 6 3 rfl rfl rfl rfl (by unfold vp_in; decide) dX3_init_72 (fun H39 locs hP hD hS => ?_)
  obtain ⟨f40, ef40⟩ : ∃ z : Nat → Option Nat, z = va_up f33 2 (some q35) := ⟨_, rfl⟩
  have k41 : f40 0 = some q21 := by rw [ef40]; exact (va_up_ne _ _ (by decide)).trans (k34)
  have hP : va_P (dC, dI) vwCl [(rm, .inr (5, [.ref q1, .ref q5, .ref q9, .ref q13, .int 0, .int 0, .int 0, .int (-1), .int 1, .int 0, .int 0, .int 0])), (q1, .inl (cA3, 10, .inr (.inr (.inr (.inr f40))))), (q5, .inl (cA7, 12, .inr (.inr (.inr (.inr (fun _ => none)))))), (q9, .inl (cA11, 6, .inr (.inr (.inr (.inr (fun _ => none)))))), (q13, .inr (2, [.int 0, .int 0, .int 0, .int 0, .int 0, .int (-1), .long 0])), (q21, .inr (3, [.int 0, .int 0, .int 0, .int 0, .int 0, .int 0, .int 0, .int 0, .int 0, .int 0])), (q35, .inr (3, [.int 0, .int 0, .int 0, .int 0, .int 0, .int 0, .int 0, .int 0, .int 0, .int 0]))] H39 := by rw [ef40]; exact hP
  have hD : va_D A [(rm, .inr (5, [.ref q1, .ref q5, .ref q9, .ref q13, .int 0, .int 0, .int 0, .int (-1), .int 1, .int 0, .int 0, .int 0])), (q1, .inl (cA3, 10, .inr (.inr (.inr (.inr f40))))), (q5, .inl (cA7, 12, .inr (.inr (.inr (.inr (fun _ => none)))))), (q9, .inl (cA11, 6, .inr (.inr (.inr (.inr (fun _ => none)))))), (q13, .inr (2, [.int 0, .int 0, .int 0, .int 0, .int 0, .int (-1), .long 0])), (q21, .inr (3, [.int 0, .int 0, .int 0, .int 0, .int 0, .int 0, .int 0, .int 0, .int 0, .int 0])), (q35, .inr (3, [.int 0, .int 0, .int 0, .int 0, .int 0, .int 0, .int 0, .int 0, .int 0, .int 0]))] := by rw [ef40]; exact hD
  have hP := hP.sub (ws' := [(rm, .inr (5, [.ref q1, .ref q5, .ref q9, .ref q13, .int 0, .int 0, .int 0, .int (-1), .int 1, .int 0, .int 0, .int 0])), (q1, .inl (cA3, 10, .inr (.inr (.inr (.inr f40))))), (q5, .inl (cA7, 12, .inr (.inr (.inr (.inr (fun _ => none)))))), (q9, .inl (cA11, 6, .inr (.inr (.inr (.inr (fun _ => none)))))), (q13, .inr (2, [.int 0, .int 0, .int 0, .int 0, .int 0, .int (-1), .long 0])), (q21, .inr (3, [.int 0, .int 0, .int 0, .int 0, .int 0, .int 0, .int 0, .int 0, .int 0, .int 0]))]) [0, 1, 2, 3, 4, 5] rfl
  have hD := hD.sub (ws' := [(rm, .inr (5, [.ref q1, .ref q5, .ref q9, .ref q13, .int 0, .int 0, .int 0, .int (-1), .int 1, .int 0, .int 0, .int 0])), (q1, .inl (cA3, 10, .inr (.inr (.inr (.inr f40))))), (q5, .inl (cA7, 12, .inr (.inr (.inr (.inr (fun _ => none)))))), (q9, .inl (cA11, 6, .inr (.inr (.inr (.inr (fun _ => none)))))), (q13, .inr (2, [.int 0, .int 0, .int 0, .int 0, .int 0, .int (-1), .long 0])), (q21, .inr (3, [.int 0, .int 0, .int 0, .int 0, .int 0, .int 0, .int 0, .int 0, .int 0, .int 0]))]) [0, 1, 2, 3, 4, 5] (by decide) rfl
  refine lv_iinc (v := 3) (lv' := [(1, .int 3), (0, .ref rm)]) hx hb dX3_init_73 hl (k := 0) rfl (by decide) (by decide) rfl (fun ls hl => ?_)
  refine lv_goto (tgt := 54) hx hb dX3_init_76 (by decide) ?_
  refine lv_iload_n hx hb dX3_init_54 rfl (lv_at hl 0 rfl) ?_
  refine lv_bipush (v := 10) hx hb dX3_init_55 (by decide) ?_
  refine lv_icmp_ge (tgt := 79) hx hb dX3_init_57 (by decide) (fun h => absurd h (by decide)) (fun _ => ?_)
  refine lv_aload_n hx hb dX3_init_60 rfl (lv_at hl 1 rfl) ?_
  refine va_get (D := (dC, dI)) (ci := 5) (v := .ref q1) (C := RX3) (T := TX3) (N := 12) hx hb hts zi_X3_init_X3 hown hK hP 0 rfl rfl 0 (by decide) (hts (.fieldLink RX3 11 "LockRooms$Room" "locks" "[LLockRooms$Lock;") (by decide +kernel)) (fun _ h9 => h9) rfl dX3_init_61 ?_
  refine lv_iload_n hx hb dX3_init_64 rfl (lv_at hl 0 rfl) ?_
  refine va_new (ci := 3) (fs := [.int 0, .int 0, .int 0, .int 0, .int 0, .int 0, .int 0, .int 0, .int 0, .int 0]) (C := RX1) (T := TX1) (N := 10) hx hb hts zi_X3_init_X1 tyX1 tyX1_ok hown (hts (.classLink RX3 9 RX1) (by decide +kernel)) (hts (.instantiable RX1 10) (by decide +kernel)) (hts (.initialized RX1) (by decide +kernel)) hK hP hD hS hA rfl (fun j hj => by rcases (show j = 0 ∨ j = 1 ∨ j = 2 ∨ j = 3 ∨ j = 4 ∨ j = 5 ∨ j = 6 ∨ j = 7 ∨ j = 8 ∨ j = 9 by omega) with rfl | rfl | rfl | rfl | rfl | rfl | rfl | rfl | rfl | rfl <;> rfl) (Nat.le_of_ble_eq_true rfl) (Nat.le_of_ble_eq_true rfl) dX3_init_65 (fun q42 H43 hP hD hS => ?_)
  have hP : va_P (dC, dI) vwCl [(rm, .inr (5, [.ref q1, .ref q5, .ref q9, .ref q13, .int 0, .int 0, .int 0, .int (-1), .int 1, .int 0, .int 0, .int 0])), (q1, .inl (cA3, 10, .inr (.inr (.inr (.inr f40))))), (q5, .inl (cA7, 12, .inr (.inr (.inr (.inr (fun _ => none)))))), (q9, .inl (cA11, 6, .inr (.inr (.inr (.inr (fun _ => none)))))), (q13, .inr (2, [.int 0, .int 0, .int 0, .int 0, .int 0, .int (-1), .long 0])), (q21, .inr (3, [.int 0, .int 0, .int 0, .int 0, .int 0, .int 0, .int 0, .int 0, .int 0, .int 0])), (q42, .inr (3, [.int 0, .int 0, .int 0, .int 0, .int 0, .int 0, .int 0, .int 0, .int 0, .int 0]))] H43 := hP
  have hD : va_D A [(rm, .inr (5, [.ref q1, .ref q5, .ref q9, .ref q13, .int 0, .int 0, .int 0, .int (-1), .int 1, .int 0, .int 0, .int 0])), (q1, .inl (cA3, 10, .inr (.inr (.inr (.inr f40))))), (q5, .inl (cA7, 12, .inr (.inr (.inr (.inr (fun _ => none)))))), (q9, .inl (cA11, 6, .inr (.inr (.inr (.inr (fun _ => none)))))), (q13, .inr (2, [.int 0, .int 0, .int 0, .int 0, .int 0, .int (-1), .long 0])), (q21, .inr (3, [.int 0, .int 0, .int 0, .int 0, .int 0, .int 0, .int 0, .int 0, .int 0, .int 0])), (q42, .inr (3, [.int 0, .int 0, .int 0, .int 0, .int 0, .int 0, .int 0, .int 0, .int 0, .int 0]))] := hD
  refine lv_dup hx hb dX3_init_68 rfl ?_
  have hPr := (zo_nil : va_P (dC, dI) vwCl [] H43)
  have hPc := hP.sub (ws' := []) [] rfl
  have hDc := hD.sub (ws' := []) [] (by decide) rfl
  have hKc := hK.sub (tys' := []) [] rfl
  have hFc := va_free (wc := []) hD hS hA [] rfl
  refine va_callv (va_runIN (As := []) (rest := [.ref q42, .int 3, .ref q1]) ⟨hx, hb, hml, hown, hts⟩ (cz_X1_init l dC dI ed H43.size q42) ⟨(va_cnB 0 hts gX3_init_X1_init_n44 rfl rfl rfl (hN.2.1 ("LockRooms$Room", 44, yX1_init, "LockRooms") (List.mem_of_getElem? (i := 1) rfl)) (hts (.initialized RX1) (by decide +kernel)) (by decide +kernel) ⟨Nat.le_of_ble_eq_true rfl, Nat.le_of_ble_eq_true rfl⟩), rfl, (hts (.instanceMethod yX1_init) (by decide +kernel))⟩ ⟨zb_blind, fun U hU hW => ⟨rfl, zb_mk hU hW hPr hPc hKc hDc hN hH hS hFc zx_e⟩⟩ rfl rfl hl.1 rfl (lv_room (Nat.le_of_ble_eq_true rfl)) dX3_init_69 ⟨Nat.le_of_ble_eq_true rfl, Nat.le_of_ble_eq_true rfl⟩) hS (fun q _ h => hFc q h) hFc (fun u t H44 locs ht hvm hw hB hz1 hk1 hS => ?_)
  have hP := zo_K hP hk1
  refine va_astq hx hb hK hP hD hS 1 0 6 3 rfl rfl rfl rfl (by unfold vp_in; decide) dX3_init_72 (fun H46 locs hP hD hS => ?_)
  obtain ⟨f47, ef47⟩ : ∃ z : Nat → Option Nat, z = va_up f40 3 (some q42) := ⟨_, rfl⟩
  have k48 : f47 0 = some q21 := by rw [ef47]; exact (va_up_ne _ _ (by decide)).trans (k41)
  have hP : va_P (dC, dI) vwCl [(rm, .inr (5, [.ref q1, .ref q5, .ref q9, .ref q13, .int 0, .int 0, .int 0, .int (-1), .int 1, .int 0, .int 0, .int 0])), (q1, .inl (cA3, 10, .inr (.inr (.inr (.inr f47))))), (q5, .inl (cA7, 12, .inr (.inr (.inr (.inr (fun _ => none)))))), (q9, .inl (cA11, 6, .inr (.inr (.inr (.inr (fun _ => none)))))), (q13, .inr (2, [.int 0, .int 0, .int 0, .int 0, .int 0, .int (-1), .long 0])), (q21, .inr (3, [.int 0, .int 0, .int 0, .int 0, .int 0, .int 0, .int 0, .int 0, .int 0, .int 0])), (q42, .inr (3, [.int 0, .int 0, .int 0, .int 0, .int 0, .int 0, .int 0, .int 0, .int 0, .int 0]))] H46 := by rw [ef47]; exact hP
  have hD : va_D A [(rm, .inr (5, [.ref q1, .ref q5, .ref q9, .ref q13, .int 0, .int 0, .int 0, .int (-1), .int 1, .int 0, .int 0, .int 0])), (q1, .inl (cA3, 10, .inr (.inr (.inr (.inr f47))))), (q5, .inl (cA7, 12, .inr (.inr (.inr (.inr (fun _ => none)))))), (q9, .inl (cA11, 6, .inr (.inr (.inr (.inr (fun _ => none)))))), (q13, .inr (2, [.int 0, .int 0, .int 0, .int 0, .int 0, .int (-1), .long 0])), (q21, .inr (3, [.int 0, .int 0, .int 0, .int 0, .int 0, .int 0, .int 0, .int 0, .int 0, .int 0])), (q42, .inr (3, [.int 0, .int 0, .int 0, .int 0, .int 0, .int 0, .int 0, .int 0, .int 0, .int 0]))] := by rw [ef47]; exact hD
  have hP := hP.sub (ws' := [(rm, .inr (5, [.ref q1, .ref q5, .ref q9, .ref q13, .int 0, .int 0, .int 0, .int (-1), .int 1, .int 0, .int 0, .int 0])), (q1, .inl (cA3, 10, .inr (.inr (.inr (.inr f47))))), (q5, .inl (cA7, 12, .inr (.inr (.inr (.inr (fun _ => none)))))), (q9, .inl (cA11, 6, .inr (.inr (.inr (.inr (fun _ => none)))))), (q13, .inr (2, [.int 0, .int 0, .int 0, .int 0, .int 0, .int (-1), .long 0])), (q21, .inr (3, [.int 0, .int 0, .int 0, .int 0, .int 0, .int 0, .int 0, .int 0, .int 0, .int 0]))]) [0, 1, 2, 3, 4, 5] rfl
  have hD := hD.sub (ws' := [(rm, .inr (5, [.ref q1, .ref q5, .ref q9, .ref q13, .int 0, .int 0, .int 0, .int (-1), .int 1, .int 0, .int 0, .int 0])), (q1, .inl (cA3, 10, .inr (.inr (.inr (.inr f47))))), (q5, .inl (cA7, 12, .inr (.inr (.inr (.inr (fun _ => none)))))), (q9, .inl (cA11, 6, .inr (.inr (.inr (.inr (fun _ => none)))))), (q13, .inr (2, [.int 0, .int 0, .int 0, .int 0, .int 0, .int (-1), .long 0])), (q21, .inr (3, [.int 0, .int 0, .int 0, .int 0, .int 0, .int 0, .int 0, .int 0, .int 0, .int 0]))]) [0, 1, 2, 3, 4, 5] (by decide) rfl
  refine lv_iinc (v := 4) (lv' := [(1, .int 4), (0, .ref rm)]) hx hb dX3_init_73 hl (k := 0) rfl (by decide) (by decide) rfl (fun ls hl => ?_)
  refine lv_goto (tgt := 54) hx hb dX3_init_76 (by decide) ?_
  refine lv_iload_n hx hb dX3_init_54 rfl (lv_at hl 0 rfl) ?_
  refine lv_bipush (v := 10) hx hb dX3_init_55 (by decide) ?_
  refine lv_icmp_ge (tgt := 79) hx hb dX3_init_57 (by decide) (fun h => absurd h (by decide)) (fun _ => ?_)
  refine lv_aload_n hx hb dX3_init_60 rfl (lv_at hl 1 rfl) ?_
  refine va_get (D := (dC, dI)) (ci := 5) (v := .ref q1) (C := RX3) (T := TX3) (N := 12) hx hb hts zi_X3_init_X3 hown hK hP 0 rfl rfl 0 (by decide) (hts (.fieldLink RX3 11 "LockRooms$Room" "locks" "[LLockRooms$Lock;") (by decide +kernel)) (fun _ h9 => h9) rfl dX3_init_61 ?_
  refine lv_iload_n hx hb dX3_init_64 rfl (lv_at hl 0 rfl) ?_
  refine va_new (ci := 3) (fs := [.int 0, .int 0, .int 0, .int 0, .int 0, .int 0, .int 0, .int 0, .int 0, .int 0]) (C := RX1) (T := TX1) (N := 10) hx hb hts zi_X3_init_X1 tyX1 tyX1_ok hown (hts (.classLink RX3 9 RX1) (by decide +kernel)) (hts (.instantiable RX1 10) (by decide +kernel)) (hts (.initialized RX1) (by decide +kernel)) hK hP hD hS hA rfl (fun j hj => by rcases (show j = 0 ∨ j = 1 ∨ j = 2 ∨ j = 3 ∨ j = 4 ∨ j = 5 ∨ j = 6 ∨ j = 7 ∨ j = 8 ∨ j = 9 by omega) with rfl | rfl | rfl | rfl | rfl | rfl | rfl | rfl | rfl | rfl <;> rfl) (Nat.le_of_ble_eq_true rfl) (Nat.le_of_ble_eq_true rfl) dX3_init_65 (fun q49 H50 hP hD hS => ?_)
  have hP : va_P (dC, dI) vwCl [(rm, .inr (5, [.ref q1, .ref q5, .ref q9, .ref q13, .int 0, .int 0, .int 0, .int (-1), .int 1, .int 0, .int 0, .int 0])), (q1, .inl (cA3, 10, .inr (.inr (.inr (.inr f47))))), (q5, .inl (cA7, 12, .inr (.inr (.inr (.inr (fun _ => none)))))), (q9, .inl (cA11, 6, .inr (.inr (.inr (.inr (fun _ => none)))))), (q13, .inr (2, [.int 0, .int 0, .int 0, .int 0, .int 0, .int (-1), .long 0])), (q21, .inr (3, [.int 0, .int 0, .int 0, .int 0, .int 0, .int 0, .int 0, .int 0, .int 0, .int 0])), (q49, .inr (3, [.int 0, .int 0, .int 0, .int 0, .int 0, .int 0, .int 0, .int 0, .int 0, .int 0]))] H50 := hP
  have hD : va_D A [(rm, .inr (5, [.ref q1, .ref q5, .ref q9, .ref q13, .int 0, .int 0, .int 0, .int (-1), .int 1, .int 0, .int 0, .int 0])), (q1, .inl (cA3, 10, .inr (.inr (.inr (.inr f47))))), (q5, .inl (cA7, 12, .inr (.inr (.inr (.inr (fun _ => none)))))), (q9, .inl (cA11, 6, .inr (.inr (.inr (.inr (fun _ => none)))))), (q13, .inr (2, [.int 0, .int 0, .int 0, .int 0, .int 0, .int (-1), .long 0])), (q21, .inr (3, [.int 0, .int 0, .int 0, .int 0, .int 0, .int 0, .int 0, .int 0, .int 0, .int 0])), (q49, .inr (3, [.int 0, .int 0, .int 0, .int 0, .int 0, .int 0, .int 0, .int 0, .int 0, .int 0]))] := hD
  refine lv_dup hx hb dX3_init_68 rfl ?_
  have hPr := (zo_nil : va_P (dC, dI) vwCl [] H50)
  have hPc := hP.sub (ws' := []) [] rfl
  have hDc := hD.sub (ws' := []) [] (by decide) rfl
  have hKc := hK.sub (tys' := []) [] rfl
  have hFc := va_free (wc := []) hD hS hA [] rfl
  refine va_callv (va_runIN (As := []) (rest := [.ref q49, .int 4, .ref q1]) ⟨hx, hb, hml, hown, hts⟩ (cz_X1_init l dC dI ed H50.size q49) ⟨(va_cnB 0 hts gX3_init_X1_init_n44 rfl rfl rfl (hN.2.1 ("LockRooms$Room", 44, yX1_init, "LockRooms") (List.mem_of_getElem? (i := 1) rfl)) (hts (.initialized RX1) (by decide +kernel)) (by decide +kernel) ⟨Nat.le_of_ble_eq_true rfl, Nat.le_of_ble_eq_true rfl⟩), rfl, (hts (.instanceMethod yX1_init) (by decide +kernel))⟩ ⟨zb_blind, fun U hU hW => ⟨rfl, zb_mk hU hW hPr hPc hKc hDc hN hH hS hFc zx_e⟩⟩ rfl rfl hl.1 rfl (lv_room (Nat.le_of_ble_eq_true rfl)) dX3_init_69 ⟨Nat.le_of_ble_eq_true rfl, Nat.le_of_ble_eq_true rfl⟩) hS (fun q _ h => hFc q h) hFc (fun u t H51 locs ht hvm hw hB hz1 hk1 hS => ?_)
  have hP := zo_K hP hk1
  refine va_astq hx hb hK hP hD hS 1 0 6 3 rfl rfl rfl rfl (by unfold vp_in; decide) dX3_init_72 (fun H53 locs hP hD hS => ?_)
  obtain ⟨f54, ef54⟩ : ∃ z : Nat → Option Nat, z = va_up f47 4 (some q49) := ⟨_, rfl⟩
  have k55 : f54 0 = some q21 := by rw [ef54]; exact (va_up_ne _ _ (by decide)).trans (k48)
  have hP : va_P (dC, dI) vwCl [(rm, .inr (5, [.ref q1, .ref q5, .ref q9, .ref q13, .int 0, .int 0, .int 0, .int (-1), .int 1, .int 0, .int 0, .int 0])), (q1, .inl (cA3, 10, .inr (.inr (.inr (.inr f54))))), (q5, .inl (cA7, 12, .inr (.inr (.inr (.inr (fun _ => none)))))), (q9, .inl (cA11, 6, .inr (.inr (.inr (.inr (fun _ => none)))))), (q13, .inr (2, [.int 0, .int 0, .int 0, .int 0, .int 0, .int (-1), .long 0])), (q21, .inr (3, [.int 0, .int 0, .int 0, .int 0, .int 0, .int 0, .int 0, .int 0, .int 0, .int 0])), (q49, .inr (3, [.int 0, .int 0, .int 0, .int 0, .int 0, .int 0, .int 0, .int 0, .int 0, .int 0]))] H53 := by rw [ef54]; exact hP
  have hD : va_D A [(rm, .inr (5, [.ref q1, .ref q5, .ref q9, .ref q13, .int 0, .int 0, .int 0, .int (-1), .int 1, .int 0, .int 0, .int 0])), (q1, .inl (cA3, 10, .inr (.inr (.inr (.inr f54))))), (q5, .inl (cA7, 12, .inr (.inr (.inr (.inr (fun _ => none)))))), (q9, .inl (cA11, 6, .inr (.inr (.inr (.inr (fun _ => none)))))), (q13, .inr (2, [.int 0, .int 0, .int 0, .int 0, .int 0, .int (-1), .long 0])), (q21, .inr (3, [.int 0, .int 0, .int 0, .int 0, .int 0, .int 0, .int 0, .int 0, .int 0, .int 0])), (q49, .inr (3, [.int 0, .int 0, .int 0, .int 0, .int 0, .int 0, .int 0, .int 0, .int 0, .int 0]))] := by rw [ef54]; exact hD
  have hP := hP.sub (ws' := [(rm, .inr (5, [.ref q1, .ref q5, .ref q9, .ref q13, .int 0, .int 0, .int 0, .int (-1), .int 1, .int 0, .int 0, .int 0])), (q1, .inl (cA3, 10, .inr (.inr (.inr (.inr f54))))), (q5, .inl (cA7, 12, .inr (.inr (.inr (.inr (fun _ => none)))))), (q9, .inl (cA11, 6, .inr (.inr (.inr (.inr (fun _ => none)))))), (q13, .inr (2, [.int 0, .int 0, .int 0, .int 0, .int 0, .int (-1), .long 0])), (q21, .inr (3, [.int 0, .int 0, .int 0, .int 0, .int 0, .int 0, .int 0, .int 0, .int 0, .int 0]))]) [0, 1, 2, 3, 4, 5] rfl
  have hD := hD.sub (ws' := [(rm, .inr (5, [.ref q1, .ref q5, .ref q9, .ref q13, .int 0, .int 0, .int 0, .int (-1), .int 1, .int 0, .int 0, .int 0])), (q1, .inl (cA3, 10, .inr (.inr (.inr (.inr f54))))), (q5, .inl (cA7, 12, .inr (.inr (.inr (.inr (fun _ => none)))))), (q9, .inl (cA11, 6, .inr (.inr (.inr (.inr (fun _ => none)))))), (q13, .inr (2, [.int 0, .int 0, .int 0, .int 0, .int 0, .int (-1), .long 0])), (q21, .inr (3, [.int 0, .int 0, .int 0, .int 0, .int 0, .int 0, .int 0, .int 0, .int 0, .int 0]))]) [0, 1, 2, 3, 4, 5] (by decide) rfl
  refine lv_iinc (v := 5) (lv' := [(1, .int 5), (0, .ref rm)]) hx hb dX3_init_73 hl (k := 0) rfl (by decide) (by decide) rfl (fun ls hl => ?_)
  refine lv_goto (tgt := 54) hx hb dX3_init_76 (by decide) ?_
  refine lv_iload_n hx hb dX3_init_54 rfl (lv_at hl 0 rfl) ?_
  refine lv_bipush (v := 10) hx hb dX3_init_55 (by decide) ?_
  refine lv_icmp_ge (tgt := 79) hx hb dX3_init_57 (by decide) (fun h => absurd h (by decide)) (fun _ => ?_)
  refine lv_aload_n hx hb dX3_init_60 rfl (lv_at hl 1 rfl) ?_
  refine va_get (D := (dC, dI)) (ci := 5) (v := .ref q1) (C := RX3) (T := TX3) (N := 12) hx hb hts zi_X3_init_X3 hown hK hP 0 rfl rfl 0 (by decide) (hts (.fieldLink RX3 11 "LockRooms$Room" "locks" "[LLockRooms$Lock;") (by decide +kernel)) (fun _ h9 => h9) rfl dX3_init_61 ?_
  refine lv_iload_n hx hb dX3_init_64 rfl (lv_at hl 0 rfl) ?_
  refine va_new (ci := 3) (fs := [.int 0, .int 0, .int 0, .int 0, .int 0, .int 0, .int 0, .int 0, .int 0, .int 0]) (C := RX1) (T := TX1) (N := 10) hx hb hts zi_X3_init_X1 tyX1 tyX1_ok hown (hts (.classLink RX3 9 RX1) (by decide +kernel)) (hts (.instantiable RX1 10) (by decide +kernel)) (hts (.initialized RX1) (by decide +kernel)) hK hP hD hS hA rfl (fun j hj => by rcases (show j = 0 ∨ j = 1 ∨ j = 2 ∨ j = 3 ∨ j = 4 ∨ j = 5 ∨ j = 6 ∨ j = 7 ∨ j = 8 ∨ j = 9 by omega) with rfl | rfl | rfl | rfl | rfl | rfl | rfl | rfl | rfl | rfl <;> rfl) (Nat.le_of_ble_eq_true rfl) (Nat.le_of_ble_eq_true rfl) dX3_init_65 (fun q56 H57 hP hD hS => ?_)
  have hP : va_P (dC, dI) vwCl [(rm, .inr (5, [.ref q1, .ref q5, .ref q9, .ref q13, .int 0, .int 0, .int 0, .int (-1), .int 1, .int 0, .int 0, .int 0])), (q1, .inl (cA3, 10, .inr (.inr (.inr (.inr f54))))), (q5, .inl (cA7, 12, .inr (.inr (.inr (.inr (fun _ => none)))))), (q9, .inl (cA11, 6, .inr (.inr (.inr (.inr (fun _ => none)))))), (q13, .inr (2, [.int 0, .int 0, .int 0, .int 0, .int 0, .int (-1), .long 0])), (q21, .inr (3, [.int 0, .int 0, .int 0, .int 0, .int 0, .int 0, .int 0, .int 0, .int 0, .int 0])), (q56, .inr (3, [.int 0, .int 0, .int 0, .int 0, .int 0, .int 0, .int 0, .int 0, .int 0, .int 0]))] H57 := hP
  have hD : va_D A [(rm, .inr (5, [.ref q1, .ref q5, .ref q9, .ref q13, .int 0, .int 0, .int 0, .int (-1), .int 1, .int 0, .int 0, .int 0])), (q1, .inl (cA3, 10, .inr (.inr (.inr (.inr f54))))), (q5, .inl (cA7, 12, .inr (.inr (.inr (.inr (fun _ => none)))))), (q9, .inl (cA11, 6, .inr (.inr (.inr (.inr (fun _ => none)))))), (q13, .inr (2, [.int 0, .int 0, .int 0, .int 0, .int 0, .int (-1), .long 0])), (q21, .inr (3, [.int 0, .int 0, .int 0, .int 0, .int 0, .int 0, .int 0, .int 0, .int 0, .int 0])), (q56, .inr (3, [.int 0, .int 0, .int 0, .int 0, .int 0, .int 0, .int 0, .int 0, .int 0, .int 0]))] := hD
  refine lv_dup hx hb dX3_init_68 rfl ?_
  have hPr := (zo_nil : va_P (dC, dI) vwCl [] H57)
  have hPc := hP.sub (ws' := []) [] rfl
  have hDc := hD.sub (ws' := []) [] (by decide) rfl
  have hKc := hK.sub (tys' := []) [] rfl
  have hFc := va_free (wc := []) hD hS hA [] rfl
  refine va_callv (va_runIN (As := []) (rest := [.ref q56, .int 5, .ref q1]) ⟨hx, hb, hml, hown, hts⟩ (cz_X1_init l dC dI ed H57.size q56) ⟨(va_cnB 0 hts gX3_init_X1_init_n44 rfl rfl rfl (hN.2.1 ("LockRooms$Room", 44, yX1_init, "LockRooms") (List.mem_of_getElem? (i := 1) rfl)) (hts (.initialized RX1) (by decide +kernel)) (by decide +kernel) ⟨Nat.le_of_ble_eq_true rfl, Nat.le_of_ble_eq_true rfl⟩), rfl, (hts (.instanceMethod yX1_init) (by decide +kernel))⟩ ⟨zb_blind, fun U hU hW => ⟨rfl, zb_mk hU hW hPr hPc hKc hDc hN hH hS hFc zx_e⟩⟩ rfl rfl hl.1 rfl (lv_room (Nat.le_of_ble_eq_true rfl)) dX3_init_69 ⟨Nat.le_of_ble_eq_true rfl, Nat.le_of_ble_eq_true rfl⟩) hS (fun q _ h => hFc q h) hFc (fun u t H58 locs ht hvm hw hB hz1 hk1 hS => ?_)
  have hP := zo_K hP hk1
  refine va_astq hx hb hK hP hD hS 1 0 6 3 rfl rfl rfl rfl (by unfold vp_in; decide) dX3_init_72 (fun H60 locs hP hD hS => ?_)
  obtain ⟨f61, ef61⟩ : ∃ z : Nat → Option Nat, z = va_up f54 5 (some q56) := ⟨_, rfl⟩
  have k62 : f61 0 = some q21 := by rw [ef61]; exact (va_up_ne _ _ (by decide)).trans (k55)
  have hP : va_P (dC, dI) vwCl [(rm, .inr (5, [.ref q1, .ref q5, .ref q9, .ref q13, .int 0, .int 0, .int 0, .int (-1), .int 1, .int 0, .int 0, .int 0])), (q1, .inl (cA3, 10, .inr (.inr (.inr (.inr f61))))), (q5, .inl (cA7, 12, .inr (.inr (.inr (.inr (fun _ => none)))))), (q9, .inl (cA11, 6, .inr (.inr (.inr (.inr (fun _ => none)))))), (q13, .inr (2, [.int 0, .int 0, .int 0, .int 0, .int 0, .int (-1), .long 0])), (q21, .inr (3, [.int 0, .int 0, .int 0, .int 0, .int 0, .int 0, .int 0, .int 0, .int 0, .int 0])), (q56, .inr (3, [.int 0, .int 0, .int 0, .int 0, .int 0, .int 0, .int 0, .int 0, .int 0, .int 0]))] H60 := by rw [ef61]; exact hP
  have hD : va_D A [(rm, .inr (5, [.ref q1, .ref q5, .ref q9, .ref q13, .int 0, .int 0, .int 0, .int (-1), .int 1, .int 0, .int 0, .int 0])), (q1, .inl (cA3, 10, .inr (.inr (.inr (.inr f61))))), (q5, .inl (cA7, 12, .inr (.inr (.inr (.inr (fun _ => none)))))), (q9, .inl (cA11, 6, .inr (.inr (.inr (.inr (fun _ => none)))))), (q13, .inr (2, [.int 0, .int 0, .int 0, .int 0, .int 0, .int (-1), .long 0])), (q21, .inr (3, [.int 0, .int 0, .int 0, .int 0, .int 0, .int 0, .int 0, .int 0, .int 0, .int 0])), (q56, .inr (3, [.int 0, .int 0, .int 0, .int 0, .int 0, .int 0, .int 0, .int 0, .int 0, .int 0]))] := by rw [ef61]; exact hD
  have hP := hP.sub (ws' := [(rm, .inr (5, [.ref q1, .ref q5, .ref q9, .ref q13, .int 0, .int 0, .int 0, .int (-1), .int 1, .int 0, .int 0, .int 0])), (q1, .inl (cA3, 10, .inr (.inr (.inr (.inr f61))))), (q5, .inl (cA7, 12, .inr (.inr (.inr (.inr (fun _ => none)))))), (q9, .inl (cA11, 6, .inr (.inr (.inr (.inr (fun _ => none)))))), (q13, .inr (2, [.int 0, .int 0, .int 0, .int 0, .int 0, .int (-1), .long 0])), (q21, .inr (3, [.int 0, .int 0, .int 0, .int 0, .int 0, .int 0, .int 0, .int 0, .int 0, .int 0]))]) [0, 1, 2, 3, 4, 5] rfl
  have hD := hD.sub (ws' := [(rm, .inr (5, [.ref q1, .ref q5, .ref q9, .ref q13, .int 0, .int 0, .int 0, .int (-1), .int 1, .int 0, .int 0, .int 0])), (q1, .inl (cA3, 10, .inr (.inr (.inr (.inr f61))))), (q5, .inl (cA7, 12, .inr (.inr (.inr (.inr (fun _ => none)))))), (q9, .inl (cA11, 6, .inr (.inr (.inr (.inr (fun _ => none)))))), (q13, .inr (2, [.int 0, .int 0, .int 0, .int 0, .int 0, .int (-1), .long 0])), (q21, .inr (3, [.int 0, .int 0, .int 0, .int 0, .int 0, .int 0, .int 0, .int 0, .int 0, .int 0]))]) [0, 1, 2, 3, 4, 5] (by decide) rfl
  refine lv_iinc (v := 6) (lv' := [(1, .int 6), (0, .ref rm)]) hx hb dX3_init_73 hl (k := 0) rfl (by decide) (by decide) rfl (fun ls hl => ?_)
  refine lv_goto (tgt := 54) hx hb dX3_init_76 (by decide) ?_
  refine lv_iload_n hx hb dX3_init_54 rfl (lv_at hl 0 rfl) ?_
  refine lv_bipush (v := 10) hx hb dX3_init_55 (by decide) ?_
  refine lv_icmp_ge (tgt := 79) hx hb dX3_init_57 (by decide) (fun h => absurd h (by decide)) (fun _ => ?_)
  refine lv_aload_n hx hb dX3_init_60 rfl (lv_at hl 1 rfl) ?_
  refine va_get (D := (dC, dI)) (ci := 5) (v := .ref q1) (C := RX3) (T := TX3) (N := 12) hx hb hts zi_X3_init_X3 hown hK hP 0 rfl rfl 0 (by decide) (hts (.fieldLink RX3 11 "LockRooms$Room" "locks" "[LLockRooms$Lock;") (by decide +kernel)) (fun _ h9 => h9) rfl dX3_init_61 ?_
  refine lv_iload_n hx hb dX3_init_64 rfl (lv_at hl 0 rfl) ?_
  refine va_new (ci := 3) (fs := [.int 0, .int 0, .int 0, .int 0, .int 0, .int 0, .int 0, .int 0, .int 0, .int 0]) (C := RX1) (T := TX1) (N := 10) hx hb hts zi_X3_init_X1 tyX1 tyX1_ok hown (hts (.classLink RX3 9 RX1) (by decide +kernel)) (hts (.instantiable RX1 10) (by decide +kernel)) (hts (.initialized RX1) (by decide +kernel)) hK hP hD hS hA rfl (fun j hj => by rcases (show j = 0 ∨ j = 1 ∨ j = 2 ∨ j = 3 ∨ j = 4 ∨ j = 5 ∨ j = 6 ∨ j = 7 ∨ j = 8 ∨ j = 9 by omega) with rfl | rfl | rfl | rfl | rfl | rfl | rfl | rfl | rfl | rfl <;> rfl) (Nat.le_of_ble_eq_true rfl) (Nat.le_of_ble_eq_true rfl) dX3_init_65 (fun q63 H64 hP hD hS => ?_)
  have hP : va_P (dC, dI) vwCl [(rm, .inr (5, [.ref q1, .ref q5, .ref q9, .ref q13, .int 0, .int 0, .int 0, .int (-1), .int 1, .int 0, .int 0, .int 0])), (q1, .inl (cA3, 10, .inr (.inr (.inr (.inr f61))))), (q5, .inl (cA7, 12, .inr (.inr (.inr (.inr (fun _ => none)))))), (q9, .inl (cA11, 6, .inr (.inr (.inr (.inr (fun _ => none)))))), (q13, .inr (2, [.int 0, .int 0, .int 0, .int 0, .int 0, .int (-1), .long 0])), (q21, .inr (3, [.int 0, .int 0, .int 0, .int 0, .int 0, .int 0, .int 0, .int 0, .int 0, .int 0])), (q63, .inr (3, [.int 0, .int 0, .int 0, .int 0, .int 0, .int 0, .int 0, .int 0, .int 0, .int 0]))] H64 := hP
  have hD : va_D A [(rm, .inr (5, [.ref q1, .ref q5, .ref q9, .ref q13, .int 0, .int 0, .int 0, .int (-1), .int 1, .int 0, .int 0, .int 0])), (q1, .inl (cA3, 10, .inr (.inr (.inr (.inr f61))))), (q5, .inl (cA7, 12, .inr (.inr (.inr (.inr (fun _ => none)))))), (q9, .inl (cA11, 6, .inr (.inr (.inr (.inr (fun _ => none)))))), (q13, .inr (2, [.int 0, .int 0, .int 0, .int 0, .int 0, .int (-1), .long 0])), (q21, .inr (3, [.int 0, .int 0, .int 0, .int 0, .int 0, .int 0, .int 0, .int 0, .int 0, .int 0])), (q63, .inr (3, [.int 0, .int 0, .int 0, .int 0, .int 0, .int 0, .int 0, .int 0, .int 0, .int 0]))] := hD
  refine lv_dup hx hb dX3_init_68 rfl ?_
  have hPr := (zo_nil : va_P (dC, dI) vwCl [] H64)
  have hPc := hP.sub (ws' := []) [] rfl
  have hDc := hD.sub (ws' := []) [] (by decide) rfl
  have hKc := hK.sub (tys' := []) [] rfl
  have hFc := va_free (wc := []) hD hS hA [] rfl
  refine va_callv (va_runIN (As := []) (rest := [.ref q63, .int 6, .ref q1]) ⟨hx, hb, hml, hown, hts⟩ (cz_X1_init l dC dI ed H64.size q63) ⟨(va_cnB 0 hts gX3_init_X1_init_n44 rfl rfl rfl (hN.2.1 ("LockRooms$Room", 44, yX1_init, "LockRooms") (List.mem_of_getElem? (i := 1) rfl)) (hts (.initialized RX1) (by decide +kernel)) (by decide +kernel) ⟨Nat.le_of_ble_eq_true rfl, Nat.le_of_ble_eq_true rfl⟩), rfl, (hts (.instanceMethod yX1_init) (by decide +kernel))⟩ ⟨zb_blind, fun U hU hW => ⟨rfl, zb_mk hU hW hPr hPc hKc hDc hN hH hS hFc zx_e⟩⟩ rfl rfl hl.1 rfl (lv_room (Nat.le_of_ble_eq_true rfl)) dX3_init_69 ⟨Nat.le_of_ble_eq_true rfl, Nat.le_of_ble_eq_true rfl⟩) hS (fun q _ h => hFc q h) hFc (fun u t H65 locs ht hvm hw hB hz1 hk1 hS => ?_)
  have hP := zo_K hP hk1
  refine va_astq hx hb hK hP hD hS 1 0 6 3 rfl rfl rfl rfl (by unfold vp_in; decide) dX3_init_72 (fun H67 locs hP hD hS => ?_)
  obtain ⟨f68, ef68⟩ : ∃ z : Nat → Option Nat, z = va_up f61 6 (some q63) := ⟨_, rfl⟩
  have k69 : f68 0 = some q21 := by rw [ef68]; exact (va_up_ne _ _ (by decide)).trans (k62)
  have hP : va_P (dC, dI) vwCl [(rm, .inr (5, [.ref q1, .ref q5, .ref q9, .ref q13, .int 0, .int 0, .int 0, .int (-1), .int 1, .int 0, .int 0, .int 0])), (q1, .inl (cA3, 10, .inr (.inr (.inr (.inr f68))))), (q5, .inl (cA7, 12, .inr (.inr (.inr (.inr (fun _ => none)))))), (q9, .inl (cA11, 6, .inr (.inr (.inr (.inr (fun _ => none)))))), (q13, .inr (2, [.int 0, .int 0, .int 0, .int 0, .int 0, .int (-1), .long 0])), (q21, .inr (3, [.int 0, .int 0, .int 0, .int 0, .int 0, .int 0, .int 0, .int 0, .int 0, .int 0])), (q63, .inr (3, [.int 0, .int 0, .int 0, .int 0, .int 0, .int 0, .int 0, .int 0, .int 0, .int 0]))] H67 := by rw [ef68]; exact hP
  have hD : va_D A [(rm, .inr (5, [.ref q1, .ref q5, .ref q9, .ref q13, .int 0, .int 0, .int 0, .int (-1), .int 1, .int 0, .int 0, .int 0])), (q1, .inl (cA3, 10, .inr (.inr (.inr (.inr f68))))), (q5, .inl (cA7, 12, .inr (.inr (.inr (.inr (fun _ => none)))))), (q9, .inl (cA11, 6, .inr (.inr (.inr (.inr (fun _ => none)))))), (q13, .inr (2, [.int 0, .int 0, .int 0, .int 0, .int 0, .int (-1), .long 0])), (q21, .inr (3, [.int 0, .int 0, .int 0, .int 0, .int 0, .int 0, .int 0, .int 0, .int 0, .int 0])), (q63, .inr (3, [.int 0, .int 0, .int 0, .int 0, .int 0, .int 0, .int 0, .int 0, .int 0, .int 0]))] := by rw [ef68]; exact hD
  have hP := hP.sub (ws' := [(rm, .inr (5, [.ref q1, .ref q5, .ref q9, .ref q13, .int 0, .int 0, .int 0, .int (-1), .int 1, .int 0, .int 0, .int 0])), (q1, .inl (cA3, 10, .inr (.inr (.inr (.inr f68))))), (q5, .inl (cA7, 12, .inr (.inr (.inr (.inr (fun _ => none)))))), (q9, .inl (cA11, 6, .inr (.inr (.inr (.inr (fun _ => none)))))), (q13, .inr (2, [.int 0, .int 0, .int 0, .int 0, .int 0, .int (-1), .long 0])), (q21, .inr (3, [.int 0, .int 0, .int 0, .int 0, .int 0, .int 0, .int 0, .int 0, .int 0, .int 0]))]) [0, 1, 2, 3, 4, 5] rfl
  have hD := hD.sub (ws' := [(rm, .inr (5, [.ref q1, .ref q5, .ref q9, .ref q13, .int 0, .int 0, .int 0, .int (-1), .int 1, .int 0, .int 0, .int 0])), (q1, .inl (cA3, 10, .inr (.inr (.inr (.inr f68))))), (q5, .inl (cA7, 12, .inr (.inr (.inr (.inr (fun _ => none)))))), (q9, .inl (cA11, 6, .inr (.inr (.inr (.inr (fun _ => none)))))), (q13, .inr (2, [.int 0, .int 0, .int 0, .int 0, .int 0, .int (-1), .long 0])), (q21, .inr (3, [.int 0, .int 0, .int 0, .int 0, .int 0, .int 0, .int 0, .int 0, .int 0, .int 0]))]) [0, 1, 2, 3, 4, 5] (by decide) rfl
  refine lv_iinc (v := 7) (lv' := [(1, .int 7), (0, .ref rm)]) hx hb dX3_init_73 hl (k := 0) rfl (by decide) (by decide) rfl (fun ls hl => ?_)
  refine lv_goto (tgt := 54) hx hb dX3_init_76 (by decide) ?_
  refine lv_iload_n hx hb dX3_init_54 rfl (lv_at hl 0 rfl) ?_
  refine lv_bipush (v := 10) hx hb dX3_init_55 (by decide) ?_
  refine lv_icmp_ge (tgt := 79) hx hb dX3_init_57 (by decide) (fun h => absurd h (by decide)) (fun _ => ?_)
  refine lv_aload_n hx hb dX3_init_60 rfl (lv_at hl 1 rfl) ?_
  refine va_get (D := (dC, dI)) (ci := 5) (v := .ref q1) (C := RX3) (T := TX3) (N := 12) hx hb hts zi_X3_init_X3 hown hK hP 0 rfl rfl 0 (by decide) (hts (.fieldLink RX3 11 "LockRooms$Room" "locks" "[LLockRooms$Lock;") (by decide +kernel)) (fun _ h9 => h9) rfl dX3_init_61 ?_
  refine lv_iload_n hx hb dX3_init_64 rfl (lv_at hl 0 rfl) ?_
  refine va_new (ci := 3) (fs := [.int 0, .int 0, .int 0, .int 0, .int 0, .int 0, .int 0, .int 0, .int 0, .int 0]) (C := RX1) (T := TX1) (N := 10) hx hb hts zi_X3_init_X1 tyX1 tyX1_ok hown (hts (.classLink RX3 9 RX1) (by decide +kernel)) (hts (.instantiable RX1 10) (by decide +kernel)) (hts (.initialized RX1) (by decide +kernel)) hK hP hD hS hA rfl (fun j hj => by rcases (show j = 0 ∨ j = 1 ∨ j = 2 ∨ j = 3 ∨ j = 4 ∨ j = 5 ∨ j = 6 ∨ j = 7 ∨ j = 8 ∨ j = 9 by omega) with rfl | rfl | rfl | rfl | rfl | rfl | rfl | rfl | rfl | rfl <;> rfl) (Nat.le_of_ble_eq_true rfl) (Nat.le_of_ble_eq_true rfl) dX3_init_65 (fun q70 H71 hP hD hS => ?_)
  have hP : va_P (dC, dI) vwCl [(rm, .inr (5, [.ref q1, .ref q5, .ref q9, .ref q13, .int 0, .int 0, .int 0, .int (-1), .int 1, .int 0, .int 0, .int 0])), (q1, .inl (cA3, 10, .inr (.inr (.inr (.inr f68))))), (q5, .inl (cA7, 12, .inr (.inr (.inr (.inr (fun _ => none)))))), (q9, .inl (cA11, 6, .inr (.inr (.inr (.inr (fun _ => none)))))), (q13, .inr (2, [.int 0, .int 0, .int 0, .int 0, .int 0, .int (-1), .long 0])), (q21, .inr (3, [.int 0, .int 0, .int 0, .int 0, .int 0, .int 0, .int 0, .int 0, .int 0, .int 0])), (q70, .inr (3, [.int 0, .int 0, .int 0, .int 0, .int 0, .int 0, .int 0, .int 0, .int 0, .int 0]))] H71 := hP
  have hD : va_D A [(rm, .inr (5, [.ref q1, .ref q5, .ref q9, .ref q13, .int 0, .int 0, .int 0, .int (-1), .int 1, .int 0, .int 0, .int 0])), (q1, .inl (cA3, 10, .inr (.inr (.inr (.inr f68))))), (q5, .inl (cA7, 12, .inr (.inr (.inr (.inr (fun _ => none)))))), (q9, .inl (cA11, 6, .inr (.inr (.inr (.inr (fun _ => none)))))), (q13, .inr (2, [.int 0, .int 0, .int 0, .int 0, .int 0, .int (-1), .long 0])), (q21, .inr (3, [.int 0, .int 0, .int 0, .int 0, .int 0, .int 0, .int 0, .int 0, .int 0, .int 0])), (q70, .inr (3, [.int 0, .int 0, .int 0, .int 0, .int 0, .int 0, .int 0, .int 0, .int 0, .int 0]))] := hD
  refine lv_dup hx hb dX3_init_68 rfl ?_
  have hPr := (zo_nil : va_P (dC, dI) vwCl [] H71)
  have hPc := hP.sub (ws' := []) [] rfl
  have hDc := hD.sub (ws' := []) [] (by decide) rfl
  have hKc := hK.sub (tys' := []) [] rfl
  have hFc := va_free (wc := []) hD hS hA [] rfl
  refine va_callv (va_runIN (As := []) (rest := [.ref q70, .int 7, .ref q1]) ⟨hx, hb, hml, hown, hts⟩ (cz_X1_init l dC dI ed H71.size q70) ⟨(va_cnB 0 hts gX3_init_X1_init_n44 rfl rfl rfl (hN.2.1 ("LockRooms$Room", 44, yX1_init, "LockRooms") (List.mem_of_getElem? (i := 1) rfl)) (hts (.initialized RX1) (by decide +kernel)) (by decide +kernel) ⟨Nat.le_of_ble_eq_true rfl, Nat.le_of_ble_eq_true rfl⟩), rfl, (hts (.instanceMethod yX1_init) (by decide +kernel))⟩ ⟨zb_blind, fun U hU hW => ⟨rfl, zb_mk hU hW hPr hPc hKc hDc hN hH hS hFc zx_e⟩⟩ rfl rfl hl.1 rfl (lv_room (Nat.le_of_ble_eq_true rfl)) dX3_init_69 ⟨Nat.le_of_ble_eq_true rfl, Nat.le_of_ble_eq_true rfl⟩) hS (fun q _ h => hFc q h) hFc (fun u t H72 locs ht hvm hw hB hz1 hk1 hS => ?_)
  have hP := zo_K hP hk1
  refine va_astq hx hb hK hP hD hS 1 0 6 3 rfl rfl rfl rfl (by unfold vp_in; decide) dX3_init_72 (fun H74 locs hP hD hS => ?_)
  obtain ⟨f75, ef75⟩ : ∃ z : Nat → Option Nat, z = va_up f68 7 (some q70) := ⟨_, rfl⟩
  have k76 : f75 0 = some q21 := by rw [ef75]; exact (va_up_ne _ _ (by decide)).trans (k69)
  have hP : va_P (dC, dI) vwCl [(rm, .inr (5, [.ref q1, .ref q5, .ref q9, .ref q13, .int 0, .int 0, .int 0, .int (-1), .int 1, .int 0, .int 0, .int 0])), (q1, .inl (cA3, 10, .inr (.inr (.inr (.inr f75))))), (q5, .inl (cA7, 12, .inr (.inr (.inr (.inr (fun _ => none)))))), (q9, .inl (cA11, 6, .inr (.inr (.inr (.inr (fun _ => none)))))), (q13, .inr (2, [.int 0, .int 0, .int 0, .int 0, .int 0, .int (-1), .long 0])), (q21, .inr (3, [.int 0, .int 0, .int 0, .int 0, .int 0, .int 0, .int 0, .int 0, .int 0, .int 0])), (q70, .inr (3, [.int 0, .int 0, .int 0, .int 0, .int 0, .int 0, .int 0, .int 0, .int 0, .int 0]))] H74 := by rw [ef75]; exact hP
  have hD : va_D A [(rm, .inr (5, [.ref q1, .ref q5, .ref q9, .ref q13, .int 0, .int 0, .int 0, .int (-1), .int 1, .int 0, .int 0, .int 0])), (q1, .inl (cA3, 10, .inr (.inr (.inr (.inr f75))))), (q5, .inl (cA7, 12, .inr (.inr (.inr (.inr (fun _ => none)))))), (q9, .inl (cA11, 6, .inr (.inr (.inr (.inr (fun _ => none)))))), (q13, .inr (2, [.int 0, .int 0, .int 0, .int 0, .int 0, .int (-1), .long 0])), (q21, .inr (3, [.int 0, .int 0, .int 0, .int 0, .int 0, .int 0, .int 0, .int 0, .int 0, .int 0])), (q70, .inr (3, [.int 0, .int 0, .int 0, .int 0, .int 0, .int 0, .int 0, .int 0, .int 0, .int 0]))] := by rw [ef75]; exact hD
  have hP := hP.sub (ws' := [(rm, .inr (5, [.ref q1, .ref q5, .ref q9, .ref q13, .int 0, .int 0, .int 0, .int (-1), .int 1, .int 0, .int 0, .int 0])), (q1, .inl (cA3, 10, .inr (.inr (.inr (.inr f75))))), (q5, .inl (cA7, 12, .inr (.inr (.inr (.inr (fun _ => none)))))), (q9, .inl (cA11, 6, .inr (.inr (.inr (.inr (fun _ => none)))))), (q13, .inr (2, [.int 0, .int 0, .int 0, .int 0, .int 0, .int (-1), .long 0])), (q21, .inr (3, [.int 0, .int 0, .int 0, .int 0, .int 0, .int 0, .int 0, .int 0, .int 0, .int 0]))]) [0, 1, 2, 3, 4, 5] rfl
  have hD := hD.sub (ws' := [(rm, .inr (5, [.ref q1, .ref q5, .ref q9, .ref q13, .int 0, .int 0, .int 0, .int (-1), .int 1, .int 0, .int 0, .int 0])), (q1, .inl (cA3, 10, .inr (.inr (.inr (.inr f75))))), (q5, .inl (cA7, 12, .inr (.inr (.inr (.inr (fun _ => none)))))), (q9, .inl (cA11, 6, .inr (.inr (.inr (.inr (fun _ => none)))))), (q13, .inr (2, [.int 0, .int 0, .int 0, .int 0, .int 0, .int (-1), .long 0])), (q21, .inr (3, [.int 0, .int 0, .int 0, .int 0, .int 0, .int 0, .int 0, .int 0, .int 0, .int 0]))]) [0, 1, 2, 3, 4, 5] (by decide) rfl
  refine lv_iinc (v := 8) (lv' := [(1, .int 8), (0, .ref rm)]) hx hb dX3_init_73 hl (k := 0) rfl (by decide) (by decide) rfl (fun ls hl => ?_)
  refine lv_goto (tgt := 54) hx hb dX3_init_76 (by decide) ?_
  refine lv_iload_n hx hb dX3_init_54 rfl (lv_at hl 0 rfl) ?_
  refine lv_bipush (v := 10) hx hb dX3_init_55 (by decide) ?_
  refine lv_icmp_ge (tgt := 79) hx hb dX3_init_57 (by decide) (fun h => absurd h (by decide)) (fun _ => ?_)
  refine lv_aload_n hx hb dX3_init_60 rfl (lv_at hl 1 rfl) ?_
  refine va_get (D := (dC, dI)) (ci := 5) (v := .ref q1) (C := RX3) (T := TX3) (N := 12) hx hb hts zi_X3_init_X3 hown hK hP 0 rfl rfl 0 (by decide) (hts (.fieldLink RX3 11 "LockRooms$Room" "locks" "[LLockRooms$Lock;") (by decide +kernel)) (fun _ h9 => h9) rfl dX3_init_61 ?_
  refine lv_iload_n hx hb dX3_init_64 rfl (lv_at hl 0 rfl) ?_
  refine va_new (ci := 3) (fs := [.int 0, .int 0, .int 0, .int 0, .int 0, .int 0, .int 0, .int 0, .int 0, .int 0]) (C := RX1) (T := TX1) (N := 10) hx hb hts zi_X3_init_X1 tyX1 tyX1_ok hown (hts (.classLink RX3 9 RX1) (by decide +kernel)) (hts (.instantiable RX1 10) (by decide +kernel)) (hts (.initialized RX1) (by decide +kernel)) hK hP hD hS hA rfl (fun j hj => by rcases (show j = 0 ∨ j = 1 ∨ j = 2 ∨ j = 3 ∨ j = 4 ∨ j = 5 ∨ j = 6 ∨ j = 7 ∨ j = 8 ∨ j = 9 by omega) with rfl | rfl | rfl | rfl | rfl | rfl | rfl | rfl | rfl | rfl <;> rfl) (Nat.le_of_ble_eq_true rfl) (Nat.le_of_ble_eq_true rfl) dX3_init_65 (fun q77 H78 hP hD hS => ?_)
  have hP : va_P (dC, dI) vwCl [(rm, .inr (5, [.ref q1, .ref q5, .ref q9, .ref q13, .int 0, .int 0, .int 0, .int (-1), .int 1, .int 0, .int 0, .int 0])), (q1, .inl (cA3, 10, .inr (.inr (.inr (.inr f75))))), (q5, .inl (cA7, 12, .inr (.inr (.inr (.inr (fun _ => none)))))), (q9, .inl (cA11, 6, .inr (.inr (.inr (.inr (fun _ => none)))))), (q13, .inr (2, [.int 0, .int 0, .int 0, .int 0, .int 0, .int (-1), .long 0])), (q21, .inr (3, [.int 0, .int 0, .int 0, .int 0, .int 0, .int 0, .int 0, .int 0, .int 0, .int 0])), (q77, .inr (3, [.int 0, .int 0, .int 0, .int 0, .int 0, .int 0, .int 0, .int 0, .int 0, .int 0]))] H78 := hP
  have hD : va_D A [(rm, .inr (5, [.ref q1, .ref q5, .ref q9, .ref q13, .int 0, .int 0, .int 0, .int (-1), .int 1, .int 0, .int 0, .int 0])), (q1, .inl (cA3, 10, .inr (.inr (.inr (.inr f75))))), (q5, .inl (cA7, 12, .inr (.inr (.inr (.inr (fun _ => none)))))), (q9, .inl (cA11, 6, .inr (.inr (.inr (.inr (fun _ => none)))))), (q13, .inr (2, [.int 0, .int 0, .int 0, .int 0, .int 0, .int (-1), .long 0])), (q21, .inr (3, [.int 0, .int 0, .int 0, .int 0, .int 0, .int 0, .int 0, .int 0, .int 0, .int 0])), (q77, .inr (3, [.int 0, .int 0, .int 0, .int 0, .int 0, .int 0, .int 0, .int 0, .int 0, .int 0]))] := hD
  refine lv_dup hx hb dX3_init_68 rfl ?_
  have hPr := (zo_nil : va_P (dC, dI) vwCl [] H78)
  have hPc := hP.sub (ws' := []) [] rfl
  have hDc := hD.sub (ws' := []) [] (by decide) rfl
  have hKc := hK.sub (tys' := []) [] rfl
  have hFc := va_free (wc := []) hD hS hA [] rfl
  refine va_callv (va_runIN (As := []) (rest := [.ref q77, .int 8, .ref q1]) ⟨hx, hb, hml, hown, hts⟩ (cz_X1_init l dC dI ed H78.size q77) ⟨(va_cnB 0 hts gX3_init_X1_init_n44 rfl rfl rfl (hN.2.1 ("LockRooms$Room", 44, yX1_init, "LockRooms") (List.mem_of_getElem? (i := 1) rfl)) (hts (.initialized RX1) (by decide +kernel)) (by decide +kernel) ⟨Nat.le_of_ble_eq_true rfl, Nat.le_of_ble_eq_true rfl⟩), rfl, (hts (.instanceMethod yX1_init) (by decide +kernel))⟩ ⟨zb_blind, fun U hU hW => ⟨rfl, zb_mk hU hW hPr hPc hKc hDc hN hH hS hFc zx_e⟩⟩ rfl rfl hl.1 rfl (lv_room (Nat.le_of_ble_eq_true rfl)) dX3_init_69 ⟨Nat.le_of_ble_eq_true rfl, Nat.le_of_ble_eq_true rfl⟩) hS (fun q _ h => hFc q h) hFc (fun u t H79 locs ht hvm hw hB hz1 hk1 hS => ?_)
  have hP := zo_K hP hk1
  refine va_astq hx hb hK hP hD hS 1 0 6 3 rfl rfl rfl rfl (by unfold vp_in; decide) dX3_init_72 (fun H81 locs hP hD hS => ?_)
  obtain ⟨f82, ef82⟩ : ∃ z : Nat → Option Nat, z = va_up f75 8 (some q77) := ⟨_, rfl⟩
  have k83 : f82 0 = some q21 := by rw [ef82]; exact (va_up_ne _ _ (by decide)).trans (k76)
  have hP : va_P (dC, dI) vwCl [(rm, .inr (5, [.ref q1, .ref q5, .ref q9, .ref q13, .int 0, .int 0, .int 0, .int (-1), .int 1, .int 0, .int 0, .int 0])), (q1, .inl (cA3, 10, .inr (.inr (.inr (.inr f82))))), (q5, .inl (cA7, 12, .inr (.inr (.inr (.inr (fun _ => none)))))), (q9, .inl (cA11, 6, .inr (.inr (.inr (.inr (fun _ => none)))))), (q13, .inr (2, [.int 0, .int 0, .int 0, .int 0, .int 0, .int (-1), .long 0])), (q21, .inr (3, [.int 0, .int 0, .int 0, .int 0, .int 0, .int 0, .int 0, .int 0, .int 0, .int 0])), (q77, .inr (3, [.int 0, .int 0, .int 0, .int 0, .int 0, .int 0, .int 0, .int 0, .int 0, .int 0]))] H81 := by rw [ef82]; exact hP
  have hD : va_D A [(rm, .inr (5, [.ref q1, .ref q5, .ref q9, .ref q13, .int 0, .int 0, .int 0, .int (-1), .int 1, .int 0, .int 0, .int 0])), (q1, .inl (cA3, 10, .inr (.inr (.inr (.inr f82))))), (q5, .inl (cA7, 12, .inr (.inr (.inr (.inr (fun _ => none)))))), (q9, .inl (cA11, 6, .inr (.inr (.inr (.inr (fun _ => none)))))), (q13, .inr (2, [.int 0, .int 0, .int 0, .int 0, .int 0, .int (-1), .long 0])), (q21, .inr (3, [.int 0, .int 0, .int 0, .int 0, .int 0, .int 0, .int 0, .int 0, .int 0, .int 0])), (q77, .inr (3, [.int 0, .int 0, .int 0, .int 0, .int 0, .int 0, .int 0, .int 0, .int 0, .int 0]))] := by rw [ef82]; exact hD
  have hP := hP.sub (ws' := [(rm, .inr (5, [.ref q1, .ref q5, .ref q9, .ref q13, .int 0, .int 0, .int 0, .int (-1), .int 1, .int 0, .int 0, .int 0])), (q1, .inl (cA3, 10, .inr (.inr (.inr (.inr f82))))), (q5, .inl (cA7, 12, .inr (.inr (.inr (.inr (fun _ => none)))))), (q9, .inl (cA11, 6, .inr (.inr (.inr (.inr (fun _ => none)))))), (q13, .inr (2, [.int 0, .int 0, .int 0, .int 0, .int 0, .int (-1), .long 0])), (q21, .inr (3, [.int 0, .int 0, .int 0, .int 0, .int 0, .int 0, .int 0, .int 0, .int 0, .int 0]))]) [0, 1, 2, 3, 4, 5] rfl
  have hD := hD.sub (ws' := [(rm, .inr (5, [.ref q1, .ref q5, .ref q9, .ref q13, .int 0, .int 0, .int 0, .int (-1), .int 1, .int 0, .int 0, .int 0])), (q1, .inl (cA3, 10, .inr (.inr (.inr (.inr f82))))), (q5, .inl (cA7, 12, .inr (.inr (.inr (.inr (fun _ => none)))))), (q9, .inl (cA11, 6, .inr (.inr (.inr (.inr (fun _ => none)))))), (q13, .inr (2, [.int 0, .int 0, .int 0, .int 0, .int 0, .int (-1), .long 0])), (q21, .inr (3, [.int 0, .int 0, .int 0, .int 0, .int 0, .int 0, .int 0, .int 0, .int 0, .int 0]))]) [0, 1, 2, 3, 4, 5] (by decide) rfl
  refine lv_iinc (v := 9) (lv' := [(1, .int 9), (0, .ref rm)]) hx hb dX3_init_73 hl (k := 0) rfl (by decide) (by decide) rfl (fun ls hl => ?_)
  refine lv_goto (tgt := 54) hx hb dX3_init_76 (by decide) ?_
  refine lv_iload_n hx hb dX3_init_54 rfl (lv_at hl 0 rfl) ?_
  refine lv_bipush (v := 10) hx hb dX3_init_55 (by decide) ?_
  refine lv_icmp_ge (tgt := 79) hx hb dX3_init_57 (by decide) (fun h => absurd h (by decide)) (fun _ => ?_)
  refine lv_aload_n hx hb dX3_init_60 rfl (lv_at hl 1 rfl) ?_
  refine va_get (D := (dC, dI)) (ci := 5) (v := .ref q1) (C := RX3) (T := TX3) (N := 12) hx hb hts zi_X3_init_X3 hown hK hP 0 rfl rfl 0 (by decide) (hts (.fieldLink RX3 11 "LockRooms$Room" "locks" "[LLockRooms$Lock;") (by decide +kernel)) (fun _ h9 => h9) rfl dX3_init_61 ?_
  refine lv_iload_n hx hb dX3_init_64 rfl (lv_at hl 0 rfl) ?_
  refine va_new (ci := 3) (fs := [.int 0, .int 0, .int 0, .int 0, .int 0, .int 0, .int 0, .int 0, .int 0, .int 0]) (C := RX1) (T := TX1) (N := 10) hx hb hts zi_X3_init_X1 tyX1 tyX1_ok hown (hts (.classLink RX3 9 RX1) (by decide +kernel)) (hts (.instantiable RX1 10) (by decide +kernel)) (hts (.initialized RX1) (by decide +kernel)) hK hP hD hS hA rfl (fun j hj => by rcases (show j = 0 ∨ j = 1 ∨ j = 2 ∨ j = 3 ∨ j = 4 ∨ j = 5 ∨ j = 6 ∨ j = 7 ∨ j = 8 ∨ j = 9 by omega) with rfl | rfl | rfl | rfl | rfl | rfl | rfl | rfl | rfl | rfl <;> rfl) (Nat.le_of_ble_eq_true rfl) (Nat.le_of_ble_eq_true rfl) dX3_init_65 (fun q84 H85 hP hD hS => ?_)
  have hP : va_P (dC, dI) vwCl [(rm, .inr (5, [.ref q1, .ref q5, .ref q9, .ref q13, .int 0, .int 0, .int 0, .int (-1), .int 1, .int 0, .int 0, .int 0])), (q1, .inl (cA3, 10, .inr (.inr (.inr (.inr f82))))), (q5, .inl (cA7, 12, .inr (.inr (.inr (.inr (fun _ => none)))))), (q9, .inl (cA11, 6, .inr (.inr (.inr (.inr (fun _ => none)))))), (q13, .inr (2, [.int 0, .int 0, .int 0, .int 0, .int 0, .int (-1), .long 0])), (q21, .inr (3, [.int 0, .int 0, .int 0, .int 0, .int 0, .int 0, .int 0, .int 0, .int 0, .int 0])), (q84, .inr (3, [.int 0, .int 0, .int 0, .int 0, .int 0, .int 0, .int 0, .int 0, .int 0, .int 0]))] H85 := hP
  have hD : va_D A [(rm, .inr (5, [.ref q1, .ref q5, .ref q9, .ref q13, .int 0, .int 0, .int 0, .int (-1), .int 1, .int 0, .int 0, .int 0])), (q1, .inl (cA3, 10, .inr (.inr (.inr (.inr f82))))), (q5, .inl (cA7, 12, .inr (.inr (.inr (.inr (fun _ => none)))))), (q9, .inl (cA11, 6, .inr (.inr (.inr (.inr (fun _ => none)))))), (q13, .inr (2, [.int 0, .int 0, .int 0, .int 0, .int 0, .int (-1), .long 0])), (q21, .inr (3, [.int 0, .int 0, .int 0, .int 0, .int 0, .int 0, .int 0, .int 0, .int 0, .int 0])), (q84, .inr (3, [.int 0, .int 0, .int 0, .int 0, .int 0, .int 0, .int 0, .int 0, .int 0, .int 0]))] := hD
  refine lv_dup hx hb dX3_init_68 rfl ?_
  have hPr := (zo_nil : va_P (dC, dI) vwCl [] H85)
  have hPc := hP.sub (ws' := []) [] rfl
  have hDc := hD.sub (ws' := []) [] (by decide) rfl
  have hKc := hK.sub (tys' := []) [] rfl
  have hFc := va_free (wc := []) hD hS hA [] rfl
  refine va_callv (va_runIN (As := []) (rest := [.ref q84, .int 9, .ref q1]) ⟨hx, hb, hml, hown, hts⟩ (cz_X1_init l dC dI ed H85.size q84) ⟨(va_cnB 0 hts gX3_init_X1_init_n44 rfl rfl rfl (hN.2.1 ("LockRooms$Room", 44, yX1_init, "LockRooms") (List.mem_of_getElem? (i := 1) rfl)) (hts (.initialized RX1) (by decide +kernel)) (by decide +kernel) ⟨Nat.le_of_ble_eq_true rfl, Nat.le_of_ble_eq_true rfl⟩), rfl, (hts (.instanceMethod yX1_init) (by decide +kernel))⟩ ⟨zb_blind, fun U hU hW => ⟨rfl, zb_mk hU hW hPr hPc hKc hDc hN hH hS hFc zx_e⟩⟩ rfl rfl hl.1 rfl (lv_room (Nat.le_of_ble_eq_true rfl)) dX3_init_69 ⟨Nat.le_of_ble_eq_true rfl, Nat.le_of_ble_eq_true rfl⟩) hS (fun q _ h => hFc q h) hFc (fun u t H86 locs ht hvm hw hB hz1 hk1 hS => ?_)
  have hP := zo_K hP hk1
  refine va_astq hx hb hK hP hD hS 1 0 6 3 rfl rfl rfl rfl (by unfold vp_in; decide) dX3_init_72 (fun H88 locs hP hD hS => ?_)
  obtain ⟨f89, ef89⟩ : ∃ z : Nat → Option Nat, z = va_up f82 9 (some q84) := ⟨_, rfl⟩
  have k90 : f89 0 = some q21 := by rw [ef89]; exact (va_up_ne _ _ (by decide)).trans (k83)
  have hP : va_P (dC, dI) vwCl [(rm, .inr (5, [.ref q1, .ref q5, .ref q9, .ref q13, .int 0, .int 0, .int 0, .int (-1), .int 1, .int 0, .int 0, .int 0])), (q1, .inl (cA3, 10, .inr (.inr (.inr (.inr f89))))), (q5, .inl (cA7, 12, .inr (.inr (.inr (.inr (fun _ => none)))))), (q9, .inl (cA11, 6, .inr (.inr (.inr (.inr (fun _ => none)))))), (q13, .inr (2, [.int 0, .int 0, .int 0, .int 0, .int 0, .int (-1), .long 0])), (q21, .inr (3, [.int 0, .int 0, .int 0, .int 0, .int 0, .int 0, .int 0, .int 0, .int 0, .int 0])), (q84, .inr (3, [.int 0, .int 0, .int 0, .int 0, .int 0, .int 0, .int 0, .int 0, .int 0, .int 0]))] H88 := by rw [ef89]; exact hP
  have hD : va_D A [(rm, .inr (5, [.ref q1, .ref q5, .ref q9, .ref q13, .int 0, .int 0, .int 0, .int (-1), .int 1, .int 0, .int 0, .int 0])), (q1, .inl (cA3, 10, .inr (.inr (.inr (.inr f89))))), (q5, .inl (cA7, 12, .inr (.inr (.inr (.inr (fun _ => none)))))), (q9, .inl (cA11, 6, .inr (.inr (.inr (.inr (fun _ => none)))))), (q13, .inr (2, [.int 0, .int 0, .int 0, .int 0, .int 0, .int (-1), .long 0])), (q21, .inr (3, [.int 0, .int 0, .int 0, .int 0, .int 0, .int 0, .int 0, .int 0, .int 0, .int 0])), (q84, .inr (3, [.int 0, .int 0, .int 0, .int 0, .int 0, .int 0, .int 0, .int 0, .int 0, .int 0]))] := by rw [ef89]; exact hD
  have hP := hP.sub (ws' := [(rm, .inr (5, [.ref q1, .ref q5, .ref q9, .ref q13, .int 0, .int 0, .int 0, .int (-1), .int 1, .int 0, .int 0, .int 0])), (q1, .inl (cA3, 10, .inr (.inr (.inr (.inr f89))))), (q5, .inl (cA7, 12, .inr (.inr (.inr (.inr (fun _ => none)))))), (q9, .inl (cA11, 6, .inr (.inr (.inr (.inr (fun _ => none)))))), (q13, .inr (2, [.int 0, .int 0, .int 0, .int 0, .int 0, .int (-1), .long 0])), (q21, .inr (3, [.int 0, .int 0, .int 0, .int 0, .int 0, .int 0, .int 0, .int 0, .int 0, .int 0]))]) [0, 1, 2, 3, 4, 5] rfl
  have hD := hD.sub (ws' := [(rm, .inr (5, [.ref q1, .ref q5, .ref q9, .ref q13, .int 0, .int 0, .int 0, .int (-1), .int 1, .int 0, .int 0, .int 0])), (q1, .inl (cA3, 10, .inr (.inr (.inr (.inr f89))))), (q5, .inl (cA7, 12, .inr (.inr (.inr (.inr (fun _ => none)))))), (q9, .inl (cA11, 6, .inr (.inr (.inr (.inr (fun _ => none)))))), (q13, .inr (2, [.int 0, .int 0, .int 0, .int 0, .int 0, .int (-1), .long 0])), (q21, .inr (3, [.int 0, .int 0, .int 0, .int 0, .int 0, .int 0, .int 0, .int 0, .int 0, .int 0]))]) [0, 1, 2, 3, 4, 5] (by decide) rfl
  refine lv_iinc (v := 10) (lv' := [(1, .int 10), (0, .ref rm)]) hx hb dX3_init_73 hl (k := 0) rfl (by decide) (by decide) rfl (fun ls hl => ?_)
  refine lv_goto (tgt := 54) hx hb dX3_init_76 (by decide) ?_
  refine lv_iload_n hx hb dX3_init_54 rfl (lv_at hl 0 rfl) ?_
  refine lv_bipush (v := 10) hx hb dX3_init_55 (by decide) ?_
  refine lv_icmp_ge (tgt := 79) hx hb dX3_init_57 (by decide) (fun _ => ?_) (fun h => absurd h (by decide))
  refine lv_iconst (v := 0) hx hb dX3_init_79 (by decide) ?_
  refine lv_istore_n (lv' := [(1, .int 0), (0, .ref rm)]) hx hb dX3_init_80 rfl hl (by decide) rfl (fun ls hl => ?_)
  refine lv_iload_n hx hb dX3_init_81 rfl (lv_at hl 0 rfl) ?_
  refine lv_bipush (v := 12) hx hb dX3_init_82 (by decide) ?_
  refine lv_icmp_ge (tgt := 106) hx hb dX3_init_84 (by decide) (fun h => absurd h (by decide)) (fun _ => ?_)
  refine lv_aload_n hx hb dX3_init_87 rfl (lv_at hl 1 rfl) ?_
  refine va_get (D := (dC, dI)) (ci := 5) (v := .ref q5) (C := RX3) (T := TX3) (N := 12) hx hb hts zi_X3_init_X3 hown hK hP 0 rfl rfl 1 (by decide) (hts (.fieldLink RX3 19 "LockRooms$Room" "things" "[LLockRooms$Thing;") (by decide +kernel)) (fun _ h9 => h9) rfl dX3_init_88 ?_
  refine lv_iload_n hx hb dX3_init_91 rfl (lv_at hl 0 rfl) ?_
  refine va_new (ci := 7) (fs := [.int 0, .int 0, .int 0, .int 0, .int 0]) (C := RX5) (T := TX5) (N := 5) hx hb hts zi_X3_init_X5 tyX5 tyX5_ok hown (hts (.classLink RX3 17 RX5) (by decide +kernel)) (hts (.instantiable RX5 5) (by decide +kernel)) (hts (.initialized RX5) (by decide +kernel)) hK hP hD hS hA rfl (fun j hj => by rcases (show j = 0 ∨ j = 1 ∨ j = 2 ∨ j = 3 ∨ j = 4 by omega) with rfl | rfl | rfl | rfl | rfl <;> rfl) (Nat.le_of_ble_eq_true rfl) (Nat.le_of_ble_eq_true rfl) dX3_init_92 (fun q91 H92 hP hD hS => ?_)
  have hP : va_P (dC, dI) vwCl [(rm, .inr (5, [.ref q1, .ref q5, .ref q9, .ref q13, .int 0, .int 0, .int 0, .int (-1), .int 1, .int 0, .int 0, .int 0])), (q1, .inl (cA3, 10, .inr (.inr (.inr (.inr f89))))), (q5, .inl (cA7, 12, .inr (.inr (.inr (.inr (fun _ => none)))))), (q9, .inl (cA11, 6, .inr (.inr (.inr (.inr (fun _ => none)))))), (q13, .inr (2, [.int 0, .int 0, .int 0, .int 0, .int 0, .int (-1), .long 0])), (q21, .inr (3, [.int 0, .int 0, .int 0, .int 0, .int 0, .int 0, .int 0, .int 0, .int 0, .int 0])), (q91, .inr (7, [.int 0, .int 0, .int 0, .int 0, .int 0]))] H92 := hP
  have hD : va_D A [(rm, .inr (5, [.ref q1, .ref q5, .ref q9, .ref q13, .int 0, .int 0, .int 0, .int (-1), .int 1, .int 0, .int 0, .int 0])), (q1, .inl (cA3, 10, .inr (.inr (.inr (.inr f89))))), (q5, .inl (cA7, 12, .inr (.inr (.inr (.inr (fun _ => none)))))), (q9, .inl (cA11, 6, .inr (.inr (.inr (.inr (fun _ => none)))))), (q13, .inr (2, [.int 0, .int 0, .int 0, .int 0, .int 0, .int (-1), .long 0])), (q21, .inr (3, [.int 0, .int 0, .int 0, .int 0, .int 0, .int 0, .int 0, .int 0, .int 0, .int 0])), (q91, .inr (7, [.int 0, .int 0, .int 0, .int 0, .int 0]))] := hD
  refine lv_dup hx hb dX3_init_95 rfl ?_
  have hPr := (zo_nil : va_P (dC, dI) vwCl [] H92)
  have hPc := hP.sub (ws' := []) [] rfl
  have hDc := hD.sub (ws' := []) [] (by decide) rfl
  have hKc := hK.sub (tys' := []) [] rfl
  have hFc := va_free (wc := []) hD hS hA [] rfl
  refine va_callv (va_runIN (As := []) (rest := [.ref q91, .int 0, .ref q5]) ⟨hx, hb, hml, hown, hts⟩ (cz_X5_init l dC dI ed H92.size q91) ⟨(va_cnB 0 hts gX3_init_X5_init_n45 rfl rfl rfl (hN.2.1 ("LockRooms$Room", 45, yX5_init, "LockRooms") (List.mem_of_getElem? (i := 2) rfl)) (hts (.initialized RX5) (by decide +kernel)) (by decide +kernel) ⟨Nat.le_of_ble_eq_true rfl, Nat.le_of_ble_eq_true rfl⟩), rfl, (hts (.instanceMethod yX5_init) (by decide +kernel))⟩ ⟨zb_blind, fun U hU hW => ⟨rfl, zb_mk hU hW hPr hPc hKc hDc hN hH hS hFc zx_e⟩⟩ rfl rfl hl.1 rfl (lv_room (Nat.le_of_ble_eq_true rfl)) dX3_init_96 ⟨Nat.le_of_ble_eq_true rfl, Nat.le_of_ble_eq_true rfl⟩) hS (fun q _ h => hFc q h) hFc (fun u t H93 locs ht hvm hw hB hz1 hk1 hS => ?_)
  have hP := zo_K hP hk1
  refine va_astq hx hb hK hP hD hS 2 1 6 7 rfl rfl rfl rfl (by unfold vp_in; decide) dX3_init_99 (fun H95 locs hP hD hS => ?_)
  obtain ⟨f96, ef96⟩ : ∃ z : Nat → Option Nat, z = va_up (fun _ => none) 0 (some q91) := ⟨_, rfl⟩
  have k97 : f96 0 = some q91 := by rw [ef96]; exact va_up_self _ _ _
  have hP : va_P (dC, dI) vwCl [(rm, .inr (5, [.ref q1, .ref q5, .ref q9, .ref q13, .int 0, .int 0, .int 0, .int (-1), .int 1, .int 0, .int 0, .int 0])), (q1, .inl (cA3, 10, .inr (.inr (.inr (.inr f89))))), (q5, .inl (cA7, 12, .inr (.inr (.inr (.inr f96))))), (q9, .inl (cA11, 6, .inr (.inr (.inr (.inr (fun _ => none)))))), (q13, .inr (2, [.int 0, .int 0, .int 0, .int 0, .int 0, .int (-1), .long 0])), (q21, .inr (3, [.int 0, .int 0, .int 0, .int 0, .int 0, .int 0, .int 0, .int 0, .int 0, .int 0])), (q91, .inr (7, [.int 0, .int 0, .int 0, .int 0, .int 0]))] H95 := by rw [ef96]; exact hP
  have hD : va_D A [(rm, .inr (5, [.ref q1, .ref q5, .ref q9, .ref q13, .int 0, .int 0, .int 0, .int (-1), .int 1, .int 0, .int 0, .int 0])), (q1, .inl (cA3, 10, .inr (.inr (.inr (.inr f89))))), (q5, .inl (cA7, 12, .inr (.inr (.inr (.inr f96))))), (q9, .inl (cA11, 6, .inr (.inr (.inr (.inr (fun _ => none)))))), (q13, .inr (2, [.int 0, .int 0, .int 0, .int 0, .int 0, .int (-1), .long 0])), (q21, .inr (3, [.int 0, .int 0, .int 0, .int 0, .int 0, .int 0, .int 0, .int 0, .int 0, .int 0])), (q91, .inr (7, [.int 0, .int 0, .int 0, .int 0, .int 0]))] := by rw [ef96]; exact hD
  refine lv_iinc (v := 1) (lv' := [(1, .int 1), (0, .ref rm)]) hx hb dX3_init_100 hl (k := 0) rfl (by decide) (by decide) rfl (fun ls hl => ?_)
  refine lv_goto (tgt := 81) hx hb dX3_init_103 (by decide) ?_
  refine lv_iload_n hx hb dX3_init_81 rfl (lv_at hl 0 rfl) ?_
  refine lv_bipush (v := 12) hx hb dX3_init_82 (by decide) ?_
  refine lv_icmp_ge (tgt := 106) hx hb dX3_init_84 (by decide) (fun h => absurd h (by decide)) (fun _ => ?_)
  refine lv_aload_n hx hb dX3_init_87 rfl (lv_at hl 1 rfl) ?_
  refine va_get (D := (dC, dI)) (ci := 5) (v := .ref q5) (C := RX3) (T := TX3) (N := 12) hx hb hts zi_X3_init_X3 hown hK hP 0 rfl rfl 1 (by decide) (hts (.fieldLink RX3 19 "LockRooms$Room" "things" "[LLockRooms$Thing;") (by decide +kernel)) (fun _ h9 => h9) rfl dX3_init_88 ?_
  refine lv_iload_n hx hb dX3_init_91 rfl (lv_at hl 0 rfl) ?_
  refine va_new (ci := 7) (fs := [.int 0, .int 0, .int 0, .int 0, .int 0]) (C := RX5) (T := TX5) (N := 5) hx hb hts zi_X3_init_X5 tyX5 tyX5_ok hown (hts (.classLink RX3 17 RX5) (by decide +kernel)) (hts (.instantiable RX5 5) (by decide +kernel)) (hts (.initialized RX5) (by decide +kernel)) hK hP hD hS hA rfl (fun j hj => by rcases (show j = 0 ∨ j = 1 ∨ j = 2 ∨ j = 3 ∨ j = 4 by omega) with rfl | rfl | rfl | rfl | rfl <;> rfl) (Nat.le_of_ble_eq_true rfl) (Nat.le_of_ble_eq_true rfl) dX3_init_92 (fun q98 H99 hP hD hS => ?_)
  have hP : va_P (dC, dI) vwCl [(rm, .inr (5, [.ref q1, .ref q5, .ref q9, .ref q13, .int 0, .int 0, .int 0, .int (-1), .int 1, .int 0, .int 0, .int 0])), (q1, .inl (cA3, 10, .inr (.inr (.inr (.inr f89))))), (q5, .inl (cA7, 12, .inr (.inr (.inr (.inr f96))))), (q9, .inl (cA11, 6, .inr (.inr (.inr (.inr (fun _ => none)))))), (q13, .inr (2, [.int 0, .int 0, .int 0, .int 0, .int 0, .int (-1), .long 0])), (q21, .inr (3, [.int 0, .int 0, .int 0, .int 0, .int 0, .int 0, .int 0, .int 0, .int 0, .int 0])), (q91, .inr (7, [.int 0, .int 0, .int 0, .int 0, .int 0])), (q98, .inr (7, [.int 0, .int 0, .int 0, .int 0, .int 0]))] H99 := hP
  have hD : va_D A [(rm, .inr (5, [.ref q1, .ref q5, .ref q9, .ref q13, .int 0, .int 0, .int 0, .int (-1), .int 1, .int 0, .int 0, .int 0])), (q1, .inl (cA3, 10, .inr (.inr (.inr (.inr f89))))), (q5, .inl (cA7, 12, .inr (.inr (.inr (.inr f96))))), (q9, .inl (cA11, 6, .inr (.inr (.inr (.inr (fun _ => none)))))), (q13, .inr (2, [.int 0, .int 0, .int 0, .int 0, .int 0, .int (-1), .long 0])), (q21, .inr (3, [.int 0, .int 0, .int 0, .int 0, .int 0, .int 0, .int 0, .int 0, .int 0, .int 0])), (q91, .inr (7, [.int 0, .int 0, .int 0, .int 0, .int 0])), (q98, .inr (7, [.int 0, .int 0, .int 0, .int 0, .int 0]))] := hD
  refine lv_dup hx hb dX3_init_95 rfl ?_
  have hPr := (zo_nil : va_P (dC, dI) vwCl [] H99)
  have hPc := hP.sub (ws' := []) [] rfl
  have hDc := hD.sub (ws' := []) [] (by decide) rfl
  have hKc := hK.sub (tys' := []) [] rfl
  have hFc := va_free (wc := []) hD hS hA [] rfl
  refine va_callv (va_runIN (As := []) (rest := [.ref q98, .int 1, .ref q5]) ⟨hx, hb, hml, hown, hts⟩ (cz_X5_init l dC dI ed H99.size q98) ⟨(va_cnB 0 hts gX3_init_X5_init_n45 rfl rfl rfl (hN.2.1 ("LockRooms$Room", 45, yX5_init, "LockRooms") (List.mem_of_getElem? (i := 2) rfl)) (hts (.initialized RX5) (by decide +kernel)) (by decide +kernel) ⟨Nat.le_of_ble_eq_true rfl, Nat.le_of_ble_eq_true rfl⟩), rfl, (hts (.instanceMethod yX5_init) (by decide +kernel))⟩ ⟨zb_blind, fun U hU hW => ⟨rfl, zb_mk hU hW hPr hPc hKc hDc hN hH hS hFc zx_e⟩⟩ rfl rfl hl.1 rfl (lv_room (Nat.le_of_ble_eq_true rfl)) dX3_init_96 ⟨Nat.le_of_ble_eq_true rfl, Nat.le_of_ble_eq_true rfl⟩) hS (fun q _ h => hFc q h) hFc (fun u t H100 locs ht hvm hw hB hz1 hk1 hS => ?_)
  have hP := zo_K hP hk1
  refine va_astq hx hb hK hP hD hS 2 1 7 7 rfl rfl rfl rfl (by unfold vp_in; decide) dX3_init_99 (fun H102 locs hP hD hS => ?_)
  obtain ⟨f103, ef103⟩ : ∃ z : Nat → Option Nat, z = va_up f96 1 (some q98) := ⟨_, rfl⟩
  have k104 : f103 0 = some q91 := by rw [ef103]; exact (va_up_ne _ _ (by decide)).trans (k97)
  have hP : va_P (dC, dI) vwCl [(rm, .inr (5, [.ref q1, .ref q5, .ref q9, .ref q13, .int 0, .int 0, .int 0, .int (-1), .int 1, .int 0, .int 0, .int 0])), (q1, .inl (cA3, 10, .inr (.inr (.inr (.inr f89))))), (q5, .inl (cA7, 12, .inr (.inr (.inr (.inr f103))))), (q9, .inl (cA11, 6, .inr (.inr (.inr (.inr (fun _ => none)))))), (q13, .inr (2, [.int 0, .int 0, .int 0, .int 0, .int 0, .int (-1), .long 0])), (q21, .inr (3, [.int 0, .int 0, .int 0, .int 0, .int 0, .int 0, .int 0, .int 0, .int 0, .int 0])), (q91, .inr (7, [.int 0, .int 0, .int 0, .int 0, .int 0])), (q98, .inr (7, [.int 0, .int 0, .int 0, .int 0, .int 0]))] H102 := by rw [ef103]; exact hP
  have hD : va_D A [(rm, .inr (5, [.ref q1, .ref q5, .ref q9, .ref q13, .int 0, .int 0, .int 0, .int (-1), .int 1, .int 0, .int 0, .int 0])), (q1, .inl (cA3, 10, .inr (.inr (.inr (.inr f89))))), (q5, .inl (cA7, 12, .inr (.inr (.inr (.inr f103))))), (q9, .inl (cA11, 6, .inr (.inr (.inr (.inr (fun _ => none)))))), (q13, .inr (2, [.int 0, .int 0, .int 0, .int 0, .int 0, .int (-1), .long 0])), (q21, .inr (3, [.int 0, .int 0, .int 0, .int 0, .int 0, .int 0, .int 0, .int 0, .int 0, .int 0])), (q91, .inr (7, [.int 0, .int 0, .int 0, .int 0, .int 0])), (q98, .inr (7, [.int 0, .int 0, .int 0, .int 0, .int 0]))] := by rw [ef103]; exact hD
  have hP := hP.sub (ws' := [(rm, .inr (5, [.ref q1, .ref q5, .ref q9, .ref q13, .int 0, .int 0, .int 0, .int (-1), .int 1, .int 0, .int 0, .int 0])), (q1, .inl (cA3, 10, .inr (.inr (.inr (.inr f89))))), (q5, .inl (cA7, 12, .inr (.inr (.inr (.inr f103))))), (q9, .inl (cA11, 6, .inr (.inr (.inr (.inr (fun _ => none)))))), (q13, .inr (2, [.int 0, .int 0, .int 0, .int 0, .int 0, .int (-1), .long 0])), (q21, .inr (3, [.int 0, .int 0, .int 0, .int 0, .int 0, .int 0, .int 0, .int 0, .int 0, .int 0])), (q91, .inr (7, [.int 0, .int 0, .int 0, .int 0, .int 0]))]) [0, 1, 2, 3, 4, 5, 6] rfl
  have hD := hD.sub (ws' := [(rm, .inr (5, [.ref q1, .ref q5, .ref q9, .ref q13, .int 0, .int 0, .int 0, .int (-1), .int 1, .int 0, .int 0, .int 0])), (q1, .inl (cA3, 10, .inr (.inr (.inr (.inr f89))))), (q5, .inl (cA7, 12, .inr (.inr (.inr (.inr f103))))), (q9, .inl (cA11, 6, .inr (.inr (.inr (.inr (fun _ => none)))))), (q13, .inr (2, [.int 0, .int 0, .int 0, .int 0, .int 0, .int (-1), .long 0])), (q21, .inr (3, [.int 0, .int 0, .int 0, .int 0, .int 0, .int 0, .int 0, .int 0, .int 0, .int 0])), (q91, .inr (7, [.int 0, .int 0, .int 0, .int 0, .int 0]))]) [0, 1, 2, 3, 4, 5, 6] (by decide) rfl
  refine lv_iinc (v := 2) (lv' := [(1, .int 2), (0, .ref rm)]) hx hb dX3_init_100 hl (k := 0) rfl (by decide) (by decide) rfl (fun ls hl => ?_)
  refine lv_goto (tgt := 81) hx hb dX3_init_103 (by decide) ?_
  refine lv_iload_n hx hb dX3_init_81 rfl (lv_at hl 0 rfl) ?_
  refine lv_bipush (v := 12) hx hb dX3_init_82 (by decide) ?_
  refine lv_icmp_ge (tgt := 106) hx hb dX3_init_84 (by decide) (fun h => absurd h (by decide)) (fun _ => ?_)
  refine lv_aload_n hx hb dX3_init_87 rfl (lv_at hl 1 rfl) ?_
  refine va_get (D := (dC, dI)) (ci := 5) (v := .ref q5) (C := RX3) (T := TX3) (N := 12) hx hb hts zi_X3_init_X3 hown hK hP 0 rfl rfl 1 (by decide) (hts (.fieldLink RX3 19 "LockRooms$Room" "things" "[LLockRooms$Thing;") (by decide +kernel)) (fun _ h9 => h9) rfl dX3_init_88 ?_
  refine lv_iload_n hx hb dX3_init_91 rfl (lv_at hl 0 rfl) ?_
  refine va_new (ci := 7) (fs := [.int 0, .int 0, .int 0, .int 0, .int 0]) (C := RX5) (T := TX5) (N := 5) hx hb hts zi_X3_init_X5 tyX5 tyX5_ok hown (hts (.classLink RX3 17 RX5) (by decide +kernel)) (hts (.instantiable RX5 5) (by decide +kernel)) (hts (.initialized RX5) (by decide +kernel)) hK hP hD hS hA rfl (fun j hj => by rcases (show j = 0 ∨ j = 1 ∨ j = 2 ∨ j = 3 ∨ j = 4 by omega) with rfl | rfl | rfl | rfl | rfl <;> rfl) (Nat.le_of_ble_eq_true rfl) (Nat.le_of_ble_eq_true rfl) dX3_init_92 (fun q105 H106 hP hD hS => ?_)
  have hP : va_P (dC, dI) vwCl [(rm, .inr (5, [.ref q1, .ref q5, .ref q9, .ref q13, .int 0, .int 0, .int 0, .int (-1), .int 1, .int 0, .int 0, .int 0])), (q1, .inl (cA3, 10, .inr (.inr (.inr (.inr f89))))), (q5, .inl (cA7, 12, .inr (.inr (.inr (.inr f103))))), (q9, .inl (cA11, 6, .inr (.inr (.inr (.inr (fun _ => none)))))), (q13, .inr (2, [.int 0, .int 0, .int 0, .int 0, .int 0, .int (-1), .long 0])), (q21, .inr (3, [.int 0, .int 0, .int 0, .int 0, .int 0, .int 0, .int 0, .int 0, .int 0, .int 0])), (q91, .inr (7, [.int 0, .int 0, .int 0, .int 0, .int 0])), (q105, .inr (7, [.int 0, .int 0, .int 0, .int 0, .int 0]))] H106 := hP
  have hD : va_D A [(rm, .inr (5, [.ref q1, .ref q5, .ref q9, .ref q13, .int 0, .int 0, .int 0, .int (-1), .int 1, .int 0, .int 0, .int 0])), (q1, .inl (cA3, 10, .inr (.inr (.inr (.inr f89))))), (q5, .inl (cA7, 12, .inr (.inr (.inr (.inr f103))))), (q9, .inl (cA11, 6, .inr (.inr (.inr (.inr (fun _ => none)))))), (q13, .inr (2, [.int 0, .int 0, .int 0, .int 0, .int 0, .int (-1), .long 0])), (q21, .inr (3, [.int 0, .int 0, .int 0, .int 0, .int 0, .int 0, .int 0, .int 0, .int 0, .int 0])), (q91, .inr (7, [.int 0, .int 0, .int 0, .int 0, .int 0])), (q105, .inr (7, [.int 0, .int 0, .int 0, .int 0, .int 0]))] := hD
  refine lv_dup hx hb dX3_init_95 rfl ?_
  have hPr := (zo_nil : va_P (dC, dI) vwCl [] H106)
  have hPc := hP.sub (ws' := []) [] rfl
  have hDc := hD.sub (ws' := []) [] (by decide) rfl
  have hKc := hK.sub (tys' := []) [] rfl
  have hFc := va_free (wc := []) hD hS hA [] rfl
  refine va_callv (va_runIN (As := []) (rest := [.ref q105, .int 2, .ref q5]) ⟨hx, hb, hml, hown, hts⟩ (cz_X5_init l dC dI ed H106.size q105) ⟨(va_cnB 0 hts gX3_init_X5_init_n45 rfl rfl rfl (hN.2.1 ("LockRooms$Room", 45, yX5_init, "LockRooms") (List.mem_of_getElem? (i := 2) rfl)) (hts (.initialized RX5) (by decide +kernel)) (by decide +kernel) ⟨Nat.le_of_ble_eq_true rfl, Nat.le_of_ble_eq_true rfl⟩), rfl, (hts (.instanceMethod yX5_init) (by decide +kernel))⟩ ⟨zb_blind, fun U hU hW => ⟨rfl, zb_mk hU hW hPr hPc hKc hDc hN hH hS hFc zx_e⟩⟩ rfl rfl hl.1 rfl (lv_room (Nat.le_of_ble_eq_true rfl)) dX3_init_96 ⟨Nat.le_of_ble_eq_true rfl, Nat.le_of_ble_eq_true rfl⟩) hS (fun q _ h => hFc q h) hFc (fun u t H107 locs ht hvm hw hB hz1 hk1 hS => ?_)
  have hP := zo_K hP hk1
  refine va_astq hx hb hK hP hD hS 2 1 7 7 rfl rfl rfl rfl (by unfold vp_in; decide) dX3_init_99 (fun H109 locs hP hD hS => ?_)
  obtain ⟨f110, ef110⟩ : ∃ z : Nat → Option Nat, z = va_up f103 2 (some q105) := ⟨_, rfl⟩
  have k111 : f110 0 = some q91 := by rw [ef110]; exact (va_up_ne _ _ (by decide)).trans (k104)
  have hP : va_P (dC, dI) vwCl [(rm, .inr (5, [.ref q1, .ref q5, .ref q9, .ref q13, .int 0, .int 0, .int 0, .int (-1), .int 1, .int 0, .int 0, .int 0])), (q1, .inl (cA3, 10, .inr (.inr (.inr (.inr f89))))), (q5, .inl (cA7, 12, .inr (.inr (.inr (.inr f110))))), (q9, .inl (cA11, 6, .inr (.inr (.inr (.inr (fun _ => none)))))), (q13, .inr (2, [.int 0, .int 0, .int 0, .int 0, .int 0, .int (-1), .long 0])), (q21, .inr (3, [.int 0, .int 0, .int 0, .int 0, .int 0, .int 0, .int 0, .int 0, .int 0, .int 0])), (q91, .inr (7, [.int 0, .int 0, .int 0, .int 0, .int 0])), (q105, .inr (7, [.int 0, .int 0, .int 0, .int 0, .int 0]))] H109 := by rw [ef110]; exact hP
  have hD : va_D A [(rm, .inr (5, [.ref q1, .ref q5, .ref q9, .ref q13, .int 0, .int 0, .int 0, .int (-1), .int 1, .int 0, .int 0, .int 0])), (q1, .inl (cA3, 10, .inr (.inr (.inr (.inr f89))))), (q5, .inl (cA7, 12, .inr (.inr (.inr (.inr f110))))), (q9, .inl (cA11, 6, .inr (.inr (.inr (.inr (fun _ => none)))))), (q13, .inr (2, [.int 0, .int 0, .int 0, .int 0, .int 0, .int (-1), .long 0])), (q21, .inr (3, [.int 0, .int 0, .int 0, .int 0, .int 0, .int 0, .int 0, .int 0, .int 0, .int 0])), (q91, .inr (7, [.int 0, .int 0, .int 0, .int 0, .int 0])), (q105, .inr (7, [.int 0, .int 0, .int 0, .int 0, .int 0]))] := by rw [ef110]; exact hD
  have hP := hP.sub (ws' := [(rm, .inr (5, [.ref q1, .ref q5, .ref q9, .ref q13, .int 0, .int 0, .int 0, .int (-1), .int 1, .int 0, .int 0, .int 0])), (q1, .inl (cA3, 10, .inr (.inr (.inr (.inr f89))))), (q5, .inl (cA7, 12, .inr (.inr (.inr (.inr f110))))), (q9, .inl (cA11, 6, .inr (.inr (.inr (.inr (fun _ => none)))))), (q13, .inr (2, [.int 0, .int 0, .int 0, .int 0, .int 0, .int (-1), .long 0])), (q21, .inr (3, [.int 0, .int 0, .int 0, .int 0, .int 0, .int 0, .int 0, .int 0, .int 0, .int 0])), (q91, .inr (7, [.int 0, .int 0, .int 0, .int 0, .int 0]))]) [0, 1, 2, 3, 4, 5, 6] rfl
  have hD := hD.sub (ws' := [(rm, .inr (5, [.ref q1, .ref q5, .ref q9, .ref q13, .int 0, .int 0, .int 0, .int (-1), .int 1, .int 0, .int 0, .int 0])), (q1, .inl (cA3, 10, .inr (.inr (.inr (.inr f89))))), (q5, .inl (cA7, 12, .inr (.inr (.inr (.inr f110))))), (q9, .inl (cA11, 6, .inr (.inr (.inr (.inr (fun _ => none)))))), (q13, .inr (2, [.int 0, .int 0, .int 0, .int 0, .int 0, .int (-1), .long 0])), (q21, .inr (3, [.int 0, .int 0, .int 0, .int 0, .int 0, .int 0, .int 0, .int 0, .int 0, .int 0])), (q91, .inr (7, [.int 0, .int 0, .int 0, .int 0, .int 0]))]) [0, 1, 2, 3, 4, 5, 6] (by decide) rfl
  refine lv_iinc (v := 3) (lv' := [(1, .int 3), (0, .ref rm)]) hx hb dX3_init_100 hl (k := 0) rfl (by decide) (by decide) rfl (fun ls hl => ?_)
  refine lv_goto (tgt := 81) hx hb dX3_init_103 (by decide) ?_
  refine lv_iload_n hx hb dX3_init_81 rfl (lv_at hl 0 rfl) ?_
  refine lv_bipush (v := 12) hx hb dX3_init_82 (by decide) ?_
  refine lv_icmp_ge (tgt := 106) hx hb dX3_init_84 (by decide) (fun h => absurd h (by decide)) (fun _ => ?_)
  refine lv_aload_n hx hb dX3_init_87 rfl (lv_at hl 1 rfl) ?_
  refine va_get (D := (dC, dI)) (ci := 5) (v := .ref q5) (C := RX3) (T := TX3) (N := 12) hx hb hts zi_X3_init_X3 hown hK hP 0 rfl rfl 1 (by decide) (hts (.fieldLink RX3 19 "LockRooms$Room" "things" "[LLockRooms$Thing;") (by decide +kernel)) (fun _ h9 => h9) rfl dX3_init_88 ?_
  refine lv_iload_n hx hb dX3_init_91 rfl (lv_at hl 0 rfl) ?_
  refine va_new (ci := 7) (fs := [.int 0, .int 0, .int 0, .int 0, .int 0]) (C := RX5) (T := TX5) (N := 5) hx hb hts zi_X3_init_X5 tyX5 tyX5_ok hown (hts (.classLink RX3 17 RX5) (by decide +kernel)) (hts (.instantiable RX5 5) (by decide +kernel)) (hts (.initialized RX5) (by decide +kernel)) hK hP hD hS hA rfl (fun j hj => by rcases (show j = 0 ∨ j = 1 ∨ j = 2 ∨ j = 3 ∨ j = 4 by omega) with rfl | rfl | rfl | rfl | rfl <;> rfl) (Nat.le_of_ble_eq_true rfl) (Nat.le_of_ble_eq_true rfl) dX3_init_92 (fun q112 H113 hP hD hS => ?_)
  have hP : va_P (dC, dI) vwCl [(rm, .inr (5, [.ref q1, .ref q5, .ref q9, .ref q13, .int 0, .int 0, .int 0, .int (-1), .int 1, .int 0, .int 0, .int 0])), (q1, .inl (cA3, 10, .inr (.inr (.inr (.inr f89))))), (q5, .inl (cA7, 12, .inr (.inr (.inr (.inr f110))))), (q9, .inl (cA11, 6, .inr (.inr (.inr (.inr (fun _ => none)))))), (q13, .inr (2, [.int 0, .int 0, .int 0, .int 0, .int 0, .int (-1), .long 0])), (q21, .inr (3, [.int 0, .int 0, .int 0, .int 0, .int 0, .int 0, .int 0, .int 0, .int 0, .int 0])), (q91, .inr (7, [.int 0, .int 0, .int 0, .int 0, .int 0])), (q112, .inr (7, [.int 0, .int 0, .int 0, .int 0, .int 0]))] H113 := hP
  have hD : va_D A [(rm, .inr (5, [.ref q1, .ref q5, .ref q9, .ref q13, .int 0, .int 0, .int 0, .int (-1), .int 1, .int 0, .int 0, .int 0])), (q1, .inl (cA3, 10, .inr (.inr (.inr (.inr f89))))), (q5, .inl (cA7, 12, .inr (.inr (.inr (.inr f110))))), (q9, .inl (cA11, 6, .inr (.inr (.inr (.inr (fun _ => none)))))), (q13, .inr (2, [.int 0, .int 0, .int 0, .int 0, .int 0, .int (-1), .long 0])), (q21, .inr (3, [.int 0, .int 0, .int 0, .int 0, .int 0, .int 0, .int 0, .int 0, .int 0, .int 0])), (q91, .inr (7, [.int 0, .int 0, .int 0, .int 0, .int 0])), (q112, .inr (7, [.int 0, .int 0, .int 0, .int 0, .int 0]))] := hD
  refine lv_dup hx hb dX3_init_95 rfl ?_
  have hPr := (zo_nil : va_P (dC, dI) vwCl [] H113)
  have hPc := hP.sub (ws' := []) [] rfl
  have hDc := hD.sub (ws' := []) [] (by decide) rfl
  have hKc := hK.sub (tys' := []) [] rfl
  have hFc := va_free (wc := []) hD hS hA [] rfl
  refine va_callv (va_runIN (As := []) (rest := [.ref q112, .int 3, .ref q5]) ⟨hx, hb, hml, hown, hts⟩ (cz_X5_init l dC dI ed H113.size q112) ⟨(va_cnB 0 hts gX3_init_X5_init_n45 rfl rfl rfl (hN.2.1 ("LockRooms$Room", 45, yX5_init, "LockRooms") (List.mem_of_getElem? (i := 2) rfl)) (hts (.initialized RX5) (by decide +kernel)) (by decide +kernel) ⟨Nat.le_of_ble_eq_true rfl, Nat.le_of_ble_eq_true rfl⟩), rfl, (hts (.instanceMethod yX5_init) (by decide +kernel))⟩ ⟨zb_blind, fun U hU hW => ⟨rfl, zb_mk hU hW hPr hPc hKc hDc hN hH hS hFc zx_e⟩⟩ rfl rfl hl.1 rfl (lv_room (Nat.le_of_ble_eq_true rfl)) dX3_init_96 ⟨Nat.le_of_ble_eq_true rfl, Nat.le_of_ble_eq_true rfl⟩) hS (fun q _ h => hFc q h) hFc (fun u t H114 locs ht hvm hw hB hz1 hk1 hS => ?_)
  have hP := zo_K hP hk1
  refine va_astq hx hb hK hP hD hS 2 1 7 7 rfl rfl rfl rfl (by unfold vp_in; decide) dX3_init_99 (fun H116 locs hP hD hS => ?_)
  obtain ⟨f117, ef117⟩ : ∃ z : Nat → Option Nat, z = va_up f110 3 (some q112) := ⟨_, rfl⟩
  have k118 : f117 0 = some q91 := by rw [ef117]; exact (va_up_ne _ _ (by decide)).trans (k111)
  have hP : va_P (dC, dI) vwCl [(rm, .inr (5, [.ref q1, .ref q5, .ref q9, .ref q13, .int 0, .int 0, .int 0, .int (-1), .int 1, .int 0, .int 0, .int 0])), (q1, .inl (cA3, 10, .inr (.inr (.inr (.inr f89))))), (q5, .inl (cA7, 12, .inr (.inr (.inr (.inr f117))))), (q9, .inl (cA11, 6, .inr (.inr (.inr (.inr (fun _ => none)))))), (q13, .inr (2, [.int 0, .int 0, .int 0, .int 0, .int 0, .int (-1), .long 0])), (q21, .inr (3, [.int 0, .int 0, .int 0, .int 0, .int 0, .int 0, .int 0, .int 0, .int 0, .int 0])), (q91, .inr (7, [.int 0, .int 0, .int 0, .int 0, .int 0])), (q112, .inr (7, [.int 0, .int 0, .int 0, .int 0, .int 0]))] H116 := by rw [ef117]; exact hP
  have hD : va_D A [(rm, .inr (5, [.ref q1, .ref q5, .ref q9, .ref q13, .int 0, .int 0, .int 0, .int (-1), .int 1, .int 0, .int 0, .int 0])), (q1, .inl (cA3, 10, .inr (.inr (.inr (.inr f89))))), (q5, .inl (cA7, 12, .inr (.inr (.inr (.inr f117))))), (q9, .inl (cA11, 6, .inr (.inr (.inr (.inr (fun _ => none)))))), (q13, .inr (2, [.int 0, .int 0, .int 0, .int 0, .int 0, .int (-1), .long 0])), (q21, .inr (3, [.int 0, .int 0, .int 0, .int 0, .int 0, .int 0, .int 0, .int 0, .int 0, .int 0])), (q91, .inr (7, [.int 0, .int 0, .int 0, .int 0, .int 0])), (q112, .inr (7, [.int 0, .int 0, .int 0, .int 0, .int 0]))] := by rw [ef117]; exact hD
  have hP := hP.sub (ws' := [(rm, .inr (5, [.ref q1, .ref q5, .ref q9, .ref q13, .int 0, .int 0, .int 0, .int (-1), .int 1, .int 0, .int 0, .int 0])), (q1, .inl (cA3, 10, .inr (.inr (.inr (.inr f89))))), (q5, .inl (cA7, 12, .inr (.inr (.inr (.inr f117))))), (q9, .inl (cA11, 6, .inr (.inr (.inr (.inr (fun _ => none)))))), (q13, .inr (2, [.int 0, .int 0, .int 0, .int 0, .int 0, .int (-1), .long 0])), (q21, .inr (3, [.int 0, .int 0, .int 0, .int 0, .int 0, .int 0, .int 0, .int 0, .int 0, .int 0])), (q91, .inr (7, [.int 0, .int 0, .int 0, .int 0, .int 0]))]) [0, 1, 2, 3, 4, 5, 6] rfl
  have hD := hD.sub (ws' := [(rm, .inr (5, [.ref q1, .ref q5, .ref q9, .ref q13, .int 0, .int 0, .int 0, .int (-1), .int 1, .int 0, .int 0, .int 0])), (q1, .inl (cA3, 10, .inr (.inr (.inr (.inr f89))))), (q5, .inl (cA7, 12, .inr (.inr (.inr (.inr f117))))), (q9, .inl (cA11, 6, .inr (.inr (.inr (.inr (fun _ => none)))))), (q13, .inr (2, [.int 0, .int 0, .int 0, .int 0, .int 0, .int (-1), .long 0])), (q21, .inr (3, [.int 0, .int 0, .int 0, .int 0, .int 0, .int 0, .int 0, .int 0, .int 0, .int 0])), (q91, .inr (7, [.int 0, .int 0, .int 0, .int 0, .int 0]))]) [0, 1, 2, 3, 4, 5, 6] (by decide) rfl
  refine lv_iinc (v := 4) (lv' := [(1, .int 4), (0, .ref rm)]) hx hb dX3_init_100 hl (k := 0) rfl (by decide) (by decide) rfl (fun ls hl => ?_)
  refine lv_goto (tgt := 81) hx hb dX3_init_103 (by decide) ?_
  refine lv_iload_n hx hb dX3_init_81 rfl (lv_at hl 0 rfl) ?_
  refine lv_bipush (v := 12) hx hb dX3_init_82 (by decide) ?_
  refine lv_icmp_ge (tgt := 106) hx hb dX3_init_84 (by decide) (fun h => absurd h (by decide)) (fun _ => ?_)
  refine lv_aload_n hx hb dX3_init_87 rfl (lv_at hl 1 rfl) ?_
  refine va_get (D := (dC, dI)) (ci := 5) (v := .ref q5) (C := RX3) (T := TX3) (N := 12) hx hb hts zi_X3_init_X3 hown hK hP 0 rfl rfl 1 (by decide) (hts (.fieldLink RX3 19 "LockRooms$Room" "things" "[LLockRooms$Thing;") (by decide +kernel)) (fun _ h9 => h9) rfl dX3_init_88 ?_
  refine lv_iload_n hx hb dX3_init_91 rfl (lv_at hl 0 rfl) ?_
  refine va_new (ci := 7) (fs := [.int 0, .int 0, .int 0, .int 0, .int 0]) (C := RX5) (T := TX5) (N := 5) hx hb hts zi_X3_init_X5 tyX5 tyX5_ok hown (hts (.classLink RX3 17 RX5) (by decide +kernel)) (hts (.instantiable RX5 5) (by decide +kernel)) (hts (.initialized RX5) (by decide +kernel)) hK hP hD hS hA rfl (fun j hj => by rcases (show j = 0 ∨ j = 1 ∨ j = 2 ∨ j = 3 ∨ j = 4 by omega) with rfl | rfl | rfl | rfl | rfl <;> rfl) (Nat.le_of_ble_eq_true rfl) (Nat.le_of_ble_eq_true rfl) dX3_init_92 (fun q119 H120 hP hD hS => ?_)
  have hP : va_P (dC, dI) vwCl [(rm, .inr (5, [.ref q1, .ref q5, .ref q9, .ref q13, .int 0, .int 0, .int 0, .int (-1), .int 1, .int 0, .int 0, .int 0])), (q1, .inl (cA3, 10, .inr (.inr (.inr (.inr f89))))), (q5, .inl (cA7, 12, .inr (.inr (.inr (.inr f117))))), (q9, .inl (cA11, 6, .inr (.inr (.inr (.inr (fun _ => none)))))), (q13, .inr (2, [.int 0, .int 0, .int 0, .int 0, .int 0, .int (-1), .long 0])), (q21, .inr (3, [.int 0, .int 0, .int 0, .int 0, .int 0, .int 0, .int 0, .int 0, .int 0, .int 0])), (q91, .inr (7, [.int 0, .int 0, .int 0, .int 0, .int 0])), (q119, .inr (7, [.int 0, .int 0, .int 0, .int 0, .int 0]))] H120 := hP
  have hD : va_D A [(rm, .inr (5, [.ref q1, .ref q5, .ref q9, .ref q13, .int 0, .int 0, .int 0, .int (-1), .int 1, .int 0, .int 0, .int 0])), (q1, .inl (cA3, 10, .inr (.inr (.inr (.inr f89))))), (q5, .inl (cA7, 12, .inr (.inr (.inr (.inr f117))))), (q9, .inl (cA11, 6, .inr (.inr (.inr (.inr (fun _ => none)))))), (q13, .inr (2, [.int 0, .int 0, .int 0, .int 0, .int 0, .int (-1), .long 0])), (q21, .inr (3, [.int 0, .int 0, .int 0, .int 0, .int 0, .int 0, .int 0, .int 0, .int 0, .int 0])), (q91, .inr (7, [.int 0, .int 0, .int 0, .int 0, .int 0])), (q119, .inr (7, [.int 0, .int 0, .int 0, .int 0, .int 0]))] := hD
  refine lv_dup hx hb dX3_init_95 rfl ?_
  have hPr := (zo_nil : va_P (dC, dI) vwCl [] H120)
  have hPc := hP.sub (ws' := []) [] rfl
  have hDc := hD.sub (ws' := []) [] (by decide) rfl
  have hKc := hK.sub (tys' := []) [] rfl
  have hFc := va_free (wc := []) hD hS hA [] rfl
  refine va_callv (va_runIN (As := []) (rest := [.ref q119, .int 4, .ref q5]) ⟨hx, hb, hml, hown, hts⟩ (cz_X5_init l dC dI ed H120.size q119) ⟨(va_cnB 0 hts gX3_init_X5_init_n45 rfl rfl rfl (hN.2.1 ("LockRooms$Room", 45, yX5_init, "LockRooms") (List.mem_of_getElem? (i := 2) rfl)) (hts (.initialized RX5) (by decide +kernel)) (by decide +kernel) ⟨Nat.le_of_ble_eq_true rfl, Nat.le_of_ble_eq_true rfl⟩), rfl, (hts (.instanceMethod yX5_init) (by decide +kernel))⟩ ⟨zb_blind, fun U hU hW => ⟨rfl, zb_mk hU hW hPr hPc hKc hDc hN hH hS hFc zx_e⟩⟩ rfl rfl hl.1 rfl (lv_room (Nat.le_of_ble_eq_true rfl)) dX3_init_96 ⟨Nat.le_of_ble_eq_true rfl, Nat.le_of_ble_eq_true rfl⟩) hS (fun q _ h => hFc q h) hFc (fun u t H121 locs ht hvm hw hB hz1 hk1 hS => ?_)
  have hP := zo_K hP hk1
  refine va_astq hx hb hK hP hD hS 2 1 7 7 rfl rfl rfl rfl (by unfold vp_in; decide) dX3_init_99 (fun H123 locs hP hD hS => ?_)
  obtain ⟨f124, ef124⟩ : ∃ z : Nat → Option Nat, z = va_up f117 4 (some q119) := ⟨_, rfl⟩
  have k125 : f124 0 = some q91 := by rw [ef124]; exact (va_up_ne _ _ (by decide)).trans (k118)
  have hP : va_P (dC, dI) vwCl [(rm, .inr (5, [.ref q1, .ref q5, .ref q9, .ref q13, .int 0, .int 0, .int 0, .int (-1), .int 1, .int 0, .int 0, .int 0])), (q1, .inl (cA3, 10, .inr (.inr (.inr (.inr f89))))), (q5, .inl (cA7, 12, .inr (.inr (.inr (.inr f124))))), (q9, .inl (cA11, 6, .inr (.inr (.inr (.inr (fun _ => none)))))), (q13, .inr (2, [.int 0, .int 0, .int 0, .int 0, .int 0, .int (-1), .long 0])), (q21, .inr (3, [.int 0, .int 0, .int 0, .int 0, .int 0, .int 0, .int 0, .int 0, .int 0, .int 0])), (q91, .inr (7, [.int 0, .int 0, .int 0, .int 0, .int 0])), (q119, .inr (7, [.int 0, .int 0, .int 0, .int 0, .int 0]))] H123 := by rw [ef124]; exact hP
  have hD : va_D A [(rm, .inr (5, [.ref q1, .ref q5, .ref q9, .ref q13, .int 0, .int 0, .int 0, .int (-1), .int 1, .int 0, .int 0, .int 0])), (q1, .inl (cA3, 10, .inr (.inr (.inr (.inr f89))))), (q5, .inl (cA7, 12, .inr (.inr (.inr (.inr f124))))), (q9, .inl (cA11, 6, .inr (.inr (.inr (.inr (fun _ => none)))))), (q13, .inr (2, [.int 0, .int 0, .int 0, .int 0, .int 0, .int (-1), .long 0])), (q21, .inr (3, [.int 0, .int 0, .int 0, .int 0, .int 0, .int 0, .int 0, .int 0, .int 0, .int 0])), (q91, .inr (7, [.int 0, .int 0, .int 0, .int 0, .int 0])), (q119, .inr (7, [.int 0, .int 0, .int 0, .int 0, .int 0]))] := by rw [ef124]; exact hD
  have hP := hP.sub (ws' := [(rm, .inr (5, [.ref q1, .ref q5, .ref q9, .ref q13, .int 0, .int 0, .int 0, .int (-1), .int 1, .int 0, .int 0, .int 0])), (q1, .inl (cA3, 10, .inr (.inr (.inr (.inr f89))))), (q5, .inl (cA7, 12, .inr (.inr (.inr (.inr f124))))), (q9, .inl (cA11, 6, .inr (.inr (.inr (.inr (fun _ => none)))))), (q13, .inr (2, [.int 0, .int 0, .int 0, .int 0, .int 0, .int (-1), .long 0])), (q21, .inr (3, [.int 0, .int 0, .int 0, .int 0, .int 0, .int 0, .int 0, .int 0, .int 0, .int 0])), (q91, .inr (7, [.int 0, .int 0, .int 0, .int 0, .int 0]))]) [0, 1, 2, 3, 4, 5, 6] rfl
  have hD := hD.sub (ws' := [(rm, .inr (5, [.ref q1, .ref q5, .ref q9, .ref q13, .int 0, .int 0, .int 0, .int (-1), .int 1, .int 0, .int 0, .int 0])), (q1, .inl (cA3, 10, .inr (.inr (.inr (.inr f89))))), (q5, .inl (cA7, 12, .inr (.inr (.inr (.inr f124))))), (q9, .inl (cA11, 6, .inr (.inr (.inr (.inr (fun _ => none)))))), (q13, .inr (2, [.int 0, .int 0, .int 0, .int 0, .int 0, .int (-1), .long 0])), (q21, .inr (3, [.int 0, .int 0, .int 0, .int 0, .int 0, .int 0, .int 0, .int 0, .int 0, .int 0])), (q91, .inr (7, [.int 0, .int 0, .int 0, .int 0, .int 0]))]) [0, 1, 2, 3, 4, 5, 6] (by decide) rfl
  refine lv_iinc (v := 5) (lv' := [(1, .int 5), (0, .ref rm)]) hx hb dX3_init_100 hl (k := 0) rfl (by decide) (by decide) rfl (fun ls hl => ?_)
  refine lv_goto (tgt := 81) hx hb dX3_init_103 (by decide) ?_
  refine lv_iload_n hx hb dX3_init_81 rfl (lv_at hl 0 rfl) ?_
  refine lv_bipush (v := 12) hx hb dX3_init_82 (by decide) ?_
  refine lv_icmp_ge (tgt := 106) hx hb dX3_init_84 (by decide) (fun h => absurd h (by decide)) (fun _ => ?_)
  refine lv_aload_n hx hb dX3_init_87 rfl (lv_at hl 1 rfl) ?_
  refine va_get (D := (dC, dI)) (ci := 5) (v := .ref q5) (C := RX3) (T := TX3) (N := 12) hx hb hts zi_X3_init_X3 hown hK hP 0 rfl rfl 1 (by decide) (hts (.fieldLink RX3 19 "LockRooms$Room" "things" "[LLockRooms$Thing;") (by decide +kernel)) (fun _ h9 => h9) rfl dX3_init_88 ?_
  refine lv_iload_n hx hb dX3_init_91 rfl (lv_at hl 0 rfl) ?_
  refine va_new (ci := 7) (fs := [.int 0, .int 0, .int 0, .int 0, .int 0]) (C := RX5) (T := TX5) (N := 5) hx hb hts zi_X3_init_X5 tyX5 tyX5_ok hown (hts (.classLink RX3 17 RX5) (by decide +kernel)) (hts (.instantiable RX5 5) (by decide +kernel)) (hts (.initialized RX5) (by decide +kernel)) hK hP hD hS hA rfl (fun j hj => by rcases (show j = 0 ∨ j = 1 ∨ j = 2 ∨ j = 3 ∨ j = 4 by omega) with rfl | rfl | rfl | rfl | rfl <;> rfl) (Nat.le_of_ble_eq_true rfl) (Nat.le_of_ble_eq_true rfl) dX3_init_92 (fun q126 H127 hP hD hS => ?_)
  have hP : va_P (dC, dI) vwCl [(rm, .inr (5, [.ref q1, .ref q5, .ref q9, .ref q13, .int 0, .int 0, .int 0, .int (-1), .int 1, .int 0, .int 0, .int 0])), (q1, .inl (cA3, 10, .inr (.inr (.inr (.inr f89))))), (q5, .inl (cA7, 12, .inr (.inr (.inr (.inr f124))))), (q9, .inl (cA11, 6, .inr (.inr (.inr (.inr (fun _ => none)))))), (q13, .inr (2, [.int 0, .int 0, .int 0, .int 0, .int 0, .int (-1), .long 0])), (q21, .inr (3, [.int 0, .int 0, .int 0, .int 0, .int 0, .int 0, .int 0, .int 0, .int 0, .int 0])), (q91, .inr (7, [.int 0, .int 0, .int 0, .int 0, .int 0])), (q126, .inr (7, [.int 0, .int 0, .int 0, .int 0, .int 0]))] H127 := hP
  have hD : va_D A [(rm, .inr (5, [.ref q1, .ref q5, .ref q9, .ref q13, .int 0, .int 0, .int 0, .int (-1), .int 1, .int 0, .int 0, .int 0])), (q1, .inl (cA3, 10, .inr (.inr (.inr (.inr f89))))), (q5, .inl (cA7, 12, .inr (.inr (.inr (.inr f124))))), (q9, .inl (cA11, 6, .inr (.inr (.inr (.inr (fun _ => none)))))), (q13, .inr (2, [.int 0, .int 0, .int 0, .int 0, .int 0, .int (-1), .long 0])), (q21, .inr (3, [.int 0, .int 0, .int 0, .int 0, .int 0, .int 0, .int 0, .int 0, .int 0, .int 0])), (q91, .inr (7, [.int 0, .int 0, .int 0, .int 0, .int 0])), (q126, .inr (7, [.int 0, .int 0, .int 0, .int 0, .int 0]))] := hD
  refine lv_dup hx hb dX3_init_95 rfl ?_
  have hPr := (zo_nil : va_P (dC, dI) vwCl [] H127)
  have hPc := hP.sub (ws' := []) [] rfl
  have hDc := hD.sub (ws' := []) [] (by decide) rfl
  have hKc := hK.sub (tys' := []) [] rfl
  have hFc := va_free (wc := []) hD hS hA [] rfl
  refine va_callv (va_runIN (As := []) (rest := [.ref q126, .int 5, .ref q5]) ⟨hx, hb, hml, hown, hts⟩ (cz_X5_init l dC dI ed H127.size q126) ⟨(va_cnB 0 hts gX3_init_X5_init_n45 rfl rfl rfl (hN.2.1 ("LockRooms$Room", 45, yX5_init, "LockRooms") (List.mem_of_getElem? (i := 2) rfl)) (hts (.initialized RX5) (by decide +kernel)) (by decide +kernel) ⟨Nat.le_of_ble_eq_true rfl, Nat.le_of_ble_eq_true rfl⟩), rfl, (hts (.instanceMethod yX5_init) (by decide +kernel))⟩ ⟨zb_blind, fun U hU hW => ⟨rfl, zb_mk hU hW hPr hPc hKc hDc hN hH hS hFc zx_e⟩⟩ rfl rfl hl.1 rfl (lv_room (Nat.le_of_ble_eq_true rfl)) dX3_init_96 ⟨Nat.le_of_ble_eq_true rfl, Nat.le_of_ble_eq_true rfl⟩) hS (fun q _ h => hFc q h) hFc (fun u t H128 locs ht hvm hw hB hz1 hk1 hS => ?_)
  have hP := zo_K hP hk1
  refine va_astq hx hb hK hP hD hS 2 1 7 7 rfl rfl rfl rfl (by unfold vp_in; decide) dX3_init_99 (fun H130 locs hP hD hS => ?_)
  obtain ⟨f131, ef131⟩ : ∃ z : Nat → Option Nat, z = va_up f124 5 (some q126) := ⟨_, rfl⟩
  have k132 : f131 0 = some q91 := by rw [ef131]; exact (va_up_ne _ _ (by decide)).trans (k125)
  have hP : va_P (dC, dI) vwCl [(rm, .inr (5, [.ref q1, .ref q5, .ref q9, .ref q13, .int 0, .int 0, .int 0, .int (-1), .int 1, .int 0, .int 0, .int 0])), (q1, .inl (cA3, 10, .inr (.inr (.inr (.inr f89))))), (q5, .inl (cA7, 12, .inr (.inr (.inr (.inr f131))))), (q9, .inl (cA11, 6, .inr (.inr (.inr (.inr (fun _ => none)))))), (q13, .inr (2, [.int 0, .int 0, .int 0, .int 0, .int 0, .int (-1), .long 0])), (q21, .inr (3, [.int 0, .int 0, .int 0, .int 0, .int 0, .int 0, .int 0, .int 0, .int 0, .int 0])), (q91, .inr (7, [.int 0, .int 0, .int 0, .int 0, .int 0])), (q126, .inr (7, [.int 0, .int 0, .int 0, .int 0, .int 0]))] H130 := by rw [ef131]; exact hP
  have hD : va_D A [(rm, .inr (5, [.ref q1, .ref q5, .ref q9, .ref q13, .int 0, .int 0, .int 0, .int (-1), .int 1, .int 0, .int 0, .int 0])), (q1, .inl (cA3, 10, .inr (.inr (.inr (.inr f89))))), (q5, .inl (cA7, 12, .inr (.inr (.inr (.inr f131))))), (q9, .inl (cA11, 6, .inr (.inr (.inr (.inr (fun _ => none)))))), (q13, .inr (2, [.int 0, .int 0, .int 0, .int 0, .int 0, .int (-1), .long 0])), (q21, .inr (3, [.int 0, .int 0, .int 0, .int 0, .int 0, .int 0, .int 0, .int 0, .int 0, .int 0])), (q91, .inr (7, [.int 0, .int 0, .int 0, .int 0, .int 0])), (q126, .inr (7, [.int 0, .int 0, .int 0, .int 0, .int 0]))] := by rw [ef131]; exact hD
  have hP := hP.sub (ws' := [(rm, .inr (5, [.ref q1, .ref q5, .ref q9, .ref q13, .int 0, .int 0, .int 0, .int (-1), .int 1, .int 0, .int 0, .int 0])), (q1, .inl (cA3, 10, .inr (.inr (.inr (.inr f89))))), (q5, .inl (cA7, 12, .inr (.inr (.inr (.inr f131))))), (q9, .inl (cA11, 6, .inr (.inr (.inr (.inr (fun _ => none)))))), (q13, .inr (2, [.int 0, .int 0, .int 0, .int 0, .int 0, .int (-1), .long 0])), (q21, .inr (3, [.int 0, .int 0, .int 0, .int 0, .int 0, .int 0, .int 0, .int 0, .int 0, .int 0])), (q91, .inr (7, [.int 0, .int 0, .int 0, .int 0, .int 0]))]) [0, 1, 2, 3, 4, 5, 6] rfl
  have hD := hD.sub (ws' := [(rm, .inr (5, [.ref q1, .ref q5, .ref q9, .ref q13, .int 0, .int 0, .int 0, .int (-1), .int 1, .int 0, .int 0, .int 0])), (q1, .inl (cA3, 10, .inr (.inr (.inr (.inr f89))))), (q5, .inl (cA7, 12, .inr (.inr (.inr (.inr f131))))), (q9, .inl (cA11, 6, .inr (.inr (.inr (.inr (fun _ => none)))))), (q13, .inr (2, [.int 0, .int 0, .int 0, .int 0, .int 0, .int (-1), .long 0])), (q21, .inr (3, [.int 0, .int 0, .int 0, .int 0, .int 0, .int 0, .int 0, .int 0, .int 0, .int 0])), (q91, .inr (7, [.int 0, .int 0, .int 0, .int 0, .int 0]))]) [0, 1, 2, 3, 4, 5, 6] (by decide) rfl
  refine lv_iinc (v := 6) (lv' := [(1, .int 6), (0, .ref rm)]) hx hb dX3_init_100 hl (k := 0) rfl (by decide) (by decide) rfl (fun ls hl => ?_)
  refine lv_goto (tgt := 81) hx hb dX3_init_103 (by decide) ?_
  refine lv_iload_n hx hb dX3_init_81 rfl (lv_at hl 0 rfl) ?_
  refine lv_bipush (v := 12) hx hb dX3_init_82 (by decide) ?_
  refine lv_icmp_ge (tgt := 106) hx hb dX3_init_84 (by decide) (fun h => absurd h (by decide)) (fun _ => ?_)
  refine lv_aload_n hx hb dX3_init_87 rfl (lv_at hl 1 rfl) ?_
  refine va_get (D := (dC, dI)) (ci := 5) (v := .ref q5) (C := RX3) (T := TX3) (N := 12) hx hb hts zi_X3_init_X3 hown hK hP 0 rfl rfl 1 (by decide) (hts (.fieldLink RX3 19 "LockRooms$Room" "things" "[LLockRooms$Thing;") (by decide +kernel)) (fun _ h9 => h9) rfl dX3_init_88 ?_
  refine lv_iload_n hx hb dX3_init_91 rfl (lv_at hl 0 rfl) ?_
  refine va_new (ci := 7) (fs := [.int 0, .int 0, .int 0, .int 0, .int 0]) (C := RX5) (T := TX5) (N := 5) hx hb hts zi_X3_init_X5 tyX5 tyX5_ok hown (hts (.classLink RX3 17 RX5) (by decide +kernel)) (hts (.instantiable RX5 5) (by decide +kernel)) (hts (.initialized RX5) (by decide +kernel)) hK hP hD hS hA rfl (fun j hj => by rcases (show j = 0 ∨ j = 1 ∨ j = 2 ∨ j = 3 ∨ j = 4 by omega) with rfl | rfl | rfl | rfl | rfl <;> rfl) (Nat.le_of_ble_eq_true rfl) (Nat.le_of_ble_eq_true rfl) dX3_init_92 (fun q133 H134 hP hD hS => ?_)
  have hP : va_P (dC, dI) vwCl [(rm, .inr (5, [.ref q1, .ref q5, .ref q9, .ref q13, .int 0, .int 0, .int 0, .int (-1), .int 1, .int 0, .int 0, .int 0])), (q1, .inl (cA3, 10, .inr (.inr (.inr (.inr f89))))), (q5, .inl (cA7, 12, .inr (.inr (.inr (.inr f131))))), (q9, .inl (cA11, 6, .inr (.inr (.inr (.inr (fun _ => none)))))), (q13, .inr (2, [.int 0, .int 0, .int 0, .int 0, .int 0, .int (-1), .long 0])), (q21, .inr (3, [.int 0, .int 0, .int 0, .int 0, .int 0, .int 0, .int 0, .int 0, .int 0, .int 0])), (q91, .inr (7, [.int 0, .int 0, .int 0, .int 0, .int 0])), (q133, .inr (7, [.int 0, .int 0, .int 0, .int 0, .int 0]))] H134 := hP
  have hD : va_D A [(rm, .inr (5, [.ref q1, .ref q5, .ref q9, .ref q13, .int 0, .int 0, .int 0, .int (-1), .int 1, .int 0, .int 0, .int 0])), (q1, .inl (cA3, 10, .inr (.inr (.inr (.inr f89))))), (q5, .inl (cA7, 12, .inr (.inr (.inr (.inr f131))))), (q9, .inl (cA11, 6, .inr (.inr (.inr (.inr (fun _ => none)))))), (q13, .inr (2, [.int 0, .int 0, .int 0, .int 0, .int 0, .int (-1), .long 0])), (q21, .inr (3, [.int 0, .int 0, .int 0, .int 0, .int 0, .int 0, .int 0, .int 0, .int 0, .int 0])), (q91, .inr (7, [.int 0, .int 0, .int 0, .int 0, .int 0])), (q133, .inr (7, [.int 0, .int 0, .int 0, .int 0, .int 0]))] := hD
  refine lv_dup hx hb dX3_init_95 rfl ?_
  have hPr := (zo_nil : va_P (dC, dI) vwCl [] H134)
  have hPc := hP.sub (ws' := []) [] rfl
  have hDc := hD.sub (ws' := []) [] (by decide) rfl
  have hKc := hK.sub (tys' := []) [] rfl
  have hFc := va_free (wc := []) hD hS hA [] rfl
  refine va_callv (va_runIN (As := []) (rest := [.ref q133, .int 6, .ref q5]) ⟨hx, hb, hml, hown, hts⟩ (cz_X5_init l dC dI ed H134.size q133) ⟨(va_cnB 0 hts gX3_init_X5_init_n45 rfl rfl rfl (hN.2.1 ("LockRooms$Room", 45, yX5_init, "LockRooms") (List.mem_of_getElem? (i := 2) rfl)) (hts (.initialized RX5) (by decide +kernel)) (by decide +kernel) ⟨Nat.le_of_ble_eq_true rfl, Nat.le_of_ble_eq_true rfl⟩), rfl, (hts (.instanceMethod yX5_init) (by decide +kernel))⟩ ⟨zb_blind, fun U hU hW => ⟨rfl, zb_mk hU hW hPr hPc hKc hDc hN hH hS hFc zx_e⟩⟩ rfl rfl hl.1 rfl (lv_room (Nat.le_of_ble_eq_true rfl)) dX3_init_96 ⟨Nat.le_of_ble_eq_true rfl, Nat.le_of_ble_eq_true rfl⟩) hS (fun q _ h => hFc q h) hFc (fun u t H135 locs ht hvm hw hB hz1 hk1 hS => ?_)
  have hP := zo_K hP hk1
  refine va_astq hx hb hK hP hD hS 2 1 7 7 rfl rfl rfl rfl (by unfold vp_in; decide) dX3_init_99 (fun H137 locs hP hD hS => ?_)
  obtain ⟨f138, ef138⟩ : ∃ z : Nat → Option Nat, z = va_up f131 6 (some q133) := ⟨_, rfl⟩
  have k139 : f138 0 = some q91 := by rw [ef138]; exact (va_up_ne _ _ (by decide)).trans (k132)
  have hP : va_P (dC, dI) vwCl [(rm, .inr (5, [.ref q1, .ref q5, .ref q9, .ref q13, .int 0, .int 0, .int 0, .int (-1), .int 1, .int 0, .int 0, .int 0])), (q1, .inl (cA3, 10, .inr (.inr (.inr (.inr f89))))), (q5, .inl (cA7, 12, .inr (.inr (.inr (.inr f138))))), (q9, .inl (cA11, 6, .inr (.inr (.inr (.inr (fun _ => none)))))), (q13, .inr (2, [.int 0, .int 0, .int 0, .int 0, .int 0, .int (-1), .long 0])), (q21, .inr (3, [.int 0, .int 0, .int 0, .int 0, .int 0, .int 0, .int 0, .int 0, .int 0, .int 0])), (q91, .inr (7, [.int 0, .int 0, .int 0, .int 0, .int 0])), (q133, .inr (7, [.int 0, .int 0, .int 0, .int 0, .int 0]))] H137 := by rw [ef138]; exact hP
  have hD : va_D A [(rm, .inr (5, [.ref q1, .ref q5, .ref q9, .ref q13, .int 0, .int 0, .int 0, .int (-1), .int 1, .int 0, .int 0, .int 0])), (q1, .inl (cA3, 10, .inr (.inr (.inr (.inr f89))))), (q5, .inl (cA7, 12, .inr (.inr (.inr (.inr f138))))), (q9, .inl (cA11, 6, .inr (.inr (.inr (.inr (fun _ => none)))))), (q13, .inr (2, [.int 0, .int 0, .int 0, .int 0, .int 0, .int (-1), .long 0])), (q21, .inr (3, [.int 0, .int 0, .int 0, .int 0, .int 0, .int 0, .int 0, .int 0, .int 0, .int 0])), (q91, .inr (7, [.int 0, .int 0, .int 0, .int 0, .int 0])), (q133, .inr (7, [.int 0, .int 0, .int 0, .int 0, .int 0]))] := by rw [ef138]; exact hD
  have hP := hP.sub (ws' := [(rm, .inr (5, [.ref q1, .ref q5, .ref q9, .ref q13, .int 0, .int 0, .int 0, .int (-1), .int 1, .int 0, .int 0, .int 0])), (q1, .inl (cA3, 10, .inr (.inr (.inr (.inr f89))))), (q5, .inl (cA7, 12, .inr (.inr (.inr (.inr f138))))), (q9, .inl (cA11, 6, .inr (.inr (.inr (.inr (fun _ => none)))))), (q13, .inr (2, [.int 0, .int 0, .int 0, .int 0, .int 0, .int (-1), .long 0])), (q21, .inr (3, [.int 0, .int 0, .int 0, .int 0, .int 0, .int 0, .int 0, .int 0, .int 0, .int 0])), (q91, .inr (7, [.int 0, .int 0, .int 0, .int 0, .int 0]))]) [0, 1, 2, 3, 4, 5, 6] rfl
  have hD := hD.sub (ws' := [(rm, .inr (5, [.ref q1, .ref q5, .ref q9, .ref q13, .int 0, .int 0, .int 0, .int (-1), .int 1, .int 0, .int 0, .int 0])), (q1, .inl (cA3, 10, .inr (.inr (.inr (.inr f89))))), (q5, .inl (cA7, 12, .inr (.inr (.inr (.inr f138))))), (q9, .inl (cA11, 6, .inr (.inr (.inr (.inr (fun _ => none)))))), (q13, .inr (2, [.int 0, .int 0, .int 0, .int 0, .int 0, .int (-1), .long 0])), (q21, .inr (3, [.int 0, .int 0, .int 0, .int 0, .int 0, .int 0, .int 0, .int 0, .int 0, .int 0])), (q91, .inr (7, [.int 0, .int 0, .int 0, .int 0, .int 0]))]) [0, 1, 2, 3, 4, 5, 6] (by decide) rfl
  refine lv_iinc (v := 7) (lv' := [(1, .int 7), (0, .ref rm)]) hx hb dX3_init_100 hl (k := 0) rfl (by decide) (by decide) rfl (fun ls hl => ?_)
  refine lv_goto (tgt := 81) hx hb dX3_init_103 (by decide) ?_
  refine lv_iload_n hx hb dX3_init_81 rfl (lv_at hl 0 rfl) ?_
  refine lv_bipush (v := 12) hx hb dX3_init_82 (by decide) ?_
  refine lv_icmp_ge (tgt := 106) hx hb dX3_init_84 (by decide) (fun h => absurd h (by decide)) (fun _ => ?_)
  refine lv_aload_n hx hb dX3_init_87 rfl (lv_at hl 1 rfl) ?_
  refine va_get (D := (dC, dI)) (ci := 5) (v := .ref q5) (C := RX3) (T := TX3) (N := 12) hx hb hts zi_X3_init_X3 hown hK hP 0 rfl rfl 1 (by decide) (hts (.fieldLink RX3 19 "LockRooms$Room" "things" "[LLockRooms$Thing;") (by decide +kernel)) (fun _ h9 => h9) rfl dX3_init_88 ?_
  refine lv_iload_n hx hb dX3_init_91 rfl (lv_at hl 0 rfl) ?_
  refine va_new (ci := 7) (fs := [.int 0, .int 0, .int 0, .int 0, .int 0]) (C := RX5) (T := TX5) (N := 5) hx hb hts zi_X3_init_X5 tyX5 tyX5_ok hown (hts (.classLink RX3 17 RX5) (by decide +kernel)) (hts (.instantiable RX5 5) (by decide +kernel)) (hts (.initialized RX5) (by decide +kernel)) hK hP hD hS hA rfl (fun j hj => by rcases (show j = 0 ∨ j = 1 ∨ j = 2 ∨ j = 3 ∨ j = 4 by omega) with rfl | rfl | rfl | rfl | rfl <;> rfl) (Nat.le_of_ble_eq_true rfl) (Nat.le_of_ble_eq_true rfl) dX3_init_92 (fun q140 H141 hP hD hS => ?_)
  have hP : va_P (dC, dI) vwCl [(rm, .inr (5, [.ref q1, .ref q5, .ref q9, .ref q13, .int 0, .int 0, .int 0, .int (-1), .int 1, .int 0, .int 0, .int 0])), (q1, .inl (cA3, 10, .inr (.inr (.inr (.inr f89))))), (q5, .inl (cA7, 12, .inr (.inr (.inr (.inr f138))))), (q9, .inl (cA11, 6, .inr (.inr (.inr (.inr (fun _ => none)))))), (q13, .inr (2, [.int 0, .int 0, .int 0, .int 0, .int 0, .int (-1), .long 0])), (q21, .inr (3, [.int 0, .int 0, .int 0, .int 0, .int 0, .int 0, .int 0, .int 0, .int 0, .int 0])), (q91, .inr (7, [.int 0, .int 0, .int 0, .int 0, .int 0])), (q140, .inr (7, [.int 0, .int 0, .int 0, .int 0, .int 0]))] H141 := hP
  have hD : va_D A [(rm, .inr (5, [.ref q1, .ref q5, .ref q9, .ref q13, .int 0, .int 0, .int 0, .int (-1), .int 1, .int 0, .int 0, .int 0])), (q1, .inl (cA3, 10, .inr (.inr (.inr (.inr f89))))), (q5, .inl (cA7, 12, .inr (.inr (.inr (.inr f138))))), (q9, .inl (cA11, 6, .inr (.inr (.inr (.inr (fun _ => none)))))), (q13, .inr (2, [.int 0, .int 0, .int 0, .int 0, .int 0, .int (-1), .long 0])), (q21, .inr (3, [.int 0, .int 0, .int 0, .int 0, .int 0, .int 0, .int 0, .int 0, .int 0, .int 0])), (q91, .inr (7, [.int 0, .int 0, .int 0, .int 0, .int 0])), (q140, .inr (7, [.int 0, .int 0, .int 0, .int 0, .int 0]))] := hD
  refine lv_dup hx hb dX3_init_95 rfl ?_
  have hPr := (zo_nil : va_P (dC, dI) vwCl [] H141)
  have hPc := hP.sub (ws' := []) [] rfl
  have hDc := hD.sub (ws' := []) [] (by decide) rfl
  have hKc := hK.sub (tys' := []) [] rfl
  have hFc := va_free (wc := []) hD hS hA [] rfl
  refine va_callv (va_runIN (As := []) (rest := [.ref q140, .int 7, .ref q5]) ⟨hx, hb, hml, hown, hts⟩ (cz_X5_init l dC dI ed H141.size q140) ⟨(va_cnB 0 hts gX3_init_X5_init_n45 rfl rfl rfl (hN.2.1 ("LockRooms$Room", 45, yX5_init, "LockRooms") (List.mem_of_getElem? (i := 2) rfl)) (hts (.initialized RX5) (by decide +kernel)) (by decide +kernel) ⟨Nat.le_of_ble_eq_true rfl, Nat.le_of_ble_eq_true rfl⟩), rfl, (hts (.instanceMethod yX5_init) (by decide +kernel))⟩ ⟨zb_blind, fun U hU hW => ⟨rfl, zb_mk hU hW hPr hPc hKc hDc hN hH hS hFc zx_e⟩⟩ rfl rfl hl.1 rfl (lv_room (Nat.le_of_ble_eq_true rfl)) dX3_init_96 ⟨Nat.le_of_ble_eq_true rfl, Nat.le_of_ble_eq_true rfl⟩) hS (fun q _ h => hFc q h) hFc (fun u t H142 locs ht hvm hw hB hz1 hk1 hS => ?_)
  have hP := zo_K hP hk1
  refine va_astq hx hb hK hP hD hS 2 1 7 7 rfl rfl rfl rfl (by unfold vp_in; decide) dX3_init_99 (fun H144 locs hP hD hS => ?_)
  obtain ⟨f145, ef145⟩ : ∃ z : Nat → Option Nat, z = va_up f138 7 (some q140) := ⟨_, rfl⟩
  have k146 : f145 0 = some q91 := by rw [ef145]; exact (va_up_ne _ _ (by decide)).trans (k139)
  have hP : va_P (dC, dI) vwCl [(rm, .inr (5, [.ref q1, .ref q5, .ref q9, .ref q13, .int 0, .int 0, .int 0, .int (-1), .int 1, .int 0, .int 0, .int 0])), (q1, .inl (cA3, 10, .inr (.inr (.inr (.inr f89))))), (q5, .inl (cA7, 12, .inr (.inr (.inr (.inr f145))))), (q9, .inl (cA11, 6, .inr (.inr (.inr (.inr (fun _ => none)))))), (q13, .inr (2, [.int 0, .int 0, .int 0, .int 0, .int 0, .int (-1), .long 0])), (q21, .inr (3, [.int 0, .int 0, .int 0, .int 0, .int 0, .int 0, .int 0, .int 0, .int 0, .int 0])), (q91, .inr (7, [.int 0, .int 0, .int 0, .int 0, .int 0])), (q140, .inr (7, [.int 0, .int 0, .int 0, .int 0, .int 0]))] H144 := by rw [ef145]; exact hP
  have hD : va_D A [(rm, .inr (5, [.ref q1, .ref q5, .ref q9, .ref q13, .int 0, .int 0, .int 0, .int (-1), .int 1, .int 0, .int 0, .int 0])), (q1, .inl (cA3, 10, .inr (.inr (.inr (.inr f89))))), (q5, .inl (cA7, 12, .inr (.inr (.inr (.inr f145))))), (q9, .inl (cA11, 6, .inr (.inr (.inr (.inr (fun _ => none)))))), (q13, .inr (2, [.int 0, .int 0, .int 0, .int 0, .int 0, .int (-1), .long 0])), (q21, .inr (3, [.int 0, .int 0, .int 0, .int 0, .int 0, .int 0, .int 0, .int 0, .int 0, .int 0])), (q91, .inr (7, [.int 0, .int 0, .int 0, .int 0, .int 0])), (q140, .inr (7, [.int 0, .int 0, .int 0, .int 0, .int 0]))] := by rw [ef145]; exact hD
  have hP := hP.sub (ws' := [(rm, .inr (5, [.ref q1, .ref q5, .ref q9, .ref q13, .int 0, .int 0, .int 0, .int (-1), .int 1, .int 0, .int 0, .int 0])), (q1, .inl (cA3, 10, .inr (.inr (.inr (.inr f89))))), (q5, .inl (cA7, 12, .inr (.inr (.inr (.inr f145))))), (q9, .inl (cA11, 6, .inr (.inr (.inr (.inr (fun _ => none)))))), (q13, .inr (2, [.int 0, .int 0, .int 0, .int 0, .int 0, .int (-1), .long 0])), (q21, .inr (3, [.int 0, .int 0, .int 0, .int 0, .int 0, .int 0, .int 0, .int 0, .int 0, .int 0])), (q91, .inr (7, [.int 0, .int 0, .int 0, .int 0, .int 0]))]) [0, 1, 2, 3, 4, 5, 6] rfl
  have hD := hD.sub (ws' := [(rm, .inr (5, [.ref q1, .ref q5, .ref q9, .ref q13, .int 0, .int 0, .int 0, .int (-1), .int 1, .int 0, .int 0, .int 0])), (q1, .inl (cA3, 10, .inr (.inr (.inr (.inr f89))))), (q5, .inl (cA7, 12, .inr (.inr (.inr (.inr f145))))), (q9, .inl (cA11, 6, .inr (.inr (.inr (.inr (fun _ => none)))))), (q13, .inr (2, [.int 0, .int 0, .int 0, .int 0, .int 0, .int (-1), .long 0])), (q21, .inr (3, [.int 0, .int 0, .int 0, .int 0, .int 0, .int 0, .int 0, .int 0, .int 0, .int 0])), (q91, .inr (7, [.int 0, .int 0, .int 0, .int 0, .int 0]))]) [0, 1, 2, 3, 4, 5, 6] (by decide) rfl
  refine lv_iinc (v := 8) (lv' := [(1, .int 8), (0, .ref rm)]) hx hb dX3_init_100 hl (k := 0) rfl (by decide) (by decide) rfl (fun ls hl => ?_)
  refine lv_goto (tgt := 81) hx hb dX3_init_103 (by decide) ?_
  refine lv_iload_n hx hb dX3_init_81 rfl (lv_at hl 0 rfl) ?_
  refine lv_bipush (v := 12) hx hb dX3_init_82 (by decide) ?_
  refine lv_icmp_ge (tgt := 106) hx hb dX3_init_84 (by decide) (fun h => absurd h (by decide)) (fun _ => ?_)
  refine lv_aload_n hx hb dX3_init_87 rfl (lv_at hl 1 rfl) ?_
  refine va_get (D := (dC, dI)) (ci := 5) (v := .ref q5) (C := RX3) (T := TX3) (N := 12) hx hb hts zi_X3_init_X3 hown hK hP 0 rfl rfl 1 (by decide) (hts (.fieldLink RX3 19 "LockRooms$Room" "things" "[LLockRooms$Thing;") (by decide +kernel)) (fun _ h9 => h9) rfl dX3_init_88 ?_
  refine lv_iload_n hx hb dX3_init_91 rfl (lv_at hl 0 rfl) ?_
  refine va_new (ci := 7) (fs := [.int 0, .int 0, .int 0, .int 0, .int 0]) (C := RX5) (T := TX5) (N := 5) hx hb hts zi_X3_init_X5 tyX5 tyX5_ok hown (hts (.classLink RX3 17 RX5) (by decide +kernel)) (hts (.instantiable RX5 5) (by decide +kernel)) (hts (.initialized RX5) (by decide +kernel)) hK hP hD hS hA rfl (fun j hj => by rcases (show j = 0 ∨ j = 1 ∨ j = 2 ∨ j = 3 ∨ j = 4 by omega) with rfl | rfl | rfl | rfl | rfl <;> rfl) (Nat.le_of_ble_eq_true rfl) (Nat.le_of_ble_eq_true rfl) dX3_init_92 (fun q147 H148 hP hD hS => ?_)
  have hP : va_P (dC, dI) vwCl [(rm, .inr (5, [.ref q1, .ref q5, .ref q9, .ref q13, .int 0, .int 0, .int 0, .int (-1), .int 1, .int 0, .int 0, .int 0])), (q1, .inl (cA3, 10, .inr (.inr (.inr (.inr f89))))), (q5, .inl (cA7, 12, .inr (.inr (.inr (.inr f145))))), (q9, .inl (cA11, 6, .inr (.inr (.inr (.inr (fun _ => none)))))), (q13, .inr (2, [.int 0, .int 0, .int 0, .int 0, .int 0, .int (-1), .long 0])), (q21, .inr (3, [.int 0, .int 0, .int 0, .int 0, .int 0, .int 0, .int 0, .int 0, .int 0, .int 0])), (q91, .inr (7, [.int 0, .int 0, .int 0, .int 0, .int 0])), (q147, .inr (7, [.int 0, .int 0, .int 0, .int 0, .int 0]))] H148 := hP
  have hD : va_D A [(rm, .inr (5, [.ref q1, .ref q5, .ref q9, .ref q13, .int 0, .int 0, .int 0, .int (-1), .int 1, .int 0, .int 0, .int 0])), (q1, .inl (cA3, 10, .inr (.inr (.inr (.inr f89))))), (q5, .inl (cA7, 12, .inr (.inr (.inr (.inr f145))))), (q9, .inl (cA11, 6, .inr (.inr (.inr (.inr (fun _ => none)))))), (q13, .inr (2, [.int 0, .int 0, .int 0, .int 0, .int 0, .int (-1), .long 0])), (q21, .inr (3, [.int 0, .int 0, .int 0, .int 0, .int 0, .int 0, .int 0, .int 0, .int 0, .int 0])), (q91, .inr (7, [.int 0, .int 0, .int 0, .int 0, .int 0])), (q147, .inr (7, [.int 0, .int 0, .int 0, .int 0, .int 0]))] := hD
  refine lv_dup hx hb dX3_init_95 rfl ?_
  have hPr := (zo_nil : va_P (dC, dI) vwCl [] H148)
  have hPc := hP.sub (ws' := []) [] rfl
  have hDc := hD.sub (ws' := []) [] (by decide) rfl
  have hKc := hK.sub (tys' := []) [] rfl
  have hFc := va_free (wc := []) hD hS hA [] rfl
  refine va_callv (va_runIN (As := []) (rest := [.ref q147, .int 8, .ref q5]) ⟨hx, hb, hml, hown, hts⟩ (cz_X5_init l dC dI ed H148.size q147) ⟨(va_cnB 0 hts gX3_init_X5_init_n45 rfl rfl rfl (hN.2.1 ("LockRooms$Room", 45, yX5_init, "LockRooms") (List.mem_of_getElem? (i := 2) rfl)) (hts (.initialized RX5) (by decide +kernel)) (by decide +kernel) ⟨Nat.le_of_ble_eq_true rfl, Nat.le_of_ble_eq_true rfl⟩), rfl, (hts (.instanceMethod yX5_init) (by decide +kernel))⟩ ⟨zb_blind, fun U hU hW => ⟨rfl, zb_mk hU hW hPr hPc hKc hDc hN hH hS hFc zx_e⟩⟩ rfl rfl hl.1 rfl (lv_room (Nat.le_of_ble_eq_true rfl)) dX3_init_96 ⟨Nat.le_of_ble_eq_true rfl, Nat.le_of_ble_eq_true rfl⟩) hS (fun q _ h => hFc q h) hFc (fun u t H149 locs ht hvm hw hB hz1 hk1 hS => ?_)
  have hP := zo_K hP hk1
  refine va_astq hx hb hK hP hD hS 2 1 7 7 rfl rfl rfl rfl (by unfold vp_in; decide) dX3_init_99 (fun H151 locs hP hD hS => ?_)
  obtain ⟨f152, ef152⟩ : ∃ z : Nat → Option Nat, z = va_up f145 8 (some q147) := ⟨_, rfl⟩
  have k153 : f152 0 = some q91 := by rw [ef152]; exact (va_up_ne _ _ (by decide)).trans (k146)
  have hP : va_P (dC, dI) vwCl [(rm, .inr (5, [.ref q1, .ref q5, .ref q9, .ref q13, .int 0, .int 0, .int 0, .int (-1), .int 1, .int 0, .int 0, .int 0])), (q1, .inl (cA3, 10, .inr (.inr (.inr (.inr f89))))), (q5, .inl (cA7, 12, .inr (.inr (.inr (.inr f152))))), (q9, .inl (cA11, 6, .inr (.inr (.inr (.inr (fun _ => none)))))), (q13, .inr (2, [.int 0, .int 0, .int 0, .int 0, .int 0, .int (-1), .long 0])), (q21, .inr (3, [.int 0, .int 0, .int 0, .int 0, .int 0, .int 0, .int 0, .int 0, .int 0, .int 0])), (q91, .inr (7, [.int 0, .int 0, .int 0, .int 0, .int 0])), (q147, .inr (7, [.int 0, .int 0, .int 0, .int 0, .int 0]))] H151 := by rw [ef152]; exact hP
  have hD : va_D A [(rm, .inr (5, [.ref q1, .ref q5, .ref q9, .ref q13, .int 0, .int 0, .int 0, .int (-1), .int 1, .int 0, .int 0, .int 0])), (q1, .inl (cA3, 10, .inr (.inr (.inr (.inr f89))))), (q5, .inl (cA7, 12, .inr (.inr (.inr (.inr f152))))), (q9, .inl (cA11, 6, .inr (.inr (.inr (.inr (fun _ => none)))))), (q13, .inr (2, [.int 0, .int 0, .int 0, .int 0, .int 0, .int (-1), .long 0])), (q21, .inr (3, [.int 0, .int 0, .int 0, .int 0, .int 0, .int 0, .int 0, .int 0, .int 0, .int 0])), (q91, .inr (7, [.int 0, .int 0, .int 0, .int 0, .int 0])), (q147, .inr (7, [.int 0, .int 0, .int 0, .int 0, .int 0]))] := by rw [ef152]; exact hD
  have hP := hP.sub (ws' := [(rm, .inr (5, [.ref q1, .ref q5, .ref q9, .ref q13, .int 0, .int 0, .int 0, .int (-1), .int 1, .int 0, .int 0, .int 0])), (q1, .inl (cA3, 10, .inr (.inr (.inr (.inr f89))))), (q5, .inl (cA7, 12, .inr (.inr (.inr (.inr f152))))), (q9, .inl (cA11, 6, .inr (.inr (.inr (.inr (fun _ => none)))))), (q13, .inr (2, [.int 0, .int 0, .int 0, .int 0, .int 0, .int (-1), .long 0])), (q21, .inr (3, [.int 0, .int 0, .int 0, .int 0, .int 0, .int 0, .int 0, .int 0, .int 0, .int 0])), (q91, .inr (7, [.int 0, .int 0, .int 0, .int 0, .int 0]))]) [0, 1, 2, 3, 4, 5, 6] rfl
  have hD := hD.sub (ws' := [(rm, .inr (5, [.ref q1, .ref q5, .ref q9, .ref q13, .int 0, .int 0, .int 0, .int (-1), .int 1, .int 0, .int 0, .int 0])), (q1, .inl (cA3, 10, .inr (.inr (.inr (.inr f89))))), (q5, .inl (cA7, 12, .inr (.inr (.inr (.inr f152))))), (q9, .inl (cA11, 6, .inr (.inr (.inr (.inr (fun _ => none)))))), (q13, .inr (2, [.int 0, .int 0, .int 0, .int 0, .int 0, .int (-1), .long 0])), (q21, .inr (3, [.int 0, .int 0, .int 0, .int 0, .int 0, .int 0, .int 0, .int 0, .int 0, .int 0])), (q91, .inr (7, [.int 0, .int 0, .int 0, .int 0, .int 0]))]) [0, 1, 2, 3, 4, 5, 6] (by decide) rfl
  refine lv_iinc (v := 9) (lv' := [(1, .int 9), (0, .ref rm)]) hx hb dX3_init_100 hl (k := 0) rfl (by decide) (by decide) rfl (fun ls hl => ?_)
  refine lv_goto (tgt := 81) hx hb dX3_init_103 (by decide) ?_
  refine lv_iload_n hx hb dX3_init_81 rfl (lv_at hl 0 rfl) ?_
  refine lv_bipush (v := 12) hx hb dX3_init_82 (by decide) ?_
  refine lv_icmp_ge (tgt := 106) hx hb dX3_init_84 (by decide) (fun h => absurd h (by decide)) (fun _ => ?_)
  refine lv_aload_n hx hb dX3_init_87 rfl (lv_at hl 1 rfl) ?_
  refine va_get (D := (dC, dI)) (ci := 5) (v := .ref q5) (C := RX3) (T := TX3) (N := 12) hx hb hts zi_X3_init_X3 hown hK hP 0 rfl rfl 1 (by decide) (hts (.fieldLink RX3 19 "LockRooms$Room" "things" "[LLockRooms$Thing;") (by decide +kernel)) (fun _ h9 => h9) rfl dX3_init_88 ?_
  refine lv_iload_n hx hb dX3_init_91 rfl (lv_at hl 0 rfl) ?_
  refine va_new (ci := 7) (fs := [.int 0, .int 0, .int 0, .int 0, .int 0]) (C := RX5) (T := TX5) (N := 5) hx hb hts zi_X3_init_X5 tyX5 tyX5_ok hown (hts (.classLink RX3 17 RX5) (by decide +kernel)) (hts (.instantiable RX5 5) (by decide +kernel)) (hts (.initialized RX5) (by decide +kernel)) hK hP hD hS hA rfl (fun j hj => by rcases (show j = 0 ∨ j = 1 ∨ j = 2 ∨ j = 3 ∨ j = 4 by omega) with rfl | rfl | rfl | rfl | rfl <;> rfl) (Nat.le_of_ble_eq_true rfl) (Nat.le_of_ble_eq_true rfl) dX3_init_92 (fun q154 H155 hP hD hS => ?_)
  have hP : va_P (dC, dI) vwCl [(rm, .inr (5, [.ref q1, .ref q5, .ref q9, .ref q13, .int 0, .int 0, .int 0, .int (-1), .int 1, .int 0, .int 0, .int 0])), (q1, .inl (cA3, 10, .inr (.inr (.inr (.inr f89))))), (q5, .inl (cA7, 12, .inr (.inr (.inr (.inr f152))))), (q9, .inl (cA11, 6, .inr (.inr (.inr (.inr (fun _ => none)))))), (q13, .inr (2, [.int 0, .int 0, .int 0, .int 0, .int 0, .int (-1), .long 0])), (q21, .inr (3, [.int 0, .int 0, .int 0, .int 0, .int 0, .int 0, .int 0, .int 0, .int 0, .int 0])), (q91, .inr (7, [.int 0, .int 0, .int 0, .int 0, .int 0])), (q154, .inr (7, [.int 0, .int 0, .int 0, .int 0, .int 0]))] H155 := hP
  have hD : va_D A [(rm, .inr (5, [.ref q1, .ref q5, .ref q9, .ref q13, .int 0, .int 0, .int 0, .int (-1), .int 1, .int 0, .int 0, .int 0])), (q1, .inl (cA3, 10, .inr (.inr (.inr (.inr f89))))), (q5, .inl (cA7, 12, .inr (.inr (.inr (.inr f152))))), (q9, .inl (cA11, 6, .inr (.inr (.inr (.inr (fun _ => none)))))), (q13, .inr (2, [.int 0, .int 0, .int 0, .int 0, .int 0, .int (-1), .long 0])), (q21, .inr (3, [.int 0, .int 0, .int 0, .int 0, .int 0, .int 0, .int 0, .int 0, .int 0, .int 0])), (q91, .inr (7, [.int 0, .int 0, .int 0, .int 0, .int 0])), (q154, .inr (7, [.int 0, .int 0, .int 0, .int 0, .int 0]))] := hD
  refine lv_dup hx hb dX3_init_95 rfl ?_
  have hPr := (zo_nil : va_P (dC, dI) vwCl [] H155)
  have hPc := hP.sub (ws' := []) [] rfl
  have hDc := hD.sub (ws' := []) [] (by decide) rfl
  have hKc := hK.sub (tys' := []) [] rfl
  have hFc := va_free (wc := []) hD hS hA [] rfl
  refine va_callv (va_runIN (As := []) (rest := [.ref q154, .int 9, .ref q5]) ⟨hx, hb, hml, hown, hts⟩ (cz_X5_init l dC dI ed H155.size q154) ⟨(va_cnB 0 hts gX3_init_X5_init_n45 rfl rfl rfl (hN.2.1 ("LockRooms$Room", 45, yX5_init, "LockRooms") (List.mem_of_getElem? (i := 2) rfl)) (hts (.initialized RX5) (by decide +kernel)) (by decide +kernel) ⟨Nat.le_of_ble_eq_true rfl, Nat.le_of_ble_eq_true rfl⟩), rfl, (hts (.instanceMethod yX5_init) (by decide +kernel))⟩ ⟨zb_blind, fun U hU hW => ⟨rfl, zb_mk hU hW hPr hPc hKc hDc hN hH hS hFc zx_e⟩⟩ rfl rfl hl.1 rfl (lv_room (Nat.le_of_ble_eq_true rfl)) dX3_init_96 ⟨Nat.le_of_ble_eq_true rfl, Nat.le_of_ble_eq_true rfl⟩) hS (fun q _ h => hFc q h) hFc (fun u t H156 locs ht hvm hw hB hz1 hk1 hS => ?_)
  have hP := zo_K hP hk1
  refine va_astq hx hb hK hP hD hS 2 1 7 7 rfl rfl rfl rfl (by unfold vp_in; decide) dX3_init_99 (fun H158 locs hP hD hS => ?_)
  obtain ⟨f159, ef159⟩ : ∃ z : Nat → Option Nat, z = va_up f152 9 (some q154) := ⟨_, rfl⟩
  have k160 : f159 0 = some q91 := by rw [ef159]; exact (va_up_ne _ _ (by decide)).trans (k153)
  have hP : va_P (dC, dI) vwCl [(rm, .inr (5, [.ref q1, .ref q5, .ref q9, .ref q13, .int 0, .int 0, .int 0, .int (-1), .int 1, .int 0, .int 0, .int 0])), (q1, .inl (cA3, 10, .inr (.inr (.inr (.inr f89))))), (q5, .inl (cA7, 12, .inr (.inr (.inr (.inr f159))))), (q9, .inl (cA11, 6, .inr (.inr (.inr (.inr (fun _ => none)))))), (q13, .inr (2, [.int 0, .int 0, .int 0, .int 0, .int 0, .int (-1), .long 0])), (q21, .inr (3, [.int 0, .int 0, .int 0, .int 0, .int 0, .int 0, .int 0, .int 0, .int 0, .int 0])), (q91, .inr (7, [.int 0, .int 0, .int 0, .int 0, .int 0])), (q154, .inr (7, [.int 0, .int 0, .int 0, .int 0, .int 0]))] H158 := by rw [ef159]; exact hP
  have hD : va_D A [(rm, .inr (5, [.ref q1, .ref q5, .ref q9, .ref q13, .int 0, .int 0, .int 0, .int (-1), .int 1, .int 0, .int 0, .int 0])), (q1, .inl (cA3, 10, .inr (.inr (.inr (.inr f89))))), (q5, .inl (cA7, 12, .inr (.inr (.inr (.inr f159))))), (q9, .inl (cA11, 6, .inr (.inr (.inr (.inr (fun _ => none)))))), (q13, .inr (2, [.int 0, .int 0, .int 0, .int 0, .int 0, .int (-1), .long 0])), (q21, .inr (3, [.int 0, .int 0, .int 0, .int 0, .int 0, .int 0, .int 0, .int 0, .int 0, .int 0])), (q91, .inr (7, [.int 0, .int 0, .int 0, .int 0, .int 0])), (q154, .inr (7, [.int 0, .int 0, .int 0, .int 0, .int 0]))] := by rw [ef159]; exact hD
  have hP := hP.sub (ws' := [(rm, .inr (5, [.ref q1, .ref q5, .ref q9, .ref q13, .int 0, .int 0, .int 0, .int (-1), .int 1, .int 0, .int 0, .int 0])), (q1, .inl (cA3, 10, .inr (.inr (.inr (.inr f89))))), (q5, .inl (cA7, 12, .inr (.inr (.inr (.inr f159))))), (q9, .inl (cA11, 6, .inr (.inr (.inr (.inr (fun _ => none)))))), (q13, .inr (2, [.int 0, .int 0, .int 0, .int 0, .int 0, .int (-1), .long 0])), (q21, .inr (3, [.int 0, .int 0, .int 0, .int 0, .int 0, .int 0, .int 0, .int 0, .int 0, .int 0])), (q91, .inr (7, [.int 0, .int 0, .int 0, .int 0, .int 0]))]) [0, 1, 2, 3, 4, 5, 6] rfl
  have hD := hD.sub (ws' := [(rm, .inr (5, [.ref q1, .ref q5, .ref q9, .ref q13, .int 0, .int 0, .int 0, .int (-1), .int 1, .int 0, .int 0, .int 0])), (q1, .inl (cA3, 10, .inr (.inr (.inr (.inr f89))))), (q5, .inl (cA7, 12, .inr (.inr (.inr (.inr f159))))), (q9, .inl (cA11, 6, .inr (.inr (.inr (.inr (fun _ => none)))))), (q13, .inr (2, [.int 0, .int 0, .int 0, .int 0, .int 0, .int (-1), .long 0])), (q21, .inr (3, [.int 0, .int 0, .int 0, .int 0, .int 0, .int 0, .int 0, .int 0, .int 0, .int 0])), (q91, .inr (7, [.int 0, .int 0, .int 0, .int 0, .int 0]))]) [0, 1, 2, 3, 4, 5, 6] (by decide) rfl
  refine lv_iinc (v := 10) (lv' := [(1, .int 10), (0, .ref rm)]) hx hb dX3_init_100 hl (k := 0) rfl (by decide) (by decide) rfl (fun ls hl => ?_)
  refine lv_goto (tgt := 81) hx hb dX3_init_103 (by decide) ?_
  refine lv_iload_n hx hb dX3_init_81 rfl (lv_at hl 0 rfl) ?_
  refine lv_bipush (v := 12) hx hb dX3_init_82 (by decide) ?_
  refine lv_icmp_ge (tgt := 106) hx hb dX3_init_84 (by decide) (fun h => absurd h (by decide)) (fun _ => ?_)
  refine lv_aload_n hx hb dX3_init_87 rfl (lv_at hl 1 rfl) ?_
  refine va_get (D := (dC, dI)) (ci := 5) (v := .ref q5) (C := RX3) (T := TX3) (N := 12) hx hb hts zi_X3_init_X3 hown hK hP 0 rfl rfl 1 (by decide) (hts (.fieldLink RX3 19 "LockRooms$Room" "things" "[LLockRooms$Thing;") (by decide +kernel)) (fun _ h9 => h9) rfl dX3_init_88 ?_
  refine lv_iload_n hx hb dX3_init_91 rfl (lv_at hl 0 rfl) ?_
  refine va_new (ci := 7) (fs := [.int 0, .int 0, .int 0, .int 0, .int 0]) (C := RX5) (T := TX5) (N := 5) hx hb hts zi_X3_init_X5 tyX5 tyX5_ok hown (hts (.classLink RX3 17 RX5) (by decide +kernel)) (hts (.instantiable RX5 5) (by decide +kernel)) (hts (.initialized RX5) (by decide +kernel)) hK hP hD hS hA rfl (fun j hj => by rcases (show j = 0 ∨ j = 1 ∨ j = 2 ∨ j = 3 ∨ j = 4 by omega) with rfl | rfl | rfl | rfl | rfl <;> rfl) (Nat.le_of_ble_eq_true rfl) (Nat.le_of_ble_eq_true rfl) dX3_init_92 (fun q161 H162 hP hD hS => ?_)
  have hP : va_P (dC, dI) vwCl [(rm, .inr (5, [.ref q1, .ref q5, .ref q9, .ref q13, .int 0, .int 0, .int 0, .int (-1), .int 1, .int 0, .int 0, .int 0])), (q1, .inl (cA3, 10, .inr (.inr (.inr (.inr f89))))), (q5, .inl (cA7, 12, .inr (.inr (.inr (.inr f159))))), (q9, .inl (cA11, 6, .inr (.inr (.inr (.inr (fun _ => none)))))), (q13, .inr (2, [.int 0, .int 0, .int 0, .int 0, .int 0, .int (-1), .long 0])), (q21, .inr (3, [.int 0, .int 0, .int 0, .int 0, .int 0, .int 0, .int 0, .int 0, .int 0, .int 0])), (q91, .inr (7, [.int 0, .int 0, .int 0, .int 0, .int 0])), (q161, .inr (7, [.int 0, .int 0, .int 0, .int 0, .int 0]))] H162 := hP
  have hD : va_D A [(rm, .inr (5, [.ref q1, .ref q5, .ref q9, .ref q13, .int 0, .int 0, .int 0, .int (-1), .int 1, .int 0, .int 0, .int 0])), (q1, .inl (cA3, 10, .inr (.inr (.inr (.inr f89))))), (q5, .inl (cA7, 12, .inr (.inr (.inr (.inr f159))))), (q9, .inl (cA11, 6, .inr (.inr (.inr (.inr (fun _ => none)))))), (q13, .inr (2, [.int 0, .int 0, .int 0, .int 0, .int 0, .int (-1), .long 0])), (q21, .inr (3, [.int 0, .int 0, .int 0, .int 0, .int 0, .int 0, .int 0, .int 0, .int 0, .int 0])), (q91, .inr (7, [.int 0, .int 0, .int 0, .int 0, .int 0])), (q161, .inr (7, [.int 0, .int 0, .int 0, .int 0, .int 0]))] := hD
  refine lv_dup hx hb dX3_init_95 rfl ?_
  have hPr := (zo_nil : va_P (dC, dI) vwCl [] H162)
  have hPc := hP.sub (ws' := []) [] rfl
  have hDc := hD.sub (ws' := []) [] (by decide) rfl
  have hKc := hK.sub (tys' := []) [] rfl
  have hFc := va_free (wc := []) hD hS hA [] rfl
  refine va_callv (va_runIN (As := []) (rest := [.ref q161, .int 10, .ref q5]) ⟨hx, hb, hml, hown, hts⟩ (cz_X5_init l dC dI ed H162.size q161) ⟨(va_cnB 0 hts gX3_init_X5_init_n45 rfl rfl rfl (hN.2.1 ("LockRooms$Room", 45, yX5_init, "LockRooms") (List.mem_of_getElem? (i := 2) rfl)) (hts (.initialized RX5) (by decide +kernel)) (by decide +kernel) ⟨Nat.le_of_ble_eq_true rfl, Nat.le_of_ble_eq_true rfl⟩), rfl, (hts (.instanceMethod yX5_init) (by decide +kernel))⟩ ⟨zb_blind, fun U hU hW => ⟨rfl, zb_mk hU hW hPr hPc hKc hDc hN hH hS hFc zx_e⟩⟩ rfl rfl hl.1 rfl (lv_room (Nat.le_of_ble_eq_true rfl)) dX3_init_96 ⟨Nat.le_of_ble_eq_true rfl, Nat.le_of_ble_eq_true rfl⟩) hS (fun q _ h => hFc q h) hFc (fun u t H163 locs ht hvm hw hB hz1 hk1 hS => ?_)
  have hP := zo_K hP hk1
  refine va_astq hx hb hK hP hD hS 2 1 7 7 rfl rfl rfl rfl (by unfold vp_in; decide) dX3_init_99 (fun H165 locs hP hD hS => ?_)
  obtain ⟨f166, ef166⟩ : ∃ z : Nat → Option Nat, z = va_up f159 10 (some q161) := ⟨_, rfl⟩
  have k167 : f166 0 = some q91 := by rw [ef166]; exact (va_up_ne _ _ (by decide)).trans (k160)
  have hP : va_P (dC, dI) vwCl [(rm, .inr (5, [.ref q1, .ref q5, .ref q9, .ref q13, .int 0, .int 0, .int 0, .int (-1), .int 1, .int 0, .int 0, .int 0])), (q1, .inl (cA3, 10, .inr (.inr (.inr (.inr f89))))), (q5, .inl (cA7, 12, .inr (.inr (.inr (.inr f166))))), (q9, .inl (cA11, 6, .inr (.inr (.inr (.inr (fun _ => none)))))), (q13, .inr (2, [.int 0, .int 0, .int 0, .int 0, .int 0, .int (-1), .long 0])), (q21, .inr (3, [.int 0, .int 0, .int 0, .int 0, .int 0, .int 0, .int 0, .int 0, .int 0, .int 0])), (q91, .inr (7, [.int 0, .int 0, .int 0, .int 0, .int 0])), (q161, .inr (7, [.int 0, .int 0, .int 0, .int 0, .int 0]))] H165 := by rw [ef166]; exact hP
  have hD : va_D A [(rm, .inr (5, [.ref q1, .ref q5, .ref q9, .ref q13, .int 0, .int 0, .int 0, .int (-1), .int 1, .int 0, .int 0, .int 0])), (q1, .inl (cA3, 10, .inr (.inr (.inr (.inr f89))))), (q5, .inl (cA7, 12, .inr (.inr (.inr (.inr f166))))), (q9, .inl (cA11, 6, .inr (.inr (.inr (.inr (fun _ => none)))))), (q13, .inr (2, [.int 0, .int 0, .int 0, .int 0, .int 0, .int (-1), .long 0])), (q21, .inr (3, [.int 0, .int 0, .int 0, .int 0, .int 0, .int 0, .int 0, .int 0, .int 0, .int 0])), (q91, .inr (7, [.int 0, .int 0, .int 0, .int 0, .int 0])), (q161, .inr (7, [.int 0, .int 0, .int 0, .int 0, .int 0]))] := by rw [ef166]; exact hD
  have hP := hP.sub (ws' := [(rm, .inr (5, [.ref q1, .ref q5, .ref q9, .ref q13, .int 0, .int 0, .int 0, .int (-1), .int 1, .int 0, .int 0, .int 0])), (q1, .inl (cA3, 10, .inr (.inr (.inr (.inr f89))))), (q5, .inl (cA7, 12, .inr (.inr (.inr (.inr f166))))), (q9, .inl (cA11, 6, .inr (.inr (.inr (.inr (fun _ => none)))))), (q13, .inr (2, [.int 0, .int 0, .int 0, .int 0, .int 0, .int (-1), .long 0])), (q21, .inr (3, [.int 0, .int 0, .int 0, .int 0, .int 0, .int 0, .int 0, .int 0, .int 0, .int 0])), (q91, .inr (7, [.int 0, .int 0, .int 0, .int 0, .int 0]))]) [0, 1, 2, 3, 4, 5, 6] rfl
  have hD := hD.sub (ws' := [(rm, .inr (5, [.ref q1, .ref q5, .ref q9, .ref q13, .int 0, .int 0, .int 0, .int (-1), .int 1, .int 0, .int 0, .int 0])), (q1, .inl (cA3, 10, .inr (.inr (.inr (.inr f89))))), (q5, .inl (cA7, 12, .inr (.inr (.inr (.inr f166))))), (q9, .inl (cA11, 6, .inr (.inr (.inr (.inr (fun _ => none)))))), (q13, .inr (2, [.int 0, .int 0, .int 0, .int 0, .int 0, .int (-1), .long 0])), (q21, .inr (3, [.int 0, .int 0, .int 0, .int 0, .int 0, .int 0, .int 0, .int 0, .int 0, .int 0])), (q91, .inr (7, [.int 0, .int 0, .int 0, .int 0, .int 0]))]) [0, 1, 2, 3, 4, 5, 6] (by decide) rfl
  refine lv_iinc (v := 11) (lv' := [(1, .int 11), (0, .ref rm)]) hx hb dX3_init_100 hl (k := 0) rfl (by decide) (by decide) rfl (fun ls hl => ?_)
  refine lv_goto (tgt := 81) hx hb dX3_init_103 (by decide) ?_
  refine lv_iload_n hx hb dX3_init_81 rfl (lv_at hl 0 rfl) ?_
  refine lv_bipush (v := 12) hx hb dX3_init_82 (by decide) ?_
  refine lv_icmp_ge (tgt := 106) hx hb dX3_init_84 (by decide) (fun h => absurd h (by decide)) (fun _ => ?_)
  refine lv_aload_n hx hb dX3_init_87 rfl (lv_at hl 1 rfl) ?_
  refine va_get (D := (dC, dI)) (ci := 5) (v := .ref q5) (C := RX3) (T := TX3) (N := 12) hx hb hts zi_X3_init_X3 hown hK hP 0 rfl rfl 1 (by decide) (hts (.fieldLink RX3 19 "LockRooms$Room" "things" "[LLockRooms$Thing;") (by decide +kernel)) (fun _ h9 => h9) rfl dX3_init_88 ?_
  refine lv_iload_n hx hb dX3_init_91 rfl (lv_at hl 0 rfl) ?_
  refine va_new (ci := 7) (fs := [.int 0, .int 0, .int 0, .int 0, .int 0]) (C := RX5) (T := TX5) (N := 5) hx hb hts zi_X3_init_X5 tyX5 tyX5_ok hown (hts (.classLink RX3 17 RX5) (by decide +kernel)) (hts (.instantiable RX5 5) (by decide +kernel)) (hts (.initialized RX5) (by decide +kernel)) hK hP hD hS hA rfl (fun j hj => by rcases (show j = 0 ∨ j = 1 ∨ j = 2 ∨ j = 3 ∨ j = 4 by omega) with rfl | rfl | rfl | rfl | rfl <;> rfl) (Nat.le_of_ble_eq_true rfl) (Nat.le_of_ble_eq_true rfl) dX3_init_92 (fun q168 H169 hP hD hS => ?_)
  have hP : va_P (dC, dI) vwCl [(rm, .inr (5, [.ref q1, .ref q5, .ref q9, .ref q13, .int 0, .int 0, .int 0, .int (-1), .int 1, .int 0, .int 0, .int 0])), (q1, .inl (cA3, 10, .inr (.inr (.inr (.inr f89))))), (q5, .inl (cA7, 12, .inr (.inr (.inr (.inr f166))))), (q9, .inl (cA11, 6, .inr (.inr (.inr (.inr (fun _ => none)))))), (q13, .inr (2, [.int 0, .int 0, .int 0, .int 0, .int 0, .int (-1), .long 0])), (q21, .inr (3, [.int 0, .int 0, .int 0, .int 0, .int 0, .int 0, .int 0, .int 0, .int 0, .int 0])), (q91, .inr (7, [.int 0, .int 0, .int 0, .int 0, .int 0])), (q168, .inr (7, [.int 0, .int 0, .int 0, .int 0, .int 0]))] H169 := hP
  have hD : va_D A [(rm, .inr (5, [.ref q1, .ref q5, .ref q9, .ref q13, .int 0, .int 0, .int 0, .int (-1), .int 1, .int 0, .int 0, .int 0])), (q1, .inl (cA3, 10, .inr (.inr (.inr (.inr f89))))), (q5, .inl (cA7, 12, .inr (.inr (.inr (.inr f166))))), (q9, .inl (cA11, 6, .inr (.inr (.inr (.inr (fun _ => none)))))), (q13, .inr (2, [.int 0, .int 0, .int 0, .int 0, .int 0, .int (-1), .long 0])), (q21, .inr (3, [.int 0, .int 0, .int 0, .int 0, .int 0, .int 0, .int 0, .int 0, .int 0, .int 0])), (q91, .inr (7, [.int 0, .int 0, .int 0, .int 0, .int 0])), (q168, .inr (7, [.int 0, .int 0, .int 0, .int 0, .int 0]))] := hD
  refine lv_dup hx hb dX3_init_95 rfl ?_
  have hPr := (zo_nil : va_P (dC, dI) vwCl [] H169)
  have hPc := hP.sub (ws' := []) [] rfl
  have hDc := hD.sub (ws' := []) [] (by decide) rfl
  have hKc := hK.sub (tys' := []) [] rfl
  have hFc := va_free (wc := []) hD hS hA [] rfl
  refine va_callv (va_runIN (As := []) (rest := [.ref q168, .int 11, .ref q5]) ⟨hx, hb, hml, hown, hts⟩ (cz_X5_init l dC dI ed H169.size q168) ⟨(va_cnB 0 hts gX3_init_X5_init_n45 rfl rfl rfl (hN.2.1 ("LockRooms$Room", 45, yX5_init, "LockRooms") (List.mem_of_getElem? (i := 2) rfl)) (hts (.initialized RX5) (by decide +kernel)) (by decide +kernel) ⟨Nat.le_of_ble_eq_true rfl, Nat.le_of_ble_eq_true rfl⟩), rfl, (hts (.instanceMethod yX5_init) (by decide +kernel))⟩ ⟨zb_blind, fun U hU hW => ⟨rfl, zb_mk hU hW hPr hPc hKc hDc hN hH hS hFc zx_e⟩⟩ rfl rfl hl.1 rfl (lv_room (Nat.le_of_ble_eq_true rfl)) dX3_init_96 ⟨Nat.le_of_ble_eq_true rfl, Nat.le_of_ble_eq_true rfl⟩) hS (fun q _ h => hFc q h) hFc (fun u t H170 locs ht hvm hw hB hz1 hk1 hS => ?_)
  have hP := zo_K hP hk1
  refine va_astq hx hb hK hP hD hS 2 1 7 7 rfl rfl rfl rfl (by unfold vp_in; decide) dX3_init_99 (fun H172 locs hP hD hS => ?_)
  obtain ⟨f173, ef173⟩ : ∃ z : Nat → Option Nat, z = va_up f166 11 (some q168) := ⟨_, rfl⟩
  have k174 : f173 0 = some q91 := by rw [ef173]; exact (va_up_ne _ _ (by decide)).trans (k167)
  have hP : va_P (dC, dI) vwCl [(rm, .inr (5, [.ref q1, .ref q5, .ref q9, .ref q13, .int 0, .int 0, .int 0, .int (-1), .int 1, .int 0, .int 0, .int 0])), (q1, .inl (cA3, 10, .inr (.inr (.inr (.inr f89))))), (q5, .inl (cA7, 12, .inr (.inr (.inr (.inr f173))))), (q9, .inl (cA11, 6, .inr (.inr (.inr (.inr (fun _ => none)))))), (q13, .inr (2, [.int 0, .int 0, .int 0, .int 0, .int 0, .int (-1), .long 0])), (q21, .inr (3, [.int 0, .int 0, .int 0, .int 0, .int 0, .int 0, .int 0, .int 0, .int 0, .int 0])), (q91, .inr (7, [.int 0, .int 0, .int 0, .int 0, .int 0])), (q168, .inr (7, [.int 0, .int 0, .int 0, .int 0, .int 0]))] H172 := by rw [ef173]; exact hP
  have hD : va_D A [(rm, .inr (5, [.ref q1, .ref q5, .ref q9, .ref q13, .int 0, .int 0, .int 0, .int (-1), .int 1, .int 0, .int 0, .int 0])), (q1, .inl (cA3, 10, .inr (.inr (.inr (.inr f89))))), (q5, .inl (cA7, 12, .inr (.inr (.inr (.inr f173))))), (q9, .inl (cA11, 6, .inr (.inr (.inr (.inr (fun _ => none)))))), (q13, .inr (2, [.int 0, .int 0, .int 0, .int 0, .int 0, .int (-1), .long 0])), (q21, .inr (3, [.int 0, .int 0, .int 0, .int 0, .int 0, .int 0, .int 0, .int 0, .int 0, .int 0])), (q91, .inr (7, [.int 0, .int 0, .int 0, .int 0, .int 0])), (q168, .inr (7, [.int 0, .int 0, .int 0, .int 0, .int 0]))] := by rw [ef173]; exact hD
  have hP := hP.sub (ws' := [(rm, .inr (5, [.ref q1, .ref q5, .ref q9, .ref q13, .int 0, .int 0, .int 0, .int (-1), .int 1, .int 0, .int 0, .int 0])), (q1, .inl (cA3, 10, .inr (.inr (.inr (.inr f89))))), (q5, .inl (cA7, 12, .inr (.inr (.inr (.inr f173))))), (q9, .inl (cA11, 6, .inr (.inr (.inr (.inr (fun _ => none)))))), (q13, .inr (2, [.int 0, .int 0, .int 0, .int 0, .int 0, .int (-1), .long 0])), (q21, .inr (3, [.int 0, .int 0, .int 0, .int 0, .int 0, .int 0, .int 0, .int 0, .int 0, .int 0])), (q91, .inr (7, [.int 0, .int 0, .int 0, .int 0, .int 0]))]) [0, 1, 2, 3, 4, 5, 6] rfl
  have hD := hD.sub (ws' := [(rm, .inr (5, [.ref q1, .ref q5, .ref q9, .ref q13, .int 0, .int 0, .int 0, .int (-1), .int 1, .int 0, .int 0, .int 0])), (q1, .inl (cA3, 10, .inr (.inr (.inr (.inr f89))))), (q5, .inl (cA7, 12, .inr (.inr (.inr (.inr f173))))), (q9, .inl (cA11, 6, .inr (.inr (.inr (.inr (fun _ => none)))))), (q13, .inr (2, [.int 0, .int 0, .int 0, .int 0, .int 0, .int (-1), .long 0])), (q21, .inr (3, [.int 0, .int 0, .int 0, .int 0, .int 0, .int 0, .int 0, .int 0, .int 0, .int 0])), (q91, .inr (7, [.int 0, .int 0, .int 0, .int 0, .int 0]))]) [0, 1, 2, 3, 4, 5, 6] (by decide) rfl
  refine lv_iinc (v := 12) (lv' := [(1, .int 12), (0, .ref rm)]) hx hb dX3_init_100 hl (k := 0) rfl (by decide) (by decide) rfl (fun ls hl => ?_)
  refine lv_goto (tgt := 81) hx hb dX3_init_103 (by decide) ?_
  refine lv_iload_n hx hb dX3_init_81 rfl (lv_at hl 0 rfl) ?_
  refine lv_bipush (v := 12) hx hb dX3_init_82 (by decide) ?_
  refine lv_icmp_ge (tgt := 106) hx hb dX3_init_84 (by decide) (fun _ => ?_) (fun h => absurd h (by decide))
  refine lv_iconst (v := 0) hx hb dX3_init_106 (by decide) ?_
  refine lv_istore_n (lv' := [(1, .int 0), (0, .ref rm)]) hx hb dX3_init_107 rfl hl (by decide) rfl (fun ls hl => ?_)
  refine lv_iload_n hx hb dX3_init_108 rfl (lv_at hl 0 rfl) ?_
  refine lv_bipush (v := 6) hx hb dX3_init_109 (by decide) ?_
  refine lv_icmp_ge (tgt := 133) hx hb dX3_init_111 (by decide) (fun h => absurd h (by decide)) (fun _ => ?_)
  refine lv_aload_n hx hb dX3_init_114 rfl (lv_at hl 1 rfl) ?_
  refine va_get (D := (dC, dI)) (ci := 5) (v := .ref q9) (C := RX3) (T := TX3) (N := 12) hx hb hts zi_X3_init_X3 hown hK hP 0 rfl rfl 2 (by decide) (hts (.fieldLink RX3 25 "LockRooms$Room" "players" "[LLockRooms$Player;") (by decide +kernel)) (fun _ h9 => h9) rfl dX3_init_115 ?_
  refine lv_iload_n hx hb dX3_init_118 rfl (lv_at hl 0 rfl) ?_
  refine va_new (ci := 4) (fs := [.int 0, .int 0, .int 0, .int 0]) (C := RX2) (T := TX2) (N := 4) hx hb hts zi_X3_init_X2 tyX2 tyX2_ok hown (hts (.classLink RX3 23 RX2) (by decide +kernel)) (hts (.instantiable RX2 4) (by decide +kernel)) (hts (.initialized RX2) (by decide +kernel)) hK hP hD hS hA rfl (fun j hj => by rcases (show j = 0 ∨ j = 1 ∨ j = 2 ∨ j = 3 by omega) with rfl | rfl | rfl | rfl <;> rfl) (Nat.le_of_ble_eq_true rfl) (Nat.le_of_ble_eq_true rfl) dX3_init_119 (fun q175 H176 hP hD hS => ?_)
  have hP : va_P (dC, dI) vwCl [(rm, .inr (5, [.ref q1, .ref q5, .ref q9, .ref q13, .int 0, .int 0, .int 0, .int (-1), .int 1, .int 0, .int 0, .int 0])), (q1, .inl (cA3, 10, .inr (.inr (.inr (.inr f89))))), (q5, .inl (cA7, 12, .inr (.inr (.inr (.inr f173))))), (q9, .inl (cA11, 6, .inr (.inr (.inr (.inr (fun _ => none)))))), (q13, .inr (2, [.int 0, .int 0, .int 0, .int 0, .int 0, .int (-1), .long 0])), (q21, .inr (3, [.int 0, .int 0, .int 0, .int 0, .int 0, .int 0, .int 0, .int 0, .int 0, .int 0])), (q91, .inr (7, [.int 0, .int 0, .int 0, .int 0, .int 0])), (q175, .inr (4, [.int 0, .int 0, .int 0, .int 0]))] H176 := hP
  have hD : va_D A [(rm, .inr (5, [.ref q1, .ref q5, .ref q9, .ref q13, .int 0, .int 0, .int 0, .int (-1), .int 1, .int 0, .int 0, .int 0])), (q1, .inl (cA3, 10, .inr (.inr (.inr (.inr f89))))), (q5, .inl (cA7, 12, .inr (.inr (.inr (.inr f173))))), (q9, .inl (cA11, 6, .inr (.inr (.inr (.inr (fun _ => none)))))), (q13, .inr (2, [.int 0, .int 0, .int 0, .int 0, .int 0, .int (-1), .long 0])), (q21, .inr (3, [.int 0, .int 0, .int 0, .int 0, .int 0, .int 0, .int 0, .int 0, .int 0, .int 0])), (q91, .inr (7, [.int 0, .int 0, .int 0, .int 0, .int 0])), (q175, .inr (4, [.int 0, .int 0, .int 0, .int 0]))] := hD
  refine lv_dup hx hb dX3_init_122 rfl ?_
  have hPr := (zo_nil : va_P (dC, dI) vwCl [] H176)
  have hPc := hP.sub (ws' := []) [] rfl
  have hDc := hD.sub (ws' := []) [] (by decide) rfl
  have hKc := hK.sub (tys' := []) [] rfl
  have hFc := va_free (wc := []) hD hS hA [] rfl
  refine va_callv (va_runIN (As := []) (rest := [.ref q175, .int 0, .ref q9]) ⟨hx, hb, hml, hown, hts⟩ (cz_X2_init l dC dI ed H176.size q175) ⟨(va_cnB 0 hts gX3_init_X2_init_n46 rfl rfl rfl (hN.2.1 ("LockRooms$Room", 46, yX2_init, "LockRooms") (List.mem_of_getElem? (i := 3) rfl)) (hts (.initialized RX2) (by decide +kernel)) (by decide +kernel) ⟨Nat.le_of_ble_eq_true rfl, Nat.le_of_ble_eq_true rfl⟩), rfl, (hts (.instanceMethod yX2_init) (by decide +kernel))⟩ ⟨zb_blind, fun U hU hW => ⟨rfl, zb_mk hU hW hPr hPc hKc hDc hN hH hS hFc zx_e⟩⟩ rfl rfl hl.1 rfl (lv_room (Nat.le_of_ble_eq_true rfl)) dX3_init_123 ⟨Nat.le_of_ble_eq_true rfl, Nat.le_of_ble_eq_true rfl⟩) hS (fun q _ h => hFc q h) hFc (fun u t H177 locs ht hvm hw hB hz1 hk1 hS => ?_)
  have hP := zo_K hP hk1
  refine va_astq hx hb hK hP hD hS 3 2 7 4 rfl rfl rfl rfl (by unfold vp_in; decide) dX3_init_126 (fun H179 locs hP hD hS => ?_)
  obtain ⟨f180, ef180⟩ : ∃ z : Nat → Option Nat, z = va_up (fun _ => none) 0 (some q175) := ⟨_, rfl⟩
  have k181 : f180 0 = some q175 := by rw [ef180]; exact va_up_self _ _ _
  have hP : va_P (dC, dI) vwCl [(rm, .inr (5, [.ref q1, .ref q5, .ref q9, .ref q13, .int 0, .int 0, .int 0, .int (-1), .int 1, .int 0, .int 0, .int 0])), (q1, .inl (cA3, 10, .inr (.inr (.inr (.inr f89))))), (q5, .inl (cA7, 12, .inr (.inr (.inr (.inr f173))))), (q9, .inl (cA11, 6, .inr (.inr (.inr (.inr f180))))), (q13, .inr (2, [.int 0, .int 0, .int 0, .int 0, .int 0, .int (-1), .long 0])), (q21, .inr (3, [.int 0, .int 0, .int 0, .int 0, .int 0, .int 0, .int 0, .int 0, .int 0, .int 0])), (q91, .inr (7, [.int 0, .int 0, .int 0, .int 0, .int 0])), (q175, .inr (4, [.int 0, .int 0, .int 0, .int 0]))] H179 := by rw [ef180]; exact hP
  have hD : va_D A [(rm, .inr (5, [.ref q1, .ref q5, .ref q9, .ref q13, .int 0, .int 0, .int 0, .int (-1), .int 1, .int 0, .int 0, .int 0])), (q1, .inl (cA3, 10, .inr (.inr (.inr (.inr f89))))), (q5, .inl (cA7, 12, .inr (.inr (.inr (.inr f173))))), (q9, .inl (cA11, 6, .inr (.inr (.inr (.inr f180))))), (q13, .inr (2, [.int 0, .int 0, .int 0, .int 0, .int 0, .int (-1), .long 0])), (q21, .inr (3, [.int 0, .int 0, .int 0, .int 0, .int 0, .int 0, .int 0, .int 0, .int 0, .int 0])), (q91, .inr (7, [.int 0, .int 0, .int 0, .int 0, .int 0])), (q175, .inr (4, [.int 0, .int 0, .int 0, .int 0]))] := by rw [ef180]; exact hD
  refine lv_iinc (v := 1) (lv' := [(1, .int 1), (0, .ref rm)]) hx hb dX3_init_127 hl (k := 0) rfl (by decide) (by decide) rfl (fun ls hl => ?_)
  refine lv_goto (tgt := 108) hx hb dX3_init_130 (by decide) ?_
  refine lv_iload_n hx hb dX3_init_108 rfl (lv_at hl 0 rfl) ?_
  refine lv_bipush (v := 6) hx hb dX3_init_109 (by decide) ?_
  refine lv_icmp_ge (tgt := 133) hx hb dX3_init_111 (by decide) (fun h => absurd h (by decide)) (fun _ => ?_)
  refine lv_aload_n hx hb dX3_init_114 rfl (lv_at hl 1 rfl) ?_
  refine va_get (D := (dC, dI)) (ci := 5) (v := .ref q9) (C := RX3) (T := TX3) (N := 12) hx hb hts zi_X3_init_X3 hown hK hP 0 rfl rfl 2 (by decide) (hts (.fieldLink RX3 25 "LockRooms$Room" "players" "[LLockRooms$Player;") (by decide +kernel)) (fun _ h9 => h9) rfl dX3_init_115 ?_
  refine lv_iload_n hx hb dX3_init_118 rfl (lv_at hl 0 rfl) ?_
  refine va_new (ci := 4) (fs := [.int 0, .int 0, .int 0, .int 0]) (C := RX2) (T := TX2) (N := 4) hx hb hts zi_X3_init_X2 tyX2 tyX2_ok hown (hts (.classLink RX3 23 RX2) (by decide +kernel)) (hts (.instantiable RX2 4) (by decide +kernel)) (hts (.initialized RX2) (by decide +kernel)) hK hP hD hS hA rfl (fun j hj => by rcases (show j = 0 ∨ j = 1 ∨ j = 2 ∨ j = 3 by omega) with rfl | rfl | rfl | rfl <;> rfl) (Nat.le_of_ble_eq_true rfl) (Nat.le_of_ble_eq_true rfl) dX3_init_119 (fun q182 H183 hP hD hS => ?_)
  have hP : va_P (dC, dI) vwCl [(rm, .inr (5, [.ref q1, .ref q5, .ref q9, .ref q13, .int 0, .int 0, .int 0, .int (-1), .int 1, .int 0, .int 0, .int 0])), (q1, .inl (cA3, 10, .inr (.inr (.inr (.inr f89))))), (q5, .inl (cA7, 12, .inr (.inr (.inr (.inr f173))))), (q9, .inl (cA11, 6, .inr (.inr (.inr (.inr f180))))), (q13, .inr (2, [.int 0, .int 0, .int 0, .int 0, .int 0, .int (-1), .long 0])), (q21, .inr (3, [.int 0, .int 0, .int 0, .int 0, .int 0, .int 0, .int 0, .int 0, .int 0, .int 0])), (q91, .inr (7, [.int 0, .int 0, .int 0, .int 0, .int 0])), (q175, .inr (4, [.int 0, .int 0, .int 0, .int 0])), (q182, .inr (4, [.int 0, .int 0, .int 0, .int 0]))] H183 := hP
  have hD : va_D A [(rm, .inr (5, [.ref q1, .ref q5, .ref q9, .ref q13, .int 0, .int 0, .int 0, .int (-1), .int 1, .int 0, .int 0, .int 0])), (q1, .inl (cA3, 10, .inr (.inr (.inr (.inr f89))))), (q5, .inl (cA7, 12, .inr (.inr (.inr (.inr f173))))), (q9, .inl (cA11, 6, .inr (.inr (.inr (.inr f180))))), (q13, .inr (2, [.int 0, .int 0, .int 0, .int 0, .int 0, .int (-1), .long 0])), (q21, .inr (3, [.int 0, .int 0, .int 0, .int 0, .int 0, .int 0, .int 0, .int 0, .int 0, .int 0])), (q91, .inr (7, [.int 0, .int 0, .int 0, .int 0, .int 0])), (q175, .inr (4, [.int 0, .int 0, .int 0, .int 0])), (q182, .inr (4, [.int 0, .int 0, .int 0, .int 0]))] := hD
  refine lv_dup hx hb dX3_init_122 rfl ?_
  have hPr := (zo_nil : va_P (dC, dI) vwCl [] H183)
  have hPc := hP.sub (ws' := []) [] rfl
  have hDc := hD.sub (ws' := []) [] (by decide) rfl
  have hKc := hK.sub (tys' := []) [] rfl
  have hFc := va_free (wc := []) hD hS hA [] rfl
  refine va_callv (va_runIN (As := []) (rest := [.ref q182, .int 1, .ref q9]) ⟨hx, hb, hml, hown, hts⟩ (cz_X2_init l dC dI ed H183.size q182) ⟨(va_cnB 0 hts gX3_init_X2_init_n46 rfl rfl rfl (hN.2.1 ("LockRooms$Room", 46, yX2_init, "LockRooms") (List.mem_of_getElem? (i := 3) rfl)) (hts (.initialized RX2) (by decide +kernel)) (by decide +kernel) ⟨Nat.le_of_ble_eq_true rfl, Nat.le_of_ble_eq_true rfl⟩), rfl, (hts (.instanceMethod yX2_init) (by decide +kernel))⟩ ⟨zb_blind, fun U hU hW => ⟨rfl, zb_mk hU hW hPr hPc hKc hDc hN hH hS hFc zx_e⟩⟩ rfl rfl hl.1 rfl (lv_room (Nat.le_of_ble_eq_true rfl)) dX3_init_123 ⟨Nat.le_of_ble_eq_true rfl, Nat.le_of_ble_eq_true rfl⟩) hS (fun q _ h => hFc q h) hFc (fun u t H184 locs ht hvm hw hB hz1 hk1 hS => ?_)
  have hP := zo_K hP hk1
  refine va_astq hx hb hK hP hD hS 3 2 8 4 rfl rfl rfl rfl (by unfold vp_in; decide) dX3_init_126 (fun H186 locs hP hD hS => ?_)
  obtain ⟨f187, ef187⟩ : ∃ z : Nat → Option Nat, z = va_up f180 1 (some q182) := ⟨_, rfl⟩
  have k188 : f187 0 = some q175 := by rw [ef187]; exact (va_up_ne _ _ (by decide)).trans (k181)
  have hP : va_P (dC, dI) vwCl [(rm, .inr (5, [.ref q1, .ref q5, .ref q9, .ref q13, .int 0, .int 0, .int 0, .int (-1), .int 1, .int 0, .int 0, .int 0])), (q1, .inl (cA3, 10, .inr (.inr (.inr (.inr f89))))), (q5, .inl (cA7, 12, .inr (.inr (.inr (.inr f173))))), (q9, .inl (cA11, 6, .inr (.inr (.inr (.inr f187))))), (q13, .inr (2, [.int 0, .int 0, .int 0, .int 0, .int 0, .int (-1), .long 0])), (q21, .inr (3, [.int 0, .int 0, .int 0, .int 0, .int 0, .int 0, .int 0, .int 0, .int 0, .int 0])), (q91, .inr (7, [.int 0, .int 0, .int 0, .int 0, .int 0])), (q175, .inr (4, [.int 0, .int 0, .int 0, .int 0])), (q182, .inr (4, [.int 0, .int 0, .int 0, .int 0]))] H186 := by rw [ef187]; exact hP
  have hD : va_D A [(rm, .inr (5, [.ref q1, .ref q5, .ref q9, .ref q13, .int 0, .int 0, .int 0, .int (-1), .int 1, .int 0, .int 0, .int 0])), (q1, .inl (cA3, 10, .inr (.inr (.inr (.inr f89))))), (q5, .inl (cA7, 12, .inr (.inr (.inr (.inr f173))))), (q9, .inl (cA11, 6, .inr (.inr (.inr (.inr f187))))), (q13, .inr (2, [.int 0, .int 0, .int 0, .int 0, .int 0, .int (-1), .long 0])), (q21, .inr (3, [.int 0, .int 0, .int 0, .int 0, .int 0, .int 0, .int 0, .int 0, .int 0, .int 0])), (q91, .inr (7, [.int 0, .int 0, .int 0, .int 0, .int 0])), (q175, .inr (4, [.int 0, .int 0, .int 0, .int 0])), (q182, .inr (4, [.int 0, .int 0, .int 0, .int 0]))] := by rw [ef187]; exact hD
  have hP := hP.sub (ws' := [(rm, .inr (5, [.ref q1, .ref q5, .ref q9, .ref q13, .int 0, .int 0, .int 0, .int (-1), .int 1, .int 0, .int 0, .int 0])), (q1, .inl (cA3, 10, .inr (.inr (.inr (.inr f89))))), (q5, .inl (cA7, 12, .inr (.inr (.inr (.inr f173))))), (q9, .inl (cA11, 6, .inr (.inr (.inr (.inr f187))))), (q13, .inr (2, [.int 0, .int 0, .int 0, .int 0, .int 0, .int (-1), .long 0])), (q21, .inr (3, [.int 0, .int 0, .int 0, .int 0, .int 0, .int 0, .int 0, .int 0, .int 0, .int 0])), (q91, .inr (7, [.int 0, .int 0, .int 0, .int 0, .int 0])), (q175, .inr (4, [.int 0, .int 0, .int 0, .int 0]))]) [0, 1, 2, 3, 4, 5, 6, 7] rfl
  have hD := hD.sub (ws' := [(rm, .inr (5, [.ref q1, .ref q5, .ref q9, .ref q13, .int 0, .int 0, .int 0, .int (-1), .int 1, .int 0, .int 0, .int 0])), (q1, .inl (cA3, 10, .inr (.inr (.inr (.inr f89))))), (q5, .inl (cA7, 12, .inr (.inr (.inr (.inr f173))))), (q9, .inl (cA11, 6, .inr (.inr (.inr (.inr f187))))), (q13, .inr (2, [.int 0, .int 0, .int 0, .int 0, .int 0, .int (-1), .long 0])), (q21, .inr (3, [.int 0, .int 0, .int 0, .int 0, .int 0, .int 0, .int 0, .int 0, .int 0, .int 0])), (q91, .inr (7, [.int 0, .int 0, .int 0, .int 0, .int 0])), (q175, .inr (4, [.int 0, .int 0, .int 0, .int 0]))]) [0, 1, 2, 3, 4, 5, 6, 7] (by decide) rfl
  refine lv_iinc (v := 2) (lv' := [(1, .int 2), (0, .ref rm)]) hx hb dX3_init_127 hl (k := 0) rfl (by decide) (by decide) rfl (fun ls hl => ?_)
  refine lv_goto (tgt := 108) hx hb dX3_init_130 (by decide) ?_
  refine lv_iload_n hx hb dX3_init_108 rfl (lv_at hl 0 rfl) ?_
  refine lv_bipush (v := 6) hx hb dX3_init_109 (by decide) ?_
  refine lv_icmp_ge (tgt := 133) hx hb dX3_init_111 (by decide) (fun h => absurd h (by decide)) (fun _ => ?_)
  refine lv_aload_n hx hb dX3_init_114 rfl (lv_at hl 1 rfl) ?_
  refine va_get (D := (dC, dI)) (ci := 5) (v := .ref q9) (C := RX3) (T := TX3) (N := 12) hx hb hts zi_X3_init_X3 hown hK hP 0 rfl rfl 2 (by decide) (hts (.fieldLink RX3 25 "LockRooms$Room" "players" "[LLockRooms$Player;") (by decide +kernel)) (fun _ h9 => h9) rfl dX3_init_115 ?_
  refine lv_iload_n hx hb dX3_init_118 rfl (lv_at hl 0 rfl) ?_
  refine va_new (ci := 4) (fs := [.int 0, .int 0, .int 0, .int 0]) (C := RX2) (T := TX2) (N := 4) hx hb hts zi_X3_init_X2 tyX2 tyX2_ok hown (hts (.classLink RX3 23 RX2) (by decide +kernel)) (hts (.instantiable RX2 4) (by decide +kernel)) (hts (.initialized RX2) (by decide +kernel)) hK hP hD hS hA rfl (fun j hj => by rcases (show j = 0 ∨ j = 1 ∨ j = 2 ∨ j = 3 by omega) with rfl | rfl | rfl | rfl <;> rfl) (Nat.le_of_ble_eq_true rfl) (Nat.le_of_ble_eq_true rfl) dX3_init_119 (fun q189 H190 hP hD hS => ?_)
  have hP : va_P (dC, dI) vwCl [(rm, .inr (5, [.ref q1, .ref q5, .ref q9, .ref q13, .int 0, .int 0, .int 0, .int (-1), .int 1, .int 0, .int 0, .int 0])), (q1, .inl (cA3, 10, .inr (.inr (.inr (.inr f89))))), (q5, .inl (cA7, 12, .inr (.inr (.inr (.inr f173))))), (q9, .inl (cA11, 6, .inr (.inr (.inr (.inr f187))))), (q13, .inr (2, [.int 0, .int 0, .int 0, .int 0, .int 0, .int (-1), .long 0])), (q21, .inr (3, [.int 0, .int 0, .int 0, .int 0, .int 0, .int 0, .int 0, .int 0, .int 0, .int 0])), (q91, .inr (7, [.int 0, .int 0, .int 0, .int 0, .int 0])), (q175, .inr (4, [.int 0, .int 0, .int 0, .int 0])), (q189, .inr (4, [.int 0, .int 0, .int 0, .int 0]))] H190 := hP
  have hD : va_D A [(rm, .inr (5, [.ref q1, .ref q5, .ref q9, .ref q13, .int 0, .int 0, .int 0, .int (-1), .int 1, .int 0, .int 0, .int 0])), (q1, .inl (cA3, 10, .inr (.inr (.inr (.inr f89))))), (q5, .inl (cA7, 12, .inr (.inr (.inr (.inr f173))))), (q9, .inl (cA11, 6, .inr (.inr (.inr (.inr f187))))), (q13, .inr (2, [.int 0, .int 0, .int 0, .int 0, .int 0, .int (-1), .long 0])), (q21, .inr (3, [.int 0, .int 0, .int 0, .int 0, .int 0, .int 0, .int 0, .int 0, .int 0, .int 0])), (q91, .inr (7, [.int 0, .int 0, .int 0, .int 0, .int 0])), (q175, .inr (4, [.int 0, .int 0, .int 0, .int 0])), (q189, .inr (4, [.int 0, .int 0, .int 0, .int 0]))] := hD
  refine lv_dup hx hb dX3_init_122 rfl ?_
  have hPr := (zo_nil : va_P (dC, dI) vwCl [] H190)
  have hPc := hP.sub (ws' := []) [] rfl
  have hDc := hD.sub (ws' := []) [] (by decide) rfl
  have hKc := hK.sub (tys' := []) [] rfl
  have hFc := va_free (wc := []) hD hS hA [] rfl
  refine va_callv (va_runIN (As := []) (rest := [.ref q189, .int 2, .ref q9]) ⟨hx, hb, hml, hown, hts⟩ (cz_X2_init l dC dI ed H190.size q189) ⟨(va_cnB 0 hts gX3_init_X2_init_n46 rfl rfl rfl (hN.2.1 ("LockRooms$Room", 46, yX2_init, "LockRooms") (List.mem_of_getElem? (i := 3) rfl)) (hts (.initialized RX2) (by decide +kernel)) (by decide +kernel) ⟨Nat.le_of_ble_eq_true rfl, Nat.le_of_ble_eq_true rfl⟩), rfl, (hts (.instanceMethod yX2_init) (by decide +kernel))⟩ ⟨zb_blind, fun U hU hW => ⟨rfl, zb_mk hU hW hPr hPc hKc hDc hN hH hS hFc zx_e⟩⟩ rfl rfl hl.1 rfl (lv_room (Nat.le_of_ble_eq_true rfl)) dX3_init_123 ⟨Nat.le_of_ble_eq_true rfl, Nat.le_of_ble_eq_true rfl⟩) hS (fun q _ h => hFc q h) hFc (fun u t H191 locs ht hvm hw hB hz1 hk1 hS => ?_)
  have hP := zo_K hP hk1
  refine va_astq hx hb hK hP hD hS 3 2 8 4 rfl rfl rfl rfl (by unfold vp_in; decide) dX3_init_126 (fun H193 locs hP hD hS => ?_)
  obtain ⟨f194, ef194⟩ : ∃ z : Nat → Option Nat, z = va_up f187 2 (some q189) := ⟨_, rfl⟩
  have k195 : f194 0 = some q175 := by rw [ef194]; exact (va_up_ne _ _ (by decide)).trans (k188)
  have hP : va_P (dC, dI) vwCl [(rm, .inr (5, [.ref q1, .ref q5, .ref q9, .ref q13, .int 0, .int 0, .int 0, .int (-1), .int 1, .int 0, .int 0, .int 0])), (q1, .inl (cA3, 10, .inr (.inr (.inr (.inr f89))))), (q5, .inl (cA7, 12, .inr (.inr (.inr (.inr f173))))), (q9, .inl (cA11, 6, .inr (.inr (.inr (.inr f194))))), (q13, .inr (2, [.int 0, .int 0, .int 0, .int 0, .int 0, .int (-1), .long 0])), (q21, .inr (3, [.int 0, .int 0, .int 0, .int 0, .int 0, .int 0, .int 0, .int 0, .int 0, .int 0])), (q91, .inr (7, [.int 0, .int 0, .int 0, .int 0, .int 0])), (q175, .inr (4, [.int 0, .int 0, .int 0, .int 0])), (q189, .inr (4, [.int 0, .int 0, .int 0, .int 0]))] H193 := by rw [ef194]; exact hP
  have hD : va_D A [(rm, .inr (5, [.ref q1, .ref q5, .ref q9, .ref q13, .int 0, .int 0, .int 0, .int (-1), .int 1, .int 0, .int 0, .int 0])), (q1, .inl (cA3, 10, .inr (.inr (.inr (.inr f89))))), (q5, .inl (cA7, 12, .inr (.inr (.inr (.inr f173))))), (q9, .inl (cA11, 6, .inr (.inr (.inr (.inr f194))))), (q13, .inr (2, [.int 0, .int 0, .int 0, .int 0, .int 0, .int (-1), .long 0])), (q21, .inr (3, [.int 0, .int 0, .int 0, .int 0, .int 0, .int 0, .int 0, .int 0, .int 0, .int 0])), (q91, .inr (7, [.int 0, .int 0, .int 0, .int 0, .int 0])), (q175, .inr (4, [.int 0, .int 0, .int 0, .int 0])), (q189, .inr (4, [.int 0, .int 0, .int 0, .int 0]))] := by rw [ef194]; exact hD
  have hP := hP.sub (ws' := [(rm, .inr (5, [.ref q1, .ref q5, .ref q9, .ref q13, .int 0, .int 0, .int 0, .int (-1), .int 1, .int 0, .int 0, .int 0])), (q1, .inl (cA3, 10, .inr (.inr (.inr (.inr f89))))), (q5, .inl (cA7, 12, .inr (.inr (.inr (.inr f173))))), (q9, .inl (cA11, 6, .inr (.inr (.inr (.inr f194))))), (q13, .inr (2, [.int 0, .int 0, .int 0, .int 0, .int 0, .int (-1), .long 0])), (q21, .inr (3, [.int 0, .int 0, .int 0, .int 0, .int 0, .int 0, .int 0, .int 0, .int 0, .int 0])), (q91, .inr (7, [.int 0, .int 0, .int 0, .int 0, .int 0])), (q175, .inr (4, [.int 0, .int 0, .int 0, .int 0]))]) [0, 1, 2, 3, 4, 5, 6, 7] rfl
  have hD := hD.sub (ws' := [(rm, .inr (5, [.ref q1, .ref q5, .ref q9, .ref q13, .int 0, .int 0, .int 0, .int (-1), .int 1, .int 0, .int 0, .int 0])), (q1, .inl (cA3, 10, .inr (.inr (.inr (.inr f89))))), (q5, .inl (cA7, 12, .inr (.inr (.inr (.inr f173))))), (q9, .inl (cA11, 6, .inr (.inr (.inr (.inr f194))))), (q13, .inr (2, [.int 0, .int 0, .int 0, .int 0, .int 0, .int (-1), .long 0])), (q21, .inr (3, [.int 0, .int 0, .int 0, .int 0, .int 0, .int 0, .int 0, .int 0, .int 0, .int 0])), (q91, .inr (7, [.int 0, .int 0, .int 0, .int 0, .int 0])), (q175, .inr (4, [.int 0, .int 0, .int 0, .int 0]))]) [0, 1, 2, 3, 4, 5, 6, 7] (by decide) rfl
  refine lv_iinc (v := 3) (lv' := [(1, .int 3), (0, .ref rm)]) hx hb dX3_init_127 hl (k := 0) rfl (by decide) (by decide) rfl (fun ls hl => ?_)
  refine lv_goto (tgt := 108) hx hb dX3_init_130 (by decide) ?_
  refine lv_iload_n hx hb dX3_init_108 rfl (lv_at hl 0 rfl) ?_
  refine lv_bipush (v := 6) hx hb dX3_init_109 (by decide) ?_
  refine lv_icmp_ge (tgt := 133) hx hb dX3_init_111 (by decide) (fun h => absurd h (by decide)) (fun _ => ?_)
  refine lv_aload_n hx hb dX3_init_114 rfl (lv_at hl 1 rfl) ?_
  refine va_get (D := (dC, dI)) (ci := 5) (v := .ref q9) (C := RX3) (T := TX3) (N := 12) hx hb hts zi_X3_init_X3 hown hK hP 0 rfl rfl 2 (by decide) (hts (.fieldLink RX3 25 "LockRooms$Room" "players" "[LLockRooms$Player;") (by decide +kernel)) (fun _ h9 => h9) rfl dX3_init_115 ?_
  refine lv_iload_n hx hb dX3_init_118 rfl (lv_at hl 0 rfl) ?_
  refine va_new (ci := 4) (fs := [.int 0, .int 0, .int 0, .int 0]) (C := RX2) (T := TX2) (N := 4) hx hb hts zi_X3_init_X2 tyX2 tyX2_ok hown (hts (.classLink RX3 23 RX2) (by decide +kernel)) (hts (.instantiable RX2 4) (by decide +kernel)) (hts (.initialized RX2) (by decide +kernel)) hK hP hD hS hA rfl (fun j hj => by rcases (show j = 0 ∨ j = 1 ∨ j = 2 ∨ j = 3 by omega) with rfl | rfl | rfl | rfl <;> rfl) (Nat.le_of_ble_eq_true rfl) (Nat.le_of_ble_eq_true rfl) dX3_init_119 (fun q196 H197 hP hD hS => ?_)
  have hP : va_P (dC, dI) vwCl [(rm, .inr (5, [.ref q1, .ref q5, .ref q9, .ref q13, .int 0, .int 0, .int 0, .int (-1), .int 1, .int 0, .int 0, .int 0])), (q1, .inl (cA3, 10, .inr (.inr (.inr (.inr f89))))), (q5, .inl (cA7, 12, .inr (.inr (.inr (.inr f173))))), (q9, .inl (cA11, 6, .inr (.inr (.inr (.inr f194))))), (q13, .inr (2, [.int 0, .int 0, .int 0, .int 0, .int 0, .int (-1), .long 0])), (q21, .inr (3, [.int 0, .int 0, .int 0, .int 0, .int 0, .int 0, .int 0, .int 0, .int 0, .int 0])), (q91, .inr (7, [.int 0, .int 0, .int 0, .int 0, .int 0])), (q175, .inr (4, [.int 0, .int 0, .int 0, .int 0])), (q196, .inr (4, [.int 0, .int 0, .int 0, .int 0]))] H197 := hP
  have hD : va_D A [(rm, .inr (5, [.ref q1, .ref q5, .ref q9, .ref q13, .int 0, .int 0, .int 0, .int (-1), .int 1, .int 0, .int 0, .int 0])), (q1, .inl (cA3, 10, .inr (.inr (.inr (.inr f89))))), (q5, .inl (cA7, 12, .inr (.inr (.inr (.inr f173))))), (q9, .inl (cA11, 6, .inr (.inr (.inr (.inr f194))))), (q13, .inr (2, [.int 0, .int 0, .int 0, .int 0, .int 0, .int (-1), .long 0])), (q21, .inr (3, [.int 0, .int 0, .int 0, .int 0, .int 0, .int 0, .int 0, .int 0, .int 0, .int 0])), (q91, .inr (7, [.int 0, .int 0, .int 0, .int 0, .int 0])), (q175, .inr (4, [.int 0, .int 0, .int 0, .int 0])), (q196, .inr (4, [.int 0, .int 0, .int 0, .int 0]))] := hD
  refine lv_dup hx hb dX3_init_122 rfl ?_
  have hPr := (zo_nil : va_P (dC, dI) vwCl [] H197)
  have hPc := hP.sub (ws' := []) [] rfl
  have hDc := hD.sub (ws' := []) [] (by decide) rfl
  have hKc := hK.sub (tys' := []) [] rfl
  have hFc := va_free (wc := []) hD hS hA [] rfl
  refine va_callv (va_runIN (As := []) (rest := [.ref q196, .int 3, .ref q9]) ⟨hx, hb, hml, hown, hts⟩ (cz_X2_init l dC dI ed H197.size q196) ⟨(va_cnB 0 hts gX3_init_X2_init_n46 rfl rfl rfl (hN.2.1 ("LockRooms$Room", 46, yX2_init, "LockRooms") (List.mem_of_getElem? (i := 3) rfl)) (hts (.initialized RX2) (by decide +kernel)) (by decide +kernel) ⟨Nat.le_of_ble_eq_true rfl, Nat.le_of_ble_eq_true rfl⟩), rfl, (hts (.instanceMethod yX2_init) (by decide +kernel))⟩ ⟨zb_blind, fun U hU hW => ⟨rfl, zb_mk hU hW hPr hPc hKc hDc hN hH hS hFc zx_e⟩⟩ rfl rfl hl.1 rfl (lv_room (Nat.le_of_ble_eq_true rfl)) dX3_init_123 ⟨Nat.le_of_ble_eq_true rfl, Nat.le_of_ble_eq_true rfl⟩) hS (fun q _ h => hFc q h) hFc (fun u t H198 locs ht hvm hw hB hz1 hk1 hS => ?_)
  have hP := zo_K hP hk1
  refine va_astq hx hb hK hP hD hS 3 2 8 4 rfl rfl rfl rfl (by unfold vp_in; decide) dX3_init_126 (fun H200 locs hP hD hS => ?_)
  obtain ⟨f201, ef201⟩ : ∃ z : Nat → Option Nat, z = va_up f194 3 (some q196) := ⟨_, rfl⟩
  have k202 : f201 0 = some q175 := by rw [ef201]; exact (va_up_ne _ _ (by decide)).trans (k195)
  have hP : va_P (dC, dI) vwCl [(rm, .inr (5, [.ref q1, .ref q5, .ref q9, .ref q13, .int 0, .int 0, .int 0, .int (-1), .int 1, .int 0, .int 0, .int 0])), (q1, .inl (cA3, 10, .inr (.inr (.inr (.inr f89))))), (q5, .inl (cA7, 12, .inr (.inr (.inr (.inr f173))))), (q9, .inl (cA11, 6, .inr (.inr (.inr (.inr f201))))), (q13, .inr (2, [.int 0, .int 0, .int 0, .int 0, .int 0, .int (-1), .long 0])), (q21, .inr (3, [.int 0, .int 0, .int 0, .int 0, .int 0, .int 0, .int 0, .int 0, .int 0, .int 0])), (q91, .inr (7, [.int 0, .int 0, .int 0, .int 0, .int 0])), (q175, .inr (4, [.int 0, .int 0, .int 0, .int 0])), (q196, .inr (4, [.int 0, .int 0, .int 0, .int 0]))] H200 := by rw [ef201]; exact hP
  have hD : va_D A [(rm, .inr (5, [.ref q1, .ref q5, .ref q9, .ref q13, .int 0, .int 0, .int 0, .int (-1), .int 1, .int 0, .int 0, .int 0])), (q1, .inl (cA3, 10, .inr (.inr (.inr (.inr f89))))), (q5, .inl (cA7, 12, .inr (.inr (.inr (.inr f173))))), (q9, .inl (cA11, 6, .inr (.inr (.inr (.inr f201))))), (q13, .inr (2, [.int 0, .int 0, .int 0, .int 0, .int 0, .int (-1), .long 0])), (q21, .inr (3, [.int 0, .int 0, .int 0, .int 0, .int 0, .int 0, .int 0, .int 0, .int 0, .int 0])), (q91, .inr (7, [.int 0, .int 0, .int 0, .int 0, .int 0])), (q175, .inr (4, [.int 0, .int 0, .int 0, .int 0])), (q196, .inr (4, [.int 0, .int 0, .int 0, .int 0]))] := by rw [ef201]; exact hD
  have hP := hP.sub (ws' := [(rm, .inr (5, [.ref q1, .ref q5, .ref q9, .ref q13, .int 0, .int 0, .int 0, .int (-1), .int 1, .int 0, .int 0, .int 0])), (q1, .inl (cA3, 10, .inr (.inr (.inr (.inr f89))))), (q5, .inl (cA7, 12, .inr (.inr (.inr (.inr f173))))), (q9, .inl (cA11, 6, .inr (.inr (.inr (.inr f201))))), (q13, .inr (2, [.int 0, .int 0, .int 0, .int 0, .int 0, .int (-1), .long 0])), (q21, .inr (3, [.int 0, .int 0, .int 0, .int 0, .int 0, .int 0, .int 0, .int 0, .int 0, .int 0])), (q91, .inr (7, [.int 0, .int 0, .int 0, .int 0, .int 0])), (q175, .inr (4, [.int 0, .int 0, .int 0, .int 0]))]) [0, 1, 2, 3, 4, 5, 6, 7] rfl
  have hD := hD.sub (ws' := [(rm, .inr (5, [.ref q1, .ref q5, .ref q9, .ref q13, .int 0, .int 0, .int 0, .int (-1), .int 1, .int 0, .int 0, .int 0])), (q1, .inl (cA3, 10, .inr (.inr (.inr (.inr f89))))), (q5, .inl (cA7, 12, .inr (.inr (.inr (.inr f173))))), (q9, .inl (cA11, 6, .inr (.inr (.inr (.inr f201))))), (q13, .inr (2, [.int 0, .int 0, .int 0, .int 0, .int 0, .int (-1), .long 0])), (q21, .inr (3, [.int 0, .int 0, .int 0, .int 0, .int 0, .int 0, .int 0, .int 0, .int 0, .int 0])), (q91, .inr (7, [.int 0, .int 0, .int 0, .int 0, .int 0])), (q175, .inr (4, [.int 0, .int 0, .int 0, .int 0]))]) [0, 1, 2, 3, 4, 5, 6, 7] (by decide) rfl
  refine lv_iinc (v := 4) (lv' := [(1, .int 4), (0, .ref rm)]) hx hb dX3_init_127 hl (k := 0) rfl (by decide) (by decide) rfl (fun ls hl => ?_)
  refine lv_goto (tgt := 108) hx hb dX3_init_130 (by decide) ?_
  refine lv_iload_n hx hb dX3_init_108 rfl (lv_at hl 0 rfl) ?_
  refine lv_bipush (v := 6) hx hb dX3_init_109 (by decide) ?_
  refine lv_icmp_ge (tgt := 133) hx hb dX3_init_111 (by decide) (fun h => absurd h (by decide)) (fun _ => ?_)
  refine lv_aload_n hx hb dX3_init_114 rfl (lv_at hl 1 rfl) ?_
  refine va_get (D := (dC, dI)) (ci := 5) (v := .ref q9) (C := RX3) (T := TX3) (N := 12) hx hb hts zi_X3_init_X3 hown hK hP 0 rfl rfl 2 (by decide) (hts (.fieldLink RX3 25 "LockRooms$Room" "players" "[LLockRooms$Player;") (by decide +kernel)) (fun _ h9 => h9) rfl dX3_init_115 ?_
  refine lv_iload_n hx hb dX3_init_118 rfl (lv_at hl 0 rfl) ?_
  refine va_new (ci := 4) (fs := [.int 0, .int 0, .int 0, .int 0]) (C := RX2) (T := TX2) (N := 4) hx hb hts zi_X3_init_X2 tyX2 tyX2_ok hown (hts (.classLink RX3 23 RX2) (by decide +kernel)) (hts (.instantiable RX2 4) (by decide +kernel)) (hts (.initialized RX2) (by decide +kernel)) hK hP hD hS hA rfl (fun j hj => by rcases (show j = 0 ∨ j = 1 ∨ j = 2 ∨ j = 3 by omega) with rfl | rfl | rfl | rfl <;> rfl) (Nat.le_of_ble_eq_true rfl) (Nat.le_of_ble_eq_true rfl) dX3_init_119 (fun q203 H204 hP hD hS => ?_)
  have hP : va_P (dC, dI) vwCl [(rm, .inr (5, [.ref q1, .ref q5, .ref q9, .ref q13, .int 0, .int 0, .int 0, .int (-1), .int 1, .int 0, .int 0, .int 0])), (q1, .inl (cA3, 10, .inr (.inr (.inr (.inr f89))))), (q5, .inl (cA7, 12, .inr (.inr (.inr (.inr f173))))), (q9, .inl (cA11, 6, .inr (.inr (.inr (.inr f201))))), (q13, .inr (2, [.int 0, .int 0, .int 0, .int 0, .int 0, .int (-1), .long 0])), (q21, .inr (3, [.int 0, .int 0, .int 0, .int 0, .int 0, .int 0, .int 0, .int 0, .int 0, .int 0])), (q91, .inr (7, [.int 0, .int 0, .int 0, .int 0, .int 0])), (q175, .inr (4, [.int 0, .int 0, .int 0, .int 0])), (q203, .inr (4, [.int 0, .int 0, .int 0, .int 0]))] H204 := hP
  have hD : va_D A [(rm, .inr (5, [.ref q1, .ref q5, .ref q9, .ref q13, .int 0, .int 0, .int 0, .int (-1), .int 1, .int 0, .int 0, .int 0])), (q1, .inl (cA3, 10, .inr (.inr (.inr (.inr f89))))), (q5, .inl (cA7, 12, .inr (.inr (.inr (.inr f173))))), (q9, .inl (cA11, 6, .inr (.inr (.inr (.inr f201))))), (q13, .inr (2, [.int 0, .int 0, .int 0, .int 0, .int 0, .int (-1), .long 0])), (q21, .inr (3, [.int 0, .int 0, .int 0, .int 0, .int 0, .int 0, .int 0, .int 0, .int 0, .int 0])), (q91, .inr (7, [.int 0, .int 0, .int 0, .int 0, .int 0])), (q175, .inr (4, [.int 0, .int 0, .int 0, .int 0])), (q203, .inr (4, [.int 0, .int 0, .int 0, .int 0]))] := hD
  refine lv_dup hx hb dX3_init_122 rfl ?_
  have hPr := (zo_nil : va_P (dC, dI) vwCl [] H204)
  have hPc := hP.sub (ws' := []) [] rfl
  have hDc := hD.sub (ws' := []) [] (by decide) rfl
  have hKc := hK.sub (tys' := []) [] rfl
  have hFc := va_free (wc := []) hD hS hA [] rfl
  refine va_callv (va_runIN (As := []) (rest := [.ref q203, .int 4, .ref q9]) ⟨hx, hb, hml, hown, hts⟩ (cz_X2_init l dC dI ed H204.size q203) ⟨(va_cnB 0 hts gX3_init_X2_init_n46 rfl rfl rfl (hN.2.1 ("LockRooms$Room", 46, yX2_init, "LockRooms") (List.mem_of_getElem? (i := 3) rfl)) (hts (.initialized RX2) (by decide +kernel)) (by decide +kernel) ⟨Nat.le_of_ble_eq_true rfl, Nat.le_of_ble_eq_true rfl⟩), rfl, (hts (.instanceMethod yX2_init) (by decide +kernel))⟩ ⟨zb_blind, fun U hU hW => ⟨rfl, zb_mk hU hW hPr hPc hKc hDc hN hH hS hFc zx_e⟩⟩ rfl rfl hl.1 rfl (lv_room (Nat.le_of_ble_eq_true rfl)) dX3_init_123 ⟨Nat.le_of_ble_eq_true rfl, Nat.le_of_ble_eq_true rfl⟩) hS (fun q _ h => hFc q h) hFc (fun u t H205 locs ht hvm hw hB hz1 hk1 hS => ?_)
  have hP := zo_K hP hk1
  refine va_astq hx hb hK hP hD hS 3 2 8 4 rfl rfl rfl rfl (by unfold vp_in; decide) dX3_init_126 (fun H207 locs hP hD hS => ?_)
  obtain ⟨f208, ef208⟩ : ∃ z : Nat → Option Nat, z = va_up f201 4 (some q203) := ⟨_, rfl⟩
  have k209 : f208 0 = some q175 := by rw [ef208]; exact (va_up_ne _ _ (by decide)).trans (k202)
  have hP : va_P (dC, dI) vwCl [(rm, .inr (5, [.ref q1, .ref q5, .ref q9, .ref q13, .int 0, .int 0, .int 0, .int (-1), .int 1, .int 0, .int 0, .int 0])), (q1, .inl (cA3, 10, .inr (.inr (.inr (.inr f89))))), (q5, .inl (cA7, 12, .inr (.inr (.inr (.inr f173))))), (q9, .inl (cA11, 6, .inr (.inr (.inr (.inr f208))))), (q13, .inr (2, [.int 0, .int 0, .int 0, .int 0, .int 0, .int (-1), .long 0])), (q21, .inr (3, [.int 0, .int 0, .int 0, .int 0, .int 0, .int 0, .int 0, .int 0, .int 0, .int 0])), (q91, .inr (7, [.int 0, .int 0, .int 0, .int 0, .int 0])), (q175, .inr (4, [.int 0, .int 0, .int 0, .int 0])), (q203, .inr (4, [.int 0, .int 0, .int 0, .int 0]))] H207 := by rw [ef208]; exact hP
  have hD : va_D A [(rm, .inr (5, [.ref q1, .ref q5, .ref q9, .ref q13, .int 0, .int 0, .int 0, .int (-1), .int 1, .int 0, .int 0, .int 0])), (q1, .inl (cA3, 10, .inr (.inr (.inr (.inr f89))))), (q5, .inl (cA7, 12, .inr (.inr (.inr (.inr f173))))), (q9, .inl (cA11, 6, .inr (.inr (.inr (.inr f208))))), (q13, .inr (2, [.int 0, .int 0, .int 0, .int 0, .int 0, .int (-1), .long 0])), (q21, .inr (3, [.int 0, .int 0, .int 0, .int 0, .int 0, .int 0, .int 0, .int 0, .int 0, .int 0])), (q91, .inr (7, [.int 0, .int 0, .int 0, .int 0, .int 0])), (q175, .inr (4, [.int 0, .int 0, .int 0, .int 0])), (q203, .inr (4, [.int 0, .int 0, .int 0, .int 0]))] := by rw [ef208]; exact hD
  have hP := hP.sub (ws' := [(rm, .inr (5, [.ref q1, .ref q5, .ref q9, .ref q13, .int 0, .int 0, .int 0, .int (-1), .int 1, .int 0, .int 0, .int 0])), (q1, .inl (cA3, 10, .inr (.inr (.inr (.inr f89))))), (q5, .inl (cA7, 12, .inr (.inr (.inr (.inr f173))))), (q9, .inl (cA11, 6, .inr (.inr (.inr (.inr f208))))), (q13, .inr (2, [.int 0, .int 0, .int 0, .int 0, .int 0, .int (-1), .long 0])), (q21, .inr (3, [.int 0, .int 0, .int 0, .int 0, .int 0, .int 0, .int 0, .int 0, .int 0, .int 0])), (q91, .inr (7, [.int 0, .int 0, .int 0, .int 0, .int 0])), (q175, .inr (4, [.int 0, .int 0, .int 0, .int 0]))]) [0, 1, 2, 3, 4, 5, 6, 7] rfl
  have hD := hD.sub (ws' := [(rm, .inr (5, [.ref q1, .ref q5, .ref q9, .ref q13, .int 0, .int 0, .int 0, .int (-1), .int 1, .int 0, .int 0, .int 0])), (q1, .inl (cA3, 10, .inr (.inr (.inr (.inr f89))))), (q5, .inl (cA7, 12, .inr (.inr (.inr (.inr f173))))), (q9, .inl (cA11, 6, .inr (.inr (.inr (.inr f208))))), (q13, .inr (2, [.int 0, .int 0, .int 0, .int 0, .int 0, .int (-1), .long 0])), (q21, .inr (3, [.int 0, .int 0, .int 0, .int 0, .int 0, .int 0, .int 0, .int 0, .int 0, .int 0])), (q91, .inr (7, [.int 0, .int 0, .int 0, .int 0, .int 0])), (q175, .inr (4, [.int 0, .int 0, .int 0, .int 0]))]) [0, 1, 2, 3, 4, 5, 6, 7] (by decide) rfl
  refine lv_iinc (v := 5) (lv' := [(1, .int 5), (0, .ref rm)]) hx hb dX3_init_127 hl (k := 0) rfl (by decide) (by decide) rfl (fun ls hl => ?_)
  refine lv_goto (tgt := 108) hx hb dX3_init_130 (by decide) ?_
  refine lv_iload_n hx hb dX3_init_108 rfl (lv_at hl 0 rfl) ?_
  refine lv_bipush (v := 6) hx hb dX3_init_109 (by decide) ?_
  refine lv_icmp_ge (tgt := 133) hx hb dX3_init_111 (by decide) (fun h => absurd h (by decide)) (fun _ => ?_)
  refine lv_aload_n hx hb dX3_init_114 rfl (lv_at hl 1 rfl) ?_
  refine va_get (D := (dC, dI)) (ci := 5) (v := .ref q9) (C := RX3) (T := TX3) (N := 12) hx hb hts zi_X3_init_X3 hown hK hP 0 rfl rfl 2 (by decide) (hts (.fieldLink RX3 25 "LockRooms$Room" "players" "[LLockRooms$Player;") (by decide +kernel)) (fun _ h9 => h9) rfl dX3_init_115 ?_
  refine lv_iload_n hx hb dX3_init_118 rfl (lv_at hl 0 rfl) ?_
  refine va_new (ci := 4) (fs := [.int 0, .int 0, .int 0, .int 0]) (C := RX2) (T := TX2) (N := 4) hx hb hts zi_X3_init_X2 tyX2 tyX2_ok hown (hts (.classLink RX3 23 RX2) (by decide +kernel)) (hts (.instantiable RX2 4) (by decide +kernel)) (hts (.initialized RX2) (by decide +kernel)) hK hP hD hS hA rfl (fun j hj => by rcases (show j = 0 ∨ j = 1 ∨ j = 2 ∨ j = 3 by omega) with rfl | rfl | rfl | rfl <;> rfl) (Nat.le_of_ble_eq_true rfl) (Nat.le_of_ble_eq_true rfl) dX3_init_119 (fun q210 H211 hP hD hS => ?_)
  have hP : va_P (dC, dI) vwCl [(rm, .inr (5, [.ref q1, .ref q5, .ref q9, .ref q13, .int 0, .int 0, .int 0, .int (-1), .int 1, .int 0, .int 0, .int 0])), (q1, .inl (cA3, 10, .inr (.inr (.inr (.inr f89))))), (q5, .inl (cA7, 12, .inr (.inr (.inr (.inr f173))))), (q9, .inl (cA11, 6, .inr (.inr (.inr (.inr f208))))), (q13, .inr (2, [.int 0, .int 0, .int 0, .int 0, .int 0, .int (-1), .long 0])), (q21, .inr (3, [.int 0, .int 0, .int 0, .int 0, .int 0, .int 0, .int 0, .int 0, .int 0, .int 0])), (q91, .inr (7, [.int 0, .int 0, .int 0, .int 0, .int 0])), (q175, .inr (4, [.int 0, .int 0, .int 0, .int 0])), (q210, .inr (4, [.int 0, .int 0, .int 0, .int 0]))] H211 := hP
  have hD : va_D A [(rm, .inr (5, [.ref q1, .ref q5, .ref q9, .ref q13, .int 0, .int 0, .int 0, .int (-1), .int 1, .int 0, .int 0, .int 0])), (q1, .inl (cA3, 10, .inr (.inr (.inr (.inr f89))))), (q5, .inl (cA7, 12, .inr (.inr (.inr (.inr f173))))), (q9, .inl (cA11, 6, .inr (.inr (.inr (.inr f208))))), (q13, .inr (2, [.int 0, .int 0, .int 0, .int 0, .int 0, .int (-1), .long 0])), (q21, .inr (3, [.int 0, .int 0, .int 0, .int 0, .int 0, .int 0, .int 0, .int 0, .int 0, .int 0])), (q91, .inr (7, [.int 0, .int 0, .int 0, .int 0, .int 0])), (q175, .inr (4, [.int 0, .int 0, .int 0, .int 0])), (q210, .inr (4, [.int 0, .int 0, .int 0, .int 0]))] := hD
  refine lv_dup hx hb dX3_init_122 rfl ?_
  have hPr := (zo_nil : va_P (dC, dI) vwCl [] H211)
  have hPc := hP.sub (ws' := []) [] rfl
  have hDc := hD.sub (ws' := []) [] (by decide) rfl
  have hKc := hK.sub (tys' := []) [] rfl
  have hFc := va_free (wc := []) hD hS hA [] rfl
  refine va_callv (va_runIN (As := []) (rest := [.ref q210, .int 5, .ref q9]) ⟨hx, hb, hml, hown, hts⟩ (cz_X2_init l dC dI ed H211.size q210) ⟨(va_cnB 0 hts gX3_init_X2_init_n46 rfl rfl rfl (hN.2.1 ("LockRooms$Room", 46, yX2_init, "LockRooms") (List.mem_of_getElem? (i := 3) rfl)) (hts (.initialized RX2) (by decide +kernel)) (by decide +kernel) ⟨Nat.le_of_ble_eq_true rfl, Nat.le_of_ble_eq_true rfl⟩), rfl, (hts (.instanceMethod yX2_init) (by decide +kernel))⟩ ⟨zb_blind, fun U hU hW => ⟨rfl, zb_mk hU hW hPr hPc hKc hDc hN hH hS hFc zx_e⟩⟩ rfl rfl hl.1 rfl (lv_room (Nat.le_of_ble_eq_true rfl)) dX3_init_123 ⟨Nat.le_of_ble_eq_true rfl, Nat.le_of_ble_eq_true rfl⟩) hS (fun q _ h => hFc q h) hFc (fun u t H212 locs ht hvm hw hB hz1 hk1 hS => ?_)
  have hP := zo_K hP hk1
  refine va_astq hx hb hK hP hD hS 3 2 8 4 rfl rfl rfl rfl (by unfold vp_in; decide) dX3_init_126 (fun H214 locs hP hD hS => ?_)
  obtain ⟨f215, ef215⟩ : ∃ z : Nat → Option Nat, z = va_up f208 5 (some q210) := ⟨_, rfl⟩
  have k216 : f215 0 = some q175 := by rw [ef215]; exact (va_up_ne _ _ (by decide)).trans (k209)
  have hP : va_P (dC, dI) vwCl [(rm, .inr (5, [.ref q1, .ref q5, .ref q9, .ref q13, .int 0, .int 0, .int 0, .int (-1), .int 1, .int 0, .int 0, .int 0])), (q1, .inl (cA3, 10, .inr (.inr (.inr (.inr f89))))), (q5, .inl (cA7, 12, .inr (.inr (.inr (.inr f173))))), (q9, .inl (cA11, 6, .inr (.inr (.inr (.inr f215))))), (q13, .inr (2, [.int 0, .int 0, .int 0, .int 0, .int 0, .int (-1), .long 0])), (q21, .inr (3, [.int 0, .int 0, .int 0, .int 0, .int 0, .int 0, .int 0, .int 0, .int 0, .int 0])), (q91, .inr (7, [.int 0, .int 0, .int 0, .int 0, .int 0])), (q175, .inr (4, [.int 0, .int 0, .int 0, .int 0])), (q210, .inr (4, [.int 0, .int 0, .int 0, .int 0]))] H214 := by rw [ef215]; exact hP
  have hD : va_D A [(rm, .inr (5, [.ref q1, .ref q5, .ref q9, .ref q13, .int 0, .int 0, .int 0, .int (-1), .int 1, .int 0, .int 0, .int 0])), (q1, .inl (cA3, 10, .inr (.inr (.inr (.inr f89))))), (q5, .inl (cA7, 12, .inr (.inr (.inr (.inr f173))))), (q9, .inl (cA11, 6, .inr (.inr (.inr (.inr f215))))), (q13, .inr (2, [.int 0, .int 0, .int 0, .int 0, .int 0, .int (-1), .long 0])), (q21, .inr (3, [.int 0, .int 0, .int 0, .int 0, .int 0, .int 0, .int 0, .int 0, .int 0, .int 0])), (q91, .inr (7, [.int 0, .int 0, .int 0, .int 0, .int 0])), (q175, .inr (4, [.int 0, .int 0, .int 0, .int 0])), (q210, .inr (4, [.int 0, .int 0, .int 0, .int 0]))] := by rw [ef215]; exact hD
  have hP := hP.sub (ws' := [(rm, .inr (5, [.ref q1, .ref q5, .ref q9, .ref q13, .int 0, .int 0, .int 0, .int (-1), .int 1, .int 0, .int 0, .int 0])), (q1, .inl (cA3, 10, .inr (.inr (.inr (.inr f89))))), (q5, .inl (cA7, 12, .inr (.inr (.inr (.inr f173))))), (q9, .inl (cA11, 6, .inr (.inr (.inr (.inr f215))))), (q13, .inr (2, [.int 0, .int 0, .int 0, .int 0, .int 0, .int (-1), .long 0])), (q21, .inr (3, [.int 0, .int 0, .int 0, .int 0, .int 0, .int 0, .int 0, .int 0, .int 0, .int 0])), (q91, .inr (7, [.int 0, .int 0, .int 0, .int 0, .int 0])), (q175, .inr (4, [.int 0, .int 0, .int 0, .int 0]))]) [0, 1, 2, 3, 4, 5, 6, 7] rfl
  have hD := hD.sub (ws' := [(rm, .inr (5, [.ref q1, .ref q5, .ref q9, .ref q13, .int 0, .int 0, .int 0, .int (-1), .int 1, .int 0, .int 0, .int 0])), (q1, .inl (cA3, 10, .inr (.inr (.inr (.inr f89))))), (q5, .inl (cA7, 12, .inr (.inr (.inr (.inr f173))))), (q9, .inl (cA11, 6, .inr (.inr (.inr (.inr f215))))), (q13, .inr (2, [.int 0, .int 0, .int 0, .int 0, .int 0, .int (-1), .long 0])), (q21, .inr (3, [.int 0, .int 0, .int 0, .int 0, .int 0, .int 0, .int 0, .int 0, .int 0, .int 0])), (q91, .inr (7, [.int 0, .int 0, .int 0, .int 0, .int 0])), (q175, .inr (4, [.int 0, .int 0, .int 0, .int 0]))]) [0, 1, 2, 3, 4, 5, 6, 7] (by decide) rfl
  refine lv_iinc (v := 6) (lv' := [(1, .int 6), (0, .ref rm)]) hx hb dX3_init_127 hl (k := 0) rfl (by decide) (by decide) rfl (fun ls hl => ?_)
  refine lv_goto (tgt := 108) hx hb dX3_init_130 (by decide) ?_
  refine lv_iload_n hx hb dX3_init_108 rfl (lv_at hl 0 rfl) ?_
  refine lv_bipush (v := 6) hx hb dX3_init_109 (by decide) ?_
  refine lv_icmp_ge (tgt := 133) hx hb dX3_init_111 (by decide) (fun _ => ?_) (fun h => absurd h (by decide))
  refine W.widen (k := 32) (n := 219) (Nat.le_of_ble_eq_true rfl) (Nat.le_of_ble_eq_true rfl) ?_
  have hP9 := hP.sub (ws' := [(rm, .inr (5, [.ref q1, .ref q5, .ref q9, .ref q13, .int 0, .int 0, .int 0, .int (-1), .int 1, .int 0, .int 0, .int 0])), (q9, .inl (cA11, 6, .inr (.inr (.inr (.inr f215))))), (q13, .inr (2, [.int 0, .int 0, .int 0, .int 0, .int 0, .int (-1), .long 0])), (q175, .inr (4, [.int 0, .int 0, .int 0, .int 0]))]) [0, 3, 4, 7] rfl
  have hD9 := hD.sub (ws' := [(rm, .inr (5, [.ref q1, .ref q5, .ref q9, .ref q13, .int 0, .int 0, .int 0, .int (-1), .int 1, .int 0, .int 0, .int 0])), (q9, .inl (cA11, 6, .inr (.inr (.inr (.inr f215))))), (q13, .inr (2, [.int 0, .int 0, .int 0, .int 0, .int 0, .int (-1), .long 0])), (q175, .inr (4, [.int 0, .int 0, .int 0, .int 0]))]) [0, 3, 4, 7] (by decide) rfl
  have hK9 := hK.sub (tys' := [(cA11, .object "LockRooms$Player")]) [2] rfl
  exact W.vret hx hb hr (fun t ht hW => ⟨⟨(), rfl, trivial, ⟨q1, q5, q9, q13, cA11, f215, q175, k216, by rw [ht]; exact hP9, hD9, va_K.moved hW.alike hK9⟩⟩, hS.F ht⟩) hS.2.2 dX3_init_133

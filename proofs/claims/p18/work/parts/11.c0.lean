set_option maxHeartbeats 4000000 in
set_option maxRecDepth 100000 in
theorem cz_oneIf_0 (l : Launch) (dC : Nat → ClassId) (dI : Nat → Nat → Nat) (ed sz : Nat) : Met l yX6_oneIf wsX6_oneIf ({ frames := 0, cells := 0, slots := 0, locals := 0 } : Jvm.Room) (va_Pc [.int 0] (zB dC dI ed sz [] [] [])) (va_Qi (fun (r : Int32) (_ : Unit) => r = 0) (fun (_ : Unit) (_ : State) => True) (va_A [] sz)) 0 0 (va_A [] sz) := by
  refine Met.ofW (cc := cX6_oneIf) (maxL := 1) (ret := (some .int)) (by decide) rfl ?_
  intro p e s m args below meth c s₁ B hml hv
  obtain ⟨rfl, hsz, hR0, hP, hK, hD0, hN, hH, hX0⟩ := hv
  have hx := B.exec
  have hb := B.bytes
  have hr := B.returns
  have hts := atoms_spec (ws := wsX6_oneIf) B.pre
  have hown : s.vm.findClass RX6 = some m.cls := findClass_of_methodNamed B.named
  have hlocks := B.notSynchronized
  subst hsz
  have hD := hD0.self (sz := s.heap.size)
  have hAr := zx_A hX0 hR0
  generalize hAe : va_A [] s.heap.size = A at hD hAr hH ⊢
  have hA : ∀ q : Nat, s.heap.size ≤ q → A q := fun q h => by rw [← hAe]; exact Or.inr h
  have hS : va_S A s.heap s.heap [] := va_S.rf
  have hl := lv_entry ([.int 0]) (n := 1) (Nat.le_of_ble_eq_true rfl)
  rw [lg_entry_eq]
  generalize (lg_sl ([.int 0]) ++ List.replicate (1 - (lg_sl ([.int 0])).length) Slot.unset).toArray = ls at hl ⊢
  have hl : lv_has ls 1 [(0, .int 0)] := hl
  refine lv_iload_n hx hb dX6_oneIf_0 rfl (lv_at hl 0 rfl) ?_
  refine lv_if_eq (tgt := 8) hx hb dX6_oneIf_1 (by decide) (fun _ => ?_) (fun h => absurd h (by decide))
  refine lv_iconst (v := 0) hx hb dX6_oneIf_8 (by decide) ?_
  refine W.widen (k := 0) (n := 0) (Nat.le_of_ble_eq_true rfl) (Nat.le_of_ble_eq_true rfl) ?_
  exact W.iret hx hb hr (fun t ht hW => ⟨⟨0, (), rfl, rfl, trivial⟩, hS.F ht⟩) hS.2.2 dX6_oneIf_9
set_option maxHeartbeats 4000000 in
set_option maxRecDepth 100000 in
theorem cz_oneIf_1 (l : Launch) (dC : Nat → ClassId) (dI : Nat → Nat → Nat) (ed sz : Nat) : Met l yX6_oneIf wsX6_oneIf ({ frames := 0, cells := 0, slots := 0, locals := 0 } : Jvm.Room) (va_Pc [.int 1] (zB dC dI ed sz [] [] [])) (va_Qi (fun (r : Int32) (_ : Unit) => r = 1) (fun (_ : Unit) (_ : State) => True) (va_A [] sz)) 0 0 (va_A [] sz) := by
  refine Met.ofW (cc := cX6_oneIf) (maxL := 1) (ret := (some .int)) (by decide) rfl ?_
  intro p e s m args below meth c s₁ B hml hv
  obtain ⟨rfl, hsz, hR0, hP, hK, hD0, hN, hH, hX0⟩ := hv
  have hx := B.exec
  have hb := B.bytes
  have hr := B.returns
  have hts := atoms_spec (ws := wsX6_oneIf) B.pre
  have hown : s.vm.findClass RX6 = some m.cls := findClass_of_methodNamed B.named
  have hlocks := B.notSynchronized
  subst hsz
  have hD := hD0.self (sz := s.heap.size)
  have hAr := zx_A hX0 hR0
  generalize hAe : va_A [] s.heap.size = A at hD hAr hH ⊢
  have hA : ∀ q : Nat, s.heap.size ≤ q → A q := fun q h => by rw [← hAe]; exact Or.inr h
  have hS : va_S A s.heap s.heap [] := va_S.rf
  have hl := lv_entry ([.int 1]) (n := 1) (Nat.le_of_ble_eq_true rfl)
  rw [lg_entry_eq]
  generalize (lg_sl ([.int 1]) ++ List.replicate (1 - (lg_sl ([.int 1])).length) Slot.unset).toArray = ls at hl ⊢
  have hl : lv_has ls 1 [(0, .int 1)] := hl
  refine lv_iload_n hx hb dX6_oneIf_0 rfl (lv_at hl 0 rfl) ?_
  refine lv_if_eq (tgt := 8) hx hb dX6_oneIf_1 (by decide) (fun h => absurd h (by decide)) (fun _ => ?_)
  refine lv_iconst (v := 1) hx hb dX6_oneIf_4 (by decide) ?_
  refine lv_goto (tgt := 9) hx hb dX6_oneIf_5 (by decide) ?_
  refine W.widen (k := 0) (n := 0) (Nat.le_of_ble_eq_true rfl) (Nat.le_of_ble_eq_true rfl) ?_
  exact W.iret hx hb hr (fun t ht hW => ⟨⟨1, (), rfl, rfl, trivial⟩, hS.F ht⟩) hS.2.2 dX6_oneIf_9
set_option maxRecDepth 20000 in
theorem zi_X3_hasLock_X3 : ∀ w ∈ u_ws RX3 TX3 12, w ∈ wsX3_hasLock := by decide +kernel
set_option maxRecDepth 20000 in
theorem zi_X3_hasThing_X3 : ∀ w ∈ u_ws RX3 TX3 12, w ∈ wsX3_hasThing := by decide +kernel
set_option maxRecDepth 20000 in
theorem zi_X3_thingsIn_X3 : ∀ w ∈ u_ws RX3 TX3 12, w ∈ wsX3_thingsIn := by decide +kernel
set_option maxRecDepth 20000 in
theorem zi_X3_openLocks_X3 : ∀ w ∈ u_ws RX3 TX3 12, w ∈ wsX3_openLocks := by decide +kernel
set_option maxRecDepth 20000 in
theorem zi_X3_readyLocks_X3 : ∀ w ∈ u_ws RX3 TX3 12, w ∈ wsX3_readyLocks := by decide +kernel
set_option maxRecDepth 20000 in
theorem zi_X3_thingsAtHand_X3 : ∀ w ∈ u_ws RX3 TX3 12, w ∈ wsX3_thingsAtHand := by decide +kernel
set_option maxRecDepth 20000 in
theorem zi_X3_tell_X3 : ∀ w ∈ u_ws RX3 TX3 12, w ∈ wsX3_tell := by decide +kernel
set_option maxRecDepth 20000 in
theorem zi_X3_tell_X0 : ∀ w ∈ u_ws RX0 TX0 7, w ∈ wsX3_tell := by decide +kernel
set_option maxRecDepth 20000 in
theorem zi_X4_endOfStands_X3 : ∀ w ∈ u_ws RX3 TX3 12, w ∈ wsX4_endOfStands := by decide +kernel
set_option maxRecDepth 20000 in
theorem zi_X4_yetBehind_X4 : ∀ w ∈ u_ws RX4 TX4 3, w ∈ wsX4_yetBehind := by decide +kernel
set_option maxRecDepth 20000 in
theorem zi_X4_leastYet_X3 : ∀ w ∈ u_ws RX3 TX3 12, w ∈ wsX4_leastYet := by decide +kernel
set_option maxRecDepth 20000 in
theorem zi_X4_goOn_X3 : ∀ w ∈ u_ws RX3 TX3 12, w ∈ wsX4_goOn := by decide +kernel
set_option maxRecDepth 20000 in
theorem zi_X4_goOn_X4 : ∀ w ∈ u_ws RX4 TX4 3, w ∈ wsX4_goOn := by decide +kernel
set_option maxRecDepth 20000 in
theorem zi_X4_explore_X4 : ∀ w ∈ u_ws RX4 TX4 3, w ∈ wsX4_explore := by decide +kernel
set_option maxRecDepth 20000 in
theorem zi_X4_explore_X3 : ∀ w ∈ u_ws RX3 TX3 12, w ∈ wsX4_explore := by decide +kernel
set_option maxRecDepth 20000 in
theorem zi_X4_countReached_X4 : ∀ w ∈ u_ws RX4 TX4 3, w ∈ wsX4_countReached := by decide +kernel
set_option maxRecDepth 20000 in
theorem zi_X4_countDeadEnds_X4 : ∀ w ∈ u_ws RX4 TX4 3, w ∈ wsX4_countDeadEnds := by decide +kernel
set_option maxRecDepth 20000 in
theorem zi_X4_findBestReady_X3 : ∀ w ∈ u_ws RX3 TX3 12, w ∈ wsX4_findBestReady := by decide +kernel
set_option maxHeartbeats 4000000 in
set_option maxRecDepth 100000 in
theorem cz_X1_init (l : Launch) (dC : Nat → ClassId) (dI : Nat → Nat → Nat) (ed sz : Nat) (h0 : Nat) : Met l yX1_init wsX1_init ({ frames := 1, cells := 0, slots := 0, locals := 12 } : Jvm.Room) (va_Pc [.ref h0] (zB dC dI ed sz [] [] [])) (va_Qv (fun (_ : Unit) => True) (fun (_ : Unit) (_ : State) => True) (va_A [] sz)) 0 0 (va_A [] sz) := by
  refine Met.ofW (cc := cX1_init) (maxL := 1) (ret := none) (by decide) rfl ?_
  intro p e s m args below meth c s₁ B hml hv
  obtain ⟨rfl, hsz, hR0, hP, hK, hD0, hN, hH, hX0⟩ := hv
  have hx := B.exec
  have hb := B.bytes
  have hr := B.returns
  have hts := atoms_spec (ws := wsX1_init) B.pre
  have hown : s.vm.findClass RX1 = some m.cls := findClass_of_methodNamed B.named
  have hlocks := B.notSynchronized
  have hin : meth.name = "<init>" := (name_of_methodNamed B.named B.method).1
  subst hsz
  have hD := hD0.self (sz := s.heap.size)
  have hAr := zx_A hX0 hR0
  generalize hAe : va_A [] s.heap.size = A at hD hAr hH ⊢
  have hA : ∀ q : Nat, s.heap.size ≤ q → A q := fun q h => by rw [← hAe]; exact Or.inr h
  have hS : va_S A s.heap s.heap [] := va_S.rf
  have hl := lv_entry ([.ref h0]) (n := 1) (Nat.le_of_ble_eq_true rfl)
  rw [lg_entry_eq]
  generalize (lg_sl ([.ref h0]) ++ List.replicate (1 - (lg_sl ([.ref h0])).length) Slot.unset).toArray = ls at hl ⊢
  have hl : lv_has ls 1 [(0, .ref h0)] := hl
  refine lv_aload_n hx hb dX1_init_0 rfl (lv_at hl 0 rfl) ?_
  refine W.objInit hx hb hown (hts (.methodLink RX1 3 objectInit) (by decide +kernel)) (hts (.instanceMethod objectInit) (by decide +kernel)) (hts (.code objectInit ⟨#[0xb1]⟩ 1 none) (by decide +kernel)) rfl (by rw [hml]; exact hl.1) rfl dX1_init_1 (Nat.le_of_ble_eq_true rfl) (Nat.le_of_ble_eq_true rfl) ?_
  refine W.eq (g2 := F0 m 4 ls []) rfl ?_
  refine W.widen (k := 0) (n := 0) (Nat.le_of_ble_eq_true rfl) (Nat.le_of_ble_eq_true rfl) ?_
  exact W.vret hx hb hr (fun t ht hW => ⟨⟨(), rfl, trivial, trivial⟩, hS.F ht⟩) hS.2.2 dX1_init_4
set_option maxHeartbeats 4000000 in
set_option maxRecDepth 100000 in
theorem cz_X5_init (l : Launch) (dC : Nat → ClassId) (dI : Nat → Nat → Nat) (ed sz : Nat) (h0 : Nat) : Met l yX5_init wsX5_init ({ frames := 1, cells := 0, slots := 0, locals := 12 } : Jvm.Room) (va_Pc [.ref h0] (zB dC dI ed sz [] [] [])) (va_Qv (fun (_ : Unit) => True) (fun (_ : Unit) (_ : State) => True) (va_A [] sz)) 0 0 (va_A [] sz) := by
  refine Met.ofW (cc := cX5_init) (maxL := 1) (ret := none) (by decide) rfl ?_
  intro p e s m args below meth c s₁ B hml hv
  obtain ⟨rfl, hsz, hR0, hP, hK, hD0, hN, hH, hX0⟩ := hv
  have hx := B.exec
  have hb := B.bytes
  have hr := B.returns
  have hts := atoms_spec (ws := wsX5_init) B.pre
  have hown : s.vm.findClass RX5 = some m.cls := findClass_of_methodNamed B.named
  have hlocks := B.notSynchronized
  have hin : meth.name = "<init>" := (name_of_methodNamed B.named B.method).1
  subst hsz
  have hD := hD0.self (sz := s.heap.size)
  have hAr := zx_A hX0 hR0
  generalize hAe : va_A [] s.heap.size = A at hD hAr hH ⊢
  have hA : ∀ q : Nat, s.heap.size ≤ q → A q := fun q h => by rw [← hAe]; exact Or.inr h
  have hS : va_S A s.heap s.heap [] := va_S.rf
  have hl := lv_entry ([.ref h0]) (n := 1) (Nat.le_of_ble_eq_true rfl)
  rw [lg_entry_eq]
  generalize (lg_sl ([.ref h0]) ++ List.replicate (1 - (lg_sl ([.ref h0])).length) Slot.unset).toArray = ls at hl ⊢
  have hl : lv_has ls 1 [(0, .ref h0)] := hl
  refine lv_aload_n hx hb dX5_init_0 rfl (lv_at hl 0 rfl) ?_
  refine W.objInit hx hb hown (hts (.methodLink RX5 3 objectInit) (by decide +kernel)) (hts (.instanceMethod objectInit) (by decide +kernel)) (hts (.code objectInit ⟨#[0xb1]⟩ 1 none) (by decide +kernel)) rfl (by rw [hml]; exact hl.1) rfl dX5_init_1 (Nat.le_of_ble_eq_true rfl) (Nat.le_of_ble_eq_true rfl) ?_
  refine W.eq (g2 := F0 m 4 ls []) rfl ?_
  refine W.widen (k := 0) (n := 0) (Nat.le_of_ble_eq_true rfl) (Nat.le_of_ble_eq_true rfl) ?_
  exact W.vret hx hb hr (fun t ht hW => ⟨⟨(), rfl, trivial, trivial⟩, hS.F ht⟩) hS.2.2 dX5_init_4
set_option maxHeartbeats 4000000 in
set_option maxRecDepth 100000 in
theorem cz_X2_init (l : Launch) (dC : Nat → ClassId) (dI : Nat → Nat → Nat) (ed sz : Nat) (h0 : Nat) : Met l yX2_init wsX2_init ({ frames := 1, cells := 0, slots := 0, locals := 12 } : Jvm.Room) (va_Pc [.ref h0] (zB dC dI ed sz [] [] [])) (va_Qv (fun (_ : Unit) => True) (fun (_ : Unit) (_ : State) => True) (va_A [] sz)) 0 0 (va_A [] sz) := by
  refine Met.ofW (cc := cX2_init) (maxL := 1) (ret := none) (by decide) rfl ?_
  intro p e s m args below meth c s₁ B hml hv
  obtain ⟨rfl, hsz, hR0, hP, hK, hD0, hN, hH, hX0⟩ := hv
  have hx := B.exec
  have hb := B.bytes
  have hr := B.returns
  have hts := atoms_spec (ws := wsX2_init) B.pre
  have hown : s.vm.findClass RX2 = some m.cls := findClass_of_methodNamed B.named
  have hlocks := B.notSynchronized
  have hin : meth.name = "<init>" := (name_of_methodNamed B.named B.method).1
  subst hsz
  have hD := hD0.self (sz := s.heap.size)
  have hAr := zx_A hX0 hR0
  generalize hAe : va_A [] s.heap.size = A at hD hAr hH ⊢
  have hA : ∀ q : Nat, s.heap.size ≤ q → A q := fun q h => by rw [← hAe]; exact Or.inr h
  have hS : va_S A s.heap s.heap [] := va_S.rf
  have hl := lv_entry ([.ref h0]) (n := 1) (Nat.le_of_ble_eq_true rfl)
  rw [lg_entry_eq]
  generalize (lg_sl ([.ref h0]) ++ List.replicate (1 - (lg_sl ([.ref h0])).length) Slot.unset).toArray = ls at hl ⊢
  have hl : lv_has ls 1 [(0, .ref h0)] := hl
  refine lv_aload_n hx hb dX2_init_0 rfl (lv_at hl 0 rfl) ?_
  refine W.objInit hx hb hown (hts (.methodLink RX2 3 objectInit) (by decide +kernel)) (hts (.instanceMethod objectInit) (by decide +kernel)) (hts (.code objectInit ⟨#[0xb1]⟩ 1 none) (by decide +kernel)) rfl (by rw [hml]; exact hl.1) rfl dX2_init_1 (Nat.le_of_ble_eq_true rfl) (Nat.le_of_ble_eq_true rfl) ?_
  refine W.eq (g2 := F0 m 4 ls []) rfl ?_
  refine W.widen (k := 0) (n := 0) (Nat.le_of_ble_eq_true rfl) (Nat.le_of_ble_eq_true rfl) ?_
  exact W.vret hx hb hr (fun t ht hW => ⟨⟨(), rfl, trivial, trivial⟩, hS.F ht⟩) hS.2.2 dX2_init_4
set_option maxRecDepth 20000 in
theorem zi_X0_init_X0 : ∀ w ∈ u_ws RX0 TX0 7, w ∈ wsX0_init := by decide +kernel
set_option maxHeartbeats 4000000 in
set_option maxRecDepth 100000 in
theorem cz_X0_init (l : Launch) (dC : Nat → ClassId) (dI : Nat → Nat → Nat) (ed sz : Nat) (gm : Nat) : Met l yX0_init wsX0_init ({ frames := 1, cells := 0, slots := 0, locals := 12 } : Jvm.Room) (va_Pc [.ref gm] (zB dC dI ed sz [] [(gm, .inr (2, [.int 0, .int 0, .int 0, .int 0, .int 0, .int 0, .long 0]))] [])) (va_Qv (fun (_ : Unit) => True) (fun (_ : Unit) (t : State) => va_P (dC, dI) vwCl [(gm, .inr (2, [.int 0, .int 0, .int 0, .int 0, .int 0, .int (-1), .long 0]))] t.heap ∧ va_D (va_A [(gm, .inr (2, [.int 0, .int 0, .int 0, .int 0, .int 0, .int 0, .long 0]))] sz) [(gm, .inr (2, [.int 0, .int 0, .int 0, .int 0, .int 0, .int (-1), .long 0]))] ∧ va_K (dC, dI) vwCl [] t) (va_A [(gm, .inr (2, [.int 0, .int 0, .int 0, .int 0, .int 0, .int 0, .long 0]))] sz)) 0 0 (va_A [(gm, .inr (2, [.int 0, .int 0, .int 0, .int 0, .int 0, .int 0, .long 0]))] sz) := by
  refine Met.ofW (cc := cX0_init) (maxL := 1) (ret := none) (by decide) rfl ?_
  intro p e s m args below meth c s₁ B hml hv
  obtain ⟨rfl, hsz, hR0, hP, hK, hD0, hN, hH, hX0⟩ := hv
  have hx := B.exec
  have hb := B.bytes
  have hr := B.returns
  have hts := atoms_spec (ws := wsX0_init) B.pre
  have hown : s.vm.findClass RX0 = some m.cls := findClass_of_methodNamed B.named
  have hlocks := B.notSynchronized
  have hin : meth.name = "<init>" := (name_of_methodNamed B.named B.method).1
  subst hsz
  have hD := hD0.self (sz := s.heap.size)
  have hAr := zx_A hX0 hR0
  generalize hAe : va_A [(gm, .inr (2, [.int 0, .int 0, .int 0, .int 0, .int 0, .int 0, .long 0]))] s.heap.size = A at hD hAr hH ⊢
  have hA : ∀ q : Nat, s.heap.size ≤ q → A q := fun q h => by rw [← hAe]; exact Or.inr h
  have hS : va_S A s.heap s.heap [] := va_S.rf
  have hl := lv_entry ([.ref gm]) (n := 1) (Nat.le_of_ble_eq_true rfl)
  rw [lg_entry_eq]
  generalize (lg_sl ([.ref gm]) ++ List.replicate (1 - (lg_sl ([.ref gm])).length) Slot.unset).toArray = ls at hl ⊢
  have hl : lv_has ls 1 [(0, .ref gm)] := hl
  refine lv_aload_n hx hb dX0_init_0 rfl (lv_at hl 0 rfl) ?_
  refine W.objInit hx hb hown (hts (.methodLink RX0 3 objectInit) (by decide +kernel)) (hts (.instanceMethod objectInit) (by decide +kernel)) (hts (.code objectInit ⟨#[0xb1]⟩ 1 none) (by decide +kernel)) rfl (by rw [hml]; exact hl.1) rfl dX0_init_1 (Nat.le_of_ble_eq_true rfl) (Nat.le_of_ble_eq_true rfl) ?_
  refine W.eq (g2 := F0 m 4 ls []) rfl ?_
  refine lv_aload_n hx hb dX0_init_4 rfl (lv_at hl 0 rfl) ?_
  refine lv_iconst (v := (-1)) hx hb dX0_init_5 (by decide) ?_
  refine va_put (D := (dC, dI)) (ci := 2) (v := .int (-1)) (ty := .int) (C := RX0) (T := TX0) (N := 7) hx hb hts zi_X0_init_X0 tyX0 tyX0_ok nmX0 hown hK hP hD hS 0 rfl rfl 5 (by decide) (hts (.fieldLink RX0 9 "LockRooms$Games" "record" "I") (by decide +kernel)) (fun _ h9 => h9) rfl (by decide +kernel) rfl rfl (Nat.le_of_ble_eq_true rfl) dX0_init_6 (fun H1 locs hP hD hS => ?_)
  have hP : va_P (dC, dI) vwCl [(gm, .inr (2, [.int 0, .int 0, .int 0, .int 0, .int 0, .int (-1), .long 0]))] H1 := hP
  have hD : va_D A [(gm, .inr (2, [.int 0, .int 0, .int 0, .int 0, .int 0, .int (-1), .long 0]))] := hD
  refine W.widen (k := 0) (n := 0) (Nat.le_of_ble_eq_true rfl) (Nat.le_of_ble_eq_true rfl) ?_
  have hP9 := hP.sub (ws' := [(gm, .inr (2, [.int 0, .int 0, .int 0, .int 0, .int 0, .int (-1), .long 0]))]) [0] rfl
  have hD9 := hD.sub (ws' := [(gm, .inr (2, [.int 0, .int 0, .int 0, .int 0, .int 0, .int (-1), .long 0]))]) [0] (by decide) rfl
  have hK9 := hK.sub (tys' := []) [] rfl
  exact W.vret hx hb hr (fun t ht hW => ⟨⟨(), rfl, trivial, ⟨by rw [ht]; exact hP9, hD9, va_K.moved hW.alike hK9⟩⟩, hS.F ht⟩) hS.2.2 dX0_init_9
set_option maxRecDepth 20000 in
theorem zi_X3_init_X3 : ∀ w ∈ u_ws RX3 TX3 12, w ∈ wsX3_init := by decide +kernel
set_option maxRecDepth 20000 in
theorem zi_X3_init_X0 : ∀ w ∈ u_ws RX0 TX0 7, w ∈ wsX3_init := by decide +kernel
set_option maxRecDepth 20000 in
theorem zi_X3_init_X1 : ∀ w ∈ u_ws RX1 TX1 10, w ∈ wsX3_init := by decide +kernel
set_option maxRecDepth 20000 in
theorem zi_X3_init_X5 : ∀ w ∈ u_ws RX5 TX5 5, w ∈ wsX3_init := by decide +kernel
set_option maxRecDepth 20000 in
theorem zi_X3_init_X2 : ∀ w ∈ u_ws RX2 TX2 4, w ∈ wsX3_init := by decide +kernel
set_option maxRecDepth 20000 in
theorem zi_X4_init_X4 : ∀ w ∈ u_ws RX4 TX4 3, w ∈ wsX4_init := by decide +kernel
set_option maxHeartbeats 4000000 in
set_option maxRecDepth 100000 in
theorem cz_X4_init (l : Launch) (dC : Nat → ClassId) (dI : Nat → Nat → Nat) (ed sz : Nat) (st : Nat) : Met l yX4_init wsX4_init ({ frames := 1, cells := 3, slots := 3072, locals := 12 } : Jvm.Room) (va_Pc [.ref st] (zB dC dI ed sz [] [(st, .inr (6, [.null, .null, .null]))] [])) (va_Qv (fun (_ : Unit) => True) (fun (_ : Unit) (t : State) => ∃ (a1 : Nat), ∃ (a2 : Nat), ∃ (a3 : Nat), ∃ (cZ : ClassId), ∃ (cI : ClassId), ∃ (cJ : ClassId), ∃ (f1 : Nat → Int32), ∃ (f2 : Nat → Int32), ∃ (f3 : Nat → Int32), va_P (dC, dI) vwCl [(st, .inr (6, [.ref a1, .ref a2, .ref a3])), (a1, .inl (cZ, 1024, .inl f1)), (a2, .inl (cI, 1024, .inl f2)), (a3, .inl (cJ, 1024, .inl f3))] t.heap ∧ va_D (va_A [(st, .inr (6, [.null, .null, .null]))] sz) [(st, .inr (6, [.ref a1, .ref a2, .ref a3])), (a1, .inl (cZ, 1024, .inl f1)), (a2, .inl (cI, 1024, .inl f2)), (a3, .inl (cJ, 1024, .inl f3))] ∧ va_K (dC, dI) vwCl [(cZ, .boolean), (cI, .int), (cJ, .int)] t) (va_A [(st, .inr (6, [.null, .null, .null]))] sz)) 3 3072 (va_A [(st, .inr (6, [.null, .null, .null]))] sz) := by
  refine Met.ofW (cc := cX4_init) (maxL := 1) (ret := none) (by decide) rfl ?_
  intro p e s m args below meth c s₁ B hml hv
  obtain ⟨rfl, hsz, hR0, hP, hK, hD0, hN, hH, hX0⟩ := hv
  have hx := B.exec
  have hb := B.bytes
  have hr := B.returns
  have hts := atoms_spec (ws := wsX4_init) B.pre
  have hown : s.vm.findClass RX4 = some m.cls := findClass_of_methodNamed B.named
  have hlocks := B.notSynchronized
  have hin : meth.name = "<init>" := (name_of_methodNamed B.named B.method).1
  subst hsz
  have hD := hD0.self (sz := s.heap.size)
  have hAr := zx_A hX0 hR0
  generalize hAe : va_A [(st, .inr (6, [.null, .null, .null]))] s.heap.size = A at hD hAr hH ⊢
  have hA : ∀ q : Nat, s.heap.size ≤ q → A q := fun q h => by rw [← hAe]; exact Or.inr h
  have hS : va_S A s.heap s.heap [] := va_S.rf
  have hl := lv_entry ([.ref st]) (n := 1) (Nat.le_of_ble_eq_true rfl)
  rw [lg_entry_eq]
  generalize (lg_sl ([.ref st]) ++ List.replicate (1 - (lg_sl ([.ref st])).length) Slot.unset).toArray = ls at hl ⊢
  have hl : lv_has ls 1 [(0, .ref st)] := hl
  refine lv_aload_n hx hb dX4_init_0 rfl (lv_at hl 0 rfl) ?_
  refine W.objInit hx hb hown (hts (.methodLink RX4 3 objectInit) (by decide +kernel)) (hts (.instanceMethod objectInit) (by decide +kernel)) (hts (.code objectInit ⟨#[0xb1]⟩ 1 none) (by decide +kernel)) rfl (by rw [hml]; exact hl.1) rfl dX4_init_1 (Nat.le_of_ble_eq_true rfl) (Nat.le_of_ble_eq_true rfl) ?_
  refine W.eq (g2 := F0 m 4 ls []) rfl ?_
  refine lv_aload_n hx hb dX4_init_4 rfl (lv_at hl 0 rfl) ?_
  refine lv_sipush (v := 1024) hx hb dX4_init_5 (by decide) ?_
  refine va_newa (atype := .boolean) (a0 := (1024, .inl (fun _ => 0))) hx hb (hts (.arrayClass .boolean) (by decide +kernel)) rfl hK hP hD hS hA (fun cA => rfl) (by decide) (N' := 1024) (by decide) (by decide) (Nat.le_of_ble_eq_true rfl) (Nat.le_of_ble_eq_true rfl) dX4_init_8 (fun q1 cA3 H2 hK hP hD hS => ?_)
  have hP : va_P (dC, dI) vwCl [(st, .inr (6, [.null, .null, .null])), (q1, .inl (cA3, 1024, .inl (fun _ => 0)))] H2 := hP
  have hD : va_D A [(st, .inr (6, [.null, .null, .null])), (q1, .inl (cA3, 1024, .inl (fun _ => 0)))] := hD
  refine va_putF (D := (dC, dI)) (ci := 6) (v := .ref q1) (ty := .array .boolean) (C := RX4) (T := TX4) (N := 3) hx hb hts zi_X4_init_X4 tyX4 tyX4_ok nmX4 hown hK hP hD hS 0 rfl rfl 0 (by decide) (hts (.fieldLink RX4 9 "LockRooms$Stands" "isReached" "[Z") (by decide +kernel)) (fun _ h9 => h9) rfl hin rfl (by decide +kernel) rfl rfl (Nat.le_of_ble_eq_true rfl) dX4_init_10 (fun H5 locs hP hD hS => ?_)
  have hP : va_P (dC, dI) vwCl [(st, .inr (6, [.ref q1, .null, .null])), (q1, .inl (cA3, 1024, .inl (fun _ => 0)))] H5 := hP
  have hD : va_D A [(st, .inr (6, [.ref q1, .null, .null])), (q1, .inl (cA3, 1024, .inl (fun _ => 0)))] := hD
  refine lv_aload_n hx hb dX4_init_13 rfl (lv_at hl 0 rfl) ?_
  refine lv_sipush (v := 1024) hx hb dX4_init_14 (by decide) ?_
  refine va_newa (atype := .int) (a0 := (1024, .inl (fun _ => 0))) hx hb (hts (.arrayClass .int) (by decide +kernel)) rfl hK hP hD hS hA (fun cA => rfl) (by decide) (N' := 1024) (by decide) (by decide) (Nat.le_of_ble_eq_true rfl) (Nat.le_of_ble_eq_true rfl) dX4_init_17 (fun q6 cA8 H7 hK hP hD hS => ?_)
  have hP : va_P (dC, dI) vwCl [(st, .inr (6, [.ref q1, .null, .null])), (q1, .inl (cA3, 1024, .inl (fun _ => 0))), (q6, .inl (cA8, 1024, .inl (fun _ => 0)))] H7 := hP
  have hD : va_D A [(st, .inr (6, [.ref q1, .null, .null])), (q1, .inl (cA3, 1024, .inl (fun _ => 0))), (q6, .inl (cA8, 1024, .inl (fun _ => 0)))] := hD
  refine va_putF (D := (dC, dI)) (ci := 6) (v := .ref q6) (ty := .array .int) (C := RX4) (T := TX4) (N := 3) hx hb hts zi_X4_init_X4 tyX4 tyX4_ok nmX4 hown hK hP hD hS 0 rfl rfl 1 (by decide) (hts (.fieldLink RX4 15 "LockRooms$Stands" "ways" "[I") (by decide +kernel)) (fun _ h9 => h9) rfl hin rfl (by decide +kernel) rfl rfl (Nat.le_of_ble_eq_true rfl) dX4_init_19 (fun H10 locs hP hD hS => ?_)
  have hP : va_P (dC, dI) vwCl [(st, .inr (6, [.ref q1, .ref q6, .null])), (q1, .inl (cA3, 1024, .inl (fun _ => 0))), (q6, .inl (cA8, 1024, .inl (fun _ => 0)))] H10 := hP
  have hD : va_D A [(st, .inr (6, [.ref q1, .ref q6, .null])), (q1, .inl (cA3, 1024, .inl (fun _ => 0))), (q6, .inl (cA8, 1024, .inl (fun _ => 0)))] := hD
  refine lv_aload_n hx hb dX4_init_22 rfl (lv_at hl 0 rfl) ?_
  refine lv_sipush (v := 1024) hx hb dX4_init_23 (by decide) ?_
  refine va_newa (atype := .int) (a0 := (1024, .inl (fun _ => 0))) hx hb (hts (.arrayClass .int) (by decide +kernel)) rfl hK hP hD hS hA (fun cA => rfl) (by decide) (N' := 1024) (by decide) (by decide) (Nat.le_of_ble_eq_true rfl) (Nat.le_of_ble_eq_true rfl) dX4_init_26 (fun q11 cA13 H12 hK hP hD hS => ?_)
  have hP : va_P (dC, dI) vwCl [(st, .inr (6, [.ref q1, .ref q6, .null])), (q1, .inl (cA3, 1024, .inl (fun _ => 0))), (q6, .inl (cA8, 1024, .inl (fun _ => 0))), (q11, .inl (cA13, 1024, .inl (fun _ => 0)))] H12 := hP
  have hD : va_D A [(st, .inr (6, [.ref q1, .ref q6, .null])), (q1, .inl (cA3, 1024, .inl (fun _ => 0))), (q6, .inl (cA8, 1024, .inl (fun _ => 0))), (q11, .inl (cA13, 1024, .inl (fun _ => 0)))] := hD
  refine va_putF (D := (dC, dI)) (ci := 6) (v := .ref q11) (ty := .array .int) (C := RX4) (T := TX4) (N := 3) hx hb hts zi_X4_init_X4 tyX4 tyX4_ok nmX4 hown hK hP hD hS 0 rfl rfl 2 (by decide) (hts (.fieldLink RX4 19 "LockRooms$Stands" "yet" "[I") (by decide +kernel)) (fun _ h9 => h9) rfl hin rfl (by decide +kernel) rfl rfl (Nat.le_of_ble_eq_true rfl) dX4_init_28 (fun H15 locs hP hD hS => ?_)
  have hP : va_P (dC, dI) vwCl [(st, .inr (6, [.ref q1, .ref q6, .ref q11])), (q1, .inl (cA3, 1024, .inl (fun _ => 0))), (q6, .inl (cA8, 1024, .inl (fun _ => 0))), (q11, .inl (cA13, 1024, .inl (fun _ => 0)))] H15 := hP
  have hD : va_D A [(st, .inr (6, [.ref q1, .ref q6, .ref q11])), (q1, .inl (cA3, 1024, .inl (fun _ => 0))), (q6, .inl (cA8, 1024, .inl (fun _ => 0))), (q11, .inl (cA13, 1024, .inl (fun _ => 0)))] := hD
  refine W.widen (k := 3) (n := 3072) (Nat.le_of_ble_eq_true rfl) (Nat.le_of_ble_eq_true rfl) ?_
  have hP9 := hP.sub (ws' := [(st, .inr (6, [.ref q1, .ref q6, .ref q11])), (q1, .inl (cA3, 1024, .inl (fun _ => 0))), (q6, .inl (cA8, 1024, .inl (fun _ => 0))), (q11, .inl (cA13, 1024, .inl (fun _ => 0)))]) [0, 1, 2, 3] rfl
  have hD9 := hD.sub (ws' := [(st, .inr (6, [.ref q1, .ref q6, .ref q11])), (q1, .inl (cA3, 1024, .inl (fun _ => 0))), (q6, .inl (cA8, 1024, .inl (fun _ => 0))), (q11, .inl (cA13, 1024, .inl (fun _ => 0)))]) [0, 1, 2, 3] (by decide) rfl
  have hK9 := hK.sub (tys' := [(cA3, .boolean), (cA8, .int), (cA13, .int)]) [0, 1, 2] rfl
  exact W.vret hx hb hr (fun t ht hW => ⟨⟨(), rfl, trivial, ⟨q1, q6, q11, cA3, cA8, cA13, (fun _ => 0), (fun _ => 0), (fun _ => 0), by rw [ht]; exact hP9, hD9, va_K.moved hW.alike hK9⟩⟩, hS.F ht⟩) hS.2.2 dX4_init_31
set_option maxRecDepth 20000 in
theorem zi_X6_init_X3 : ∀ w ∈ u_ws RX3 TX3 12, w ∈ wsX6_init := by decide +kernel
set_option maxRecDepth 20000 in
theorem zi_X6_init_X6 : ∀ w ∈ u_ws RX6 TX6 3, w ∈ wsX6_init := by decide +kernel
set_option maxRecDepth 20000 in
theorem zi_X6_init_X4 : ∀ w ∈ u_ws RX4 TX4 3, w ∈ wsX6_init := by decide +kernel
set_option maxHeartbeats 4000000 in
set_option maxRecDepth 100000 in
theorem cz_Jobj (l : Launch) (dC : Nat → ClassId) (dI : Nat → Nat → Nat) (ed sz : Nat) (h0 : Nat) : Met l yJxa1e45_init_da8c8 wsJxa1e45_init_da8c8 ({ frames := 1, cells := 0, slots := 0, locals := 12 } : Jvm.Room) (va_Pc [.ref h0] (zB dC dI ed sz [] [] [])) (va_Qv (fun (_ : Unit) => True) (fun (_ : Unit) (_ : State) => True) (va_A [] sz)) 0 0 (va_A [] sz) := by
  refine Met.ofW (cc := cJxa1e45_init_da8c8) (maxL := 1) (ret := none) (by decide) rfl ?_
  intro p e s m args below meth c s₁ B hml hv
  obtain ⟨rfl, hsz, hR0, hP, hK, hD0, hN, hH, hX0⟩ := hv
  have hx := B.exec
  have hb := B.bytes
  have hr := B.returns
  have hts := atoms_spec (ws := wsJxa1e45_init_da8c8) B.pre
  have hown : s.vm.findClass RJxa1e45 = some m.cls := findClass_of_methodNamed B.named
  have hlocks := B.notSynchronized
  have hin : meth.name = "<init>" := (name_of_methodNamed B.named B.method).1
  subst hsz
  have hD := hD0.self (sz := s.heap.size)
  have hAr := zx_A hX0 hR0
  generalize hAe : va_A [] s.heap.size = A at hD hAr hH ⊢
  have hA : ∀ q : Nat, s.heap.size ≤ q → A q := fun q h => by rw [← hAe]; exact Or.inr h
  have hS : va_S A s.heap s.heap [] := va_S.rf
  have hl := lv_entry ([.ref h0]) (n := 1) (Nat.le_of_ble_eq_true rfl)
  rw [lg_entry_eq]
  generalize (lg_sl ([.ref h0]) ++ List.replicate (1 - (lg_sl ([.ref h0])).length) Slot.unset).toArray = ls at hl ⊢
  have hl : lv_has ls 1 [(0, .ref h0)] := hl
  refine lv_aload_n hx hb dJxa1e45_init_da8c8_0 rfl (lv_at hl 0 rfl) ?_
  refine W.objInit hx hb hown (hts (.methodLink RJxa1e45 1 objectInit) (by decide +kernel)) (hts (.instanceMethod objectInit) (by decide +kernel)) (hts (.code objectInit ⟨#[0xb1]⟩ 1 none) (by decide +kernel)) rfl (by rw [hml]; exact hl.1) rfl dJxa1e45_init_da8c8_1 (Nat.le_of_ble_eq_true rfl) (Nat.le_of_ble_eq_true rfl) ?_
  refine W.eq (g2 := F0 m 4 ls []) rfl ?_
  refine W.widen (k := 0) (n := 0) (Nat.le_of_ble_eq_true rfl) (Nat.le_of_ble_eq_true rfl) ?_
  exact W.vret hx hb hr (fun t ht hW => ⟨⟨(), rfl, trivial, trivial⟩, hS.F ht⟩) hS.2.2 dJxa1e45_init_da8c8_4
set_option maxRecDepth 20000 in
theorem zi_Jxc12de_init_da8c8_Jx4a65c : ∀ w ∈ u_ws RJx4a65c TJx4a65c 3, w ∈ wsJxc12de_init_da8c8 := by decide +kernel
set_option maxHeartbeats 4000000 in
set_option maxRecDepth 100000 in
theorem cz_Jabs (l : Launch) (dC : Nat → ClassId) (dI : Nat → Nat → Nat) (ed sz : Nat) (h0 : Nat) : Met l yJxc12de_init_da8c8 wsJxc12de_init_da8c8 ({ frames := 2, cells := 0, slots := 0, locals := 32 } : Jvm.Room) (va_Pc [.ref h0] (zB dC dI ed sz [] [(h0, .inr (1, [.int 0, .null, .int 0]))] [])) (va_Qv (fun (_ : Unit) => True) (fun (_ : Unit) (t : State) => va_P (dC, dI) vwCl [(h0, .inr (1, [.int 0, .null, .int 0]))] t.heap ∧ va_D (va_A [(h0, .inr (1, [.int 0, .null, .int 0]))] sz) [(h0, .inr (1, [.int 0, .null, .int 0]))] ∧ va_K (dC, dI) vwCl [] t) (va_A [(h0, .inr (1, [.int 0, .null, .int 0]))] sz)) 0 0 (va_A [(h0, .inr (1, [.int 0, .null, .int 0]))] sz) := by
  refine Met.ofW (cc := cJxc12de_init_da8c8) (maxL := 1) (ret := none) (by decide) rfl ?_
  intro p e s m args below meth c s₁ B hml hv
  obtain ⟨rfl, hsz, hR0, hP, hK, hD0, hN, hH, hX0⟩ := hv
  have hx := B.exec
  have hb := B.bytes
  have hr := B.returns
  have hts := atoms_spec (ws := wsJxc12de_init_da8c8) B.pre
  have hown : s.vm.findClass RJxc12de = some m.cls := findClass_of_methodNamed B.named
  have hlocks := B.notSynchronized
  have hin : meth.name = "<init>" := (name_of_methodNamed B.named B.method).1
  subst hsz
  have hD := hD0.self (sz := s.heap.size)
  have hAr := zx_A hX0 hR0
  generalize hAe : va_A [(h0, .inr (1, [.int 0, .null, .int 0]))] s.heap.size = A at hD hAr hH ⊢
  have hA : ∀ q : Nat, s.heap.size ≤ q → A q := fun q h => by rw [← hAe]; exact Or.inr h
  have hS : va_S A s.heap s.heap [] := va_S.rf
  have hl := lv_entry ([.ref h0]) (n := 1) (Nat.le_of_ble_eq_true rfl)
  rw [lg_entry_eq]
  generalize (lg_sl ([.ref h0]) ++ List.replicate (1 - (lg_sl ([.ref h0])).length) Slot.unset).toArray = ls at hl ⊢
  have hl : lv_has ls 1 [(0, .ref h0)] := hl
  refine lv_aload_n hx hb dJxc12de_init_da8c8_0 rfl (lv_at hl 0 rfl) ?_
  have hPr := (zo_nil : va_P (dC, dI) vwCl [] s.heap)
  have hPc := hP.sub (ws' := []) [] rfl
  have hDc := hD.sub (ws' := []) [] (by decide) rfl
  have hKc := hK.sub (tys' := []) [] rfl
  have hFc := va_free (wc := []) hD hS hA [] rfl
  refine va_callv (va_runI (As := []) (rest := []) ⟨hx, hb, hml, hown, hts⟩ (cz_Jobj l dC dI ed s.heap.size h0) (cwI 0 hts gJxc12de_init_da8c8_Jxa1e45_init_da8c8 rfl rfl rfl (hts (.initialized RJxa1e45) (by decide +kernel)) (hts (.methodLink RJxc12de 1 yJxa1e45_init_da8c8) (by decide +kernel)) (hts (.instanceMethod yJxa1e45_init_da8c8) (by decide +kernel)) rfl (by decide +kernel) ⟨Nat.le_of_ble_eq_true rfl, Nat.le_of_ble_eq_true rfl⟩) ⟨zb_blind, fun U hU hW => ⟨rfl, zb_mk hU hW hPr hPc hKc hDc hN hH hS hFc zx_e⟩⟩ rfl rfl hl.1 rfl (lv_room (Nat.le_of_ble_eq_true rfl)) dJxc12de_init_da8c8_1 ⟨Nat.le_of_ble_eq_true rfl, Nat.le_of_ble_eq_true rfl⟩) hS (fun q _ h => hFc q h) hFc (fun u t H1 locs ht hvm hw hB hz1 hk1 hS => ?_)
  have hP := zo_K hP hk1
  refine lv_aload_n hx hb dJxc12de_init_da8c8_4 rfl (lv_at hl 0 rfl) ?_
  refine lv_iconst (v := 0) hx hb dJxc12de_init_da8c8_5 (by decide) ?_
  refine va_put (D := (dC, dI)) (ci := 1) (v := .int 0) (ty := .int) (C := RJx4a65c) (T := TJx4a65c) (N := 3) hx hb hts zi_Jxc12de_init_da8c8_Jx4a65c tyJx4a65c tyJx4a65c_ok nmJx4a65c hown hK hP hD hS 0 rfl rfl 0 (by decide) (hts (.fieldLink RJxc12de 7 "java/util/AbstractList" "modCount" "I") (by decide +kernel)) (fun _ h9 => h9) rfl (by decide +kernel) rfl rfl (Nat.le_of_ble_eq_true rfl) dJxc12de_init_da8c8_6 (fun H3 locs hP hD hS => ?_)
  have hP : va_P (dC, dI) vwCl [(h0, .inr (1, [.int 0, .null, .int 0]))] H3 := hP
  have hD : va_D A [(h0, .inr (1, [.int 0, .null, .int 0]))] := hD
  refine W.widen (k := 0) (n := 0) (Nat.le_of_ble_eq_true rfl) (Nat.le_of_ble_eq_true rfl) ?_
  have hP9 := hP.sub (ws' := [(h0, .inr (1, [.int 0, .null, .int 0]))]) [0] rfl
  have hD9 := hD.sub (ws' := [(h0, .inr (1, [.int 0, .null, .int 0]))]) [0] (by decide) rfl
  have hK9 := hK.sub (tys' := []) [] rfl
  exact W.vret hx hb hr (fun t ht hW => ⟨⟨(), rfl, trivial, ⟨by rw [ht]; exact hP9, hD9, va_K.moved hW.alike hK9⟩⟩, hS.F ht⟩) hS.2.2 dJxc12de_init_da8c8_9
set_option maxRecDepth 20000 in
theorem zi_Jx4a65c_init_da8c8_Jx4a65c : ∀ w ∈ u_ws RJx4a65c TJx4a65c 3, w ∈ wsJx4a65c_init_da8c8 := by decide +kernel
set_option maxHeartbeats 4000000 in
set_option maxRecDepth 100000 in
theorem cz_Jlist (l : Launch) (dC : Nat → ClassId) (dI : Nat → Nat → Nat) (ed sz : Nat) (h0 : Nat) : Met l yJx4a65c_init_da8c8 wsJx4a65c_init_da8c8 ({ frames := 3, cells := 0, slots := 0, locals := 52 } : Jvm.Room) (va_Pc [.ref h0] (zB dC dI ed sz [] [(h0, .inr (1, [.int 0, .null, .int 0]))] [])) (va_Qv (fun (_ : Unit) => True) (fun (_ : Unit) (t : State) => va_P (dC, dI) vwCl [(h0, .inr (1, [.int 0, .ref ed, .int 0]))] t.heap ∧ va_D (va_A [(h0, .inr (1, [.int 0, .null, .int 0]))] sz) [(h0, .inr (1, [.int 0, .ref ed, .int 0]))] ∧ va_K (dC, dI) vwCl [] t) (va_A [(h0, .inr (1, [.int 0, .null, .int 0]))] sz)) 0 0 (va_A [(h0, .inr (1, [.int 0, .null, .int 0]))] sz) := by
  refine Met.ofW (cc := cJx4a65c_init_da8c8) (maxL := 1) (ret := none) (by decide) rfl ?_
  intro p e s m args below meth c s₁ B hml hv
  obtain ⟨rfl, hsz, hR0, hP, hK, hD0, hN, hH, hX0⟩ := hv
  have hx := B.exec
  have hb := B.bytes
  have hr := B.returns
  have hts := atoms_spec (ws := wsJx4a65c_init_da8c8) B.pre
  have hown : s.vm.findClass RJx4a65c = some m.cls := findClass_of_methodNamed B.named
  have hlocks := B.notSynchronized
  have hin : meth.name = "<init>" := (name_of_methodNamed B.named B.method).1
  subst hsz
  have hD := hD0.self (sz := s.heap.size)
  have hAr := zx_A hX0 hR0
  generalize hAe : va_A [(h0, .inr (1, [.int 0, .null, .int 0]))] s.heap.size = A at hD hAr hH ⊢
  have hA : ∀ q : Nat, s.heap.size ≤ q → A q := fun q h => by rw [← hAe]; exact Or.inr h
  have hS : va_S A s.heap s.heap [] := va_S.rf
  have hl := lv_entry ([.ref h0]) (n := 1) (Nat.le_of_ble_eq_true rfl)
  rw [lg_entry_eq]
  generalize (lg_sl ([.ref h0]) ++ List.replicate (1 - (lg_sl ([.ref h0])).length) Slot.unset).toArray = ls at hl ⊢
  have hl : lv_has ls 1 [(0, .ref h0)] := hl
  refine lv_aload_n hx hb dJx4a65c_init_da8c8_0 rfl (lv_at hl 0 rfl) ?_
  have hPr := (zo_nil : va_P (dC, dI) vwCl [] s.heap)
  have hPc := hP.sub (ws' := [(h0, .inr (1, [.int 0, .null, .int 0]))]) [0] rfl
  have hDc := hD.sub (ws' := [(h0, .inr (1, [.int 0, .null, .int 0]))]) [0] (by decide) rfl
  have hKc := hK.sub (tys' := []) [] rfl
  have hFc := va_free (wc := [(h0, .inr (1, [.int 0, .null, .int 0]))]) hD hS hA [0] rfl
  refine va_callv (va_runI (As := []) (rest := []) ⟨hx, hb, hml, hown, hts⟩ (cz_Jabs l dC dI ed s.heap.size h0) (cwI 0 hts gJx4a65c_init_da8c8_Jxc12de_init_da8c8 rfl rfl rfl (hts (.initialized RJxc12de) (by decide +kernel)) (hts (.methodLink RJx4a65c 1 yJxc12de_init_da8c8) (by decide +kernel)) (hts (.instanceMethod yJxc12de_init_da8c8) (by decide +kernel)) rfl (by decide +kernel) ⟨Nat.le_of_ble_eq_true rfl, Nat.le_of_ble_eq_true rfl⟩) ⟨zb_blind, fun U hU hW => ⟨rfl, zb_mk hU hW hPr hPc hKc hDc hN hH hS hFc zx_nil⟩⟩ rfl rfl hl.1 rfl (lv_room (Nat.le_of_ble_eq_true rfl)) dJx4a65c_init_da8c8_1 ⟨Nat.le_of_ble_eq_true rfl, Nat.le_of_ble_eq_true rfl⟩) hS (fun q _ h => hFc q h) hFc (fun u t H1 locs ht hvm hw hB hz1 hk1 hS => ?_)
  obtain ⟨hP1, hD1, hK1⟩ := hB
  rw [ht] at hP1
  obtain ⟨hP, hD⟩ := va_join (wr := []) (w1 := [(h0, .inr (1, [.int 0, .null, .int 0]))]) hP hD [0] [] rfl rfl (by decide) (by decide) hk1 hFc hP1 hD1
  have hP : va_P (dC, dI) vwCl [(h0, .inr (1, [.int 0, .null, .int 0]))] H1 := hP
  have hD : va_D A [(h0, .inr (1, [.int 0, .null, .int 0]))] := hD
  refine lv_aload_n hx hb dJx4a65c_init_da8c8_4 rfl (lv_at hl 0 rfl) ?_
  refine va_gets hx hb hH.2.2.1 hS hown (hts (.fieldLink RJx4a65c 39 "java/util/ArrayList" "DEFAULTCAPACITY_EMPTY_ELEMENTDATA" "[Ljava/lang/Object;") (by decide +kernel)) (fun _ h9 => h9) dJx4a65c_init_da8c8_5 ?_
  refine va_put (D := (dC, dI)) (ci := 1) (v := .ref ed) (ty := .array (.object "java/lang/Object")) (C := RJx4a65c) (T := TJx4a65c) (N := 3) hx hb hts zi_Jx4a65c_init_da8c8_Jx4a65c tyJx4a65c tyJx4a65c_ok nmJx4a65c hown hK hP hD hS 0 rfl rfl 1 (by decide) (hts (.fieldLink RJx4a65c 9 "java/util/ArrayList" "elementData" "[Ljava/lang/Object;") (by decide +kernel)) (fun _ h9 => h9) rfl (by decide +kernel) rfl rfl (Nat.le_of_ble_eq_true rfl) dJx4a65c_init_da8c8_8 (fun H4 locs hP hD hS => ?_)
  have hP : va_P (dC, dI) vwCl [(h0, .inr (1, [.int 0, .ref ed, .int 0]))] H4 := hP
  have hD : va_D A [(h0, .inr (1, [.int 0, .ref ed, .int 0]))] := hD
  refine W.widen (k := 0) (n := 0) (Nat.le_of_ble_eq_true rfl) (Nat.le_of_ble_eq_true rfl) ?_
  have hP9 := hP.sub (ws' := [(h0, .inr (1, [.int 0, .ref ed, .int 0]))]) [0] rfl
  have hD9 := hD.sub (ws' := [(h0, .inr (1, [.int 0, .ref ed, .int 0]))]) [0] (by decide) rfl
  have hK9 := hK.sub (tys' := []) [] rfl
  exact W.vret hx hb hr (fun t ht hW => ⟨⟨(), rfl, trivial, ⟨by rw [ht]; exact hP9, hD9, va_K.moved hW.alike hK9⟩⟩, hS.F ht⟩) hS.2.2 dJx4a65c_init_da8c8_11
set_option maxRecDepth 20000 in
theorem zi_Jx4a65c_size_8abf5_Jx4a65c : ∀ w ∈ u_ws RJx4a65c TJx4a65c 3, w ∈ wsJx4a65c_size_8abf5 := by decide +kernel
set_option maxRecDepth 20000 in
theorem zi_X7_init_Jx4a65c : ∀ w ∈ u_ws RJx4a65c TJx4a65c 3, w ∈ wsX7_init := by decide +kernel
set_option maxRecDepth 20000 in
theorem zi_X7_init_X7 : ∀ w ∈ u_ws RX7 TX7 14, w ∈ wsX7_init := by decide +kernel
set_option maxHeartbeats 4000000 in
set_option maxRecDepth 100000 in
theorem cz_X7_init (l : Launch) (dC : Nat → ClassId) (dI : Nat → Nat → Nat) (ed sz : Nat) (mr : Nat) : Met l yX7_init wsX7_init ({ frames := 4, cells := 3, slots := 9, locals := 72 } : Jvm.Room) (va_Pc [.ref mr] (zB dC dI ed sz [] [(mr, .inr (9, [.null, .null, .null, .int 0, .int 0, .int 0, .int 0, .int 0, .int 0, .int 0, .int 0, .int 0, .int 0, .int 0]))] [])) (va_Qv (fun (_ : Unit) => True) (fun (_ : Unit) (t : State) => ∃ (ll : Nat), ∃ (lt : Nat), ∃ (lp : Nat), va_P (dC, dI) vwCl [(mr, .inr (9, [.ref ll, .ref lt, .ref lp, .int (-1), .int 0, .int 0, .int 0, .int 0, .int 0, .int 0, .int (-1), .int 0, .int 0, .int 0])), (ll, .inr (1, [.int 0, .ref ed, .int 0])), (lt, .inr (1, [.int 0, .ref ed, .int 0])), (lp, .inr (1, [.int 0, .ref ed, .int 0]))] t.heap ∧ va_D (va_A [(mr, .inr (9, [.null, .null, .null, .int 0, .int 0, .int 0, .int 0, .int 0, .int 0, .int 0, .int 0, .int 0, .int 0, .int 0]))] sz) [(mr, .inr (9, [.ref ll, .ref lt, .ref lp, .int (-1), .int 0, .int 0, .int 0, .int 0, .int 0, .int 0, .int (-1), .int 0, .int 0, .int 0])), (ll, .inr (1, [.int 0, .ref ed, .int 0])), (lt, .inr (1, [.int 0, .ref ed, .int 0])), (lp, .inr (1, [.int 0, .ref ed, .int 0]))] ∧ va_K (dC, dI) vwCl [] t) (va_A [(mr, .inr (9, [.null, .null, .null, .int 0, .int 0, .int 0, .int 0, .int 0, .int 0, .int 0, .int 0, .int 0, .int 0, .int 0]))] sz)) 3 9 (va_A [(mr, .inr (9, [.null, .null, .null, .int 0, .int 0, .int 0, .int 0, .int 0, .int 0, .int 0, .int 0, .int 0, .int 0, .int 0]))] sz) := by
  refine Met.ofW (cc := cX7_init) (maxL := 1) (ret := none) (by decide) rfl ?_
  intro p e s m args below meth c s₁ B hml hv
  obtain ⟨rfl, hsz, hR0, hP, hK, hD0, hN, hH, hX0⟩ := hv
  have hx := B.exec
  have hb := B.bytes
  have hr := B.returns
  have hts := atoms_spec (ws := wsX7_init) B.pre
  have hown : s.vm.findClass RX7 = some m.cls := findClass_of_methodNamed B.named
  have hlocks := B.notSynchronized
  have hin : meth.name = "<init>" := (name_of_methodNamed B.named B.method).1
  subst hsz
  have hD := hD0.self (sz := s.heap.size)
  have hAr := zx_A hX0 hR0
  generalize hAe : va_A [(mr, .inr (9, [.null, .null, .null, .int 0, .int 0, .int 0, .int 0, .int 0, .int 0, .int 0, .int 0, .int 0, .int 0, .int 0]))] s.heap.size = A at hD hAr hH ⊢
  have hA : ∀ q : Nat, s.heap.size ≤ q → A q := fun q h => by rw [← hAe]; exact Or.inr h
  have hS : va_S A s.heap s.heap [] := va_S.rf
  have hl := lv_entry ([.ref mr]) (n := 1) (Nat.le_of_ble_eq_true rfl)
  rw [lg_entry_eq]
  generalize (lg_sl ([.ref mr]) ++ List.replicate (1 - (lg_sl ([.ref mr])).length) Slot.unset).toArray = ls at hl ⊢
  have hl : lv_has ls 1 [(0, .ref mr)] := hl
  refine lv_aload_n hx hb dX7_init_0 rfl (lv_at hl 0 rfl) ?_
  refine W.objInit hx hb hown (hts (.methodLink RX7 3 objectInit) (by decide +kernel)) (hts (.instanceMethod objectInit) (by decide +kernel)) (hts (.code objectInit ⟨#[0xb1]⟩ 1 none) (by decide +kernel)) rfl (by rw [hml]; exact hl.1) rfl dX7_init_1 (Nat.le_of_ble_eq_true rfl) (Nat.le_of_ble_eq_true rfl) ?_
  refine W.eq (g2 := F0 m 4 ls []) rfl ?_
  refine lv_aload_n hx hb dX7_init_4 rfl (lv_at hl 0 rfl) ?_
  refine va_new (ci := 1) (fs := [.int 0, .null, .int 0]) (C := RJx4a65c) (T := TJx4a65c) (N := 3) hx hb hts zi_X7_init_Jx4a65c tyJx4a65c tyJx4a65c_ok hown (hts (.classLink RX7 9 RJx4a65c) (by decide +kernel)) (hts (.instantiable RJx4a65c 3) (by decide +kernel)) (hts (.initialized RJx4a65c) (by decide +kernel)) hK hP hD hS hA rfl (fun j hj => by rcases (show j = 0 ∨ j = 1 ∨ j = 2 by omega) with rfl | rfl | rfl <;> rfl) (Nat.le_of_ble_eq_true rfl) (Nat.le_of_ble_eq_true rfl) dX7_init_5 (fun q1 H2 hP hD hS => ?_)
  have hP : va_P (dC, dI) vwCl [(mr, .inr (9, [.null, .null, .null, .int 0, .int 0, .int 0, .int 0, .int 0, .int 0, .int 0, .int 0, .int 0, .int 0, .int 0])), (q1, .inr (1, [.int 0, .null, .int 0]))] H2 := hP
  have hD : va_D A [(mr, .inr (9, [.null, .null, .null, .int 0, .int 0, .int 0, .int 0, .int 0, .int 0, .int 0, .int 0, .int 0, .int 0, .int 0])), (q1, .inr (1, [.int 0, .null, .int 0]))] := hD
  refine lv_dup hx hb dX7_init_8 rfl ?_
  have hPr := (zo_nil : va_P (dC, dI) vwCl [] H2)
  have hPc := hP.sub (ws' := [(q1, .inr (1, [.int 0, .null, .int 0]))]) [1] rfl
  have hDc := hD.sub (ws' := [(q1, .inr (1, [.int 0, .null, .int 0]))]) [1] (by decide) rfl
  have hKc := hK.sub (tys' := []) [] rfl
  have hFc := va_free (wc := [(q1, .inr (1, [.int 0, .null, .int 0]))]) hD hS hA [1] rfl
  refine va_callv (va_runI (As := []) (rest := [.ref q1, .ref mr]) ⟨hx, hb, hml, hown, hts⟩ (cz_Jlist l dC dI ed H2.size q1) (cwI 0 hts gX7_init_Jx4a65c_init_da8c8 rfl rfl rfl (hts (.initialized RJx4a65c) (by decide +kernel)) (hts (.methodLink RX7 11 yJx4a65c_init_da8c8) (by decide +kernel)) (hts (.instanceMethod yJx4a65c_init_da8c8) (by decide +kernel)) rfl (by decide +kernel) ⟨Nat.le_of_ble_eq_true rfl, Nat.le_of_ble_eq_true rfl⟩) ⟨zb_blind, fun U hU hW => ⟨rfl, zb_mk hU hW hPr hPc hKc hDc hN hH hS hFc zx_nil⟩⟩ rfl rfl hl.1 rfl (lv_room (Nat.le_of_ble_eq_true rfl)) dX7_init_9 ⟨Nat.le_of_ble_eq_true rfl, Nat.le_of_ble_eq_true rfl⟩) hS (fun q _ h => hFc q h) hFc (fun u t H3 locs ht hvm hw hB hz1 hk1 hS => ?_)
  obtain ⟨hP1, hD1, hK1⟩ := hB
  rw [ht] at hP1
  obtain ⟨hP, hD⟩ := va_join (wr := [(mr, .inr (9, [.null, .null, .null, .int 0, .int 0, .int 0, .int 0, .int 0, .int 0, .int 0, .int 0, .int 0, .int 0, .int 0]))]) (w1 := [(q1, .inr (1, [.int 0, .ref ed, .int 0]))]) hP hD [1] [0] rfl rfl (by decide) (by decide) hk1 hFc hP1 hD1
  have hP : va_P (dC, dI) vwCl [(mr, .inr (9, [.null, .null, .null, .int 0, .int 0, .int 0, .int 0, .int 0, .int 0, .int 0, .int 0, .int 0, .int 0, .int 0])), (q1, .inr (1, [.int 0, .ref ed, .int 0]))] H3 := hP
  have hD : va_D A [(mr, .inr (9, [.null, .null, .null, .int 0, .int 0, .int 0, .int 0, .int 0, .int 0, .int 0, .int 0, .int 0, .int 0, .int 0])), (q1, .inr (1, [.int 0, .ref ed, .int 0]))] := hD
  refine va_putF (D := (dC, dI)) (ci := 9) (v := .ref q1) (ty := .object "java/util/ArrayList") (C := RX7) (T := TX7) (N := 14) hx hb hts zi_X7_init_X7 tyX7 tyX7_ok nmX7 hown hK hP hD hS 0 rfl rfl 0 (by decide) (hts (.fieldLink RX7 12 "LockRoomsModel$Room" "locks" "Ljava/util/ArrayList;") (by decide +kernel)) (fun _ h9 => h9) rfl hin rfl (by decide +kernel) rfl rfl (Nat.le_of_ble_eq_true rfl) dX7_init_12 (fun H6 locs hP hD hS => ?_)
  have hP : va_P (dC, dI) vwCl [(mr, .inr (9, [.ref q1, .null, .null, .int 0, .int 0, .int 0, .int 0, .int 0, .int 0, .int 0, .int 0, .int 0, .int 0, .int 0])), (q1, .inr (1, [.int 0, .ref ed, .int 0]))] H6 := hP
  have hD : va_D A [(mr, .inr (9, [.ref q1, .null, .null, .int 0, .int 0, .int 0, .int 0, .int 0, .int 0, .int 0, .int 0, .int 0, .int 0, .int 0])), (q1, .inr (1, [.int 0, .ref ed, .int 0]))] := hD
  refine lv_aload_n hx hb dX7_init_15 rfl (lv_at hl 0 rfl) ?_
  refine va_new (ci := 1) (fs := [.int 0, .null, .int 0]) (C := RJx4a65c) (T := TJx4a65c) (N := 3) hx hb hts zi_X7_init_Jx4a65c tyJx4a65c tyJx4a65c_ok hown (hts (.classLink RX7 9 RJx4a65c) (by decide +kernel)) (hts (.instantiable RJx4a65c 3) (by decide +kernel)) (hts (.initialized RJx4a65c) (by decide +kernel)) hK hP hD hS hA rfl (fun j hj => by rcases (show j = 0 ∨ j = 1 ∨ j = 2 by omega) with rfl | rfl | rfl <;> rfl) (Nat.le_of_ble_eq_true rfl) (Nat.le_of_ble_eq_true rfl) dX7_init_16 (fun q7 H8 hP hD hS => ?_)
  have hP : va_P (dC, dI) vwCl [(mr, .inr (9, [.ref q1, .null, .null, .int 0, .int 0, .int 0, .int 0, .int 0, .int 0, .int 0, .int 0, .int 0, .int 0, .int 0])), (q1, .inr (1, [.int 0, .ref ed, .int 0])), (q7, .inr (1, [.int 0, .null, .int 0]))] H8 := hP
  have hD : va_D A [(mr, .inr (9, [.ref q1, .null, .null, .int 0, .int 0, .int 0, .int 0, .int 0, .int 0, .int 0, .int 0, .int 0, .int 0, .int 0])), (q1, .inr (1, [.int 0, .ref ed, .int 0])), (q7, .inr (1, [.int 0, .null, .int 0]))] := hD
  refine lv_dup hx hb dX7_init_19 rfl ?_
  have hPr := (zo_nil : va_P (dC, dI) vwCl [] H8)
  have hPc := hP.sub (ws' := [(q7, .inr (1, [.int 0, .null, .int 0]))]) [2] rfl
  have hDc := hD.sub (ws' := [(q7, .inr (1, [.int 0, .null, .int 0]))]) [2] (by decide) rfl
  have hKc := hK.sub (tys' := []) [] rfl
  have hFc := va_free (wc := [(q7, .inr (1, [.int 0, .null, .int 0]))]) hD hS hA [2] rfl
  refine va_callv (va_runI (As := []) (rest := [.ref q7, .ref mr]) ⟨hx, hb, hml, hown, hts⟩ (cz_Jlist l dC dI ed H8.size q7) (cwI 0 hts gX7_init_Jx4a65c_init_da8c8 rfl rfl rfl (hts (.initialized RJx4a65c) (by decide +kernel)) (hts (.methodLink RX7 11 yJx4a65c_init_da8c8) (by decide +kernel)) (hts (.instanceMethod yJx4a65c_init_da8c8) (by decide +kernel)) rfl (by decide +kernel) ⟨Nat.le_of_ble_eq_true rfl, Nat.le_of_ble_eq_true rfl⟩) ⟨zb_blind, fun U hU hW => ⟨rfl, zb_mk hU hW hPr hPc hKc hDc hN hH hS hFc zx_nil⟩⟩ rfl rfl hl.1 rfl (lv_room (Nat.le_of_ble_eq_true rfl)) dX7_init_20 ⟨Nat.le_of_ble_eq_true rfl, Nat.le_of_ble_eq_true rfl⟩) hS (fun q _ h => hFc q h) hFc (fun u t H9 locs ht hvm hw hB hz1 hk1 hS => ?_)
  obtain ⟨hP1, hD1, hK1⟩ := hB
  rw [ht] at hP1
  obtain ⟨hP, hD⟩ := va_join (wr := [(mr, .inr (9, [.ref q1, .null, .null, .int 0, .int 0, .int 0, .int 0, .int 0, .int 0, .int 0, .int 0, .int 0, .int 0, .int 0])), (q1, .inr (1, [.int 0, .ref ed, .int 0]))]) (w1 := [(q7, .inr (1, [.int 0, .ref ed, .int 0]))]) hP hD [2] [0, 1] rfl rfl (by decide) (by decide) hk1 hFc hP1 hD1
  have hP : va_P (dC, dI) vwCl [(mr, .inr (9, [.ref q1, .null, .null, .int 0, .int 0, .int 0, .int 0, .int 0, .int 0, .int 0, .int 0, .int 0, .int 0, .int 0])), (q1, .inr (1, [.int 0, .ref ed, .int 0])), (q7, .inr (1, [.int 0, .ref ed, .int 0]))] H9 := hP
  have hD : va_D A [(mr, .inr (9, [.ref q1, .null, .null, .int 0, .int 0, .int 0, .int 0, .int 0, .int 0, .int 0, .int 0, .int 0, .int 0, .int 0])), (q1, .inr (1, [.int 0, .ref ed, .int 0])), (q7, .inr (1, [.int 0, .ref ed, .int 0]))] := hD
  refine va_putF (D := (dC, dI)) (ci := 9) (v := .ref q7) (ty := .object "java/util/ArrayList") (C := RX7) (T := TX7) (N := 14) hx hb hts zi_X7_init_X7 tyX7 tyX7_ok nmX7 hown hK hP hD hS 0 rfl rfl 1 (by decide) (hts (.fieldLink RX7 18 "LockRoomsModel$Room" "things" "Ljava/util/ArrayList;") (by decide +kernel)) (fun _ h9 => h9) rfl hin rfl (by decide +kernel) rfl rfl (Nat.le_of_ble_eq_true rfl) dX7_init_23 (fun H12 locs hP hD hS => ?_)
  have hP : va_P (dC, dI) vwCl [(mr, .inr (9, [.ref q1, .ref q7, .null, .int 0, .int 0, .int 0, .int 0, .int 0, .int 0, .int 0, .int 0, .int 0, .int 0, .int 0])), (q1, .inr (1, [.int 0, .ref ed, .int 0])), (q7, .inr (1, [.int 0, .ref ed, .int 0]))] H12 := hP
  have hD : va_D A [(mr, .inr (9, [.ref q1, .ref q7, .null, .int 0, .int 0, .int 0, .int 0, .int 0, .int 0, .int 0, .int 0, .int 0, .int 0, .int 0])), (q1, .inr (1, [.int 0, .ref ed, .int 0])), (q7, .inr (1, [.int 0, .ref ed, .int 0]))] := hD
  refine lv_aload_n hx hb dX7_init_26 rfl (lv_at hl 0 rfl) ?_
  refine va_new (ci := 1) (fs := [.int 0, .null, .int 0]) (C := RJx4a65c) (T := TJx4a65c) (N := 3) hx hb hts zi_X7_init_Jx4a65c tyJx4a65c tyJx4a65c_ok hown (hts (.classLink RX7 9 RJx4a65c) (by decide +kernel)) (hts (.instantiable RJx4a65c 3) (by decide +kernel)) (hts (.initialized RJx4a65c) (by decide +kernel)) hK hP hD hS hA rfl (fun j hj => by rcases (show j = 0 ∨ j = 1 ∨ j = 2 by omega) with rfl | rfl | rfl <;> rfl) (Nat.le_of_ble_eq_true rfl) (Nat.le_of_ble_eq_true rfl) dX7_init_27 (fun q13 H14 hP hD hS => ?_)
  have hP : va_P (dC, dI) vwCl [(mr, .inr (9, [.ref q1, .ref q7, .null, .int 0, .int 0, .int 0, .int 0, .int 0, .int 0, .int 0, .int 0, .int 0, .int 0, .int 0])), (q1, .inr (1, [.int 0, .ref ed, .int 0])), (q7, .inr (1, [.int 0, .ref ed, .int 0])), (q13, .inr (1, [.int 0, .null, .int 0]))] H14 := hP
  have hD : va_D A [(mr, .inr (9, [.ref q1, .ref q7, .null, .int 0, .int 0, .int 0, .int 0, .int 0, .int 0, .int 0, .int 0, .int 0, .int 0, .int 0])), (q1, .inr (1, [.int 0, .ref ed, .int 0])), (q7, .inr (1, [.int 0, .ref ed, .int 0])), (q13, .inr (1, [.int 0, .null, .int 0]))] := hD
  refine lv_dup hx hb dX7_init_30 rfl ?_
  have hPr := (zo_nil : va_P (dC, dI) vwCl [] H14)
  have hPc := hP.sub (ws' := [(q13, .inr (1, [.int 0, .null, .int 0]))]) [3] rfl
  have hDc := hD.sub (ws' := [(q13, .inr (1, [.int 0, .null, .int 0]))]) [3] (by decide) rfl
  have hKc := hK.sub (tys' := []) [] rfl
  have hFc := va_free (wc := [(q13, .inr (1, [.int 0, .null, .int 0]))]) hD hS hA [3] rfl
  refine va_callv (va_runI (As := []) (rest := [.ref q13, .ref mr]) ⟨hx, hb, hml, hown, hts⟩ (cz_Jlist l dC dI ed H14.size q13) (cwI 0 hts gX7_init_Jx4a65c_init_da8c8 rfl rfl rfl (hts (.initialized RJx4a65c) (by decide +kernel)) (hts (.methodLink RX7 11 yJx4a65c_init_da8c8) (by decide +kernel)) (hts (.instanceMethod yJx4a65c_init_da8c8) (by decide +kernel)) rfl (by decide +kernel) ⟨Nat.le_of_ble_eq_true rfl, Nat.le_of_ble_eq_true rfl⟩) ⟨zb_blind, fun U hU hW => ⟨rfl, zb_mk hU hW hPr hPc hKc hDc hN hH hS hFc zx_nil⟩⟩ rfl rfl hl.1 rfl (lv_room (Nat.le_of_ble_eq_true rfl)) dX7_init_31 ⟨Nat.le_of_ble_eq_true rfl, Nat.le_of_ble_eq_true rfl⟩) hS (fun q _ h => hFc q h) hFc (fun u t H15 locs ht hvm hw hB hz1 hk1 hS => ?_)
  obtain ⟨hP1, hD1, hK1⟩ := hB
  rw [ht] at hP1
  obtain ⟨hP, hD⟩ := va_join (wr := [(mr, .inr (9, [.ref q1, .ref q7, .null, .int 0, .int 0, .int 0, .int 0, .int 0, .int 0, .int 0, .int 0, .int 0, .int 0, .int 0])), (q1, .inr (1, [.int 0, .ref ed, .int 0])), (q7, .inr (1, [.int 0, .ref ed, .int 0]))]) (w1 := [(q13, .inr (1, [.int 0, .ref ed, .int 0]))]) hP hD [3] [0, 1, 2] rfl rfl (by decide) (by decide) hk1 hFc hP1 hD1
  have hP : va_P (dC, dI) vwCl [(mr, .inr (9, [.ref q1, .ref q7, .null, .int 0, .int 0, .int 0, .int 0, .int 0, .int 0, .int 0, .int 0, .int 0, .int 0, .int 0])), (q1, .inr (1, [.int 0, .ref ed, .int 0])), (q7, .inr (1, [.int 0, .ref ed, .int 0])), (q13, .inr (1, [.int 0, .ref ed, .int 0]))] H15 := hP
  have hD : va_D A [(mr, .inr (9, [.ref q1, .ref q7, .null, .int 0, .int 0, .int 0, .int 0, .int 0, .int 0, .int 0, .int 0, .int 0, .int 0, .int 0])), (q1, .inr (1, [.int 0, .ref ed, .int 0])), (q7, .inr (1, [.int 0, .ref ed, .int 0])), (q13, .inr (1, [.int 0, .ref ed, .int 0]))] := hD
  refine va_putF (D := (dC, dI)) (ci := 9) (v := .ref q13) (ty := .object "java/util/ArrayList") (C := RX7) (T := TX7) (N := 14) hx hb hts zi_X7_init_X7 tyX7 tyX7_ok nmX7 hown hK hP hD hS 0 rfl rfl 2 (by decide) (hts (.fieldLink RX7 21 "LockRoomsModel$Room" "players" "Ljava/util/ArrayList;") (by decide +kernel)) (fun _ h9 => h9) rfl hin rfl (by decide +kernel) rfl rfl (Nat.le_of_ble_eq_true rfl) dX7_init_34 (fun H18 locs hP hD hS => ?_)
  have hP : va_P (dC, dI) vwCl [(mr, .inr (9, [.ref q1, .ref q7, .ref q13, .int 0, .int 0, .int 0, .int 0, .int 0, .int 0, .int 0, .int 0, .int 0, .int 0, .int 0])), (q1, .inr (1, [.int 0, .ref ed, .int 0])), (q7, .inr (1, [.int 0, .ref ed, .int 0])), (q13, .inr (1, [.int 0, .ref ed, .int 0]))] H18 := hP
  have hD : va_D A [(mr, .inr (9, [.ref q1, .ref q7, .ref q13, .int 0, .int 0, .int 0, .int 0, .int 0, .int 0, .int 0, .int 0, .int 0, .int 0, .int 0])), (q1, .inr (1, [.int 0, .ref ed, .int 0])), (q7, .inr (1, [.int 0, .ref ed, .int 0])), (q13, .inr (1, [.int 0, .ref ed, .int 0]))] := hD
  refine lv_aload_n hx hb dX7_init_37 rfl (lv_at hl 0 rfl) ?_
  refine lv_iconst (v := (-1)) hx hb dX7_init_38 (by decide) ?_
  refine va_put (D := (dC, dI)) (ci := 9) (v := .int (-1)) (ty := .int) (C := RX7) (T := TX7) (N := 14) hx hb hts zi_X7_init_X7 tyX7 tyX7_ok nmX7 hown hK hP hD hS 0 rfl rfl 3 (by decide) (hts (.fieldLink RX7 24 "LockRoomsModel$Room" "exit" "I") (by decide +kernel)) (fun _ h9 => h9) rfl (by decide +kernel) rfl rfl (Nat.le_of_ble_eq_true rfl) dX7_init_39 (fun H19 locs hP hD hS => ?_)
  have hP : va_P (dC, dI) vwCl [(mr, .inr (9, [.ref q1, .ref q7, .ref q13, .int (-1), .int 0, .int 0, .int 0, .int 0, .int 0, .int 0, .int 0, .int 0, .int 0, .int 0])), (q1, .inr (1, [.int 0, .ref ed, .int 0])), (q7, .inr (1, [.int 0, .ref ed, .int 0])), (q13, .inr (1, [.int 0, .ref ed, .int 0]))] H19 := hP
  have hD : va_D A [(mr, .inr (9, [.ref q1, .ref q7, .ref q13, .int (-1), .int 0, .int 0, .int 0, .int 0, .int 0, .int 0, .int 0, .int 0, .int 0, .int 0])), (q1, .inr (1, [.int 0, .ref ed, .int 0])), (q7, .inr (1, [.int 0, .ref ed, .int 0])), (q13, .inr (1, [.int 0, .ref ed, .int 0]))] := hD
  refine lv_aload_n hx hb dX7_init_42 rfl (lv_at hl 0 rfl) ?_
  refine lv_iconst (v := (-1)) hx hb dX7_init_43 (by decide) ?_
  refine va_put (D := (dC, dI)) (ci := 9) (v := .int (-1)) (ty := .int) (C := RX7) (T := TX7) (N := 14) hx hb hts zi_X7_init_X7 tyX7 tyX7_ok nmX7 hown hK hP hD hS 0 rfl rfl 10 (by decide) (hts (.fieldLink RX7 28 "LockRoomsModel$Room" "record" "I") (by decide +kernel)) (fun _ h9 => h9) rfl (by decide +kernel) rfl rfl (Nat.le_of_ble_eq_true rfl) dX7_init_44 (fun H20 locs hP hD hS => ?_)
  have hP : va_P (dC, dI) vwCl [(mr, .inr (9, [.ref q1, .ref q7, .ref q13, .int (-1), .int 0, .int 0, .int 0, .int 0, .int 0, .int 0, .int (-1), .int 0, .int 0, .int 0])), (q1, .inr (1, [.int 0, .ref ed, .int 0])), (q7, .inr (1, [.int 0, .ref ed, .int 0])), (q13, .inr (1, [.int 0, .ref ed, .int 0]))] H20 := hP
  have hD : va_D A [(mr, .inr (9, [.ref q1, .ref q7, .ref q13, .int (-1), .int 0, .int 0, .int 0, .int 0, .int 0, .int 0, .int (-1), .int 0, .int 0, .int 0])), (q1, .inr (1, [.int 0, .ref ed, .int 0])), (q7, .inr (1, [.int 0, .ref ed, .int 0])), (q13, .inr (1, [.int 0, .ref ed, .int 0]))] := hD
  refine W.widen (k := 3) (n := 9) (Nat.le_of_ble_eq_true rfl) (Nat.le_of_ble_eq_true rfl) ?_
  have hP9 := hP.sub (ws' := [(mr, .inr (9, [.ref q1, .ref q7, .ref q13, .int (-1), .int 0, .int 0, .int 0, .int 0, .int 0, .int 0, .int (-1), .int 0, .int 0, .int 0])), (q1, .inr (1, [.int 0, .ref ed, .int 0])), (q7, .inr (1, [.int 0, .ref ed, .int 0])), (q13, .inr (1, [.int 0, .ref ed, .int 0]))]) [0, 1, 2, 3] rfl
  have hD9 := hD.sub (ws' := [(mr, .inr (9, [.ref q1, .ref q7, .ref q13, .int (-1), .int 0, .int 0, .int 0, .int 0, .int 0, .int 0, .int (-1), .int 0, .int 0, .int 0])), (q1, .inr (1, [.int 0, .ref ed, .int 0])), (q7, .inr (1, [.int 0, .ref ed, .int 0])), (q13, .inr (1, [.int 0, .ref ed, .int 0]))]) [0, 1, 2, 3] (by decide) rfl
  have hK9 := hK.sub (tys' := []) [] rfl
  exact W.vret hx hb hr (fun t ht hW => ⟨⟨(), rfl, trivial, ⟨q1, q7, q13, by rw [ht]; exact hP9, hD9, va_K.moved hW.alike hK9⟩⟩, hS.F ht⟩) hS.2.2 dX7_init_47
set_option maxRecDepth 20000 in
theorem zi_X8_init_X7 : ∀ w ∈ u_ws RX7 TX7 14, w ∈ wsX8_init := by decide +kernel
set_option maxRecDepth 20000 in
theorem zi_X8_init_X8 : ∀ w ∈ u_ws RX8 TX8 4, w ∈ wsX8_init := by decide +kernel
set_option maxHeartbeats 4000000 in
set_option maxRecDepth 100000 in
theorem cz_X8_init (l : Launch) (dC : Nat → ClassId) (dI : Nat → Nat → Nat) (ed sz : Nat) (mo : Nat) : Met l yX8_init wsX8_init ({ frames := 5, cells := 4, slots := 23, locals := 92 } : Jvm.Room) (va_Pc [.ref mo] (zB dC dI ed sz [] [(mo, .inr (10, [.int 0, .null, .int 0, .long 0]))] [])) (va_Qv (fun (_ : Unit) => True) (fun (_ : Unit) (t : State) => ∃ (mr : Nat), ∃ (ll : Nat), ∃ (lt : Nat), ∃ (lp : Nat), va_P (dC, dI) vwCl [(mo, .inr (10, [.int 0, .ref mr, .int 1, .long 0])), (mr, .inr (9, [.ref ll, .ref lt, .ref lp, .int (-1), .int 0, .int 0, .int 0, .int 0, .int 0, .int 0, .int (-1), .int 0, .int 0, .int 0])), (ll, .inr (1, [.int 0, .ref ed, .int 0])), (lt, .inr (1, [.int 0, .ref ed, .int 0])), (lp, .inr (1, [.int 0, .ref ed, .int 0]))] t.heap ∧ va_D (va_A [(mo, .inr (10, [.int 0, .null, .int 0, .long 0]))] sz) [(mo, .inr (10, [.int 0, .ref mr, .int 1, .long 0])), (mr, .inr (9, [.ref ll, .ref lt, .ref lp, .int (-1), .int 0, .int 0, .int 0, .int 0, .int 0, .int 0, .int (-1), .int 0, .int 0, .int 0])), (ll, .inr (1, [.int 0, .ref ed, .int 0])), (lt, .inr (1, [.int 0, .ref ed, .int 0])), (lp, .inr (1, [.int 0, .ref ed, .int 0]))] ∧ va_K (dC, dI) vwCl [] t) (va_A [(mo, .inr (10, [.int 0, .null, .int 0, .long 0]))] sz)) 4 23 (va_A [(mo, .inr (10, [.int 0, .null, .int 0, .long 0]))] sz) := by
  refine Met.ofW (cc := cX8_init) (maxL := 1) (ret := none) (by decide) rfl ?_
  intro p e s m args below meth c s₁ B hml hv
  obtain ⟨rfl, hsz, hR0, hP, hK, hD0, hN, hH, hX0⟩ := hv
  have hx := B.exec
  have hb := B.bytes
  have hr := B.returns
  have hts := atoms_spec (ws := wsX8_init) B.pre
  have hown : s.vm.findClass RX8 = some m.cls := findClass_of_methodNamed B.named
  have hlocks := B.notSynchronized
  have hin : meth.name = "<init>" := (name_of_methodNamed B.named B.method).1
  subst hsz
  have hD := hD0.self (sz := s.heap.size)
  have hAr := zx_A hX0 hR0
  generalize hAe : va_A [(mo, .inr (10, [.int 0, .null, .int 0, .long 0]))] s.heap.size = A at hD hAr hH ⊢
  have hA : ∀ q : Nat, s.heap.size ≤ q → A q := fun q h => by rw [← hAe]; exact Or.inr h
  have hS : va_S A s.heap s.heap [] := va_S.rf
  have hl := lv_entry ([.ref mo]) (n := 1) (Nat.le_of_ble_eq_true rfl)
  rw [lg_entry_eq]
  generalize (lg_sl ([.ref mo]) ++ List.replicate (1 - (lg_sl ([.ref mo])).length) Slot.unset).toArray = ls at hl ⊢
  have hl : lv_has ls 1 [(0, .ref mo)] := hl
  refine lv_aload_n hx hb dX8_init_0 rfl (lv_at hl 0 rfl) ?_
  refine W.objInit hx hb hown (hts (.methodLink RX8 1 objectInit) (by decide +kernel)) (hts (.instanceMethod objectInit) (by decide +kernel)) (hts (.code objectInit ⟨#[0xb1]⟩ 1 none) (by decide +kernel)) rfl (by rw [hml]; exact hl.1) rfl dX8_init_1 (Nat.le_of_ble_eq_true rfl) (Nat.le_of_ble_eq_true rfl) ?_
  refine W.eq (g2 := F0 m 4 ls []) rfl ?_
  refine lv_aload_n hx hb dX8_init_4 rfl (lv_at hl 0 rfl) ?_
  refine va_new (ci := 9) (fs := [.null, .null, .null, .int 0, .int 0, .int 0, .int 0, .int 0, .int 0, .int 0, .int 0, .int 0, .int 0, .int 0]) (C := RX7) (T := TX7) (N := 14) hx hb hts zi_X8_init_X7 tyX7 tyX7_ok hown (hts (.classLink RX8 7 RX7) (by decide +kernel)) (hts (.instantiable RX7 14) (by decide +kernel)) (hts (.initialized RX7) (by decide +kernel)) hK hP hD hS hA rfl (fun j hj => by rcases (show j = 0 ∨ j = 1 ∨ j = 2 ∨ j = 3 ∨ j = 4 ∨ j = 5 ∨ j = 6 ∨ j = 7 ∨ j = 8 ∨ j = 9 ∨ j = 10 ∨ j = 11 ∨ j = 12 ∨ j = 13 by omega) with rfl | rfl | rfl | rfl | rfl | rfl | rfl | rfl | rfl | rfl | rfl | rfl | rfl | rfl <;> rfl) (Nat.le_of_ble_eq_true rfl) (Nat.le_of_ble_eq_true rfl) dX8_init_5 (fun q1 H2 hP hD hS => ?_)
  have hP : va_P (dC, dI) vwCl [(mo, .inr (10, [.int 0, .null, .int 0, .long 0])), (q1, .inr (9, [.null, .null, .null, .int 0, .int 0, .int 0, .int 0, .int 0, .int 0, .int 0, .int 0, .int 0, .int 0, .int 0]))] H2 := hP
  have hD : va_D A [(mo, .inr (10, [.int 0, .null, .int 0, .long 0])), (q1, .inr (9, [.null, .null, .null, .int 0, .int 0, .int 0, .int 0, .int 0, .int 0, .int 0, .int 0, .int 0, .int 0, .int 0]))] := hD
  refine lv_dup hx hb dX8_init_8 rfl ?_
  have hPr := (zo_nil : va_P (dC, dI) vwCl [] H2)
  have hPc := hP.sub (ws' := [(q1, .inr (9, [.null, .null, .null, .int 0, .int 0, .int 0, .int 0, .int 0, .int 0, .int 0, .int 0, .int 0, .int 0, .int 0]))]) [1] rfl
  have hDc := hD.sub (ws' := [(q1, .inr (9, [.null, .null, .null, .int 0, .int 0, .int 0, .int 0, .int 0, .int 0, .int 0, .int 0, .int 0, .int 0, .int 0]))]) [1] (by decide) rfl
  have hKc := hK.sub (tys' := []) [] rfl
  have hFc := va_free (wc := [(q1, .inr (9, [.null, .null, .null, .int 0, .int 0, .int 0, .int 0, .int 0, .int 0, .int 0, .int 0, .int 0, .int 0, .int 0]))]) hD hS hA [1] rfl
  refine va_callv (va_runIN (As := []) (rest := [.ref q1, .ref mo]) ⟨hx, hb, hml, hown, hts⟩ (cz_X7_init l dC dI ed H2.size q1) ⟨(va_cnB 0 hts gX8_init_X7_init_n9 rfl rfl rfl (hN.2.1 ("LockRoomsModel", 9, yX7_init, "LockRoomsModel") (List.mem_of_getElem? (i := 9) rfl)) (hts (.initialized RX7) (by decide +kernel)) (by decide +kernel) ⟨Nat.le_of_ble_eq_true rfl, Nat.le_of_ble_eq_true rfl⟩), rfl, (hts (.instanceMethod yX7_init) (by decide +kernel))⟩ ⟨zb_blind, fun U hU hW => ⟨rfl, zb_mk hU hW hPr hPc hKc hDc hN hH hS hFc zx_nil⟩⟩ rfl rfl hl.1 rfl (lv_room (Nat.le_of_ble_eq_true rfl)) dX8_init_9 ⟨Nat.le_of_ble_eq_true rfl, Nat.le_of_ble_eq_true rfl⟩) hS (fun q _ h => hFc q h) hFc (fun u t H3 locs ht hvm hw hB hz1 hk1 hS => ?_)
  obtain ⟨ll_5, lt_5, lp_5, hP1, hD1, hK1⟩ := hB
  rw [ht] at hP1
  obtain ⟨hP, hD⟩ := va_join (wr := [(mo, .inr (10, [.int 0, .null, .int 0, .long 0]))]) (w1 := [(q1, .inr (9, [.ref ll_5, .ref lt_5, .ref lp_5, .int (-1), .int 0, .int 0, .int 0, .int 0, .int 0, .int 0, .int (-1), .int 0, .int 0, .int 0])), (ll_5, .inr (1, [.int 0, .ref ed, .int 0])), (lt_5, .inr (1, [.int 0, .ref ed, .int 0])), (lp_5, .inr (1, [.int 0, .ref ed, .int 0]))]) hP hD [1] [0] rfl rfl (by decide) (by decide) hk1 hFc hP1 hD1
  have hP : va_P (dC, dI) vwCl [(mo, .inr (10, [.int 0, .null, .int 0, .long 0])), (q1, .inr (9, [.ref ll_5, .ref lt_5, .ref lp_5, .int (-1), .int 0, .int 0, .int 0, .int 0, .int 0, .int 0, .int (-1), .int 0, .int 0, .int 0])), (ll_5, .inr (1, [.int 0, .ref ed, .int 0])), (lt_5, .inr (1, [.int 0, .ref ed, .int 0])), (lp_5, .inr (1, [.int 0, .ref ed, .int 0]))] H3 := hP
  have hD : va_D A [(mo, .inr (10, [.int 0, .null, .int 0, .long 0])), (q1, .inr (9, [.ref ll_5, .ref lt_5, .ref lp_5, .int (-1), .int 0, .int 0, .int 0, .int 0, .int 0, .int 0, .int (-1), .int 0, .int 0, .int 0])), (ll_5, .inr (1, [.int 0, .ref ed, .int 0])), (lt_5, .inr (1, [.int 0, .ref ed, .int 0])), (lp_5, .inr (1, [.int 0, .ref ed, .int 0]))] := hD
  refine va_putF (D := (dC, dI)) (ci := 10) (v := .ref q1) (ty := .object "LockRoomsModel$Room") (C := RX8) (T := TX8) (N := 4) hx hb hts zi_X8_init_X8 tyX8 tyX8_ok nmX8 hown hK hP hD hS 0 rfl rfl 1 (by decide) (hts (.fieldLink RX8 10 "LockRoomsModel" "room" "LLockRoomsModel$Room;") (by decide +kernel)) (fun _ h9 => h9) rfl hin rfl (by decide +kernel) rfl rfl (Nat.le_of_ble_eq_true rfl) dX8_init_12 (fun H6 locs hP hD hS => ?_)
  have hP : va_P (dC, dI) vwCl [(mo, .inr (10, [.int 0, .ref q1, .int 0, .long 0])), (q1, .inr (9, [.ref ll_5, .ref lt_5, .ref lp_5, .int (-1), .int 0, .int 0, .int 0, .int 0, .int 0, .int 0, .int (-1), .int 0, .int 0, .int 0])), (ll_5, .inr (1, [.int 0, .ref ed, .int 0])), (lt_5, .inr (1, [.int 0, .ref ed, .int 0])), (lp_5, .inr (1, [.int 0, .ref ed, .int 0]))] H6 := hP
  have hD : va_D A [(mo, .inr (10, [.int 0, .ref q1, .int 0, .long 0])), (q1, .inr (9, [.ref ll_5, .ref lt_5, .ref lp_5, .int (-1), .int 0, .int 0, .int 0, .int 0, .int 0, .int 0, .int (-1), .int 0, .int 0, .int 0])), (ll_5, .inr (1, [.int 0, .ref ed, .int 0])), (lt_5, .inr (1, [.int 0, .ref ed, .int 0])), (lp_5, .inr (1, [.int 0, .ref ed, .int 0]))] := hD
  refine lv_aload_n hx hb dX8_init_15 rfl (lv_at hl 0 rfl) ?_
  refine lv_iconst (v := 1) hx hb dX8_init_16 (by decide) ?_
  refine va_put (D := (dC, dI)) (ci := 10) (v := .int 1) (ty := .boolean) (C := RX8) (T := TX8) (N := 4) hx hb hts zi_X8_init_X8 tyX8 tyX8_ok nmX8 hown hK hP hD hS 0 rfl rfl 2 (by decide) (hts (.fieldLink RX8 16 "LockRoomsModel" "hasPower" "Z") (by decide +kernel)) (fun _ h9 => h9) rfl (by decide +kernel) (by decide) (by decide) (Nat.le_of_ble_eq_true rfl) dX8_init_17 (fun H7 locs hP hD hS => ?_)
  have hP : va_P (dC, dI) vwCl [(mo, .inr (10, [.int 0, .ref q1, .int 1, .long 0])), (q1, .inr (9, [.ref ll_5, .ref lt_5, .ref lp_5, .int (-1), .int 0, .int 0, .int 0, .int 0, .int 0, .int 0, .int (-1), .int 0, .int 0, .int 0])), (ll_5, .inr (1, [.int 0, .ref ed, .int 0])), (lt_5, .inr (1, [.int 0, .ref ed, .int 0])), (lp_5, .inr (1, [.int 0, .ref ed, .int 0]))] H7 := hP
  have hD : va_D A [(mo, .inr (10, [.int 0, .ref q1, .int 1, .long 0])), (q1, .inr (9, [.ref ll_5, .ref lt_5, .ref lp_5, .int (-1), .int 0, .int 0, .int 0, .int 0, .int 0, .int 0, .int (-1), .int 0, .int 0, .int 0])), (ll_5, .inr (1, [.int 0, .ref ed, .int 0])), (lt_5, .inr (1, [.int 0, .ref ed, .int 0])), (lp_5, .inr (1, [.int 0, .ref ed, .int 0]))] := hD
  refine W.widen (k := 4) (n := 23) (Nat.le_of_ble_eq_true rfl) (Nat.le_of_ble_eq_true rfl) ?_
  have hP9 := hP.sub (ws' := [(mo, .inr (10, [.int 0, .ref q1, .int 1, .long 0])), (q1, .inr (9, [.ref ll_5, .ref lt_5, .ref lp_5, .int (-1), .int 0, .int 0, .int 0, .int 0, .int 0, .int 0, .int (-1), .int 0, .int 0, .int 0])), (ll_5, .inr (1, [.int 0, .ref ed, .int 0])), (lt_5, .inr (1, [.int 0, .ref ed, .int 0])), (lp_5, .inr (1, [.int 0, .ref ed, .int 0]))]) [0, 1, 2, 3, 4] rfl
  have hD9 := hD.sub (ws' := [(mo, .inr (10, [.int 0, .ref q1, .int 1, .long 0])), (q1, .inr (9, [.ref ll_5, .ref lt_5, .ref lp_5, .int (-1), .int 0, .int 0, .int 0, .int 0, .int 0, .int 0, .int (-1), .int 0, .int 0, .int 0])), (ll_5, .inr (1, [.int 0, .ref ed, .int 0])), (lt_5, .inr (1, [.int 0, .ref ed, .int 0])), (lp_5, .inr (1, [.int 0, .ref ed, .int 0]))]) [0, 1, 2, 3, 4] (by decide) rfl
  have hK9 := hK.sub (tys' := []) [] rfl
  exact W.vret hx hb hr (fun t ht hW => ⟨⟨(), rfl, trivial, ⟨q1, ll_5, lt_5, lp_5, by rw [ht]; exact hP9, hD9, va_K.moved hW.alike hK9⟩⟩, hS.F ht⟩) hS.2.2 dX8_init_20
set_option maxRecDepth 20000 in
theorem zi_X6_canEnd_X6 : ∀ w ∈ u_ws RX6 TX6 3, w ∈ wsX6_canEnd := by decide +kernel
set_option maxRecDepth 20000 in
theorem zi_X6_stands_X6 : ∀ w ∈ u_ws RX6 TX6 3, w ∈ wsX6_stands := by decide +kernel
set_option maxRecDepth 20000 in
theorem zi_X6_deadEnds_X6 : ∀ w ∈ u_ws RX6 TX6 3, w ∈ wsX6_deadEnds := by decide +kernel
set_option maxRecDepth 20000 in
theorem zi_X6_depth_X6 : ∀ w ∈ u_ws RX6 TX6 3, w ∈ wsX6_depth := by decide +kernel
set_option maxRecDepth 20000 in
theorem zi_X6_cannotMiss_X6 : ∀ w ∈ u_ws RX6 TX6 3, w ∈ wsX6_cannotMiss := by decide +kernel
set_option maxRecDepth 20000 in
theorem zi_X6_bestHint_X6 : ∀ w ∈ u_ws RX6 TX6 3, w ∈ wsX6_bestHint := by decide +kernel
set_option maxRecDepth 20000 in
theorem zi_X6_endsAt_X6 : ∀ w ∈ u_ws RX6 TX6 3, w ∈ wsX6_endsAt := by decide +kernel
set_option maxRecDepth 20000 in
theorem zi_X6_endsAt_X3 : ∀ w ∈ u_ws RX3 TX3 12, w ∈ wsX6_endsAt := by decide +kernel
set_option maxRecDepth 20000 in
theorem zi_X6_endsAt_X0 : ∀ w ∈ u_ws RX0 TX0 7, w ∈ wsX6_endsAt := by decide +kernel
set_option maxHeartbeats 4000000 in
set_option maxRecDepth 100000 in
theorem cz_X6_mix (l : Launch) (dC : Nat → ClassId) (dI : Nat → Nat → Nat) (ed sz : Nat) (x0 : Int64) (x1 : Int32) : Met l yX6_mix wsX6_mix ({ frames := 0, cells := 0, slots := 0, locals := 0 } : Jvm.Room) (va_Pc [.long x0, .int x1] (zB dC dI ed sz [] [] [])) (va_Ql (fun (r : Int64) (_ : Unit) => r = ((x0 * 31) + x1.toInt64)) (fun (_ : Unit) (_ : State) => True) (va_A [] sz)) 0 0 (va_A [] sz) := by
  refine Met.ofW (cc := cX6_mix) (maxL := 3) (ret := (some .long)) (by decide) rfl ?_
  intro p e s m args below meth c s₁ B hml hv
  obtain ⟨rfl, hsz, hR0, hP, hK, hD0, hN, hH, hX0⟩ := hv
  have hx := B.exec
  have hb := B.bytes
  have hr := B.returns
  have hts := atoms_spec (ws := wsX6_mix) B.pre
  have hown : s.vm.findClass RX6 = some m.cls := findClass_of_methodNamed B.named
  have hlocks := B.notSynchronized
  subst hsz
  have hD := hD0.self (sz := s.heap.size)
  have hAr := zx_A hX0 hR0
  generalize hAe : va_A [] s.heap.size = A at hD hAr hH ⊢
  have hA : ∀ q : Nat, s.heap.size ≤ q → A q := fun q h => by rw [← hAe]; exact Or.inr h
  have hS : va_S A s.heap s.heap [] := va_S.rf
  have hl := lv_entry ([.long x0, .int x1]) (n := 3) (Nat.le_of_ble_eq_true rfl)
  rw [lg_entry_eq]
  generalize (lg_sl ([.long x0, .int x1]) ++ List.replicate (3 - (lg_sl ([.long x0, .int x1])).length) Slot.unset).toArray = ls at hl ⊢
  have hl : lv_has ls 3 [(0, .long x0), (2, .int x1)] := hl
  refine lv_lload_n hx hb dX6_mix_0 rfl (lv_at hl 0 rfl) ?_
  refine lv_ldc2 (v := 31) hx hb hown (hts (.constantLong RX6 296 (31)) (by decide +kernel)) dX6_mix_1 ?_
  refine lv_lmul hx hb dX6_mix_4 ?_
  refine lv_iload_n hx hb dX6_mix_5 rfl (lv_at hl 1 rfl) ?_
  refine lv_i2l (v := x1.toInt64) hx hb dX6_mix_6 (by rfl) ?_
  refine lv_ladd hx hb dX6_mix_7 ?_
  refine W.widen (k := 0) (n := 0) (Nat.le_of_ble_eq_true rfl) (Nat.le_of_ble_eq_true rfl) ?_
  exact W.lret hx hb hr (fun t ht hW => ⟨⟨((x0 * 31) + x1.toInt64), (), rfl, rfl, trivial⟩, hS.F ht⟩) hS.2.2 dX6_mix_8
set_option maxRecDepth 20000 in
theorem zi_X6_mixLocks_X6 : ∀ w ∈ u_ws RX6 TX6 3, w ∈ wsX6_mixLocks := by decide +kernel
set_option maxRecDepth 20000 in
theorem zi_X6_mixLocks_X3 : ∀ w ∈ u_ws RX3 TX3 12, w ∈ wsX6_mixLocks := by decide +kernel
set_option maxRecDepth 20000 in
theorem zi_X6_mixThings_X6 : ∀ w ∈ u_ws RX6 TX6 3, w ∈ wsX6_mixThings := by decide +kernel
set_option maxRecDepth 20000 in
theorem zi_X6_mixThings_X3 : ∀ w ∈ u_ws RX3 TX3 12, w ∈ wsX6_mixThings := by decide +kernel
set_option maxRecDepth 20000 in
theorem zi_X6_mixPlayers_X6 : ∀ w ∈ u_ws RX6 TX6 3, w ∈ wsX6_mixPlayers := by decide +kernel
set_option maxRecDepth 20000 in
theorem zi_X6_mixPlayers_X3 : ∀ w ∈ u_ws RX3 TX3 12, w ∈ wsX6_mixPlayers := by decide +kernel
set_option maxRecDepth 20000 in
theorem zi_X6_digest_X6 : ∀ w ∈ u_ws RX6 TX6 3, w ∈ wsX6_digest := by decide +kernel
theorem zm_19 {x : Int32} (h : ¬ x < 0 ∧ ¬ 18 < x) : x = 0 ∨ x = 1 ∨ x = 2 ∨ x = 3 ∨ x = 4 ∨ x = 5 ∨ x = 6 ∨ x = 7 ∨ x = 8 ∨ x = 9 ∨ x = 10 ∨ x = 11 ∨ x = 12 ∨ x = 13 ∨ x = 14 ∨ x = 15 ∨ x = 16 ∨ x = 17 ∨ x = 18 := by
  obtain ⟨j, hj, rfl⟩ := nI_of2 (M := 18) (n := 18) (by decide) h.1 (Int32.not_lt.mp h.2)
  rcases (show j = 0 ∨ j = 1 ∨ j = 2 ∨ j = 3 ∨ j = 4 ∨ j = 5 ∨ j = 6 ∨ j = 7 ∨ j = 8 ∨ j = 9 ∨ j = 10 ∨ j = 11 ∨ j = 12 ∨ j = 13 ∨ j = 14 ∨ j = 15 ∨ j = 16 ∨ j = 17 ∨ j = 18 by omega) with rfl | rfl | rfl | rfl | rfl | rfl | rfl | rfl | rfl | rfl | rfl | rfl | rfl | rfl | rfl | rfl | rfl | rfl | rfl <;> decide
set_option maxRecDepth 20000 in
theorem zi_X3_addLock_X3 : ∀ w ∈ u_ws RX3 TX3 12, w ∈ wsX3_addLock := by decide +kernel
set_option maxRecDepth 20000 in
theorem zi_X3_addLock_X1 : ∀ w ∈ u_ws RX1 TX1 10, w ∈ wsX3_addLock := by decide +kernel
set_option maxRecDepth 20000 in
theorem zi_X6_lock_X6 : ∀ w ∈ u_ws RX6 TX6 3, w ∈ wsX6_lock := by decide +kernel
set_option maxRecDepth 20000 in
theorem zi_X6_lock_X3 : ∀ w ∈ u_ws RX3 TX3 12, w ∈ wsX6_lock := by decide +kernel
set_option maxRecDepth 20000 in
theorem zi_X6_lock_X0 : ∀ w ∈ u_ws RX0 TX0 7, w ∈ wsX6_lock := by decide +kernel
set_option maxRecDepth 20000 in
theorem zi_X3_addThing_X3 : ∀ w ∈ u_ws RX3 TX3 12, w ∈ wsX3_addThing := by decide +kernel
set_option maxRecDepth 20000 in
theorem zi_X3_addThing_X5 : ∀ w ∈ u_ws RX5 TX5 5, w ∈ wsX3_addThing := by decide +kernel
set_option maxRecDepth 20000 in
theorem zi_X6_thing_X6 : ∀ w ∈ u_ws RX6 TX6 3, w ∈ wsX6_thing := by decide +kernel
set_option maxRecDepth 20000 in
theorem zi_X6_thing_X3 : ∀ w ∈ u_ws RX3 TX3 12, w ∈ wsX6_thing := by decide +kernel
set_option maxRecDepth 20000 in
theorem zi_X6_thing_X0 : ∀ w ∈ u_ws RX0 TX0 7, w ∈ wsX6_thing := by decide +kernel
section ZL
variable {p : Program} {l : Launch} {e : Env} {R : Room} {s : State} {m : MethodId} {args : Array Value} {below : List Frame} {meth : Method} {c : Code} {H : Heap} {locs : List Loc} {cells slots : Nat} {Q : State → Prop} {pc : Nat} {ls : Array Slot}
/-- a loop with a counter, by its invariant -/
theorem zo_loop (I : Nat → Heap → List Loc → Array Slot → Prop) (N : Nat) {st : List Value} (h0 : I 0 H locs ls)
    (hs : ∀ i, i < N → (∀ H locs ls, I (i + 1) H locs ls → W p l e R s m args below meth c H locs cells slots Q (F0 m pc ls st)) → ∀ H locs ls, I i H locs ls → W p l e R s m args below meth c H locs cells slots Q (F0 m pc ls st))
    (hx : ∀ H locs ls, I N H locs ls → W p l e R s m args below meth c H locs cells slots Q (F0 m pc ls st)) : W p l e R s m args below meth c H locs cells slots Q (F0 m pc ls st) := by
  suffices K : ∀ n i, i + n = N → ∀ H locs ls, I i H locs ls → W p l e R s m args below meth c H locs cells slots Q (F0 m pc ls st) from K N 0 (Nat.zero_add N) H locs ls h0
  intro n
  induction n with
  | zero => intro i hi; subst hi; exact hx
  | succ n ih => intro i hi; exact hs i (by omega) (ih (i + 1) (by omega))
end ZL
set_option maxRecDepth 20000 in
theorem zi_Jx35411_init_45d68_Jx35411 : ∀ w ∈ u_ws RJx35411 TJx35411 4, w ∈ wsJx35411_init_45d68 := by decide +kernel
set_option maxRecDepth 20000 in
theorem zi_Jx35411_init_45d68_Jx4a65c : ∀ w ∈ u_ws RJx4a65c TJx4a65c 3, w ∈ wsJx35411_init_45d68 := by decide +kernel
set_option maxRecDepth 20000 in
theorem zi_Jx4a65c_iterator_32c93_Jx35411 : ∀ w ∈ u_ws RJx35411 TJx35411 4, w ∈ wsJx4a65c_iterator_32c93 := by decide +kernel
set_option maxRecDepth 20000 in
theorem zi_Jx35411_hasNext_aae02_Jx35411 : ∀ w ∈ u_ws RJx35411 TJx35411 4, w ∈ wsJx35411_hasNext_aae02 := by decide +kernel
set_option maxRecDepth 20000 in
theorem zi_Jx35411_hasNext_aae02_Jx4a65c : ∀ w ∈ u_ws RJx4a65c TJx4a65c 3, w ∈ wsJx35411_hasNext_aae02 := by decide +kernel
set_option maxRecDepth 20000 in
theorem zi_Jx4a65c_grow_92f84_Jx4a65c : ∀ w ∈ u_ws RJx4a65c TJx4a65c 3, w ∈ wsJx4a65c_grow_92f84 := by decide +kernel
set_option maxRecDepth 20000 in
theorem zi_Jx4a65c_grow_d5877_Jx4a65c : ∀ w ∈ u_ws RJx4a65c TJx4a65c 3, w ∈ wsJx4a65c_grow_d5877 := by decide +kernel
set_option maxRecDepth 20000 in
theorem zi_Jx4a65c_add_72be8_Jx4a65c : ∀ w ∈ u_ws RJx4a65c TJx4a65c 3, w ∈ wsJx4a65c_add_72be8 := by decide +kernel
set_option maxRecDepth 20000 in
theorem zi_Jx4a65c_add_9ea2d_Jx4a65c : ∀ w ∈ u_ws RJx4a65c TJx4a65c 3, w ∈ wsJx4a65c_add_9ea2d := by decide +kernel
set_option maxRecDepth 20000 in
theorem zi_X7_inState_X7 : ∀ w ∈ u_ws RX7 TX7 14, w ∈ wsX7_inState := by decide +kernel
set_option maxRecDepth 20000 in
theorem zi_X7_opened_X7 : ∀ w ∈ u_ws RX7 TX7 14, w ∈ wsX7_opened := by decide +kernel
set_option maxRecDepth 20000 in
theorem zi_X7_ready_X7 : ∀ w ∈ u_ws RX7 TX7 14, w ∈ wsX7_ready := by decide +kernel
set_option maxRecDepth 20000 in
theorem zi_X7_atHand_X7 : ∀ w ∈ u_ws RX7 TX7 14, w ∈ wsX7_atHand := by decide +kernel
set_option maxRecDepth 20000 in
theorem zi_X7_next_X7 : ∀ w ∈ u_ws RX7 TX7 14, w ∈ wsX7_next := by decide +kernel
set_option maxRecDepth 20000 in
theorem zi_X7_isEnd_X7 : ∀ w ∈ u_ws RX7 TX7 14, w ∈ wsX7_isEnd := by decide +kernel
set_option maxRecDepth 20000 in
theorem zi_X7_bestHint_X7 : ∀ w ∈ u_ws RX7 TX7 14, w ∈ wsX7_bestHint := by decide +kernel
set_option maxRecDepth 20000 in
theorem zi_X7_copy_X7 : ∀ w ∈ u_ws RX7 TX7 14, w ∈ wsX7_copy := by decide +kernel
set_option maxRecDepth 20000 in
theorem zi_X8_missNow_X8 : ∀ w ∈ u_ws RX8 TX8 4, w ∈ wsX8_missNow := by decide +kernel
set_option maxRecDepth 20000 in
theorem zi_X8_endsNow_X8 : ∀ w ∈ u_ws RX8 TX8 4, w ∈ wsX8_endsNow := by decide +kernel
set_option maxRecDepth 20000 in
theorem zi_X8_endsNow_X7 : ∀ w ∈ u_ws RX7 TX7 14, w ∈ wsX8_endsNow := by decide +kernel
set_option maxRecDepth 20000 in
theorem zi_X8_manyNow_X8 : ∀ w ∈ u_ws RX8 TX8 4, w ∈ wsX8_manyNow := by decide +kernel
set_option maxRecDepth 20000 in
theorem zi_X8_manyNow_X7 : ∀ w ∈ u_ws RX7 TX7 14, w ∈ wsX8_manyNow := by decide +kernel
set_option maxRecDepth 20000 in
theorem zi_X8_lock_X8 : ∀ w ∈ u_ws RX8 TX8 4, w ∈ wsX8_lock := by decide +kernel
set_option maxRecDepth 20000 in
theorem zi_X8_lock_X7 : ∀ w ∈ u_ws RX7 TX7 14, w ∈ wsX8_lock := by decide +kernel
set_option maxRecDepth 20000 in
theorem zi_X8_thing_X8 : ∀ w ∈ u_ws RX8 TX8 4, w ∈ wsX8_thing := by decide +kernel
set_option maxRecDepth 20000 in
theorem zi_X8_thing_X7 : ∀ w ∈ u_ws RX7 TX7 14, w ∈ wsX8_thing := by decide +kernel
set_option maxRecDepth 20000 in
theorem zi_X8_add_X8 : ∀ w ∈ u_ws RX8 TX8 4, w ∈ wsX8_add := by decide +kernel
set_option maxHeartbeats 4000000 in
set_option maxRecDepth 100000 in
theorem cz_X8_add (l : Launch) (dC : Nat → ClassId) (dI : Nat → Nat → Nat) (ed sz : Nat) (mo : Nat) (mr : Nat) (x9 : Int32) (s9 : Int64) (x0 : Int32) : Met l yX8_add wsX8_add ({ frames := 0, cells := 0, slots := 0, locals := 0 } : Jvm.Room) (va_Pc [.ref mo, .int x0] (zB dC dI ed sz [] [(mo, .inr (10, [.int x9, .ref mr, .int 1, .long s9]))] [])) (va_Qv (fun (_ : Unit) => True) (fun (_ : Unit) (t : State) => ∃ (s1 : Int64), (s1 = ((s9 * 31) + x0.toInt64)) ∧ va_P (dC, dI) vwCl [(mo, .inr (10, [.int x9, .ref mr, .int 1, .long s1]))] t.heap ∧ va_D (va_A [(mo, .inr (10, [.int x9, .ref mr, .int 1, .long s9]))] sz) [(mo, .inr (10, [.int x9, .ref mr, .int 1, .long s1]))] ∧ va_K (dC, dI) vwCl [] t) (va_A [(mo, .inr (10, [.int x9, .ref mr, .int 1, .long s9]))] sz)) 0 0 (va_A [(mo, .inr (10, [.int x9, .ref mr, .int 1, .long s9]))] sz) := by
  refine Met.ofW (cc := cX8_add) (maxL := 2) (ret := none) (by decide) rfl ?_
  intro p e s m args below meth c s₁ B hml hv
  obtain ⟨rfl, hsz, hR0, hP, hK, hD0, hN, hH, hX0⟩ := hv
  have hx := B.exec
  have hb := B.bytes
  have hr := B.returns
  have hts := atoms_spec (ws := wsX8_add) B.pre
  have hown : s.vm.findClass RX8 = some m.cls := findClass_of_methodNamed B.named
  have hlocks := B.notSynchronized
  subst hsz
  have hD := hD0.self (sz := s.heap.size)
  have hAr := zx_A hX0 hR0
  generalize hAe : va_A [(mo, .inr (10, [.int x9, .ref mr, .int 1, .long s9]))] s.heap.size = A at hD hAr hH ⊢
  have hA : ∀ q : Nat, s.heap.size ≤ q → A q := fun q h => by rw [← hAe]; exact Or.inr h
  have hS : va_S A s.heap s.heap [] := va_S.rf
  have hl := lv_entry ([.ref mo, .int x0]) (n := 2) (Nat.le_of_ble_eq_true rfl)
  rw [lg_entry_eq]
  generalize (lg_sl ([.ref mo, .int x0]) ++ List.replicate (2 - (lg_sl ([.ref mo, .int x0])).length) Slot.unset).toArray = ls at hl ⊢
  have hl : lv_has ls 2 [(0, .ref mo), (1, .int x0)] := hl
  refine lv_aload_n hx hb dX8_add_0 rfl (lv_at hl 0 rfl) ?_
  refine lv_aload_n hx hb dX8_add_1 rfl (lv_at hl 0 rfl) ?_
  refine va_get (D := (dC, dI)) (ci := 10) (v := .long s9) (C := RX8) (T := TX8) (N := 4) hx hb hts zi_X8_add_X8 hown hK hP 0 rfl rfl 3 (by decide) (hts (.fieldLink RX8 168 "LockRoomsModel" "sum" "J") (by decide +kernel)) (fun _ h9 => h9) rfl dX8_add_2 ?_
  refine lv_ldc2 (v := 31) hx hb hown (hts (.constantLong RX8 172 (31)) (by decide +kernel)) dX8_add_5 ?_
  refine lv_lmul hx hb dX8_add_8 ?_
  refine lv_iload_n hx hb dX8_add_9 rfl (lv_at hl 1 rfl) ?_
  refine lv_i2l (v := x0.toInt64) hx hb dX8_add_10 (by rfl) ?_
  refine lv_ladd hx hb dX8_add_11 ?_
  refine va_put (D := (dC, dI)) (ci := 10) (v := .long ((s9 * 31) + x0.toInt64)) (ty := .long) (C := RX8) (T := TX8) (N := 4) hx hb hts zi_X8_add_X8 tyX8 tyX8_ok nmX8 hown hK hP hD hS 0 rfl rfl 3 (by decide) (hts (.fieldLink RX8 168 "LockRoomsModel" "sum" "J") (by decide +kernel)) (fun _ h9 => h9) rfl (by decide +kernel) rfl rfl (Nat.le_of_ble_eq_true rfl) dX8_add_12 (fun H1 locs hP hD hS => ?_)
  have hP : va_P (dC, dI) vwCl [(mo, .inr (10, [.int x9, .ref mr, .int 1, .long ((s9 * 31) + x0.toInt64)]))] H1 := hP
  have hD : va_D A [(mo, .inr (10, [.int x9, .ref mr, .int 1, .long ((s9 * 31) + x0.toInt64)]))] := hD
  refine W.widen (k := 0) (n := 0) (Nat.le_of_ble_eq_true rfl) (Nat.le_of_ble_eq_true rfl) ?_
  have hP9 := hP.sub (ws' := [(mo, .inr (10, [.int x9, .ref mr, .int 1, .long ((s9 * 31) + x0.toInt64)]))]) [0] rfl
  have hD9 := hD.sub (ws' := [(mo, .inr (10, [.int x9, .ref mr, .int 1, .long ((s9 * 31) + x0.toInt64)]))]) [0] (by decide) rfl
  have hK9 := hK.sub (tys' := []) [] rfl
  exact W.vret hx hb hr (fun t ht hW => ⟨⟨(), rfl, trivial, ⟨((s9 * 31) + x0.toInt64), rfl, by rw [ht]; exact hP9, hD9, va_K.moved hW.alike hK9⟩⟩, hS.F ht⟩) hS.2.2 dX8_add_15
set_option maxRecDepth 20000 in
theorem zi_X8_digest_X8 : ∀ w ∈ u_ws RX8 TX8 4, w ∈ wsX8_digest := by decide +kernel
set_option maxRecDepth 20000 in
theorem zi_X8_digest_X7 : ∀ w ∈ u_ws RX7 TX7 14, w ∈ wsX8_digest := by decide +kernel
theorem zo_Dnil {A : Nat → Prop} : va_D A [] := ⟨fun i j p q h => by simp at h, fun k q h => by simp at h⟩
def zwsL_thing : List Cond := wsL_thing ++ [Cond.classLink RL 13 "java/lang/IllegalArgumentException"]
theorem zgL_thing_X6_thing : GoodIn zwsL_thing (wsV RL 17 RX6 yX6_thing wsX6_thing) := fun w h => ⟨List.mem_append_left _ (gL_thing_X6_thing w h).1, (gL_thing_X6_thing w h).2⟩
theorem zo_fitI (cA : ClassId) (n : Nat) (f : Nat → Int32) : ∀ (i : Nat) (v : Value), (vp_cell cA (n, .inl f)).slots[i]? = some v → fits .int v = true := by
  intro i v h
  rw [vp_cell_i] at h
  have hlt : i < n := by
    have := (Array.getElem?_eq_some_iff.mp h).1
    rw [arrV_size] at this
    exact this
  rw [arrV_read _ _ hlt] at h
  cases h
  rfl
set_option maxRecDepth 20000 in
theorem zi_Jx35411_checkForComodification_da8c8_Jx35411 : ∀ w ∈ u_ws RJx35411 TJx35411 4, w ∈ wsJx35411_checkForComodification_da8c8 := by decide +kernel
set_option maxRecDepth 20000 in
theorem zi_Jx35411_checkForComodification_da8c8_Jx4a65c : ∀ w ∈ u_ws RJx4a65c TJx4a65c 3, w ∈ wsJx35411_checkForComodification_da8c8 := by decide +kernel
set_option maxRecDepth 20000 in
theorem zi_Jx35411_next_0502b_Jx35411 : ∀ w ∈ u_ws RJx35411 TJx35411 4, w ∈ wsJx35411_next_0502b := by decide +kernel
set_option maxRecDepth 20000 in
theorem zi_Jx35411_next_0502b_Jx4a65c : ∀ w ∈ u_ws RJx4a65c TJx4a65c 3, w ∈ wsJx35411_next_0502b := by decide +kernel
set_option maxRecDepth 20000 in
theorem zi_Jx4a65c_elementData_915e3_Jx4a65c : ∀ w ∈ u_ws RJx4a65c TJx4a65c 3, w ∈ wsJx4a65c_elementData_915e3 := by decide +kernel
set_option maxRecDepth 20000 in
theorem zi_Jx4a65c_get_915e3_Jx4a65c : ∀ w ∈ u_ws RJx4a65c TJx4a65c 3, w ∈ wsJx4a65c_get_915e3 := by decide +kernel
set_option maxHeartbeats 4000000 in
set_option maxRecDepth 100000 in
theorem cz_QisIn (l : Launch) (dC : Nat → ClassId) (dI : Nat → Nat → Nat) (ed sz : Nat) (x0 : Int32) (x1 : Int32) : Met l yX6_isIn wsX6_isIn ({ frames := 0, cells := 0, slots := 0, locals := 0 } : Jvm.Room) (va_Pc [.int x0, .int x1] (zB dC dI ed sz [] [] [])) (va_Qi (fun (r : Int32) (_ : Unit) => r = zIsIn x0 x1) (fun (_ : Unit) (_ : State) => True) (va_A [] sz)) 0 0 (va_A [] sz) := by
  refine Met.ofW (cc := cX6_isIn) (maxL := 2) (ret := (some .boolean)) (by decide) rfl ?_
  intro p e s m args below meth c s₁ B hml hv
  obtain ⟨rfl, hsz, hR0, hP, hK, hD0, hN, hH, hX0⟩ := hv
  have hx := B.exec
  have hb := B.bytes
  have hr := B.returns
  have hts := atoms_spec (ws := wsX6_isIn) B.pre
  have hown : s.vm.findClass RX6 = some m.cls := findClass_of_methodNamed B.named
  have hlocks := B.notSynchronized
  subst hsz
  have hD := hD0.self (sz := s.heap.size)
  have hAr := zx_A hX0 hR0
  generalize hAe : va_A [] s.heap.size = A at hD hAr hH ⊢
  have hA : ∀ q : Nat, s.heap.size ≤ q → A q := fun q h => by rw [← hAe]; exact Or.inr h
  have hS : va_S A s.heap s.heap [] := va_S.rf
  have hl := lv_entry ([.int x0, .int x1]) (n := 2) (Nat.le_of_ble_eq_true rfl)
  rw [lg_entry_eq]
  generalize (lg_sl ([.int x0, .int x1]) ++ List.replicate (2 - (lg_sl ([.int x0, .int x1])).length) Slot.unset).toArray = ls at hl ⊢
  have hl : lv_has ls 2 [(0, .int x0), (1, .int x1)] := hl
  refine lv_iload_n hx hb dX6_isIn_0 rfl (lv_at hl 1 rfl) ?_
  refine lv_iconst (v := (-1)) hx hb dX6_isIn_1 (by decide) ?_
  refine lv_icmp_eq (tgt := 18) hx hb dX6_isIn_2 (by decide) (fun c1 => ?_) (fun c1 => ?_)
  · skip
    refine lv_iconst (v := 0) hx hb dX6_isIn_18 (by decide) ?_
    refine W.widen (k := 0) (n := 0) (Nat.le_of_ble_eq_true rfl) (Nat.le_of_ble_eq_true rfl) ?_
    exact W.zret hx hb hr (by decide) (fun t ht hW => ⟨⟨0, (), rfl, (if_pos c1).symm, trivial⟩, hS.F ht⟩) hS.2.2 dX6_isIn_19
  · skip
    refine lv_iload_n hx hb dX6_isIn_5 rfl (lv_at hl 0 rfl) ?_
    refine lv_iload_n hx hb dX6_isIn_6 rfl (lv_at hl 1 rfl) ?_
    refine lv_ishr hx hb dX6_isIn_7 ?_
    refine lv_iconst (v := 1) hx hb dX6_isIn_8 (by decide) ?_
    refine lv_iand hx hb dX6_isIn_9 ?_
    refine lv_iconst (v := 1) hx hb dX6_isIn_10 (by decide) ?_
    refine lv_icmp_ne (tgt := 18) hx hb dX6_isIn_11 (by decide) (fun c2 => ?_) (fun c2 => ?_)
    · skip
      refine lv_iconst (v := 0) hx hb dX6_isIn_18 (by decide) ?_
      refine W.widen (k := 0) (n := 0) (Nat.le_of_ble_eq_true rfl) (Nat.le_of_ble_eq_true rfl) ?_
      exact W.zret hx hb hr (by decide) (fun t ht hW => ⟨⟨0, (), rfl, ((if_neg c1).trans (if_neg c2)).symm, trivial⟩, hS.F ht⟩) hS.2.2 dX6_isIn_19
    · skip
      refine lv_iconst (v := 1) hx hb dX6_isIn_14 (by decide) ?_
      refine lv_goto (tgt := 19) hx hb dX6_isIn_15 (by decide) ?_
      refine W.widen (k := 0) (n := 0) (Nat.le_of_ble_eq_true rfl) (Nat.le_of_ble_eq_true rfl) ?_
      exact W.zret hx hb hr (by decide) (fun t ht hW => ⟨⟨1, (), rfl, ((if_neg c1).trans (if_pos c2)).symm, trivial⟩, hS.F ht⟩) hS.2.2 dX6_isIn_19
set_option maxHeartbeats 4000000 in
set_option maxRecDepth 100000 in
theorem cz_QX6_isWithin_60_60 (l : Launch) (dC : Nat → ClassId) (dI : Nat → Nat → Nat) (ed sz : Nat) : Met l yX6_isWithin wsX6_isWithin ({ frames := 0, cells := 0, slots := 0, locals := 0 } : Jvm.Room) (va_Pc [.int 60, .int 1, .int 60] (zB dC dI ed sz [] [] [])) (va_Qi (fun (r : Int32) (_ : Unit) => r = 1) (fun (_ : Unit) (_ : State) => True) (va_A [] sz)) 0 0 (va_A [] sz) := by
  refine Met.ofW (cc := cX6_isWithin) (maxL := 3) (ret := (some .boolean)) (by decide) rfl ?_
  intro p e s m args below meth c s₁ B hml hv
  obtain ⟨rfl, hsz, hR0, hP, hK, hD0, hN, hH, hX0⟩ := hv
  have hx := B.exec
  have hb := B.bytes
  have hr := B.returns
  have hts := atoms_spec (ws := wsX6_isWithin) B.pre
  have hown : s.vm.findClass RX6 = some m.cls := findClass_of_methodNamed B.named
  have hlocks := B.notSynchronized
  subst hsz
  have hD := hD0.self (sz := s.heap.size)
  have hAr := zx_A hX0 hR0
  generalize hAe : va_A [] s.heap.size = A at hD hAr hH ⊢
  have hA : ∀ q : Nat, s.heap.size ≤ q → A q := fun q h => by rw [← hAe]; exact Or.inr h
  have hS : va_S A s.heap s.heap [] := va_S.rf
  have hl := lv_entry ([.int 60, .int 1, .int 60]) (n := 3) (Nat.le_of_ble_eq_true rfl)
  rw [lg_entry_eq]
  generalize (lg_sl ([.int 60, .int 1, .int 60]) ++ List.replicate (3 - (lg_sl ([.int 60, .int 1, .int 60])).length) Slot.unset).toArray = ls at hl ⊢
  have hl : lv_has ls 3 [(0, .int 60), (1, .int 1), (2, .int 60)] := hl
  refine lv_iload_n hx hb dX6_isWithin_0 rfl (lv_at hl 0 rfl) ?_
  refine lv_iload_n hx hb dX6_isWithin_1 rfl (lv_at hl 1 rfl) ?_
  refine lv_icmp_lt (tgt := 14) hx hb dX6_isWithin_2 (by decide) (fun h => absurd h (by decide)) (fun _ => ?_)
  refine lv_iload_n hx hb dX6_isWithin_5 rfl (lv_at hl 0 rfl) ?_
  refine lv_iload_n hx hb dX6_isWithin_6 rfl (lv_at hl 2 rfl) ?_
  refine lv_icmp_gt (tgt := 14) hx hb dX6_isWithin_7 (by decide) (fun h => absurd h (by decide)) (fun _ => ?_)
  refine lv_iconst (v := 1) hx hb dX6_isWithin_10 (by decide) ?_
  refine lv_goto (tgt := 15) hx hb dX6_isWithin_11 (by decide) ?_
  refine W.widen (k := 0) (n := 0) (Nat.le_of_ble_eq_true rfl) (Nat.le_of_ble_eq_true rfl) ?_
  exact W.zret hx hb hr (by decide) (fun t ht hW => ⟨⟨1, (), rfl, rfl, trivial⟩, hS.F ht⟩) hS.2.2 dX6_isWithin_15
set_option maxHeartbeats 4000000 in
set_option maxRecDepth 100000 in
theorem cz_QX6_isWithin_0_9 (l : Launch) (dC : Nat → ClassId) (dI : Nat → Nat → Nat) (ed sz : Nat) : Met l yX6_isWithin wsX6_isWithin ({ frames := 0, cells := 0, slots := 0, locals := 0 } : Jvm.Room) (va_Pc [.int 0, .int 0, .int 9] (zB dC dI ed sz [] [] [])) (va_Qi (fun (r : Int32) (_ : Unit) => r = 1) (fun (_ : Unit) (_ : State) => True) (va_A [] sz)) 0 0 (va_A [] sz) := by
  refine Met.ofW (cc := cX6_isWithin) (maxL := 3) (ret := (some .boolean)) (by decide) rfl ?_
  intro p e s m args below meth c s₁ B hml hv
  obtain ⟨rfl, hsz, hR0, hP, hK, hD0, hN, hH, hX0⟩ := hv
  have hx := B.exec
  have hb := B.bytes
  have hr := B.returns
  have hts := atoms_spec (ws := wsX6_isWithin) B.pre
  have hown : s.vm.findClass RX6 = some m.cls := findClass_of_methodNamed B.named
  have hlocks := B.notSynchronized
  subst hsz
  have hD := hD0.self (sz := s.heap.size)
  have hAr := zx_A hX0 hR0
  generalize hAe : va_A [] s.heap.size = A at hD hAr hH ⊢
  have hA : ∀ q : Nat, s.heap.size ≤ q → A q := fun q h => by rw [← hAe]; exact Or.inr h
  have hS : va_S A s.heap s.heap [] := va_S.rf
  have hl := lv_entry ([.int 0, .int 0, .int 9]) (n := 3) (Nat.le_of_ble_eq_true rfl)
  rw [lg_entry_eq]
  generalize (lg_sl ([.int 0, .int 0, .int 9]) ++ List.replicate (3 - (lg_sl ([.int 0, .int 0, .int 9])).length) Slot.unset).toArray = ls at hl ⊢
  have hl : lv_has ls 3 [(0, .int 0), (1, .int 0), (2, .int 9)] := hl
  refine lv_iload_n hx hb dX6_isWithin_0 rfl (lv_at hl 0 rfl) ?_
  refine lv_iload_n hx hb dX6_isWithin_1 rfl (lv_at hl 1 rfl) ?_
  refine lv_icmp_lt (tgt := 14) hx hb dX6_isWithin_2 (by decide) (fun h => absurd h (by decide)) (fun _ => ?_)
  refine lv_iload_n hx hb dX6_isWithin_5 rfl (lv_at hl 0 rfl) ?_
  refine lv_iload_n hx hb dX6_isWithin_6 rfl (lv_at hl 2 rfl) ?_
  refine lv_icmp_gt (tgt := 14) hx hb dX6_isWithin_7 (by decide) (fun h => absurd h (by decide)) (fun _ => ?_)
  refine lv_iconst (v := 1) hx hb dX6_isWithin_10 (by decide) ?_
  refine lv_goto (tgt := 15) hx hb dX6_isWithin_11 (by decide) ?_
  refine W.widen (k := 0) (n := 0) (Nat.le_of_ble_eq_true rfl) (Nat.le_of_ble_eq_true rfl) ?_
  exact W.zret hx hb hr (by decide) (fun t ht hW => ⟨⟨1, (), rfl, rfl, trivial⟩, hS.F ht⟩) hS.2.2 dX6_isWithin_15
set_option maxHeartbeats 4000000 in
set_option maxRecDepth 100000 in
theorem cz_QX6_isWithin_0_4095 (l : Launch) (dC : Nat → ClassId) (dI : Nat → Nat → Nat) (ed sz : Nat) : Met l yX6_isWithin wsX6_isWithin ({ frames := 0, cells := 0, slots := 0, locals := 0 } : Jvm.Room) (va_Pc [.int 0, .int 0, .int 4095] (zB dC dI ed sz [] [] [])) (va_Qi (fun (r : Int32) (_ : Unit) => r = 1) (fun (_ : Unit) (_ : State) => True) (va_A [] sz)) 0 0 (va_A [] sz) := by
  refine Met.ofW (cc := cX6_isWithin) (maxL := 3) (ret := (some .boolean)) (by decide) rfl ?_
  intro p e s m args below meth c s₁ B hml hv
  obtain ⟨rfl, hsz, hR0, hP, hK, hD0, hN, hH, hX0⟩ := hv
  have hx := B.exec
  have hb := B.bytes
  have hr := B.returns
  have hts := atoms_spec (ws := wsX6_isWithin) B.pre
  have hown : s.vm.findClass RX6 = some m.cls := findClass_of_methodNamed B.named
  have hlocks := B.notSynchronized
  subst hsz
  have hD := hD0.self (sz := s.heap.size)
  have hAr := zx_A hX0 hR0
  generalize hAe : va_A [] s.heap.size = A at hD hAr hH ⊢
  have hA : ∀ q : Nat, s.heap.size ≤ q → A q := fun q h => by rw [← hAe]; exact Or.inr h
  have hS : va_S A s.heap s.heap [] := va_S.rf
  have hl := lv_entry ([.int 0, .int 0, .int 4095]) (n := 3) (Nat.le_of_ble_eq_true rfl)
  rw [lg_entry_eq]
  generalize (lg_sl ([.int 0, .int 0, .int 4095]) ++ List.replicate (3 - (lg_sl ([.int 0, .int 0, .int 4095])).length) Slot.unset).toArray = ls at hl ⊢
  have hl : lv_has ls 3 [(0, .int 0), (1, .int 0), (2, .int 4095)] := hl
  refine lv_iload_n hx hb dX6_isWithin_0 rfl (lv_at hl 0 rfl) ?_
  refine lv_iload_n hx hb dX6_isWithin_1 rfl (lv_at hl 1 rfl) ?_
  refine lv_icmp_lt (tgt := 14) hx hb dX6_isWithin_2 (by decide) (fun h => absurd h (by decide)) (fun _ => ?_)
  refine lv_iload_n hx hb dX6_isWithin_5 rfl (lv_at hl 0 rfl) ?_
  refine lv_iload_n hx hb dX6_isWithin_6 rfl (lv_at hl 2 rfl) ?_
  refine lv_icmp_gt (tgt := 14) hx hb dX6_isWithin_7 (by decide) (fun h => absurd h (by decide)) (fun _ => ?_)
  refine lv_iconst (v := 1) hx hb dX6_isWithin_10 (by decide) ?_
  refine lv_goto (tgt := 15) hx hb dX6_isWithin_11 (by decide) ?_
  refine W.widen (k := 0) (n := 0) (Nat.le_of_ble_eq_true rfl) (Nat.le_of_ble_eq_true rfl) ?_
  exact W.zret hx hb hr (by decide) (fun t ht hW => ⟨⟨1, (), rfl, rfl, trivial⟩, hS.F ht⟩) hS.2.2 dX6_isWithin_15

section ZL
variable {p : Program} {l : Launch} {e : Env} {R : Room} {s : State} {m : MethodId} {args : Array Value} {below : List Frame} {meth : Method} {c : Code} {H : Heap} {locs : List Loc} {cells slots : Nat} {Q : State → Prop} {pc : Nat} {ls : Array Slot}
/-- a loop with a counter, by its invariant -/
theorem zo_loop (I : Nat → Heap → List Loc → Array Slot → Prop) (N : Nat) {st : List Value} (h0 : I 0 H locs ls)
    (hs : ∀ i, i < N → (∀ H locs ls, I (i + 1) H locs ls → W p l e R s m args below meth c H locs cells slots Q (F0 m pc ls st)) → ∀ H locs ls, I i H locs ls → W p l e R s m args below meth c H locs cells slots Q (F0 m pc ls st))
    (hx : ∀ H locs ls, I N H locs ls → W p l e R s m args below meth c H locs cells slots Q (F0 m pc ls st)) : W p l e R s m args below meth c H locs cells slots Q (F0 m pc ls st) := by
  suffices K : ∀ n i, i + n = N → ∀ H locs ls, I i H locs ls → W p l e R s m args below meth c H locs cells slots Q (F0 m pc ls st) from K N 0 (Nat.zero_add N) H locs ls h0
  intro n
  induction n with
  | zero => intro i hi; subst hi; exact hx
  | succ n ih => intro i hi; exact hs i (by omega) (ih (i + 1) (by omega))
end ZL
theorem zp_90 {x : Int32} (h : ¬ x < 1 ∧ ¬ 90 < x) : ∃ N : Nat, N ≤ 90 ∧ x = nI N :=
  nI_of2 (M := 90) (n := 90) (by decide) (fun z => h.1 (Int32.lt_of_lt_of_le z (by decide))) (Int32.not_lt.mp h.2)
theorem zp_le {x : Int32} (h : ¬ x < 1 ∧ ¬ 90 < x) : 0 + x ≤ 9999 := by
  obtain ⟨N, hN, rfl⟩ := zp_90 h
  rw [show (0 : Int32) + nI N = nI N from by rw [← nI_0, nI_add, Nat.zero_add]]
  exact nI_le (b := 9999) (by omega) (by decide)

set_option maxRecDepth 20000 in
theorem zi_X3_letMinuteGoBy_X3 : ∀ w ∈ u_ws RX3 TX3 12, w ∈ wsX3_letMinuteGoBy := by decide +kernel
set_option maxRecDepth 20000 in
theorem zi_X3_letMinuteGoBy_X0 : ∀ w ∈ u_ws RX0 TX0 7, w ∈ wsX3_letMinuteGoBy := by decide +kernel
set_option maxHeartbeats 4000000 in
set_option maxRecDepth 100000 in
theorem cz_letMinuteGoBy (l : Launch) (dC : Nat → ClassId) (dI : Nat → Nat → Nat) (ed sz : Nat) (rm : Nat) (lk : Nat) (th : Nat) (pl : Nat) (gm : Nat) (x0 : Int32) : Met l yX3_letMinuteGoBy wsX3_letMinuteGoBy ({ frames := 0, cells := 0, slots := 0, locals := 0 } : Jvm.Room) (va_Pc [.ref rm] (zB dC dI ed sz [(gm, .inr (2, [.int 0, .int 0, .int 0, .int 0, .int 0, .int (-1), .long 0]))] [(rm, .inr (5, [.ref lk, .ref th, .ref pl, .ref gm, .int 0, .int 0, .int 0, .int (-1), .int 1, .int x0, .int 0, .int 0]))] [])) (va_Qi (fun (r : Int32) (_ : Unit) => r = 0) (fun (_ : Unit) (t : State) => va_P (dC, dI) vwCl [(rm, .inr (5, [.ref lk, .ref th, .ref pl, .ref gm, .int 0, .int 0, .int 0, .int (-1), .int 1, .int (x0 + 1), .int 0, .int 0]))] t.heap ∧ va_D (va_A [(rm, .inr (5, [.ref lk, .ref th, .ref pl, .ref gm, .int 0, .int 0, .int 0, .int (-1), .int 1, .int x0, .int 0, .int 0]))] sz) [(rm, .inr (5, [.ref lk, .ref th, .ref pl, .ref gm, .int 0, .int 0, .int 0, .int (-1), .int 1, .int (x0 + 1), .int 0, .int 0]))] ∧ va_K (dC, dI) vwCl [] t) (va_A [(rm, .inr (5, [.ref lk, .ref th, .ref pl, .ref gm, .int 0, .int 0, .int 0, .int (-1), .int 1, .int x0, .int 0, .int 0]))] sz)) 0 0 (va_A [(rm, .inr (5, [.ref lk, .ref th, .ref pl, .ref gm, .int 0, .int 0, .int 0, .int (-1), .int 1, .int x0, .int 0, .int 0]))] sz) := by
  refine Met.ofW (cc := cX3_letMinuteGoBy) (maxL := 3) (ret := (some .int)) (by decide) rfl ?_
  intro p e s m args below meth c s₁ B hml hv
  obtain ⟨rfl, hsz, hR0, hP, hK, hD0, hN, hH, hX0⟩ := hv
  have hx := B.exec
  have hb := B.bytes
  have hr := B.returns
  have hts := atoms_spec (ws := wsX3_letMinuteGoBy) B.pre
  have hown : s.vm.findClass RX3 = some m.cls := findClass_of_methodNamed B.named
  have hlocks := B.notSynchronized
  subst hsz
  have hD := hD0.self (sz := s.heap.size)
  have hAr := zx_A hX0 hR0
  generalize hAe : va_A [(rm, .inr (5, [.ref lk, .ref th, .ref pl, .ref gm, .int 0, .int 0, .int 0, .int (-1), .int 1, .int x0, .int 0, .int 0]))] s.heap.size = A at hD hAr hH ⊢
  have hA : ∀ q : Nat, s.heap.size ≤ q → A q := fun q h => by rw [← hAe]; exact Or.inr h
  have hS : va_S A s.heap s.heap [] := va_S.rf
  have hl := lv_entry ([.ref rm]) (n := 3) (Nat.le_of_ble_eq_true rfl)
  rw [lg_entry_eq]
  generalize (lg_sl ([.ref rm]) ++ List.replicate (3 - (lg_sl ([.ref rm])).length) Slot.unset).toArray = ls at hl ⊢
  have hl : lv_has ls 3 [(0, .ref rm)] := hl
  refine lv_aload_n hx hb dX3_letMinuteGoBy_0 rfl (lv_at hl 0 rfl) ?_
  refine lv_dup hx hb dX3_letMinuteGoBy_1 rfl ?_
  refine va_get (D := (dC, dI)) (ci := 5) (v := .int x0) (C := RX3) (T := TX3) (N := 12) hx hb hts zi_X3_letMinuteGoBy_X3 hown hK hP 0 rfl rfl 9 (by decide) (hts (.fieldLink RX3 69 "LockRooms$Room" "now" "I") (by decide +kernel)) (fun _ h9 => h9) rfl dX3_letMinuteGoBy_2 ?_
  refine lv_iconst (v := 1) hx hb dX3_letMinuteGoBy_5 (by decide) ?_
  refine lv_iadd hx hb dX3_letMinuteGoBy_6 ?_
  refine va_put (D := (dC, dI)) (ci := 5) (v := .int (x0 + 1)) (ty := .int) (C := RX3) (T := TX3) (N := 12) hx hb hts zi_X3_letMinuteGoBy_X3 tyX3 tyX3_ok nmX3 hown hK hP hD hS 0 rfl rfl 9 (by decide) (hts (.fieldLink RX3 69 "LockRooms$Room" "now" "I") (by decide +kernel)) (fun _ h9 => h9) rfl (by decide +kernel) rfl rfl (Nat.le_of_ble_eq_true rfl) dX3_letMinuteGoBy_7 (fun H1 locs hP hD hS => ?_)
  have hP : va_P (dC, dI) vwCl [(rm, .inr (5, [.ref lk, .ref th, .ref pl, .ref gm, .int 0, .int 0, .int 0, .int (-1), .int 1, .int (x0 + 1), .int 0, .int 0]))] H1 := hP
  have hD : va_D A [(rm, .inr (5, [.ref lk, .ref th, .ref pl, .ref gm, .int 0, .int 0, .int 0, .int (-1), .int 1, .int (x0 + 1), .int 0, .int 0]))] := hD
  refine lv_aload_n hx hb dX3_letMinuteGoBy_10 rfl (lv_at hl 0 rfl) ?_
  refine va_get (D := (dC, dI)) (ci := 5) (v := .ref gm) (C := RX3) (T := TX3) (N := 12) hx hb hts zi_X3_letMinuteGoBy_X3 hown hK hP 0 rfl rfl 3 (by decide) (hts (.fieldLink RX3 32 "LockRooms$Room" "games" "LLockRooms$Games;") (by decide +kernel)) (fun _ h9 => h9) rfl dX3_letMinuteGoBy_11 ?_
  refine va_get (D := (dC, dI)) (ci := 2) (v := .int 0) (C := RX0) (T := TX0) (N := 7) hx hb hts zi_X3_letMinuteGoBy_X0 hown hK (zo_R hR0 hS hAr) 0 rfl rfl 0 (by decide) (hts (.fieldLink RX3 134 "LockRooms$Games" "isRunning" "Z") (by decide +kernel)) (fun _ h9 => h9) rfl dX3_letMinuteGoBy_14 ?_
  refine lv_if_ne (tgt := 22) hx hb dX3_letMinuteGoBy_17 (by decide) (fun h => absurd h (by decide)) (fun _ => ?_)
  refine lv_iconst (v := 0) hx hb dX3_letMinuteGoBy_20 (by decide) ?_
  refine W.widen (k := 0) (n := 0) (Nat.le_of_ble_eq_true rfl) (Nat.le_of_ble_eq_true rfl) ?_
  have hP9 := hP.sub (ws' := [(rm, .inr (5, [.ref lk, .ref th, .ref pl, .ref gm, .int 0, .int 0, .int 0, .int (-1), .int 1, .int (x0 + 1), .int 0, .int 0]))]) [0] rfl
  have hD9 := hD.sub (ws' := [(rm, .inr (5, [.ref lk, .ref th, .ref pl, .ref gm, .int 0, .int 0, .int 0, .int (-1), .int 1, .int (x0 + 1), .int 0, .int 0]))]) [0] (by decide) rfl
  have hK9 := hK.sub (tys' := []) [] rfl
  exact W.iret hx hb hr (fun t ht hW => ⟨⟨0, (), rfl, rfl, ⟨by rw [ht]; exact hP9, hD9, va_K.moved hW.alike hK9⟩⟩, hS.F ht⟩) hS.2.2 dX3_letMinuteGoBy_21

set_option maxRecDepth 20000 in
theorem zi_X6_pass_X6 : ∀ w ∈ u_ws RX6 TX6 3, w ∈ wsX6_pass := by decide +kernel
set_option maxRecDepth 20000 in
theorem zi_X6_pass_X3 : ∀ w ∈ u_ws RX3 TX3 12, w ∈ wsX6_pass := by decide +kernel
theorem zf_X6_pass_34 : ∀ w ∈ (vx_atS RX6 34 "java/lang/IllegalArgumentException" ["java/lang/RuntimeException", "java/lang/Exception"]).filter goodWord, w ∈ wsX6_pass := fun _ h => List.mem_cons_of_mem _ (List.mem_append_left _ (List.mem_append_right _ h))
set_option maxHeartbeats 4000000 in
set_option maxRecDepth 100000 in
theorem cz_X6_pass (l : Launch) (dC : Nat → ClassId) (dI : Nat → Nat → Nat) (ed sz : Nat) (x : Nat) (rm : Nat) (tr : Nat) (st : Nat) (lk : Nat) (th : Nat) (pl : Nat) (gm : Nat) (x0 : Int32) (htr : l.stackTraces = false) : vx_Met l yX6_pass wsX6_pass ({ frames := 6, cells := 1, slots := 6, locals := 82 } : Jvm.Room) (va_Pc [.ref x, .int x0] (zB dC dI ed sz [(x, .inr (8, [.ref rm, .ref tr, .ref st])), (gm, .inr (2, [.int 0, .int 0, .int 0, .int 0, .int 0, .int (-1), .long 0]))] [(rm, .inr (5, [.ref lk, .ref th, .ref pl, .ref gm, .int 0, .int 0, .int 0, .int (-1), .int 1, .int 0, .int 0, .int 0]))] [])) (va_Qi (fun (r : Int32) (_ : Unit) => (¬ x0 < 1 ∧ ¬ 90 < x0) ∧ r = 0) (fun (_ : Unit) (t : State) => va_P (dC, dI) vwCl [] t.heap ∧ va_D (va_A [(rm, .inr (5, [.ref lk, .ref th, .ref pl, .ref gm, .int 0, .int 0, .int 0, .int (-1), .int 1, .int 0, .int 0, .int 0]))] sz) [] ∧ va_K (dC, dI) vwCl [] t) (va_A [(rm, .inr (5, [.ref lk, .ref th, .ref pl, .ref gm, .int 0, .int 0, .int 0, .int (-1), .int 1, .int 0, .int 0, .int 0]))] sz)) (vx_X (fun (_ : Unit) => True) (fun (E : String) (_ : Unit) (_ : State) => E = "java/lang/IllegalArgumentException" ∧ ¬ (¬ x0 < 1 ∧ ¬ 90 < x0)) (va_A [(rm, .inr (5, [.ref lk, .ref th, .ref pl, .ref gm, .int 0, .int 0, .int 0, .int (-1), .int 1, .int 0, .int 0, .int 0]))] sz)) 1 6 (va_A [(rm, .inr (5, [.ref lk, .ref th, .ref pl, .ref gm, .int 0, .int 0, .int 0, .int (-1), .int 1, .int 0, .int 0, .int 0]))] sz) := by
  refine vx_ofW (cc := cX6_pass) (maxL := 4) (ret := (some .int)) (by decide) rfl ?_
  intro p e s m args below meth c s₁ B hml hnt hv
  obtain ⟨rfl, hsz, hR0, hP, hK, hD0, hN, hH, hX0⟩ := hv
  have hx := B.exec
  have hb := B.bytes
  have hr := B.returns
  have hts := atoms_spec (ws := wsX6_pass) B.pre
  have hown : s.vm.findClass RX6 = some m.cls := findClass_of_methodNamed B.named
  have hlocks := B.notSynchronized
  subst hsz
  have hD := hD0.self (sz := s.heap.size)
  have hAr := zx_A hX0 hR0
  generalize hAe : va_A [(rm, .inr (5, [.ref lk, .ref th, .ref pl, .ref gm, .int 0, .int 0, .int 0, .int (-1), .int 1, .int 0, .int 0, .int 0]))] s.heap.size = A at hD hAr hH ⊢
  have hA : ∀ q : Nat, s.heap.size ≤ q → A q := fun q h => by rw [← hAe]; exact Or.inr h
  have hS : va_S A s.heap s.heap [] := va_S.rf
  have hl := lv_entry ([.ref x, .int x0]) (n := 4) (Nat.le_of_ble_eq_true rfl)
  rw [lg_entry_eq]
  generalize (lg_sl ([.ref x, .int x0]) ++ List.replicate (4 - (lg_sl ([.ref x, .int x0])).length) Slot.unset).toArray = ls at hl ⊢
  have hl : lv_has ls 4 [(0, .ref x), (1, .int x0)] := hl
  refine lv_iload_n hx hb dX6_pass_0 rfl (lv_at hl 1 rfl) ?_
  refine lv_iconst (v := 1) hx hb dX6_pass_1 (by decide) ?_
  refine lv_bipush (v := 90) hx hb dX6_pass_2 (by decide) ?_
  have hPr := (zo_nil : va_P (dC, dI) vwCl [] s.heap)
  have hPc := hP.sub (ws' := []) [] rfl
  have hDc := hD.sub (ws' := []) [] (by decide) rfl
  have hKc := hK.sub (tys' := []) [] rfl
  have hFc := va_free (wc := []) hD hS hA [] rfl
  refine va_calli (va_runS (As := [.int x0, .int 1, .int 90]) (rest := []) ⟨hx, hb, hml, hown, hts⟩ (cz_X6_isWithin l dC dI ed s.heap.size x0 1 90) (va_cwS 3 hts gX6_pass_X6_isWithin rfl rfl rfl (by decide +kernel) ⟨Nat.le_of_ble_eq_true rfl, Nat.le_of_ble_eq_true rfl⟩) ⟨zb_blind, fun U hU hW => ⟨rfl, zb_mk hU hW hPr hPc hKc hDc hN hH hS hFc zx_e⟩⟩ rfl rfl hl.1 rfl (lv_room (Nat.le_of_ble_eq_true rfl)) dX6_pass_4 ⟨Nat.le_of_ble_eq_true rfl, Nat.le_of_ble_eq_true rfl⟩) hS (fun q _ h => hFc q h) hFc (fun r2 u t H1 locs ht hvm hw hB hz1 hk1 hS => ?_)
  have hP := zo_K hP hk1
  by_cases c3 : (¬ x0 < 1 ∧ ¬ 90 < x0)
  · obtain rfl : r2 = 1 := hw.trans (if_pos c3)
    refine lv_if_ne (tgt := 20) hx hb dX6_pass_7 (by decide) (fun _ => ?_) (fun h => absurd h (by decide))
    refine lv_aload_n hx hb dX6_pass_20 rfl (lv_at hl 0 rfl) ?_
    refine va_get (D := (dC, dI)) (ci := 8) (v := .ref rm) (C := RX6) (T := TX6) (N := 3) hx hb hts zi_X6_pass_X6 hown hK (zo_R hR0 hS hAr) 0 rfl rfl 0 (by decide) (hts (.fieldLink RX6 12 "LockRooms" "room" "LLockRooms$Room;") (by decide +kernel)) (fun _ h9 => h9) rfl dX6_pass_21 ?_
    refine va_get (D := (dC, dI)) (ci := 5) (v := .int 0) (C := RX3) (T := TX3) (N := 12) hx hb hts zi_X6_pass_X3 hown hK hP 0 rfl rfl 9 (by decide) (hts (.fieldLink RX6 102 "LockRooms$Room" "now" "I") (by decide +kernel)) (fun _ h9 => h9) rfl dX6_pass_24 ?_
    refine lv_iload_n hx hb dX6_pass_27 rfl (lv_at hl 1 rfl) ?_
    refine lv_iadd hx hb dX6_pass_28 ?_
    refine lv_sipush (v := 9999) hx hb dX6_pass_29 (by decide) ?_
    refine lv_icmp_le (tgt := 45) hx hb dX6_pass_32 (by decide) (fun _ => ?_) (fun h => absurd (zp_le c3) h)
    refine lv_iconst (v := 0) hx hb dX6_pass_45 (by decide) ?_
    refine lv_istore_n (lv' := [(2, .int 0), (0, .ref x), (1, .int x0)]) hx hb dX6_pass_46 rfl hl (by decide) rfl (fun ls hl => ?_)
    refine lv_iconst (v := 0) hx hb dX6_pass_47 (by decide) ?_
    refine lv_istore_n (lv' := [(3, .int 0), (2, .int 0), (0, .ref x), (1, .int x0)]) hx hb dX6_pass_48 rfl hl (by decide) rfl (fun ls hl => ?_)
    obtain ⟨N, hN90, rfl⟩ := zp_90 c3
    refine zo_loop (fun (i : Nat) (H : Heap) (locs : List Loc) (ls : Array Slot) => va_P (dC, dI) vwCl [(rm, .inr (5, [.ref lk, .ref th, .ref pl, .ref gm, .int 0, .int 0, .int 0, .int (-1), .int 1, .int (nI i), .int 0, .int 0]))] H ∧ va_D A [(rm, .inr (5, [.ref lk, .ref th, .ref pl, .ref gm, .int 0, .int 0, .int 0, .int (-1), .int 1, .int (nI i), .int 0, .int 0]))] ∧ va_S A s.heap H locs ∧ lv_has ls 4 [(3, .int (nI i)), (2, .int 0), (0, .ref x), (1, .int (nI N))]) N ⟨hP, hD, hS, lv_sub hl [0, 1, 2, 3] rfl⟩ (fun i hi ih H locs ls hI => ?_) (fun H locs ls hI => ?_)
    · obtain ⟨hP, hD, hS, hl⟩ := hI
      refine lv_iload_n hx hb dX6_pass_49 rfl (lv_at hl 0 rfl) ?_
      refine lv_iload_n hx hb dX6_pass_50 rfl (lv_at hl 3 rfl) ?_
      refine lv_icmp_ge (tgt := 70) hx hb dX6_pass_51 (by decide) (fun h => absurd h (nI_ge hi (by omega))) (fun _ => ?_)
      refine lv_iload_n hx hb dX6_pass_54 rfl (lv_at hl 1 rfl) ?_
      refine lv_aload_n hx hb dX6_pass_55 rfl (lv_at hl 2 rfl) ?_
      refine va_get (D := (dC, dI)) (ci := 8) (v := .ref rm) (C := RX6) (T := TX6) (N := 3) hx hb hts zi_X6_pass_X6 hown hK (zo_R hR0 hS hAr) 0 rfl rfl 0 (by decide) (hts (.fieldLink RX6 12 "LockRooms" "room" "LLockRooms$Room;") (by decide +kernel)) (fun _ h9 => h9) rfl dX6_pass_56 ?_
      have hPr := ((zo_R hR0 hS hAr)).sub (ws' := [(gm, .inr (2, [.int 0, .int 0, .int 0, .int 0, .int 0, .int (-1), .long 0]))]) [1] rfl
      have hPc := hP.sub (ws' := [(rm, .inr (5, [.ref lk, .ref th, .ref pl, .ref gm, .int 0, .int 0, .int 0, .int (-1), .int 1, .int (nI i), .int 0, .int 0]))]) [0] rfl
      have hDc := hD.sub (ws' := [(rm, .inr (5, [.ref lk, .ref th, .ref pl, .ref gm, .int 0, .int 0, .int 0, .int (-1), .int 1, .int (nI i), .int 0, .int 0]))]) [0] (by decide) rfl
      have hKc := hK.sub (tys' := []) [] rfl
      have hFc := va_free (wc := [(rm, .inr (5, [.ref lk, .ref th, .ref pl, .ref gm, .int 0, .int 0, .int 0, .int (-1), .int 1, .int (nI i), .int 0, .int 0]))]) hD hS hA [0] rfl
      refine va_calli (va_runV (As := []) (rest := [.int 0]) ⟨hx, hb, hml, hown, hts⟩ (cz_letMinuteGoBy l dC dI ed H.size rm lk th pl gm (nI i)) (cwV 0 hts gX6_pass_X3_letMinuteGoBy rfl rfl rfl (by decide +kernel) ⟨Nat.le_of_ble_eq_true rfl, Nat.le_of_ble_eq_true rfl⟩) ⟨zb_blind, va_recv hK hP (ci := 5) (q0 := 0) rfl rfl, fun U hU hW => ⟨rfl, zb_mk hU hW hPr hPc hKc hDc hN hH hS hFc (zx_cons (zx_r (hAr _ (List.mem_of_getElem? (i := 1) rfl)) hDc) zx_nil)⟩⟩ rfl rfl hl.1 rfl (lv_room (Nat.le_of_ble_eq_true rfl)) dX6_pass_59 ⟨Nat.le_of_ble_eq_true rfl, Nat.le_of_ble_eq_true rfl⟩) hS (fun q _ h => hFc q h) hFc (fun r5 u t H4 locs ht hvm hw hB hz1 hk1 hS => ?_)
      obtain rfl : r5 = 0 := hw
      obtain ⟨hP1, hD1, hK1⟩ := hB
      rw [ht] at hP1
      obtain ⟨hP, hD⟩ := va_join (wr := []) (w1 := [(rm, .inr (5, [.ref lk, .ref th, .ref pl, .ref gm, .int 0, .int 0, .int 0, .int (-1), .int 1, .int ((nI i) + 1), .int 0, .int 0]))]) hP hD [0] [] rfl rfl (by decide) (by decide) hk1 hFc hP1 hD1
      have hP : va_P (dC, dI) vwCl [(rm, .inr (5, [.ref lk, .ref th, .ref pl, .ref gm, .int 0, .int 0, .int 0, .int (-1), .int 1, .int ((nI i) + 1), .int 0, .int 0]))] H4 := hP
      have hD : va_D A [(rm, .inr (5, [.ref lk, .ref th, .ref pl, .ref gm, .int 0, .int 0, .int 0, .int (-1), .int 1, .int ((nI i) + 1), .int 0, .int 0]))] := hD
      refine lv_iadd hx hb dX6_pass_62 ?_
      refine zo_i (v := 0) (by decide) ?_
      refine lv_istore_n (lv' := [(2, .int 0), (3, .int (nI i)), (0, .ref x), (1, .int (nI N))]) hx hb dX6_pass_63 rfl hl (by decide) rfl (fun ls hl => ?_)
      refine lv_iinc (v := (nI (i + 1))) (lv' := [(3, .int (nI (i + 1))), (2, .int 0), (0, .ref x), (1, .int (nI N))]) hx hb dX6_pass_64 hl (k := 1) rfl (nI_1 i) (by decide) rfl (fun ls hl => ?_)
      refine lv_goto (tgt := 49) hx hb dX6_pass_67 (by decide) ?_
      rw [nI_1] at hP hD
      exact ih _ _ _ ⟨hP, hD, hS, lv_sub hl [0, 1, 2, 3] rfl⟩
    · obtain ⟨hP, hD, hS, hl⟩ := hI
      refine lv_iload_n hx hb dX6_pass_49 rfl (lv_at hl 0 rfl) ?_
      refine lv_iload_n hx hb dX6_pass_50 rfl (lv_at hl 3 rfl) ?_
      refine lv_icmp_ge (tgt := 70) hx hb dX6_pass_51 (by decide) (fun _ => ?_) (fun h => absurd (nI_le (Nat.le_refl N) (by omega)) h)
      refine lv_iload_n hx hb dX6_pass_70 rfl (lv_at hl 1 rfl) ?_
      refine vx_ret ?_
      refine W.widen (k := 1) (n := 6) (Nat.le_of_ble_eq_true rfl) (Nat.le_of_ble_eq_true rfl) ?_
      have hP9 := hP.sub (ws' := []) [] rfl
      have hD9 := hD.sub (ws' := []) [] (by decide) rfl
      have hK9 := hK.sub (tys' := []) [] rfl
      exact W.iret hx hb hr (fun t ht hW => ⟨⟨0, (), rfl, ⟨c3, rfl⟩, ⟨by rw [ht]; exact hP9, hD9, va_K.moved hW.alike hK9⟩⟩, hS.F ht⟩) hS.2.2 dX6_pass_71
  · obtain rfl : r2 = 0 := hw.trans (if_neg c3)
    refine lv_if_ne (tgt := 20) hx hb dX6_pass_7 (by decide) (fun h => absurd h (by decide)) (fun _ => ?_)
    obtain ⟨sa, hsa⟩ := hN.2.2.2.1 ("LockRooms", 100, "minutes is not 1 to 90") (List.mem_of_getElem? (i := 8) rfl)
    exact vx_throwS (A := A) (cls := "java/lang/IllegalArgumentException") (names := ["java/lang/RuntimeException", "java/lang/Exception"]) hx hb htr hown (by decide +kernel) (by decide +kernel) (hts (.classLink RX6 30 "java/lang/IllegalArgumentException") (by decide +kernel)) (hts (.initialized "java/lang/IllegalArgumentException") (by decide +kernel)) hsa (vx_hat (B := zTB "java/lang/IllegalArgumentException") (fun w hw => hts w (zf_X6_pass_34 w hw)) zg_34 (zt_B (by decide) hN)) zh_34 hH.1 hH.2.1 hS (hl.1.trans hml.symm) dX6_pass_10 dX6_pass_13 dX6_pass_14 dX6_pass_16 dX6_pass_19 (fun x h => (hnt x h).elim) (Nat.le_of_ble_eq_true rfl) (Nat.le_of_ble_eq_true rfl) (Nat.le_of_ble_eq_true rfl) (Nat.le_of_ble_eq_true rfl) hlocks (fun t hvm hz hk => ⟨(), trivial, ⟨rfl, c3⟩, Nat.le_trans hS.1 hz, fun q h1 h2 => (hk q (Nat.lt_of_lt_of_le h1 hS.1)).trans (hS.2.1 q h1 h2)⟩) hS.2.2 (Nat.le_of_ble_eq_true rfl) (Nat.le_of_ble_eq_true rfl)


set_option maxHeartbeats 4000000 in
set_option maxRecDepth 100000 in
theorem cz_Qsteps_1 (l : Launch) (dC : Nat → ClassId) (dI : Nat → Nat → Nat) (ed sz : Nat) (mr : Nat) (ll : Nat) (lt : Nat) (lp : Nat) (ola : Nat) (cOl : ClassId) (fol : Nat → Option Nat) (la0 : Nat) (la1 : Nat) (cA0 : ClassId) (fa0 : Nat → Int32) (cA1 : ClassId) (fa1 : Nat → Int32) (ota : Nat) (cOt : ClassId) (fot : Nat → Option Nat) (ta0 : Nat) (ta1 : Nat) (ta2 : Nat) (ta3 : Nat) (ta4 : Nat) (ta5 : Nat) (ta6 : Nat) (ta7 : Nat) (ta8 : Nat) (ta9 : Nat) (cB0 : ClassId) (fb0 : Nat → Int32) (y0 : Int32) (cB1 : ClassId) (fb1 : Nat → Int32) (y1 : Int32) (cB2 : ClassId) (fb2 : Nat → Int32) (y2 : Int32) (cB3 : ClassId) (fb3 : Nat → Int32) (y3 : Int32) (cB4 : ClassId) (fb4 : Nat → Int32) (y4 : Int32) (cB5 : ClassId) (fb5 : Nat → Int32) (y5 : Int32) (cB6 : ClassId) (fb6 : Nat → Int32) (y6 : Int32) (cB7 : ClassId) (fb7 : Nat → Int32) (y7 : Int32) (cB8 : ClassId) (fb8 : Nat → Int32) (y8 : Int32) (cB9 : ClassId) (fb9 : Nat → Int32) (y9 : Int32) (hol0 : fol 0 = some la0) (hol1 : fol 1 = some la1) (ha0_0 : fa0 0 = 0) (ha0_1 : fa0 1 = 0) (ha0_8 : fa0 8 = 0) (ha1_0 : fa1 0 = 0) (ha1_1 : fa1 1 = 0) (ha1_8 : fa1 8 = 0) (hot0 : fot 0 = some ta0) (hot1 : fot 1 = some ta1) (hot2 : fot 2 = some ta2) (hot3 : fot 3 = some ta3) (hot4 : fot 4 = some ta4) (hot5 : fot 5 = some ta5) (hot6 : fot 6 = some ta6) (hot7 : fot 7 = some ta7) (hot8 : fot 8 = some ta8) (hot9 : fot 9 = some ta9) (hb0_0 : fb0 0 = (-1)) (hb0_3 : fb0 3 = y0) (hb1_0 : fb1 0 = (-1)) (hb1_3 : fb1 3 = y1) (hb2_0 : fb2 0 = (-1)) (hb2_3 : fb2 3 = y2) (hb3_0 : fb3 0 = (-1)) (hb3_3 : fb3 3 = y3) (hb4_0 : fb4 0 = (-1)) (hb4_3 : fb4 3 = y4) (hb5_0 : fb5 0 = (-1)) (hb5_3 : fb5 3 = y5) (hb6_0 : fb6 0 = (-1)) (hb6_3 : fb6 3 = y6) (hb7_0 : fb7 0 = (-1)) (hb7_3 : fb7 3 = y7) (hb8_0 : fb8 0 = (-1)) (hb8_3 : fb8 3 = y8) (hb9_0 : fb9 0 = (-1)) (hb9_3 : fb9 3 = y9) : Met l yX7_steps wsX7_steps ({ frames := 5, cells := 1, slots := 1024, locals := 116 } : Jvm.Room) (va_Pc [.ref mr, .int 1, .int 0] (zB dC dI ed sz [(mr, .inr (9, [.ref ll, .ref lt, .ref lp, .int 0, .int 0, .int 0, .int 0, .int 0, .int 0, .int 0, .int (-1), .int 0, .int 0, .int 0])), (ll, .inr (1, [.int 2, .ref ola, .int 2])), (ola, .inl (cOl, 10, .inr (.inr (.inr (.inr fol))))), (la0, .inl (cA0, 10, .inl fa0)), (la1, .inl (cA1, 10, .inl fa1)), (lt, .inr (1, [.int 10, .ref ota, .int 10])), (ota, .inl (cOt, 10, .inr (.inr (.inr (.inr fot))))), (ta0, .inl (cB0, 5, .inl fb0)), (ta1, .inl (cB1, 5, .inl fb1)), (ta2, .inl (cB2, 5, .inl fb2)), (ta3, .inl (cB3, 5, .inl fb3)), (ta4, .inl (cB4, 5, .inl fb4)), (ta5, .inl (cB5, 5, .inl fb5)), (ta6, .inl (cB6, 5, .inl fb6)), (ta7, .inl (cB7, 5, .inl fb7)), (ta8, .inl (cB8, 5, .inl fb8)), (ta9, .inl (cB9, 5, .inl fb9))] [] [(cOl, .object "java/lang/Object"), (cA0, .int), (cA1, .int), (cOt, .object "java/lang/Object"), (cB0, .int), (cB1, .int), (cB2, .int), (cB3, .int), (cB4, .int), (cB5, .int), (cB6, .int), (cB7, .int), (cB8, .int), (cB9, .int)])) (va_Qr (fun (_ : Unit) => True) (fun (_ : Unit) (sa : Nat) (t : State) => ∃ (cS : ClassId), ∃ (fs : Nat → Int32), (∀ j : Nat, 3 < j → j < 1024 → fs j = -1) ∧ (fs 0 = (-1) ∧ fs 1 = 0 ∧ fs 2 = (-1) ∧ fs 3 = 1) ∧ va_P (dC, dI) vwCl [(sa, .inl (cS, 1024, .inl fs))] t.heap ∧ va_D (va_A [] sz) [(sa, .inl (cS, 1024, .inl fs))] ∧ va_K (dC, dI) vwCl [(cS, .int)] t) (va_A [] sz)) 1 1024 (va_A [] sz) := by
  refine Met.ofW (cc := cX7_steps) (maxL := 7) (ret := (some (.array .int))) (by decide) rfl ?_
  intro p e s m args below meth c s₁ B hml hv
  obtain ⟨rfl, hsz, hR0, hP, hK, hD0, hN, hH, hX0⟩ := hv
  have hx := B.exec
  have hb := B.bytes
  have hr := B.returns
  have hts := atoms_spec (ws := wsX7_steps) B.pre
  have hown : s.vm.findClass RX7 = some m.cls := findClass_of_methodNamed B.named
  have hlocks := B.notSynchronized
  subst hsz
  have hD := hD0.self (sz := s.heap.size)
  have hAr := zx_A hX0 hR0
  generalize hAe : va_A [] s.heap.size = A at hD hAr hH ⊢
  have hA : ∀ q : Nat, s.heap.size ≤ q → A q := fun q h => by rw [← hAe]; exact Or.inr h
  have hS : va_S A s.heap s.heap [] := va_S.rf
  have hl := lv_entry ([.ref mr, .int 1, .int 0]) (n := 7) (Nat.le_of_ble_eq_true rfl)
  rw [lg_entry_eq]
  generalize (lg_sl ([.ref mr, .int 1, .int 0]) ++ List.replicate (7 - (lg_sl ([.ref mr, .int 1, .int 0])).length) Slot.unset).toArray = ls at hl ⊢
  have hl : lv_has ls 7 [(0, .ref mr), (1, .int 1), (2, .int 0)] := hl
  refine lv_sipush (v := 1024) hx hb dX7_steps_0 (by decide) ?_
  refine va_newa (atype := .int) (a0 := (1024, .inl (fun _ => 0))) hx hb (hts (.arrayClass .int) (by decide +kernel)) rfl hK hP hD hS hA (fun cA => rfl) (by decide) (N' := 1024) (by decide) (by decide) (Nat.le_of_ble_eq_true rfl) (Nat.le_of_ble_eq_true rfl) dX7_steps_3 (fun q1 cA3 H2 hK hP hD hS => ?_)
  have hP : va_P (dC, dI) vwCl [(q1, .inl (cA3, 1024, .inl (fun _ => 0)))] H2 := hP
  have hD : va_D A [(q1, .inl (cA3, 1024, .inl (fun _ => 0)))] := hD
  refine lv_astore_n (lv' := [(3, .ref q1), (0, .ref mr), (1, .int 1), (2, .int 0)]) hx hb dX7_steps_5 rfl hl (by decide) rfl (fun ls hl => ?_)
  refine lv_iconst (v := 0) hx hb dX7_steps_6 (by decide) ?_
  refine lv_istore (lv' := [(4, .int 0), (3, .ref q1), (0, .ref mr), (1, .int 1), (2, .int 0)]) hx hb dX7_steps_7 hl (by decide) rfl (fun ls hl => ?_)
  refine zo_loop (fun (i : Nat) (H : Heap) (locs : List Loc) (ls : Array Slot) => ∃ (fa : Nat → Int32), (∀ j : Nat, j < i → fa j = -1) ∧ va_P (dC, dI) vwCl [(q1, .inl (cA3, 1024, .inl fa))] H ∧ va_D A [(q1, .inl (cA3, 1024, .inl fa))] ∧ va_S A s.heap H locs ∧ lv_has ls 7 [(4, .int (nI i)), (3, .ref q1), (0, .ref mr), (1, .int 1), (2, .int 0)]) 1024 ⟨(fun _ => 0), fun j h => absurd h (Nat.not_lt_zero j), hP, hD, hS, lv_sub hl [0, 1, 2, 3, 4] rfl⟩ (fun i hi ih H locs ls hI => ?_) (fun H locs ls hI => ?_)
  · obtain ⟨fa, hf, hP, hD, hS, hl⟩ := hI
    refine lv_iload hx hb dX7_steps_9 (lv_at hl 0 rfl) ?_
    refine lv_aload_n hx hb dX7_steps_11 rfl (lv_at hl 1 rfl) ?_
    refine va_alen hx hb hK hP 0 14 rfl rfl (v := 1024) (by exact rfl) dX7_steps_12 ?_
    refine lv_icmp_ge (tgt := 27) hx hb dX7_steps_13 (by decide) (fun h => absurd h (nI_ge (b := 1024) hi (by decide))) (fun _ => ?_)
    refine lv_aload_n hx hb dX7_steps_16 rfl (lv_at hl 1 rfl) ?_
    refine lv_iload hx hb dX7_steps_17 (lv_at hl 0 rfl) ?_
    refine lv_iconst (v := (-1)) hx hb dX7_steps_19 (by decide) ?_
    refine va_iast hx hb hK hP hD hS 0 14 rfl rfl (vp_in_nI (by omega) (by decide)) dX7_steps_20 (fun H5 locs hP hD hS => ?_)
    rw [nI_clamp (n := i) (by omega)] at hP hD
    obtain ⟨f6, ef6⟩ : ∃ z : Nat → Int32, z = upd fa (i) (-1) := ⟨_, rfl⟩
    rw [← ef6] at hP hD
    have hP : va_P (dC, dI) vwCl [(q1, .inl (cA3, 1024, .inl f6))] H5 := hP
    have hD : va_D A [(q1, .inl (cA3, 1024, .inl f6))] := hD
    refine lv_iinc (v := (nI (i + 1))) (lv' := [(4, .int (nI (i + 1))), (3, .ref q1), (0, .ref mr), (1, .int 1), (2, .int 0)]) hx hb dX7_steps_21 hl (k := 0) rfl (nI_1 i) (by decide) rfl (fun ls hl => ?_)
    refine lv_goto (tgt := 9) hx hb dX7_steps_24 (by decide) ?_
    exact ih _ _ _ ⟨f6, by rw [ef6]; exact q_fill hf, hP, hD, hS, lv_sub hl [0, 1, 2, 3, 4] rfl⟩
  · obtain ⟨fa, hf, hP, hD, hS, hl⟩ := hI
    have hg0 : ∀ j : Nat, 3 < j → j < 1024 → fa j = -1 := fun j _ h => hf j h
    refine lv_iload hx hb dX7_steps_9 (lv_at hl 0 rfl) ?_
    refine lv_aload_n hx hb dX7_steps_11 rfl (lv_at hl 1 rfl) ?_
    refine va_alen hx hb hK hP 0 14 rfl rfl (v := 1024) (by exact rfl) dX7_steps_12 ?_
    refine lv_icmp_ge (tgt := 27) hx hb dX7_steps_13 (by decide) (fun _ => ?_) (fun h => absurd (nI_le (a := 1024) (b := 1024) (Nat.le_refl _) (by decide)) h)
    refine lv_aload_n hx hb dX7_steps_27 rfl (lv_at hl 1 rfl) ?_
    refine lv_iload_n hx hb dX7_steps_28 rfl (lv_at hl 3 rfl) ?_
    refine lv_iconst (v := 0) hx hb dX7_steps_29 (by decide) ?_
    refine va_iast hx hb hK hP hD hS 0 14 rfl rfl (by unfold vp_in; decide) dX7_steps_30 (fun H7 locs hP hD hS => ?_)
    obtain ⟨f8, ef8⟩ : ∃ z : Nat → Int32, z = upd fa 1 0 := ⟨_, rfl⟩
    have k9 : f8 0 = (-1) := by rw [ef8]; exact (pk_un (by decide)).trans ((hf 0 (by decide)))
    have k10 : f8 2 = (-1) := by rw [ef8]; exact (pk_un (by decide)).trans ((hf 2 (by decide)))
    have k11 : f8 3 = (-1) := by rw [ef8]; exact (pk_un (by decide)).trans ((hf 3 (by decide)))
    have k12 : f8 1 = 0 := by rw [ef8]; exact pk_us
    have hP : va_P (dC, dI) vwCl [(q1, .inl (cA3, 1024, .inl f8))] H7 := by rw [ef8]; exact hP
    have hD : va_D A [(q1, .inl (cA3, 1024, .inl f8))] := by rw [ef8]; exact hD
    have hg13 : ∀ j : Nat, 3 < j → j < 1024 → f8 j = -1 := fun j h1 h2 => by rw [ef8]; exact (pk_un (by omega)).trans (hg0 j h1 h2)
    refine lv_iload_n hx hb dX7_steps_31 rfl (lv_at hl 3 rfl) ?_
    refine lv_istore (lv' := [(4, .int 1), (3, .ref q1), (0, .ref mr), (1, .int 1), (2, .int 0)]) hx hb dX7_steps_32 hl (by decide) rfl (fun ls hl => ?_)
    refine lv_iload hx hb dX7_steps_34 (lv_at hl 0 rfl) ?_
    refine lv_aload_n hx hb dX7_steps_36 rfl (lv_at hl 1 rfl) ?_
    refine va_alen hx hb hK hP 0 14 rfl rfl (v := 1024) (by exact rfl) dX7_steps_37 ?_
    refine lv_icmp_ge (tgt := 109) hx hb dX7_steps_38 (by decide) (fun h => absurd h (by decide)) (fun _ => ?_)
    refine lv_aload_n hx hb dX7_steps_41 rfl (lv_at hl 1 rfl) ?_
    refine lv_iload hx hb dX7_steps_42 (lv_at hl 0 rfl) ?_
    refine va_iald hx hb hK hP 0 14 rfl rfl (by unfold vp_in; decide) dX7_steps_44 ?_
    refine zo_i (v := 0) (by rw [show Int32.toNatClampNeg 1 = 1 from by decide]; exact k12) ?_
    refine lv_iconst (v := (-1)) hx hb dX7_steps_45 (by decide) ?_
    refine lv_icmp_ne (tgt := 52) hx hb dX7_steps_46 (by decide) (fun _ => ?_) (fun h => absurd h (by decide))
    refine lv_aload_n hx hb dX7_steps_52 rfl (lv_at hl 2 rfl) ?_
    refine lv_iload hx hb dX7_steps_53 (lv_at hl 0 rfl) ?_
    refine lv_iload_n hx hb dX7_steps_55 rfl (lv_at hl 4 rfl) ?_
    have hPr := ((zo_R hR0 hS hAr)).sub (ws' := [(mr, .inr (9, [.ref ll, .ref lt, .ref lp, .int 0, .int 0, .int 0, .int 0, .int 0, .int 0, .int 0, .int (-1), .int 0, .int 0, .int 0])), (ll, .inr (1, [.int 2, .ref ola, .int 2])), (ola, .inl (cOl, 10, .inr (.inr (.inr (.inr fol))))), (la0, .inl (cA0, 10, .inl fa0)), (la1, .inl (cA1, 10, .inl fa1)), (lt, .inr (1, [.int 10, .ref ota, .int 10])), (ota, .inl (cOt, 10, .inr (.inr (.inr (.inr fot))))), (ta0, .inl (cB0, 5, .inl fb0)), (ta1, .inl (cB1, 5, .inl fb1)), (ta2, .inl (cB2, 5, .inl fb2)), (ta3, .inl (cB3, 5, .inl fb3)), (ta4, .inl (cB4, 5, .inl fb4)), (ta5, .inl (cB5, 5, .inl fb5)), (ta6, .inl (cB6, 5, .inl fb6)), (ta7, .inl (cB7, 5, .inl fb7)), (ta8, .inl (cB8, 5, .inl fb8)), (ta9, .inl (cB9, 5, .inl fb9))]) [0, 1, 2, 3, 4, 5, 6, 7, 8, 9, 10, 11, 12, 13, 14, 15, 16] rfl
    have hPc := hP.sub (ws' := []) [] rfl
    have hDc := hD.sub (ws' := []) [] (by decide) rfl
    have hKc := hK.sub (tys' := [(cOl, .object "java/lang/Object"), (cA0, .int), (cA1, .int), (cOt, .object "java/lang/Object"), (cB0, .int), (cB1, .int), (cB2, .int), (cB3, .int), (cB4, .int), (cB5, .int), (cB6, .int), (cB7, .int), (cB8, .int), (cB9, .int)]) [0, 1, 2, 3, 4, 5, 6, 7, 8, 9, 10, 11, 12, 13] rfl
    have hFc := va_free (wc := []) hD hS hA [] rfl
    refine va_calli (va_runV (As := [.int 1, .int 0]) (rest := []) ⟨hx, hb, hml, hown, hts⟩ (cz_Qnext7_1 l dC dI ed H7.size mr ll lt lp ola cOl fol la0 la1 cA0 fa0 cA1 fa1 ota cOt fot ta0 ta1 ta2 ta3 ta4 ta5 ta6 ta7 ta8 ta9 cB0 fb0 y0 cB1 fb1 y1 cB2 fb2 y2 cB3 fb3 y3 cB4 fb4 y4 cB5 fb5 y5 cB6 fb6 y6 cB7 fb7 y7 cB8 fb8 y8 cB9 fb9 y9 hol0 hol1 ha0_0 ha0_1 ha0_8 ha1_0 ha1_1 ha1_8 hot0 hot1 hot2 hot3 hot4 hot5 hot6 hot7 hot8 hot9 hb0_0 hb0_3 hb1_0 hb1_3 hb2_0 hb2_3 hb3_0 hb3_3 hb4_0 hb4_3 hb5_0 hb5_3 hb6_0 hb6_3 hb7_0 hb7_3 hb8_0 hb8_3 hb9_0 hb9_3) (cwV 2 hts gX7_steps_X7_next rfl rfl rfl (by decide +kernel) ⟨Nat.le_of_ble_eq_true rfl, Nat.le_of_ble_eq_true rfl⟩) ⟨zb_blind, va_recv hK (zo_R hR0 hS hAr) (ci := 9) (q0 := 0) rfl rfl, fun U hU hW => ⟨rfl, zb_mk hU hW hPr hPc hKc hDc hN hH hS hFc zx_e⟩⟩ rfl rfl hl.1 rfl (lv_room (Nat.le_of_ble_eq_true rfl)) dX7_steps_56 ⟨Nat.le_of_ble_eq_true rfl, Nat.le_of_ble_eq_true rfl⟩) hS (fun q _ h => hFc q h) hFc (fun r15 u t H14 locs ht hvm hw hB hz1 hk1 hS => ?_)
    obtain rfl : r15 = 2 := hw
    have hP := zo_K hP hk1
    refine lv_istore (lv' := [(5, .int 2), (4, .int 1), (3, .ref q1), (0, .ref mr), (1, .int 1), (2, .int 0)]) hx hb dX7_steps_59 hl (by decide) rfl (fun ls hl => ?_)
    refine lv_iconst (v := 0) hx hb dX7_steps_61 (by decide) ?_
    refine lv_istore (lv' := [(6, .int 0), (5, .int 2), (4, .int 1), (3, .ref q1), (0, .ref mr), (1, .int 1), (2, .int 0)]) hx hb dX7_steps_62 hl (by decide) rfl (fun ls hl => ?_)
    refine lv_iload hx hb dX7_steps_64 (lv_at hl 0 rfl) ?_
    refine lv_bipush (v := 10) hx hb dX7_steps_66 (by decide) ?_
    refine lv_icmp_ge (tgt := 103) hx hb dX7_steps_68 (by decide) (fun h => absurd h (by decide)) (fun _ => ?_)
    refine lv_iload hx hb dX7_steps_71 (lv_at hl 1 rfl) ?_
    refine lv_iload hx hb dX7_steps_73 (lv_at hl 0 rfl) ?_
    refine lv_ishr hx hb dX7_steps_75 ?_
    refine zo_i (v := 2) (by decide) ?_
    refine lv_iconst (v := 1) hx hb dX7_steps_76 (by decide) ?_
    refine lv_iand hx hb dX7_steps_77 ?_
    refine zo_i (v := 0) (by decide) ?_
    refine lv_iconst (v := 1) hx hb dX7_steps_78 (by decide) ?_
    refine lv_icmp_ne (tgt := 97) hx hb dX7_steps_79 (by decide) (fun _ => ?_) (fun h => absurd h (by decide))
    refine lv_iinc (v := 1) (lv' := [(6, .int 1), (5, .int 2), (4, .int 1), (3, .ref q1), (0, .ref mr), (1, .int 1), (2, .int 0)]) hx hb dX7_steps_97 hl (k := 0) rfl (by decide) (by decide) rfl (fun ls hl => ?_)
    refine lv_goto (tgt := 64) hx hb dX7_steps_100 (by decide) ?_
    refine lv_iload hx hb dX7_steps_64 (lv_at hl 0 rfl) ?_
    refine lv_bipush (v := 10) hx hb dX7_steps_66 (by decide) ?_
    refine lv_icmp_ge (tgt := 103) hx hb dX7_steps_68 (by decide) (fun h => absurd h (by decide)) (fun _ => ?_)
    refine lv_iload hx hb dX7_steps_71 (lv_at hl 1 rfl) ?_
    refine lv_iload hx hb dX7_steps_73 (lv_at hl 0 rfl) ?_
    refine lv_ishr hx hb dX7_steps_75 ?_
    refine zo_i (v := 1) (by decide) ?_
    refine lv_iconst (v := 1) hx hb dX7_steps_76 (by decide) ?_
    refine lv_iand hx hb dX7_steps_77 ?_
    refine zo_i (v := 1) (by decide) ?_
    refine lv_iconst (v := 1) hx hb dX7_steps_78 (by decide) ?_
    refine lv_icmp_ne (tgt := 97) hx hb dX7_steps_79 (by decide) (fun h => absurd h (by decide)) (fun _ => ?_)
    refine lv_aload_n hx hb dX7_steps_82 rfl (lv_at hl 3 rfl) ?_
    refine lv_iload hx hb dX7_steps_83 (lv_at hl 2 rfl) ?_
    refine lv_iconst (v := 1) hx hb dX7_steps_85 (by decide) ?_
    refine lv_iload hx hb dX7_steps_86 (lv_at hl 0 rfl) ?_
    refine lv_ishl hx hb dX7_steps_88 ?_
    refine zo_i (v := 2) (by decide) ?_
    refine lv_ior hx hb dX7_steps_89 ?_
    refine zo_i (v := 3) (by decide) ?_
    refine lv_aload_n hx hb dX7_steps_90 rfl (lv_at hl 3 rfl) ?_
    refine lv_iload hx hb dX7_steps_91 (lv_at hl 2 rfl) ?_
    refine va_iald hx hb hK hP 0 14 rfl rfl (by unfold vp_in; decide) dX7_steps_93 ?_
    refine zo_i (v := 0) (by rw [show Int32.toNatClampNeg 1 = 1 from by decide]; exact k12) ?_
    refine lv_iconst (v := 1) hx hb dX7_steps_94 (by decide) ?_
    refine lv_iadd hx hb dX7_steps_95 ?_
    refine zo_i (v := 1) (by decide) ?_
    refine va_iast hx hb hK hP hD hS 0 14 rfl rfl (by unfold vp_in; decide) dX7_steps_96 (fun H16 locs hP hD hS => ?_)
    obtain ⟨f17, ef17⟩ : ∃ z : Nat → Int32, z = upd f8 3 1 := ⟨_, rfl⟩
    have k18 : f17 0 = (-1) := by rw [ef17]; exact (pk_un (by decide)).trans (k9)
    have k19 : f17 2 = (-1) := by rw [ef17]; exact (pk_un (by decide)).trans (k10)
    have k20 : f17 1 = 0 := by rw [ef17]; exact (pk_un (by decide)).trans (k12)
    have k21 : f17 3 = 1 := by rw [ef17]; exact pk_us
    have hP : va_P (dC, dI) vwCl [(q1, .inl (cA3, 1024, .inl f17))] H16 := by rw [ef17]; exact hP
    have hD : va_D A [(q1, .inl (cA3, 1024, .inl f17))] := by rw [ef17]; exact hD
    have hg22 : ∀ j : Nat, 3 < j → j < 1024 → f17 j = -1 := fun j h1 h2 => by rw [ef17]; exact (pk_un (by omega)).trans (hg13 j h1 h2)
    refine lv_iinc (v := 2) (lv' := [(6, .int 2), (5, .int 2), (4, .int 1), (3, .ref q1), (0, .ref mr), (1, .int 1), (2, .int 0)]) hx hb dX7_steps_97 hl (k := 0) rfl (by decide) (by decide) rfl (fun ls hl => ?_)
    refine lv_goto (tgt := 64) hx hb dX7_steps_100 (by decide) ?_
    refine lv_iload hx hb dX7_steps_64 (lv_at hl 0 rfl) ?_
    refine lv_bipush (v := 10) hx hb dX7_steps_66 (by decide) ?_
    refine lv_icmp_ge (tgt := 103) hx hb dX7_steps_68 (by decide) (fun h => absurd h (by decide)) (fun _ => ?_)
    refine lv_iload hx hb dX7_steps_71 (lv_at hl 1 rfl) ?_
    refine lv_iload hx hb dX7_steps_73 (lv_at hl 0 rfl) ?_
    refine lv_ishr hx hb dX7_steps_75 ?_
    refine zo_i (v := 0) (by decide) ?_
    refine lv_iconst (v := 1) hx hb dX7_steps_76 (by decide) ?_
    refine lv_iand hx hb dX7_steps_77 ?_
    refine zo_i (v := 0) q_0and ?_
    refine lv_iconst (v := 1) hx hb dX7_steps_78 (by decide) ?_
    refine lv_icmp_ne (tgt := 97) hx hb dX7_steps_79 (by decide) (fun _ => ?_) (fun h => absurd h (by decide))
    refine lv_iinc (v := 3) (lv' := [(6, .int 3), (5, .int 2), (4, .int 1), (3, .ref q1), (0, .ref mr), (1, .int 1), (2, .int 0)]) hx hb dX7_steps_97 hl (k := 0) rfl (by decide) (by decide) rfl (fun ls hl => ?_)
    refine lv_goto (tgt := 64) hx hb dX7_steps_100 (by decide) ?_
    refine lv_iload hx hb dX7_steps_64 (lv_at hl 0 rfl) ?_
    refine lv_bipush (v := 10) hx hb dX7_steps_66 (by decide) ?_
    refine lv_icmp_ge (tgt := 103) hx hb dX7_steps_68 (by decide) (fun h => absurd h (by decide)) (fun _ => ?_)
    refine lv_iload hx hb dX7_steps_71 (lv_at hl 1 rfl) ?_
    refine lv_iload hx hb dX7_steps_73 (lv_at hl 0 rfl) ?_
    refine lv_ishr hx hb dX7_steps_75 ?_
    refine zo_i (v := 0) (by decide) ?_
    refine lv_iconst (v := 1) hx hb dX7_steps_76 (by decide) ?_
    refine lv_iand hx hb dX7_steps_77 ?_
    refine zo_i (v := 0) q_0and ?_
    refine lv_iconst (v := 1) hx hb dX7_steps_78 (by decide) ?_
    refine lv_icmp_ne (tgt := 97) hx hb dX7_steps_79 (by decide) (fun _ => ?_) (fun h => absurd h (by decide))
    refine lv_iinc (v := 4) (lv' := [(6, .int 4), (5, .int 2), (4, .int 1), (3, .ref q1), (0, .ref mr), (1, .int 1), (2, .int 0)]) hx hb dX7_steps_97 hl (k := 0) rfl (by decide) (by decide) rfl (fun ls hl => ?_)
    refine lv_goto (tgt := 64) hx hb dX7_steps_100 (by decide) ?_
    refine lv_iload hx hb dX7_steps_64 (lv_at hl 0 rfl) ?_
    refine lv_bipush (v := 10) hx hb dX7_steps_66 (by decide) ?_
    refine lv_icmp_ge (tgt := 103) hx hb dX7_steps_68 (by decide) (fun h => absurd h (by decide)) (fun _ => ?_)
    refine lv_iload hx hb dX7_steps_71 (lv_at hl 1 rfl) ?_
    refine lv_iload hx hb dX7_steps_73 (lv_at hl 0 rfl) ?_
    refine lv_ishr hx hb dX7_steps_75 ?_
    refine zo_i (v := 0) (by decide) ?_
    refine lv_iconst (v := 1) hx hb dX7_steps_76 (by decide) ?_
    refine lv_iand hx hb dX7_steps_77 ?_
    refine zo_i (v := 0) q_0and ?_
    refine lv_iconst (v := 1) hx hb dX7_steps_78 (by decide) ?_
    refine lv_icmp_ne (tgt := 97) hx hb dX7_steps_79 (by decide) (fun _ => ?_) (fun h => absurd h (by decide))
    refine lv_iinc (v := 5) (lv' := [(6, .int 5), (5, .int 2), (4, .int 1), (3, .ref q1), (0, .ref mr), (1, .int 1), (2, .int 0)]) hx hb dX7_steps_97 hl (k := 0) rfl (by decide) (by decide) rfl (fun ls hl => ?_)
    refine lv_goto (tgt := 64) hx hb dX7_steps_100 (by decide) ?_
    refine lv_iload hx hb dX7_steps_64 (lv_at hl 0 rfl) ?_
    refine lv_bipush (v := 10) hx hb dX7_steps_66 (by decide) ?_
    refine lv_icmp_ge (tgt := 103) hx hb dX7_steps_68 (by decide) (fun h => absurd h (by decide)) (fun _ => ?_)
    refine lv_iload hx hb dX7_steps_71 (lv_at hl 1 rfl) ?_
    refine lv_iload hx hb dX7_steps_73 (lv_at hl 0 rfl) ?_
    refine lv_ishr hx hb dX7_steps_75 ?_
    refine zo_i (v := 0) (by decide) ?_
    refine lv_iconst (v := 1) hx hb dX7_steps_76 (by decide) ?_
    refine lv_iand hx hb dX7_steps_77 ?_
    refine zo_i (v := 0) q_0and ?_
    refine lv_iconst (v := 1) hx hb dX7_steps_78 (by decide) ?_
    refine lv_icmp_ne (tgt := 97) hx hb dX7_steps_79 (by decide) (fun _ => ?_) (fun h => absurd h (by decide))
    refine lv_iinc (v := 6) (lv' := [(6, .int 6), (5, .int 2), (4, .int 1), (3, .ref q1), (0, .ref mr), (1, .int 1), (2, .int 0)]) hx hb dX7_steps_97 hl (k := 0) rfl (by decide) (by decide) rfl (fun ls hl => ?_)
    refine lv_goto (tgt := 64) hx hb dX7_steps_100 (by decide) ?_
    refine lv_iload hx hb dX7_steps_64 (lv_at hl 0 rfl) ?_
    refine lv_bipush (v := 10) hx hb dX7_steps_66 (by decide) ?_
    refine lv_icmp_ge (tgt := 103) hx hb dX7_steps_68 (by decide) (fun h => absurd h (by decide)) (fun _ => ?_)
    refine lv_iload hx hb dX7_steps_71 (lv_at hl 1 rfl) ?_
    refine lv_iload hx hb dX7_steps_73 (lv_at hl 0 rfl) ?_
    refine lv_ishr hx hb dX7_steps_75 ?_
    refine zo_i (v := 0) (by decide) ?_
    refine lv_iconst (v := 1) hx hb dX7_steps_76 (by decide) ?_
    refine lv_iand hx hb dX7_steps_77 ?_
    refine zo_i (v := 0) q_0and ?_
    refine lv_iconst (v := 1) hx hb dX7_steps_78 (by decide) ?_
    refine lv_icmp_ne (tgt := 97) hx hb dX7_steps_79 (by decide) (fun _ => ?_) (fun h => absurd h (by decide))
    refine lv_iinc (v := 7) (lv' := [(6, .int 7), (5, .int 2), (4, .int 1), (3, .ref q1), (0, .ref mr), (1, .int 1), (2, .int 0)]) hx hb dX7_steps_97 hl (k := 0) rfl (by decide) (by decide) rfl (fun ls hl => ?_)
    refine lv_goto (tgt := 64) hx hb dX7_steps_100 (by decide) ?_
    refine lv_iload hx hb dX7_steps_64 (lv_at hl 0 rfl) ?_
    refine lv_bipush (v := 10) hx hb dX7_steps_66 (by decide) ?_
    refine lv_icmp_ge (tgt := 103) hx hb dX7_steps_68 (by decide) (fun h => absurd h (by decide)) (fun _ => ?_)
    refine lv_iload hx hb dX7_steps_71 (lv_at hl 1 rfl) ?_
    refine lv_iload hx hb dX7_steps_73 (lv_at hl 0 rfl) ?_
    refine lv_ishr hx hb dX7_steps_75 ?_
    refine zo_i (v := 0) (by decide) ?_
    refine lv_iconst (v := 1) hx hb dX7_steps_76 (by decide) ?_
    refine lv_iand hx hb dX7_steps_77 ?_
    refine zo_i (v := 0) q_0and ?_
    refine lv_iconst (v := 1) hx hb dX7_steps_78 (by decide) ?_
    refine lv_icmp_ne (tgt := 97) hx hb dX7_steps_79 (by decide) (fun _ => ?_) (fun h => absurd h (by decide))
    refine lv_iinc (v := 8) (lv' := [(6, .int 8), (5, .int 2), (4, .int 1), (3, .ref q1), (0, .ref mr), (1, .int 1), (2, .int 0)]) hx hb dX7_steps_97 hl (k := 0) rfl (by decide) (by decide) rfl (fun ls hl => ?_)
    refine lv_goto (tgt := 64) hx hb dX7_steps_100 (by decide) ?_
    refine lv_iload hx hb dX7_steps_64 (lv_at hl 0 rfl) ?_
    refine lv_bipush (v := 10) hx hb dX7_steps_66 (by decide) ?_
    refine lv_icmp_ge (tgt := 103) hx hb dX7_steps_68 (by decide) (fun h => absurd h (by decide)) (fun _ => ?_)
    refine lv_iload hx hb dX7_steps_71 (lv_at hl 1 rfl) ?_
    refine lv_iload hx hb dX7_steps_73 (lv_at hl 0 rfl) ?_
    refine lv_ishr hx hb dX7_steps_75 ?_
    refine zo_i (v := 0) (by decide) ?_
    refine lv_iconst (v := 1) hx hb dX7_steps_76 (by decide) ?_
    refine lv_iand hx hb dX7_steps_77 ?_
    refine zo_i (v := 0) q_0and ?_
    refine lv_iconst (v := 1) hx hb dX7_steps_78 (by decide) ?_
    refine lv_icmp_ne (tgt := 97) hx hb dX7_steps_79 (by decide) (fun _ => ?_) (fun h => absurd h (by decide))
    refine lv_iinc (v := 9) (lv' := [(6, .int 9), (5, .int 2), (4, .int 1), (3, .ref q1), (0, .ref mr), (1, .int 1), (2, .int 0)]) hx hb dX7_steps_97 hl (k := 0) rfl (by decide) (by decide) rfl (fun ls hl => ?_)
    refine lv_goto (tgt := 64) hx hb dX7_steps_100 (by decide) ?_
    refine lv_iload hx hb dX7_steps_64 (lv_at hl 0 rfl) ?_
    refine lv_bipush (v := 10) hx hb dX7_steps_66 (by decide) ?_
    refine lv_icmp_ge (tgt := 103) hx hb dX7_steps_68 (by decide) (fun h => absurd h (by decide)) (fun _ => ?_)
    refine lv_iload hx hb dX7_steps_71 (lv_at hl 1 rfl) ?_
    refine lv_iload hx hb dX7_steps_73 (lv_at hl 0 rfl) ?_
    refine lv_ishr hx hb dX7_steps_75 ?_
    refine zo_i (v := 0) (by decide) ?_
    refine lv_iconst (v := 1) hx hb dX7_steps_76 (by decide) ?_
    refine lv_iand hx hb dX7_steps_77 ?_
    refine zo_i (v := 0) q_0and ?_
    refine lv_iconst (v := 1) hx hb dX7_steps_78 (by decide) ?_
    refine lv_icmp_ne (tgt := 97) hx hb dX7_steps_79 (by decide) (fun _ => ?_) (fun h => absurd h (by decide))
    refine lv_iinc (v := 10) (lv' := [(6, .int 10), (5, .int 2), (4, .int 1), (3, .ref q1), (0, .ref mr), (1, .int 1), (2, .int 0)]) hx hb dX7_steps_97 hl (k := 0) rfl (by decide) (by decide) rfl (fun ls hl => ?_)
    refine lv_goto (tgt := 64) hx hb dX7_steps_100 (by decide) ?_
    refine lv_iload hx hb dX7_steps_64 (lv_at hl 0 rfl) ?_
    refine lv_bipush (v := 10) hx hb dX7_steps_66 (by decide) ?_
    refine lv_icmp_ge (tgt := 103) hx hb dX7_steps_68 (by decide) (fun _ => ?_) (fun h => absurd h (by decide))
    refine lv_iinc (v := 2) (lv' := [(4, .int 2), (6, .int 10), (5, .int 2), (3, .ref q1), (0, .ref mr), (1, .int 1), (2, .int 0)]) hx hb dX7_steps_103 hl (k := 2) rfl (by decide) (by decide) rfl (fun ls hl => ?_)
    refine lv_goto (tgt := 34) hx hb dX7_steps_106 (by decide) ?_
    refine lv_iload hx hb dX7_steps_34 (lv_at hl 0 rfl) ?_
    refine lv_aload_n hx hb dX7_steps_36 rfl (lv_at hl 3 rfl) ?_
    refine va_alen hx hb hK hP 0 14 rfl rfl (v := 1024) (by exact rfl) dX7_steps_37 ?_
    refine lv_icmp_ge (tgt := 109) hx hb dX7_steps_38 (by decide) (fun h => absurd h (by decide)) (fun _ => ?_)
    refine lv_aload_n hx hb dX7_steps_41 rfl (lv_at hl 3 rfl) ?_
    refine lv_iload hx hb dX7_steps_42 (lv_at hl 0 rfl) ?_
    refine va_iald hx hb hK hP 0 14 rfl rfl (by unfold vp_in; decide) dX7_steps_44 ?_
    refine zo_i (v := (-1)) (by rw [show Int32.toNatClampNeg 2 = 2 from by decide]; exact k19) ?_
    refine lv_iconst (v := (-1)) hx hb dX7_steps_45 (by decide) ?_
    refine lv_icmp_ne (tgt := 52) hx hb dX7_steps_46 (by decide) (fun h => absurd h (by decide)) (fun _ => ?_)
    refine lv_goto (tgt := 103) hx hb dX7_steps_49 (by decide) ?_
    refine lv_iinc (v := 3) (lv' := [(4, .int 3), (6, .int 10), (5, .int 2), (3, .ref q1), (0, .ref mr), (1, .int 1), (2, .int 0)]) hx hb dX7_steps_103 hl (k := 0) rfl (by decide) (by decide) rfl (fun ls hl => ?_)
    refine lv_goto (tgt := 34) hx hb dX7_steps_106 (by decide) ?_
    refine lv_iload hx hb dX7_steps_34 (lv_at hl 0 rfl) ?_
    refine lv_aload_n hx hb dX7_steps_36 rfl (lv_at hl 3 rfl) ?_
    refine va_alen hx hb hK hP 0 14 rfl rfl (v := 1024) (by exact rfl) dX7_steps_37 ?_
    refine lv_icmp_ge (tgt := 109) hx hb dX7_steps_38 (by decide) (fun h => absurd h (by decide)) (fun _ => ?_)
    refine lv_aload_n hx hb dX7_steps_41 rfl (lv_at hl 3 rfl) ?_
    refine lv_iload hx hb dX7_steps_42 (lv_at hl 0 rfl) ?_
    refine va_iald hx hb hK hP 0 14 rfl rfl (by unfold vp_in; decide) dX7_steps_44 ?_
    refine zo_i (v := 1) (by rw [show Int32.toNatClampNeg 3 = 3 from by decide]; exact k21) ?_
    refine lv_iconst (v := (-1)) hx hb dX7_steps_45 (by decide) ?_
    refine lv_icmp_ne (tgt := 52) hx hb dX7_steps_46 (by decide) (fun _ => ?_) (fun h => absurd h (by decide))
    refine lv_aload_n hx hb dX7_steps_52 rfl (lv_at hl 4 rfl) ?_
    refine lv_iload hx hb dX7_steps_53 (lv_at hl 0 rfl) ?_
    refine lv_iload_n hx hb dX7_steps_55 rfl (lv_at hl 6 rfl) ?_
    have hPr := ((zo_R hR0 hS hAr)).sub (ws' := [(mr, .inr (9, [.ref ll, .ref lt, .ref lp, .int 0, .int 0, .int 0, .int 0, .int 0, .int 0, .int 0, .int (-1), .int 0, .int 0, .int 0])), (ll, .inr (1, [.int 2, .ref ola, .int 2])), (ola, .inl (cOl, 10, .inr (.inr (.inr (.inr fol))))), (la0, .inl (cA0, 10, .inl fa0)), (la1, .inl (cA1, 10, .inl fa1)), (lt, .inr (1, [.int 10, .ref ota, .int 10])), (ota, .inl (cOt, 10, .inr (.inr (.inr (.inr fot))))), (ta0, .inl (cB0, 5, .inl fb0)), (ta1, .inl (cB1, 5, .inl fb1)), (ta2, .inl (cB2, 5, .inl fb2)), (ta3, .inl (cB3, 5, .inl fb3)), (ta4, .inl (cB4, 5, .inl fb4)), (ta5, .inl (cB5, 5, .inl fb5)), (ta6, .inl (cB6, 5, .inl fb6)), (ta7, .inl (cB7, 5, .inl fb7)), (ta8, .inl (cB8, 5, .inl fb8)), (ta9, .inl (cB9, 5, .inl fb9))]) [0, 1, 2, 3, 4, 5, 6, 7, 8, 9, 10, 11, 12, 13, 14, 15, 16] rfl
    have hPc := hP.sub (ws' := []) [] rfl
    have hDc := hD.sub (ws' := []) [] (by decide) rfl
    have hKc := hK.sub (tys' := [(cOl, .object "java/lang/Object"), (cA0, .int), (cA1, .int), (cOt, .object "java/lang/Object"), (cB0, .int), (cB1, .int), (cB2, .int), (cB3, .int), (cB4, .int), (cB5, .int), (cB6, .int), (cB7, .int), (cB8, .int), (cB9, .int)]) [0, 1, 2, 3, 4, 5, 6, 7, 8, 9, 10, 11, 12, 13] rfl
    have hFc := va_free (wc := []) hD hS hA [] rfl
    refine va_calli (va_runV (As := [.int 3, .int 0]) (rest := []) ⟨hx, hb, hml, hown, hts⟩ (cz_Qnext7_3 l dC dI ed H16.size mr ll lt lp ola cOl fol la0 la1 cA0 fa0 cA1 fa1 ota cOt fot ta0 ta1 ta2 ta3 ta4 ta5 ta6 ta7 ta8 ta9 cB0 fb0 y0 cB1 fb1 y1 cB2 fb2 y2 cB3 fb3 y3 cB4 fb4 y4 cB5 fb5 y5 cB6 fb6 y6 cB7 fb7 y7 cB8 fb8 y8 cB9 fb9 y9 hol0 hol1 ha0_0 ha0_1 ha0_8 ha1_0 ha1_1 ha1_8 hot0 hot1 hot2 hot3 hot4 hot5 hot6 hot7 hot8 hot9 hb0_0 hb0_3 hb1_0 hb1_3 hb2_0 hb2_3 hb3_0 hb3_3 hb4_0 hb4_3 hb5_0 hb5_3 hb6_0 hb6_3 hb7_0 hb7_3 hb8_0 hb8_3 hb9_0 hb9_3) (cwV 2 hts gX7_steps_X7_next rfl rfl rfl (by decide +kernel) ⟨Nat.le_of_ble_eq_true rfl, Nat.le_of_ble_eq_true rfl⟩) ⟨zb_blind, va_recv hK (zo_R hR0 hS hAr) (ci := 9) (q0 := 0) rfl rfl, fun U hU hW => ⟨rfl, zb_mk hU hW hPr hPc hKc hDc hN hH hS hFc zx_e⟩⟩ rfl rfl hl.1 rfl (lv_room (Nat.le_of_ble_eq_true rfl)) dX7_steps_56 ⟨Nat.le_of_ble_eq_true rfl, Nat.le_of_ble_eq_true rfl⟩) hS (fun q _ h => hFc q h) hFc (fun r24 u t H23 locs ht hvm hw hB hz1 hk1 hS => ?_)
    obtain rfl : r24 = 0 := hw
    have hP := zo_K hP hk1
    refine lv_istore (lv' := [(5, .int 0), (4, .int 3), (6, .int 10), (3, .ref q1), (0, .ref mr), (1, .int 1), (2, .int 0)]) hx hb dX7_steps_59 hl (by decide) rfl (fun ls hl => ?_)
    refine lv_iconst (v := 0) hx hb dX7_steps_61 (by decide) ?_
    refine lv_istore (lv' := [(6, .int 0), (5, .int 0), (4, .int 3), (3, .ref q1), (0, .ref mr), (1, .int 1), (2, .int 0)]) hx hb dX7_steps_62 hl (by decide) rfl (fun ls hl => ?_)
    refine lv_iload hx hb dX7_steps_64 (lv_at hl 0 rfl) ?_
    refine lv_bipush (v := 10) hx hb dX7_steps_66 (by decide) ?_
    refine lv_icmp_ge (tgt := 103) hx hb dX7_steps_68 (by decide) (fun h => absurd h (by decide)) (fun _ => ?_)
    refine lv_iload hx hb dX7_steps_71 (lv_at hl 1 rfl) ?_
    refine lv_iload hx hb dX7_steps_73 (lv_at hl 0 rfl) ?_
    refine lv_ishr hx hb dX7_steps_75 ?_
    refine zo_i (v := 0) (by decide) ?_
    refine lv_iconst (v := 1) hx hb dX7_steps_76 (by decide) ?_
    refine lv_iand hx hb dX7_steps_77 ?_
    refine zo_i (v := 0) q_0and ?_
    refine lv_iconst (v := 1) hx hb dX7_steps_78 (by decide) ?_
    refine lv_icmp_ne (tgt := 97) hx hb dX7_steps_79 (by decide) (fun _ => ?_) (fun h => absurd h (by decide))
    refine lv_iinc (v := 1) (lv' := [(6, .int 1), (5, .int 0), (4, .int 3), (3, .ref q1), (0, .ref mr), (1, .int 1), (2, .int 0)]) hx hb dX7_steps_97 hl (k := 0) rfl (by decide) (by decide) rfl (fun ls hl => ?_)
    refine lv_goto (tgt := 64) hx hb dX7_steps_100 (by decide) ?_
    refine lv_iload hx hb dX7_steps_64 (lv_at hl 0 rfl) ?_
    refine lv_bipush (v := 10) hx hb dX7_steps_66 (by decide) ?_
    refine lv_icmp_ge (tgt := 103) hx hb dX7_steps_68 (by decide) (fun h => absurd h (by decide)) (fun _ => ?_)
    refine lv_iload hx hb dX7_steps_71 (lv_at hl 1 rfl) ?_
    refine lv_iload hx hb dX7_steps_73 (lv_at hl 0 rfl) ?_
    refine lv_ishr hx hb dX7_steps_75 ?_
    refine zo_i (v := 0) (by decide) ?_
    refine lv_iconst (v := 1) hx hb dX7_steps_76 (by decide) ?_
    refine lv_iand hx hb dX7_steps_77 ?_
    refine zo_i (v := 0) q_0and ?_
    refine lv_iconst (v := 1) hx hb dX7_steps_78 (by decide) ?_
    refine lv_icmp_ne (tgt := 97) hx hb dX7_steps_79 (by decide) (fun _ => ?_) (fun h => absurd h (by decide))
    refine lv_iinc (v := 2) (lv' := [(6, .int 2), (5, .int 0), (4, .int 3), (3, .ref q1), (0, .ref mr), (1, .int 1), (2, .int 0)]) hx hb dX7_steps_97 hl (k := 0) rfl (by decide) (by decide) rfl (fun ls hl => ?_)
    refine lv_goto (tgt := 64) hx hb dX7_steps_100 (by decide) ?_
    refine lv_iload hx hb dX7_steps_64 (lv_at hl 0 rfl) ?_
    refine lv_bipush (v := 10) hx hb dX7_steps_66 (by decide) ?_
    refine lv_icmp_ge (tgt := 103) hx hb dX7_steps_68 (by decide) (fun h => absurd h (by decide)) (fun _ => ?_)
    refine lv_iload hx hb dX7_steps_71 (lv_at hl 1 rfl) ?_
    refine lv_iload hx hb dX7_steps_73 (lv_at hl 0 rfl) ?_
    refine lv_ishr hx hb dX7_steps_75 ?_
    refine zo_i (v := 0) (by decide) ?_
    refine lv_iconst (v := 1) hx hb dX7_steps_76 (by decide) ?_
    refine lv_iand hx hb dX7_steps_77 ?_
    refine zo_i (v := 0) q_0and ?_
    refine lv_iconst (v := 1) hx hb dX7_steps_78 (by decide) ?_
    refine lv_icmp_ne (tgt := 97) hx hb dX7_steps_79 (by decide) (fun _ => ?_) (fun h => absurd h (by decide))
    refine lv_iinc (v := 3) (lv' := [(6, .int 3), (5, .int 0), (4, .int 3), (3, .ref q1), (0, .ref mr), (1, .int 1), (2, .int 0)]) hx hb dX7_steps_97 hl (k := 0) rfl (by decide) (by decide) rfl (fun ls hl => ?_)
    refine lv_goto (tgt := 64) hx hb dX7_steps_100 (by decide) ?_
    refine lv_iload hx hb dX7_steps_64 (lv_at hl 0 rfl) ?_
    refine lv_bipush (v := 10) hx hb dX7_steps_66 (by decide) ?_
    refine lv_icmp_ge (tgt := 103) hx hb dX7_steps_68 (by decide) (fun h => absurd h (by decide)) (fun _ => ?_)
    refine lv_iload hx hb dX7_steps_71 (lv_at hl 1 rfl) ?_
    refine lv_iload hx hb dX7_steps_73 (lv_at hl 0 rfl) ?_
    refine lv_ishr hx hb dX7_steps_75 ?_
    refine zo_i (v := 0) (by decide) ?_
    refine lv_iconst (v := 1) hx hb dX7_steps_76 (by decide) ?_
    refine lv_iand hx hb dX7_steps_77 ?_
    refine zo_i (v := 0) q_0and ?_
    refine lv_iconst (v := 1) hx hb dX7_steps_78 (by decide) ?_
    refine lv_icmp_ne (tgt := 97) hx hb dX7_steps_79 (by decide) (fun _ => ?_) (fun h => absurd h (by decide))
    refine lv_iinc (v := 4) (lv' := [(6, .int 4), (5, .int 0), (4, .int 3), (3, .ref q1), (0, .ref mr), (1, .int 1), (2, .int 0)]) hx hb dX7_steps_97 hl (k := 0) rfl (by decide) (by decide) rfl (fun ls hl => ?_)
    refine lv_goto (tgt := 64) hx hb dX7_steps_100 (by decide) ?_
    refine lv_iload hx hb dX7_steps_64 (lv_at hl 0 rfl) ?_
    refine lv_bipush (v := 10) hx hb dX7_steps_66 (by decide) ?_
    refine lv_icmp_ge (tgt := 103) hx hb dX7_steps_68 (by decide) (fun h => absurd h (by decide)) (fun _ => ?_)
    refine lv_iload hx hb dX7_steps_71 (lv_at hl 1 rfl) ?_
    refine lv_iload hx hb dX7_steps_73 (lv_at hl 0 rfl) ?_
    refine lv_ishr hx hb dX7_steps_75 ?_
    refine zo_i (v := 0) (by decide) ?_
    refine lv_iconst (v := 1) hx hb dX7_steps_76 (by decide) ?_
    refine lv_iand hx hb dX7_steps_77 ?_
    refine zo_i (v := 0) q_0and ?_
    refine lv_iconst (v := 1) hx hb dX7_steps_78 (by decide) ?_
    refine lv_icmp_ne (tgt := 97) hx hb dX7_steps_79 (by decide) (fun _ => ?_) (fun h => absurd h (by decide))
    refine lv_iinc (v := 5) (lv' := [(6, .int 5), (5, .int 0), (4, .int 3), (3, .ref q1), (0, .ref mr), (1, .int 1), (2, .int 0)]) hx hb dX7_steps_97 hl (k := 0) rfl (by decide) (by decide) rfl (fun ls hl => ?_)
    refine lv_goto (tgt := 64) hx hb dX7_steps_100 (by decide) ?_
    refine lv_iload hx hb dX7_steps_64 (lv_at hl 0 rfl) ?_
    refine lv_bipush (v := 10) hx hb dX7_steps_66 (by decide) ?_
    refine lv_icmp_ge (tgt := 103) hx hb dX7_steps_68 (by decide) (fun h => absurd h (by decide)) (fun _ => ?_)
    refine lv_iload hx hb dX7_steps_71 (lv_at hl 1 rfl) ?_
    refine lv_iload hx hb dX7_steps_73 (lv_at hl 0 rfl) ?_
    refine lv_ishr hx hb dX7_steps_75 ?_
    refine zo_i (v := 0) (by decide) ?_
    refine lv_iconst (v := 1) hx hb dX7_steps_76 (by decide) ?_
    refine lv_iand hx hb dX7_steps_77 ?_
    refine zo_i (v := 0) q_0and ?_
    refine lv_iconst (v := 1) hx hb dX7_steps_78 (by decide) ?_
    refine lv_icmp_ne (tgt := 97) hx hb dX7_steps_79 (by decide) (fun _ => ?_) (fun h => absurd h (by decide))
    refine lv_iinc (v := 6) (lv' := [(6, .int 6), (5, .int 0), (4, .int 3), (3, .ref q1), (0, .ref mr), (1, .int 1), (2, .int 0)]) hx hb dX7_steps_97 hl (k := 0) rfl (by decide) (by decide) rfl (fun ls hl => ?_)
    refine lv_goto (tgt := 64) hx hb dX7_steps_100 (by decide) ?_
    refine lv_iload hx hb dX7_steps_64 (lv_at hl 0 rfl) ?_
    refine lv_bipush (v := 10) hx hb dX7_steps_66 (by decide) ?_
    refine lv_icmp_ge (tgt := 103) hx hb dX7_steps_68 (by decide) (fun h => absurd h (by decide)) (fun _ => ?_)
    refine lv_iload hx hb dX7_steps_71 (lv_at hl 1 rfl) ?_
    refine lv_iload hx hb dX7_steps_73 (lv_at hl 0 rfl) ?_
    refine lv_ishr hx hb dX7_steps_75 ?_
    refine zo_i (v := 0) (by decide) ?_
    refine lv_iconst (v := 1) hx hb dX7_steps_76 (by decide) ?_
    refine lv_iand hx hb dX7_steps_77 ?_
    refine zo_i (v := 0) q_0and ?_
    refine lv_iconst (v := 1) hx hb dX7_steps_78 (by decide) ?_
    refine lv_icmp_ne (tgt := 97) hx hb dX7_steps_79 (by decide) (fun _ => ?_) (fun h => absurd h (by decide))
    refine lv_iinc (v := 7) (lv' := [(6, .int 7), (5, .int 0), (4, .int 3), (3, .ref q1), (0, .ref mr), (1, .int 1), (2, .int 0)]) hx hb dX7_steps_97 hl (k := 0) rfl (by decide) (by decide) rfl (fun ls hl => ?_)
    refine lv_goto (tgt := 64) hx hb dX7_steps_100 (by decide) ?_
    refine lv_iload hx hb dX7_steps_64 (lv_at hl 0 rfl) ?_
    refine lv_bipush (v := 10) hx hb dX7_steps_66 (by decide) ?_
    refine lv_icmp_ge (tgt := 103) hx hb dX7_steps_68 (by decide) (fun h => absurd h (by decide)) (fun _ => ?_)
    refine lv_iload hx hb dX7_steps_71 (lv_at hl 1 rfl) ?_
    refine lv_iload hx hb dX7_steps_73 (lv_at hl 0 rfl) ?_
    refine lv_ishr hx hb dX7_steps_75 ?_
    refine zo_i (v := 0) (by decide) ?_
    refine lv_iconst (v := 1) hx hb dX7_steps_76 (by decide) ?_
    refine lv_iand hx hb dX7_steps_77 ?_
    refine zo_i (v := 0) q_0and ?_
    refine lv_iconst (v := 1) hx hb dX7_steps_78 (by decide) ?_
    refine lv_icmp_ne (tgt := 97) hx hb dX7_steps_79 (by decide) (fun _ => ?_) (fun h => absurd h (by decide))
    refine lv_iinc (v := 8) (lv' := [(6, .int 8), (5, .int 0), (4, .int 3), (3, .ref q1), (0, .ref mr), (1, .int 1), (2, .int 0)]) hx hb dX7_steps_97 hl (k := 0) rfl (by decide) (by decide) rfl (fun ls hl => ?_)
    refine lv_goto (tgt := 64) hx hb dX7_steps_100 (by decide) ?_
    refine lv_iload hx hb dX7_steps_64 (lv_at hl 0 rfl) ?_
    refine lv_bipush (v := 10) hx hb dX7_steps_66 (by decide) ?_
    refine lv_icmp_ge (tgt := 103) hx hb dX7_steps_68 (by decide) (fun h => absurd h (by decide)) (fun _ => ?_)
    refine lv_iload hx hb dX7_steps_71 (lv_at hl 1 rfl) ?_
    refine lv_iload hx hb dX7_steps_73 (lv_at hl 0 rfl) ?_
    refine lv_ishr hx hb dX7_steps_75 ?_
    refine zo_i (v := 0) (by decide) ?_
    refine lv_iconst (v := 1) hx hb dX7_steps_76 (by decide) ?_
    refine lv_iand hx hb dX7_steps_77 ?_
    refine zo_i (v := 0) q_0and ?_
    refine lv_iconst (v := 1) hx hb dX7_steps_78 (by decide) ?_
    refine lv_icmp_ne (tgt := 97) hx hb dX7_steps_79 (by decide) (fun _ => ?_) (fun h => absurd h (by decide))
    refine lv_iinc (v := 9) (lv' := [(6, .int 9), (5, .int 0), (4, .int 3), (3, .ref q1), (0, .ref mr), (1, .int 1), (2, .int 0)]) hx hb dX7_steps_97 hl (k := 0) rfl (by decide) (by decide) rfl (fun ls hl => ?_)
    refine lv_goto (tgt := 64) hx hb dX7_steps_100 (by decide) ?_
    refine lv_iload hx hb dX7_steps_64 (lv_at hl 0 rfl) ?_
    refine lv_bipush (v := 10) hx hb dX7_steps_66 (by decide) ?_
    refine lv_icmp_ge (tgt := 103) hx hb dX7_steps_68 (by decide) (fun h => absurd h (by decide)) (fun _ => ?_)
    refine lv_iload hx hb dX7_steps_71 (lv_at hl 1 rfl) ?_
    refine lv_iload hx hb dX7_steps_73 (lv_at hl 0 rfl) ?_
    refine lv_ishr hx hb dX7_steps_75 ?_
    refine zo_i (v := 0) (by decide) ?_
    refine lv_iconst (v := 1) hx hb dX7_steps_76 (by decide) ?_
    refine lv_iand hx hb dX7_steps_77 ?_
    refine zo_i (v := 0) q_0and ?_
    refine lv_iconst (v := 1) hx hb dX7_steps_78 (by decide) ?_
    refine lv_icmp_ne (tgt := 97) hx hb dX7_steps_79 (by decide) (fun _ => ?_) (fun h => absurd h (by decide))
    refine lv_iinc (v := 10) (lv' := [(6, .int 10), (5, .int 0), (4, .int 3), (3, .ref q1), (0, .ref mr), (1, .int 1), (2, .int 0)]) hx hb dX7_steps_97 hl (k := 0) rfl (by decide) (by decide) rfl (fun ls hl => ?_)
    refine lv_goto (tgt := 64) hx hb dX7_steps_100 (by decide) ?_
    refine lv_iload hx hb dX7_steps_64 (lv_at hl 0 rfl) ?_
    refine lv_bipush (v := 10) hx hb dX7_steps_66 (by decide) ?_
    refine lv_icmp_ge (tgt := 103) hx hb dX7_steps_68 (by decide) (fun _ => ?_) (fun h => absurd h (by decide))
    refine lv_iinc (v := 4) (lv' := [(4, .int 4), (6, .int 10), (5, .int 0), (3, .ref q1), (0, .ref mr), (1, .int 1), (2, .int 0)]) hx hb dX7_steps_103 hl (k := 2) rfl (by decide) (by decide) rfl (fun ls hl => ?_)
    refine lv_goto (tgt := 34) hx hb dX7_steps_106 (by decide) ?_
    refine zo_loop (fun (i : Nat) (H : Heap) (locs : List Loc) (ls : Array Slot) => va_P (dC, dI) vwCl [(q1, .inl (cA3, 1024, .inl f17))] H ∧ va_D A [(q1, .inl (cA3, 1024, .inl f17))] ∧ va_S A s.heap H locs ∧ lv_has ls 7 [(4, .int (nI (4 + i))), (3, .ref q1), (0, .ref mr), (1, .int 1), (2, .int 0)]) 1020 ⟨hP, hD, hS, lv_sub hl [0, 3, 4, 5, 6] rfl⟩ (fun i hi ih H locs ls hI => ?_) (fun H locs ls hI => ?_)
    · obtain ⟨hP, hD, hS, hl⟩ := hI
      refine lv_iload hx hb dX7_steps_34 (lv_at hl 0 rfl) ?_
      refine lv_aload_n hx hb dX7_steps_36 rfl (lv_at hl 1 rfl) ?_
      refine va_alen hx hb hK hP 0 14 rfl rfl (v := 1024) (by exact rfl) dX7_steps_37 ?_
      refine lv_icmp_ge (tgt := 109) hx hb dX7_steps_38 (by decide) (fun h => absurd h (nI_ge (a := 4 + i) (b := 1024) (by omega) (by decide))) (fun _ => ?_)
      refine lv_aload_n hx hb dX7_steps_41 rfl (lv_at hl 1 rfl) ?_
      refine lv_iload hx hb dX7_steps_42 (lv_at hl 0 rfl) ?_
      refine va_iald hx hb hK hP 0 14 rfl rfl (vp_in_nI (by omega) (by decide)) dX7_steps_44 ?_
      refine zo_i (v := (-1)) (by rw [nI_clamp (n := (4 + i)) (by omega)]; exact hg22 ((4 + i)) (by omega) (by omega)) ?_
      refine lv_iconst (v := (-1)) hx hb dX7_steps_45 (by decide) ?_
      refine lv_icmp_ne (tgt := 52) hx hb dX7_steps_46 (by decide) (fun h => absurd h (by decide)) (fun _ => ?_)
      refine lv_goto (tgt := 103) hx hb dX7_steps_49 (by decide) ?_
      refine lv_iinc (v := (nI ((4 + i) + 1))) (lv' := [(4, .int (nI ((4 + i) + 1))), (3, .ref q1), (0, .ref mr), (1, .int 1), (2, .int 0)]) hx hb dX7_steps_103 hl (k := 0) rfl (nI_1 (4 + i)) (by decide) rfl (fun ls hl => ?_)
      refine lv_goto (tgt := 34) hx hb dX7_steps_106 (by decide) ?_
      exact ih _ _ _ ⟨hP, hD, hS, lv_sub hl [0, 1, 2, 3, 4] rfl⟩
    · obtain ⟨hP, hD, hS, hl⟩ := hI
      refine lv_iload hx hb dX7_steps_34 (lv_at hl 0 rfl) ?_
      refine lv_aload_n hx hb dX7_steps_36 rfl (lv_at hl 1 rfl) ?_
      refine va_alen hx hb hK hP 0 14 rfl rfl (v := 1024) (by exact rfl) dX7_steps_37 ?_
      refine lv_icmp_ge (tgt := 109) hx hb dX7_steps_38 (by decide) (fun _ => ?_) (fun h => absurd (nI_le (a := 1024) (b := 4 + 1020) (by omega) (by decide)) h)
      refine lv_aload_n hx hb dX7_steps_109 rfl (lv_at hl 1 rfl) ?_
      refine W.widen (k := 1) (n := 1024) (Nat.le_of_ble_eq_true rfl) (Nat.le_of_ble_eq_true rfl) ?_
      have hP9 := hP.sub (ws' := [(q1, .inl (cA3, 1024, .inl f17))]) [0] rfl
      have hD9 := hD.sub (ws' := [(q1, .inl (cA3, 1024, .inl f17))]) [0] (by decide) rfl
      have hK9 := hK.sub (tys' := [(cA3, .int)]) [14] rfl
      exact W.aret hx hb hr (Or.inr ⟨_, rfl⟩) (Or.inr ⟨_, rfl⟩) (fun t ht hW => ⟨⟨(), q1, rfl, trivial, ⟨cA3, f17, hg22, ⟨k18, k20, k19, k21⟩, by rw [ht]; exact hP9, hD9, va_K.moved hW.alike hK9⟩⟩, hS.F ht⟩) hS.2.2 dX7_steps_110
set_option maxHeartbeats 4000000 in
set_option maxRecDepth 100000 in
theorem cz_Qsteps_2 (l : Launch) (dC : Nat → ClassId) (dI : Nat → Nat → Nat) (ed sz : Nat) (mr : Nat) (ll : Nat) (lt : Nat) (lp : Nat) (ola : Nat) (cOl : ClassId) (fol : Nat → Option Nat) (la0 : Nat) (la1 : Nat) (cA0 : ClassId) (fa0 : Nat → Int32) (cA1 : ClassId) (fa1 : Nat → Int32) (ota : Nat) (cOt : ClassId) (fot : Nat → Option Nat) (ta0 : Nat) (ta1 : Nat) (ta2 : Nat) (ta3 : Nat) (ta4 : Nat) (ta5 : Nat) (ta6 : Nat) (ta7 : Nat) (ta8 : Nat) (ta9 : Nat) (cB0 : ClassId) (fb0 : Nat → Int32) (y0 : Int32) (cB1 : ClassId) (fb1 : Nat → Int32) (y1 : Int32) (cB2 : ClassId) (fb2 : Nat → Int32) (y2 : Int32) (cB3 : ClassId) (fb3 : Nat → Int32) (y3 : Int32) (cB4 : ClassId) (fb4 : Nat → Int32) (y4 : Int32) (cB5 : ClassId) (fb5 : Nat → Int32) (y5 : Int32) (cB6 : ClassId) (fb6 : Nat → Int32) (y6 : Int32) (cB7 : ClassId) (fb7 : Nat → Int32) (y7 : Int32) (cB8 : ClassId) (fb8 : Nat → Int32) (y8 : Int32) (cB9 : ClassId) (fb9 : Nat → Int32) (y9 : Int32) (hol0 : fol 0 = some la0) (hol1 : fol 1 = some la1) (ha0_0 : fa0 0 = 0) (ha0_1 : fa0 1 = 0) (ha0_8 : fa0 8 = 0) (ha1_0 : fa1 0 = 0) (ha1_1 : fa1 1 = 0) (ha1_8 : fa1 8 = 0) (hot0 : fot 0 = some ta0) (hot1 : fot 1 = some ta1) (hot2 : fot 2 = some ta2) (hot3 : fot 3 = some ta3) (hot4 : fot 4 = some ta4) (hot5 : fot 5 = some ta5) (hot6 : fot 6 = some ta6) (hot7 : fot 7 = some ta7) (hot8 : fot 8 = some ta8) (hot9 : fot 9 = some ta9) (hb0_0 : fb0 0 = (-1)) (hb0_3 : fb0 3 = y0) (hb1_0 : fb1 0 = (-1)) (hb1_3 : fb1 3 = y1) (hb2_0 : fb2 0 = (-1)) (hb2_3 : fb2 3 = y2) (hb3_0 : fb3 0 = (-1)) (hb3_3 : fb3 3 = y3) (hb4_0 : fb4 0 = (-1)) (hb4_3 : fb4 3 = y4) (hb5_0 : fb5 0 = (-1)) (hb5_3 : fb5 3 = y5) (hb6_0 : fb6 0 = (-1)) (hb6_3 : fb6 3 = y6) (hb7_0 : fb7 0 = (-1)) (hb7_3 : fb7 3 = y7) (hb8_0 : fb8 0 = (-1)) (hb8_3 : fb8 3 = y8) (hb9_0 : fb9 0 = (-1)) (hb9_3 : fb9 3 = y9) : Met l yX7_steps wsX7_steps ({ frames := 5, cells := 1, slots := 1024, locals := 116 } : Jvm.Room) (va_Pc [.ref mr, .int 2, .int 0] (zB dC dI ed sz [(mr, .inr (9, [.ref ll, .ref lt, .ref lp, .int 0, .int 0, .int 0, .int 0, .int 0, .int 0, .int 0, .int (-1), .int 0, .int 0, .int 0])), (ll, .inr (1, [.int 2, .ref ola, .int 2])), (ola, .inl (cOl, 10, .inr (.inr (.inr (.inr fol))))), (la0, .inl (cA0, 10, .inl fa0)), (la1, .inl (cA1, 10, .inl fa1)), (lt, .inr (1, [.int 10, .ref ota, .int 10])), (ota, .inl (cOt, 10, .inr (.inr (.inr (.inr fot))))), (ta0, .inl (cB0, 5, .inl fb0)), (ta1, .inl (cB1, 5, .inl fb1)), (ta2, .inl (cB2, 5, .inl fb2)), (ta3, .inl (cB3, 5, .inl fb3)), (ta4, .inl (cB4, 5, .inl fb4)), (ta5, .inl (cB5, 5, .inl fb5)), (ta6, .inl (cB6, 5, .inl fb6)), (ta7, .inl (cB7, 5, .inl fb7)), (ta8, .inl (cB8, 5, .inl fb8)), (ta9, .inl (cB9, 5, .inl fb9))] [] [(cOl, .object "java/lang/Object"), (cA0, .int), (cA1, .int), (cOt, .object "java/lang/Object"), (cB0, .int), (cB1, .int), (cB2, .int), (cB3, .int), (cB4, .int), (cB5, .int), (cB6, .int), (cB7, .int), (cB8, .int), (cB9, .int)])) (va_Qr (fun (_ : Unit) => True) (fun (_ : Unit) (sa : Nat) (t : State) => ∃ (cS : ClassId), ∃ (fs : Nat → Int32), (∀ j : Nat, 3 < j → j < 1024 → fs j = -1) ∧ (fs 0 = (-1) ∧ fs 1 = (-1) ∧ fs 2 = 0 ∧ fs 3 = 1) ∧ va_P (dC, dI) vwCl [(sa, .inl (cS, 1024, .inl fs))] t.heap ∧ va_D (va_A [] sz) [(sa, .inl (cS, 1024, .inl fs))] ∧ va_K (dC, dI) vwCl [(cS, .int)] t) (va_A [] sz)) 1 1024 (va_A [] sz) := by
  refine Met.ofW (cc := cX7_steps) (maxL := 7) (ret := (some (.array .int))) (by decide) rfl ?_
  intro p e s m args below meth c s₁ B hml hv
  obtain ⟨rfl, hsz, hR0, hP, hK, hD0, hN, hH, hX0⟩ := hv
  have hx := B.exec
  have hb := B.bytes
  have hr := B.returns
  have hts := atoms_spec (ws := wsX7_steps) B.pre
  have hown : s.vm.findClass RX7 = some m.cls := findClass_of_methodNamed B.named
  have hlocks := B.notSynchronized
  subst hsz
  have hD := hD0.self (sz := s.heap.size)
  have hAr := zx_A hX0 hR0
  generalize hAe : va_A [] s.heap.size = A at hD hAr hH ⊢
  have hA : ∀ q : Nat, s.heap.size ≤ q → A q := fun q h => by rw [← hAe]; exact Or.inr h
  have hS : va_S A s.heap s.heap [] := va_S.rf
  have hl := lv_entry ([.ref mr, .int 2, .int 0]) (n := 7) (Nat.le_of_ble_eq_true rfl)
  rw [lg_entry_eq]
  generalize (lg_sl ([.ref mr, .int 2, .int 0]) ++ List.replicate (7 - (lg_sl ([.ref mr, .int 2, .int 0])).length) Slot.unset).toArray = ls at hl ⊢
  have hl : lv_has ls 7 [(0, .ref mr), (1, .int 2), (2, .int 0)] := hl
  refine lv_sipush (v := 1024) hx hb dX7_steps_0 (by decide) ?_
  refine va_newa (atype := .int) (a0 := (1024, .inl (fun _ => 0))) hx hb (hts (.arrayClass .int) (by decide +kernel)) rfl hK hP hD hS hA (fun cA => rfl) (by decide) (N' := 1024) (by decide) (by decide) (Nat.le_of_ble_eq_true rfl) (Nat.le_of_ble_eq_true rfl) dX7_steps_3 (fun q1 cA3 H2 hK hP hD hS => ?_)
  have hP : va_P (dC, dI) vwCl [(q1, .inl (cA3, 1024, .inl (fun _ => 0)))] H2 := hP
  have hD : va_D A [(q1, .inl (cA3, 1024, .inl (fun _ => 0)))] := hD
  refine lv_astore_n (lv' := [(3, .ref q1), (0, .ref mr), (1, .int 2), (2, .int 0)]) hx hb dX7_steps_5 rfl hl (by decide) rfl (fun ls hl => ?_)
  refine lv_iconst (v := 0) hx hb dX7_steps_6 (by decide) ?_
  refine lv_istore (lv' := [(4, .int 0), (3, .ref q1), (0, .ref mr), (1, .int 2), (2, .int 0)]) hx hb dX7_steps_7 hl (by decide) rfl (fun ls hl => ?_)
  refine zo_loop (fun (i : Nat) (H : Heap) (locs : List Loc) (ls : Array Slot) => ∃ (fa : Nat → Int32), (∀ j : Nat, j < i → fa j = -1) ∧ va_P (dC, dI) vwCl [(q1, .inl (cA3, 1024, .inl fa))] H ∧ va_D A [(q1, .inl (cA3, 1024, .inl fa))] ∧ va_S A s.heap H locs ∧ lv_has ls 7 [(4, .int (nI i)), (3, .ref q1), (0, .ref mr), (1, .int 2), (2, .int 0)]) 1024 ⟨(fun _ => 0), fun j h => absurd h (Nat.not_lt_zero j), hP, hD, hS, lv_sub hl [0, 1, 2, 3, 4] rfl⟩ (fun i hi ih H locs ls hI => ?_) (fun H locs ls hI => ?_)
  · obtain ⟨fa, hf, hP, hD, hS, hl⟩ := hI
    refine lv_iload hx hb dX7_steps_9 (lv_at hl 0 rfl) ?_
    refine lv_aload_n hx hb dX7_steps_11 rfl (lv_at hl 1 rfl) ?_
    refine va_alen hx hb hK hP 0 14 rfl rfl (v := 1024) (by exact rfl) dX7_steps_12 ?_
    refine lv_icmp_ge (tgt := 27) hx hb dX7_steps_13 (by decide) (fun h => absurd h (nI_ge (b := 1024) hi (by decide))) (fun _ => ?_)
    refine lv_aload_n hx hb dX7_steps_16 rfl (lv_at hl 1 rfl) ?_
    refine lv_iload hx hb dX7_steps_17 (lv_at hl 0 rfl) ?_
    refine lv_iconst (v := (-1)) hx hb dX7_steps_19 (by decide) ?_
    refine va_iast hx hb hK hP hD hS 0 14 rfl rfl (vp_in_nI (by omega) (by decide)) dX7_steps_20 (fun H5 locs hP hD hS => ?_)
    rw [nI_clamp (n := i) (by omega)] at hP hD
    obtain ⟨f6, ef6⟩ : ∃ z : Nat → Int32, z = upd fa (i) (-1) := ⟨_, rfl⟩
    rw [← ef6] at hP hD
    have hP : va_P (dC, dI) vwCl [(q1, .inl (cA3, 1024, .inl f6))] H5 := hP
    have hD : va_D A [(q1, .inl (cA3, 1024, .inl f6))] := hD
    refine lv_iinc (v := (nI (i + 1))) (lv' := [(4, .int (nI (i + 1))), (3, .ref q1), (0, .ref mr), (1, .int 2), (2, .int 0)]) hx hb dX7_steps_21 hl (k := 0) rfl (nI_1 i) (by decide) rfl (fun ls hl => ?_)
    refine lv_goto (tgt := 9) hx hb dX7_steps_24 (by decide) ?_
    exact ih _ _ _ ⟨f6, by rw [ef6]; exact q_fill hf, hP, hD, hS, lv_sub hl [0, 1, 2, 3, 4] rfl⟩
  · obtain ⟨fa, hf, hP, hD, hS, hl⟩ := hI
    have hg0 : ∀ j : Nat, 3 < j → j < 1024 → fa j = -1 := fun j _ h => hf j h
    refine lv_iload hx hb dX7_steps_9 (lv_at hl 0 rfl) ?_
    refine lv_aload_n hx hb dX7_steps_11 rfl (lv_at hl 1 rfl) ?_
    refine va_alen hx hb hK hP 0 14 rfl rfl (v := 1024) (by exact rfl) dX7_steps_12 ?_
    refine lv_icmp_ge (tgt := 27) hx hb dX7_steps_13 (by decide) (fun _ => ?_) (fun h => absurd (nI_le (a := 1024) (b := 1024) (Nat.le_refl _) (by decide)) h)
    refine lv_aload_n hx hb dX7_steps_27 rfl (lv_at hl 1 rfl) ?_
    refine lv_iload_n hx hb dX7_steps_28 rfl (lv_at hl 3 rfl) ?_
    refine lv_iconst (v := 0) hx hb dX7_steps_29 (by decide) ?_
    refine va_iast hx hb hK hP hD hS 0 14 rfl rfl (by unfold vp_in; decide) dX7_steps_30 (fun H7 locs hP hD hS => ?_)
    obtain ⟨f8, ef8⟩ : ∃ z : Nat → Int32, z = upd fa 2 0 := ⟨_, rfl⟩
    have k9 : f8 0 = (-1) := by rw [ef8]; exact (pk_un (by decide)).trans ((hf 0 (by decide)))
    have k10 : f8 1 = (-1) := by rw [ef8]; exact (pk_un (by decide)).trans ((hf 1 (by decide)))
    have k11 : f8 3 = (-1) := by rw [ef8]; exact (pk_un (by decide)).trans ((hf 3 (by decide)))
    have k12 : f8 2 = 0 := by rw [ef8]; exact pk_us
    have hP : va_P (dC, dI) vwCl [(q1, .inl (cA3, 1024, .inl f8))] H7 := by rw [ef8]; exact hP
    have hD : va_D A [(q1, .inl (cA3, 1024, .inl f8))] := by rw [ef8]; exact hD
    have hg13 : ∀ j : Nat, 3 < j → j < 1024 → f8 j = -1 := fun j h1 h2 => by rw [ef8]; exact (pk_un (by omega)).trans (hg0 j h1 h2)
    refine lv_iload_n hx hb dX7_steps_31 rfl (lv_at hl 3 rfl) ?_
    refine lv_istore (lv' := [(4, .int 2), (3, .ref q1), (0, .ref mr), (1, .int 2), (2, .int 0)]) hx hb dX7_steps_32 hl (by decide) rfl (fun ls hl => ?_)
    refine lv_iload hx hb dX7_steps_34 (lv_at hl 0 rfl) ?_
    refine lv_aload_n hx hb dX7_steps_36 rfl (lv_at hl 1 rfl) ?_
    refine va_alen hx hb hK hP 0 14 rfl rfl (v := 1024) (by exact rfl) dX7_steps_37 ?_
    refine lv_icmp_ge (tgt := 109) hx hb dX7_steps_38 (by decide) (fun h => absurd h (by decide)) (fun _ => ?_)
    refine lv_aload_n hx hb dX7_steps_41 rfl (lv_at hl 1 rfl) ?_
    refine lv_iload hx hb dX7_steps_42 (lv_at hl 0 rfl) ?_
    refine va_iald hx hb hK hP 0 14 rfl rfl (by unfold vp_in; decide) dX7_steps_44 ?_
    refine zo_i (v := 0) (by rw [show Int32.toNatClampNeg 2 = 2 from by decide]; exact k12) ?_
    refine lv_iconst (v := (-1)) hx hb dX7_steps_45 (by decide) ?_
    refine lv_icmp_ne (tgt := 52) hx hb dX7_steps_46 (by decide) (fun _ => ?_) (fun h => absurd h (by decide))
    refine lv_aload_n hx hb dX7_steps_52 rfl (lv_at hl 2 rfl) ?_
    refine lv_iload hx hb dX7_steps_53 (lv_at hl 0 rfl) ?_
    refine lv_iload_n hx hb dX7_steps_55 rfl (lv_at hl 4 rfl) ?_
    have hPr := ((zo_R hR0 hS hAr)).sub (ws' := [(mr, .inr (9, [.ref ll, .ref lt, .ref lp, .int 0, .int 0, .int 0, .int 0, .int 0, .int 0, .int 0, .int (-1), .int 0, .int 0, .int 0])), (ll, .inr (1, [.int 2, .ref ola, .int 2])), (ola, .inl (cOl, 10, .inr (.inr (.inr (.inr fol))))), (la0, .inl (cA0, 10, .inl fa0)), (la1, .inl (cA1, 10, .inl fa1)), (lt, .inr (1, [.int 10, .ref ota, .int 10])), (ota, .inl (cOt, 10, .inr (.inr (.inr (.inr fot))))), (ta0, .inl (cB0, 5, .inl fb0)), (ta1, .inl (cB1, 5, .inl fb1)), (ta2, .inl (cB2, 5, .inl fb2)), (ta3, .inl (cB3, 5, .inl fb3)), (ta4, .inl (cB4, 5, .inl fb4)), (ta5, .inl (cB5, 5, .inl fb5)), (ta6, .inl (cB6, 5, .inl fb6)), (ta7, .inl (cB7, 5, .inl fb7)), (ta8, .inl (cB8, 5, .inl fb8)), (ta9, .inl (cB9, 5, .inl fb9))]) [0, 1, 2, 3, 4, 5, 6, 7, 8, 9, 10, 11, 12, 13, 14, 15, 16] rfl
    have hPc := hP.sub (ws' := []) [] rfl
    have hDc := hD.sub (ws' := []) [] (by decide) rfl
    have hKc := hK.sub (tys' := [(cOl, .object "java/lang/Object"), (cA0, .int), (cA1, .int), (cOt, .object "java/lang/Object"), (cB0, .int), (cB1, .int), (cB2, .int), (cB3, .int), (cB4, .int), (cB5, .int), (cB6, .int), (cB7, .int), (cB8, .int), (cB9, .int)]) [0, 1, 2, 3, 4, 5, 6, 7, 8, 9, 10, 11, 12, 13] rfl
    have hFc := va_free (wc := []) hD hS hA [] rfl
    refine va_calli (va_runV (As := [.int 2, .int 0]) (rest := []) ⟨hx, hb, hml, hown, hts⟩ (cz_Qnext7_2 l dC dI ed H7.size mr ll lt lp ola cOl fol la0 la1 cA0 fa0 cA1 fa1 ota cOt fot ta0 ta1 ta2 ta3 ta4 ta5 ta6 ta7 ta8 ta9 cB0 fb0 y0 cB1 fb1 y1 cB2 fb2 y2 cB3 fb3 y3 cB4 fb4 y4 cB5 fb5 y5 cB6 fb6 y6 cB7 fb7 y7 cB8 fb8 y8 cB9 fb9 y9 hol0 hol1 ha0_0 ha0_1 ha0_8 ha1_0 ha1_1 ha1_8 hot0 hot1 hot2 hot3 hot4 hot5 hot6 hot7 hot8 hot9 hb0_0 hb0_3 hb1_0 hb1_3 hb2_0 hb2_3 hb3_0 hb3_3 hb4_0 hb4_3 hb5_0 hb5_3 hb6_0 hb6_3 hb7_0 hb7_3 hb8_0 hb8_3 hb9_0 hb9_3) (cwV 2 hts gX7_steps_X7_next rfl rfl rfl (by decide +kernel) ⟨Nat.le_of_ble_eq_true rfl, Nat.le_of_ble_eq_true rfl⟩) ⟨zb_blind, va_recv hK (zo_R hR0 hS hAr) (ci := 9) (q0 := 0) rfl rfl, fun U hU hW => ⟨rfl, zb_mk hU hW hPr hPc hKc hDc hN hH hS hFc zx_e⟩⟩ rfl rfl hl.1 rfl (lv_room (Nat.le_of_ble_eq_true rfl)) dX7_steps_56 ⟨Nat.le_of_ble_eq_true rfl, Nat.le_of_ble_eq_true rfl⟩) hS (fun q _ h => hFc q h) hFc (fun r15 u t H14 locs ht hvm hw hB hz1 hk1 hS => ?_)
    obtain rfl : r15 = 1 := hw
    have hP := zo_K hP hk1
    refine lv_istore (lv' := [(5, .int 1), (4, .int 2), (3, .ref q1), (0, .ref mr), (1, .int 2), (2, .int 0)]) hx hb dX7_steps_59 hl (by decide) rfl (fun ls hl => ?_)
    refine lv_iconst (v := 0) hx hb dX7_steps_61 (by decide) ?_
    refine lv_istore (lv' := [(6, .int 0), (5, .int 1), (4, .int 2), (3, .ref q1), (0, .ref mr), (1, .int 2), (2, .int 0)]) hx hb dX7_steps_62 hl (by decide) rfl (fun ls hl => ?_)
    refine lv_iload hx hb dX7_steps_64 (lv_at hl 0 rfl) ?_
    refine lv_bipush (v := 10) hx hb dX7_steps_66 (by decide) ?_
    refine lv_icmp_ge (tgt := 103) hx hb dX7_steps_68 (by decide) (fun h => absurd h (by decide)) (fun _ => ?_)
    refine lv_iload hx hb dX7_steps_71 (lv_at hl 1 rfl) ?_
    refine lv_iload hx hb dX7_steps_73 (lv_at hl 0 rfl) ?_
    refine lv_ishr hx hb dX7_steps_75 ?_
    refine zo_i (v := 1) (by decide) ?_
    refine lv_iconst (v := 1) hx hb dX7_steps_76 (by decide) ?_
    refine lv_iand hx hb dX7_steps_77 ?_
    refine zo_i (v := 1) (by decide) ?_
    refine lv_iconst (v := 1) hx hb dX7_steps_78 (by decide) ?_
    refine lv_icmp_ne (tgt := 97) hx hb dX7_steps_79 (by decide) (fun h => absurd h (by decide)) (fun _ => ?_)
    refine lv_aload_n hx hb dX7_steps_82 rfl (lv_at hl 3 rfl) ?_
    refine lv_iload hx hb dX7_steps_83 (lv_at hl 2 rfl) ?_
    refine lv_iconst (v := 1) hx hb dX7_steps_85 (by decide) ?_
    refine lv_iload hx hb dX7_steps_86 (lv_at hl 0 rfl) ?_
    refine lv_ishl hx hb dX7_steps_88 ?_
    refine zo_i (v := 1) (by decide) ?_
    refine lv_ior hx hb dX7_steps_89 ?_
    refine zo_i (v := 3) (by decide) ?_
    refine lv_aload_n hx hb dX7_steps_90 rfl (lv_at hl 3 rfl) ?_
    refine lv_iload hx hb dX7_steps_91 (lv_at hl 2 rfl) ?_
    refine va_iald hx hb hK hP 0 14 rfl rfl (by unfold vp_in; decide) dX7_steps_93 ?_
    refine zo_i (v := 0) (by rw [show Int32.toNatClampNeg 2 = 2 from by decide]; exact k12) ?_
    refine lv_iconst (v := 1) hx hb dX7_steps_94 (by decide) ?_
    refine lv_iadd hx hb dX7_steps_95 ?_
    refine zo_i (v := 1) (by decide) ?_
    refine va_iast hx hb hK hP hD hS 0 14 rfl rfl (by unfold vp_in; decide) dX7_steps_96 (fun H16 locs hP hD hS => ?_)
    obtain ⟨f17, ef17⟩ : ∃ z : Nat → Int32, z = upd f8 3 1 := ⟨_, rfl⟩
    have k18 : f17 0 = (-1) := by rw [ef17]; exact (pk_un (by decide)).trans (k9)
    have k19 : f17 1 = (-1) := by rw [ef17]; exact (pk_un (by decide)).trans (k10)
    have k20 : f17 2 = 0 := by rw [ef17]; exact (pk_un (by decide)).trans (k12)
    have k21 : f17 3 = 1 := by rw [ef17]; exact pk_us
    have hP : va_P (dC, dI) vwCl [(q1, .inl (cA3, 1024, .inl f17))] H16 := by rw [ef17]; exact hP
    have hD : va_D A [(q1, .inl (cA3, 1024, .inl f17))] := by rw [ef17]; exact hD
    have hg22 : ∀ j : Nat, 3 < j → j < 1024 → f17 j = -1 := fun j h1 h2 => by rw [ef17]; exact (pk_un (by omega)).trans (hg13 j h1 h2)
    refine lv_iinc (v := 1) (lv' := [(6, .int 1), (5, .int 1), (4, .int 2), (3, .ref q1), (0, .ref mr), (1, .int 2), (2, .int 0)]) hx hb dX7_steps_97 hl (k := 0) rfl (by decide) (by decide) rfl (fun ls hl => ?_)
    refine lv_goto (tgt := 64) hx hb dX7_steps_100 (by decide) ?_
    refine lv_iload hx hb dX7_steps_64 (lv_at hl 0 rfl) ?_
    refine lv_bipush (v := 10) hx hb dX7_steps_66 (by decide) ?_
    refine lv_icmp_ge (tgt := 103) hx hb dX7_steps_68 (by decide) (fun h => absurd h (by decide)) (fun _ => ?_)
    refine lv_iload hx hb dX7_steps_71 (lv_at hl 1 rfl) ?_
    refine lv_iload hx hb dX7_steps_73 (lv_at hl 0 rfl) ?_
    refine lv_ishr hx hb dX7_steps_75 ?_
    refine zo_i (v := 0) (by decide) ?_
    refine lv_iconst (v := 1) hx hb dX7_steps_76 (by decide) ?_
    refine lv_iand hx hb dX7_steps_77 ?_
    refine zo_i (v := 0) q_0and ?_
    refine lv_iconst (v := 1) hx hb dX7_steps_78 (by decide) ?_
    refine lv_icmp_ne (tgt := 97) hx hb dX7_steps_79 (by decide) (fun _ => ?_) (fun h => absurd h (by decide))
    refine lv_iinc (v := 2) (lv' := [(6, .int 2), (5, .int 1), (4, .int 2), (3, .ref q1), (0, .ref mr), (1, .int 2), (2, .int 0)]) hx hb dX7_steps_97 hl (k := 0) rfl (by decide) (by decide) rfl (fun ls hl => ?_)
    refine lv_goto (tgt := 64) hx hb dX7_steps_100 (by decide) ?_
    refine lv_iload hx hb dX7_steps_64 (lv_at hl 0 rfl) ?_
    refine lv_bipush (v := 10) hx hb dX7_steps_66 (by decide) ?_
    refine lv_icmp_ge (tgt := 103) hx hb dX7_steps_68 (by decide) (fun h => absurd h (by decide)) (fun _ => ?_)
    refine lv_iload hx hb dX7_steps_71 (lv_at hl 1 rfl) ?_
    refine lv_iload hx hb dX7_steps_73 (lv_at hl 0 rfl) ?_
    refine lv_ishr hx hb dX7_steps_75 ?_
    refine zo_i (v := 0) (by decide) ?_
    refine lv_iconst (v := 1) hx hb dX7_steps_76 (by decide) ?_
    refine lv_iand hx hb dX7_steps_77 ?_
    refine zo_i (v := 0) q_0and ?_
    refine lv_iconst (v := 1) hx hb dX7_steps_78 (by decide) ?_
    refine lv_icmp_ne (tgt := 97) hx hb dX7_steps_79 (by decide) (fun _ => ?_) (fun h => absurd h (by decide))
    refine lv_iinc (v := 3) (lv' := [(6, .int 3), (5, .int 1), (4, .int 2), (3, .ref q1), (0, .ref mr), (1, .int 2), (2, .int 0)]) hx hb dX7_steps_97 hl (k := 0) rfl (by decide) (by decide) rfl (fun ls hl => ?_)
    refine lv_goto (tgt := 64) hx hb dX7_steps_100 (by decide) ?_
    refine lv_iload hx hb dX7_steps_64 (lv_at hl 0 rfl) ?_
    refine lv_bipush (v := 10) hx hb dX7_steps_66 (by decide) ?_
    refine lv_icmp_ge (tgt := 103) hx hb dX7_steps_68 (by decide) (fun h => absurd h (by decide)) (fun _ => ?_)
    refine lv_iload hx hb dX7_steps_71 (lv_at hl 1 rfl) ?_
    refine lv_iload hx hb dX7_steps_73 (lv_at hl 0 rfl) ?_
    refine lv_ishr hx hb dX7_steps_75 ?_
    refine zo_i (v := 0) (by decide) ?_
    refine lv_iconst (v := 1) hx hb dX7_steps_76 (by decide) ?_
    refine lv_iand hx hb dX7_steps_77 ?_
    refine zo_i (v := 0) q_0and ?_
    refine lv_iconst (v := 1) hx hb dX7_steps_78 (by decide) ?_
    refine lv_icmp_ne (tgt := 97) hx hb dX7_steps_79 (by decide) (fun _ => ?_) (fun h => absurd h (by decide))
    refine lv_iinc (v := 4) (lv' := [(6, .int 4), (5, .int 1), (4, .int 2), (3, .ref q1), (0, .ref mr), (1, .int 2), (2, .int 0)]) hx hb dX7_steps_97 hl (k := 0) rfl (by decide) (by decide) rfl (fun ls hl => ?_)
    refine lv_goto (tgt := 64) hx hb dX7_steps_100 (by decide) ?_
    refine lv_iload hx hb dX7_steps_64 (lv_at hl 0 rfl) ?_
    refine lv_bipush (v := 10) hx hb dX7_steps_66 (by decide) ?_
    refine lv_icmp_ge (tgt := 103) hx hb dX7_steps_68 (by decide) (fun h => absurd h (by decide)) (fun _ => ?_)
    refine lv_iload hx hb dX7_steps_71 (lv_at hl 1 rfl) ?_
    refine lv_iload hx hb dX7_steps_73 (lv_at hl 0 rfl) ?_
    refine lv_ishr hx hb dX7_steps_75 ?_
    refine zo_i (v := 0) (by decide) ?_
    refine lv_iconst (v := 1) hx hb dX7_steps_76 (by decide) ?_
    refine lv_iand hx hb dX7_steps_77 ?_
    refine zo_i (v := 0) q_0and ?_
    refine lv_iconst (v := 1) hx hb dX7_steps_78 (by decide) ?_
    refine lv_icmp_ne (tgt := 97) hx hb dX7_steps_79 (by decide) (fun _ => ?_) (fun h => absurd h (by decide))
    refine lv_iinc (v := 5) (lv' := [(6, .int 5), (5, .int 1), (4, .int 2), (3, .ref q1), (0, .ref mr), (1, .int 2), (2, .int 0)]) hx hb dX7_steps_97 hl (k := 0) rfl (by decide) (by decide) rfl (fun ls hl => ?_)
    refine lv_goto (tgt := 64) hx hb dX7_steps_100 (by decide) ?_
    refine lv_iload hx hb dX7_steps_64 (lv_at hl 0 rfl) ?_
    refine lv_bipush (v := 10) hx hb dX7_steps_66 (by decide) ?_
    refine lv_icmp_ge (tgt := 103) hx hb dX7_steps_68 (by decide) (fun h => absurd h (by decide)) (fun _ => ?_)
    refine lv_iload hx hb dX7_steps_71 (lv_at hl 1 rfl) ?_
    refine lv_iload hx hb dX7_steps_73 (lv_at hl 0 rfl) ?_
    refine lv_ishr hx hb dX7_steps_75 ?_
    refine zo_i (v := 0) (by decide) ?_
    refine lv_iconst (v := 1) hx hb dX7_steps_76 (by decide) ?_
    refine lv_iand hx hb dX7_steps_77 ?_
    refine zo_i (v := 0) q_0and ?_
    refine lv_iconst (v := 1) hx hb dX7_steps_78 (by decide) ?_
    refine lv_icmp_ne (tgt := 97) hx hb dX7_steps_79 (by decide) (fun _ => ?_) (fun h => absurd h (by decide))
    refine lv_iinc (v := 6) (lv' := [(6, .int 6), (5, .int 1), (4, .int 2), (3, .ref q1), (0, .ref mr), (1, .int 2), (2, .int 0)]) hx hb dX7_steps_97 hl (k := 0) rfl (by decide) (by decide) rfl (fun ls hl => ?_)
    refine lv_goto (tgt := 64) hx hb dX7_steps_100 (by decide) ?_
    refine lv_iload hx hb dX7_steps_64 (lv_at hl 0 rfl) ?_
    refine lv_bipush (v := 10) hx hb dX7_steps_66 (by decide) ?_
    refine lv_icmp_ge (tgt := 103) hx hb dX7_steps_68 (by decide) (fun h => absurd h (by decide)) (fun _ => ?_)
    refine lv_iload hx hb dX7_steps_71 (lv_at hl 1 rfl) ?_
    refine lv_iload hx hb dX7_steps_73 (lv_at hl 0 rfl) ?_
    refine lv_ishr hx hb dX7_steps_75 ?_
    refine zo_i (v := 0) (by decide) ?_
    refine lv_iconst (v := 1) hx hb dX7_steps_76 (by decide) ?_
    refine lv_iand hx hb dX7_steps_77 ?_
    refine zo_i (v := 0) q_0and ?_
    refine lv_iconst (v := 1) hx hb dX7_steps_78 (by decide) ?_
    refine lv_icmp_ne (tgt := 97) hx hb dX7_steps_79 (by decide) (fun _ => ?_) (fun h => absurd h (by decide))
    refine lv_iinc (v := 7) (lv' := [(6, .int 7), (5, .int 1), (4, .int 2), (3, .ref q1), (0, .ref mr), (1, .int 2), (2, .int 0)]) hx hb dX7_steps_97 hl (k := 0) rfl (by decide) (by decide) rfl (fun ls hl => ?_)
    refine lv_goto (tgt := 64) hx hb dX7_steps_100 (by decide) ?_
    refine lv_iload hx hb dX7_steps_64 (lv_at hl 0 rfl) ?_
    refine lv_bipush (v := 10) hx hb dX7_steps_66 (by decide) ?_
    refine lv_icmp_ge (tgt := 103) hx hb dX7_steps_68 (by decide) (fun h => absurd h (by decide)) (fun _ => ?_)
    refine lv_iload hx hb dX7_steps_71 (lv_at hl 1 rfl) ?_
    refine lv_iload hx hb dX7_steps_73 (lv_at hl 0 rfl) ?_
    refine lv_ishr hx hb dX7_steps_75 ?_
    refine zo_i (v := 0) (by decide) ?_
    refine lv_iconst (v := 1) hx hb dX7_steps_76 (by decide) ?_
    refine lv_iand hx hb dX7_steps_77 ?_
    refine zo_i (v := 0) q_0and ?_
    refine lv_iconst (v := 1) hx hb dX7_steps_78 (by decide) ?_
    refine lv_icmp_ne (tgt := 97) hx hb dX7_steps_79 (by decide) (fun _ => ?_) (fun h => absurd h (by decide))
    refine lv_iinc (v := 8) (lv' := [(6, .int 8), (5, .int 1), (4, .int 2), (3, .ref q1), (0, .ref mr), (1, .int 2), (2, .int 0)]) hx hb dX7_steps_97 hl (k := 0) rfl (by decide) (by decide) rfl (fun ls hl => ?_)
    refine lv_goto (tgt := 64) hx hb dX7_steps_100 (by decide) ?_
    refine lv_iload hx hb dX7_steps_64 (lv_at hl 0 rfl) ?_
    refine lv_bipush (v := 10) hx hb dX7_steps_66 (by decide) ?_
    refine lv_icmp_ge (tgt := 103) hx hb dX7_steps_68 (by decide) (fun h => absurd h (by decide)) (fun _ => ?_)
    refine lv_iload hx hb dX7_steps_71 (lv_at hl 1 rfl) ?_
    refine lv_iload hx hb dX7_steps_73 (lv_at hl 0 rfl) ?_
    refine lv_ishr hx hb dX7_steps_75 ?_
    refine zo_i (v := 0) (by decide) ?_
    refine lv_iconst (v := 1) hx hb dX7_steps_76 (by decide) ?_
    refine lv_iand hx hb dX7_steps_77 ?_
    refine zo_i (v := 0) q_0and ?_
    refine lv_iconst (v := 1) hx hb dX7_steps_78 (by decide) ?_
    refine lv_icmp_ne (tgt := 97) hx hb dX7_steps_79 (by decide) (fun _ => ?_) (fun h => absurd h (by decide))
    refine lv_iinc (v := 9) (lv' := [(6, .int 9), (5, .int 1), (4, .int 2), (3, .ref q1), (0, .ref mr), (1, .int 2), (2, .int 0)]) hx hb dX7_steps_97 hl (k := 0) rfl (by decide) (by decide) rfl (fun ls hl => ?_)
    refine lv_goto (tgt := 64) hx hb dX7_steps_100 (by decide) ?_
    refine lv_iload hx hb dX7_steps_64 (lv_at hl 0 rfl) ?_
    refine lv_bipush (v := 10) hx hb dX7_steps_66 (by decide) ?_
    refine lv_icmp_ge (tgt := 103) hx hb dX7_steps_68 (by decide) (fun h => absurd h (by decide)) (fun _ => ?_)
    refine lv_iload hx hb dX7_steps_71 (lv_at hl 1 rfl) ?_
    refine lv_iload hx hb dX7_steps_73 (lv_at hl 0 rfl) ?_
    refine lv_ishr hx hb dX7_steps_75 ?_
    refine zo_i (v := 0) (by decide) ?_
    refine lv_iconst (v := 1) hx hb dX7_steps_76 (by decide) ?_
    refine lv_iand hx hb dX7_steps_77 ?_
    refine zo_i (v := 0) q_0and ?_
    refine lv_iconst (v := 1) hx hb dX7_steps_78 (by decide) ?_
    refine lv_icmp_ne (tgt := 97) hx hb dX7_steps_79 (by decide) (fun _ => ?_) (fun h => absurd h (by decide))
    refine lv_iinc (v := 10) (lv' := [(6, .int 10), (5, .int 1), (4, .int 2), (3, .ref q1), (0, .ref mr), (1, .int 2), (2, .int 0)]) hx hb dX7_steps_97 hl (k := 0) rfl (by decide) (by decide) rfl (fun ls hl => ?_)
    refine lv_goto (tgt := 64) hx hb dX7_steps_100 (by decide) ?_
    refine lv_iload hx hb dX7_steps_64 (lv_at hl 0 rfl) ?_
    refine lv_bipush (v := 10) hx hb dX7_steps_66 (by decide) ?_
    refine lv_icmp_ge (tgt := 103) hx hb dX7_steps_68 (by decide) (fun _ => ?_) (fun h => absurd h (by decide))
    refine lv_iinc (v := 3) (lv' := [(4, .int 3), (6, .int 10), (5, .int 1), (3, .ref q1), (0, .ref mr), (1, .int 2), (2, .int 0)]) hx hb dX7_steps_103 hl (k := 2) rfl (by decide) (by decide) rfl (fun ls hl => ?_)
    refine lv_goto (tgt := 34) hx hb dX7_steps_106 (by decide) ?_
    refine lv_iload hx hb dX7_steps_34 (lv_at hl 0 rfl) ?_
    refine lv_aload_n hx hb dX7_steps_36 rfl (lv_at hl 3 rfl) ?_
    refine va_alen hx hb hK hP 0 14 rfl rfl (v := 1024) (by exact rfl) dX7_steps_37 ?_
    refine lv_icmp_ge (tgt := 109) hx hb dX7_steps_38 (by decide) (fun h => absurd h (by decide)) (fun _ => ?_)
    refine lv_aload_n hx hb dX7_steps_41 rfl (lv_at hl 3 rfl) ?_
    refine lv_iload hx hb dX7_steps_42 (lv_at hl 0 rfl) ?_
    refine va_iald hx hb hK hP 0 14 rfl rfl (by unfold vp_in; decide) dX7_steps_44 ?_
    refine zo_i (v := 1) (by rw [show Int32.toNatClampNeg 3 = 3 from by decide]; exact k21) ?_
    refine lv_iconst (v := (-1)) hx hb dX7_steps_45 (by decide) ?_
    refine lv_icmp_ne (tgt := 52) hx hb dX7_steps_46 (by decide) (fun _ => ?_) (fun h => absurd h (by decide))
    refine lv_aload_n hx hb dX7_steps_52 rfl (lv_at hl 4 rfl) ?_
    refine lv_iload hx hb dX7_steps_53 (lv_at hl 0 rfl) ?_
    refine lv_iload_n hx hb dX7_steps_55 rfl (lv_at hl 6 rfl) ?_
    have hPr := ((zo_R hR0 hS hAr)).sub (ws' := [(mr, .inr (9, [.ref ll, .ref lt, .ref lp, .int 0, .int 0, .int 0, .int 0, .int 0, .int 0, .int 0, .int (-1), .int 0, .int 0, .int 0])), (ll, .inr (1, [.int 2, .ref ola, .int 2])), (ola, .inl (cOl, 10, .inr (.inr (.inr (.inr fol))))), (la0, .inl (cA0, 10, .inl fa0)), (la1, .inl (cA1, 10, .inl fa1)), (lt, .inr (1, [.int 10, .ref ota, .int 10])), (ota, .inl (cOt, 10, .inr (.inr (.inr (.inr fot))))), (ta0, .inl (cB0, 5, .inl fb0)), (ta1, .inl (cB1, 5, .inl fb1)), (ta2, .inl (cB2, 5, .inl fb2)), (ta3, .inl (cB3, 5, .inl fb3)), (ta4, .inl (cB4, 5, .inl fb4)), (ta5, .inl (cB5, 5, .inl fb5)), (ta6, .inl (cB6, 5, .inl fb6)), (ta7, .inl (cB7, 5, .inl fb7)), (ta8, .inl (cB8, 5, .inl fb8)), (ta9, .inl (cB9, 5, .inl fb9))]) [0, 1, 2, 3, 4, 5, 6, 7, 8, 9, 10, 11, 12, 13, 14, 15, 16] rfl
    have hPc := hP.sub (ws' := []) [] rfl
    have hDc := hD.sub (ws' := []) [] (by decide) rfl
    have hKc := hK.sub (tys' := [(cOl, .object "java/lang/Object"), (cA0, .int), (cA1, .int), (cOt, .object "java/lang/Object"), (cB0, .int), (cB1, .int), (cB2, .int), (cB3, .int), (cB4, .int), (cB5, .int), (cB6, .int), (cB7, .int), (cB8, .int), (cB9, .int)]) [0, 1, 2, 3, 4, 5, 6, 7, 8, 9, 10, 11, 12, 13] rfl
    have hFc := va_free (wc := []) hD hS hA [] rfl
    refine va_calli (va_runV (As := [.int 3, .int 0]) (rest := []) ⟨hx, hb, hml, hown, hts⟩ (cz_Qnext7_3 l dC dI ed H16.size mr ll lt lp ola cOl fol la0 la1 cA0 fa0 cA1 fa1 ota cOt fot ta0 ta1 ta2 ta3 ta4 ta5 ta6 ta7 ta8 ta9 cB0 fb0 y0 cB1 fb1 y1 cB2 fb2 y2 cB3 fb3 y3 cB4 fb4 y4 cB5 fb5 y5 cB6 fb6 y6 cB7 fb7 y7 cB8 fb8 y8 cB9 fb9 y9 hol0 hol1 ha0_0 ha0_1 ha0_8 ha1_0 ha1_1 ha1_8 hot0 hot1 hot2 hot3 hot4 hot5 hot6 hot7 hot8 hot9 hb0_0 hb0_3 hb1_0 hb1_3 hb2_0 hb2_3 hb3_0 hb3_3 hb4_0 hb4_3 hb5_0 hb5_3 hb6_0 hb6_3 hb7_0 hb7_3 hb8_0 hb8_3 hb9_0 hb9_3) (cwV 2 hts gX7_steps_X7_next rfl rfl rfl (by decide +kernel) ⟨Nat.le_of_ble_eq_true rfl, Nat.le_of_ble_eq_true rfl⟩) ⟨zb_blind, va_recv hK (zo_R hR0 hS hAr) (ci := 9) (q0 := 0) rfl rfl, fun U hU hW => ⟨rfl, zb_mk hU hW hPr hPc hKc hDc hN hH hS hFc zx_e⟩⟩ rfl rfl hl.1 rfl (lv_room (Nat.le_of_ble_eq_true rfl)) dX7_steps_56 ⟨Nat.le_of_ble_eq_true rfl, Nat.le_of_ble_eq_true rfl⟩) hS (fun q _ h => hFc q h) hFc (fun r24 u t H23 locs ht hvm hw hB hz1 hk1 hS => ?_)
    obtain rfl : r24 = 0 := hw
    have hP := zo_K hP hk1
    refine lv_istore (lv' := [(5, .int 0), (4, .int 3), (6, .int 10), (3, .ref q1), (0, .ref mr), (1, .int 2), (2, .int 0)]) hx hb dX7_steps_59 hl (by decide) rfl (fun ls hl => ?_)
    refine lv_iconst (v := 0) hx hb dX7_steps_61 (by decide) ?_
    refine lv_istore (lv' := [(6, .int 0), (5, .int 0), (4, .int 3), (3, .ref q1), (0, .ref mr), (1, .int 2), (2, .int 0)]) hx hb dX7_steps_62 hl (by decide) rfl (fun ls hl => ?_)
    refine lv_iload hx hb dX7_steps_64 (lv_at hl 0 rfl) ?_
    refine lv_bipush (v := 10) hx hb dX7_steps_66 (by decide) ?_
    refine lv_icmp_ge (tgt := 103) hx hb dX7_steps_68 (by decide) (fun h => absurd h (by decide)) (fun _ => ?_)
    refine lv_iload hx hb dX7_steps_71 (lv_at hl 1 rfl) ?_
    refine lv_iload hx hb dX7_steps_73 (lv_at hl 0 rfl) ?_
    refine lv_ishr hx hb dX7_steps_75 ?_
    refine zo_i (v := 0) (by decide) ?_
    refine lv_iconst (v := 1) hx hb dX7_steps_76 (by decide) ?_
    refine lv_iand hx hb dX7_steps_77 ?_
    refine zo_i (v := 0) q_0and ?_
    refine lv_iconst (v := 1) hx hb dX7_steps_78 (by decide) ?_
    refine lv_icmp_ne (tgt := 97) hx hb dX7_steps_79 (by decide) (fun _ => ?_) (fun h => absurd h (by decide))
    refine lv_iinc (v := 1) (lv' := [(6, .int 1), (5, .int 0), (4, .int 3), (3, .ref q1), (0, .ref mr), (1, .int 2), (2, .int 0)]) hx hb dX7_steps_97 hl (k := 0) rfl (by decide) (by decide) rfl (fun ls hl => ?_)
    refine lv_goto (tgt := 64) hx hb dX7_steps_100 (by decide) ?_
    refine lv_iload hx hb dX7_steps_64 (lv_at hl 0 rfl) ?_
    refine lv_bipush (v := 10) hx hb dX7_steps_66 (by decide) ?_
    refine lv_icmp_ge (tgt := 103) hx hb dX7_steps_68 (by decide) (fun h => absurd h (by decide)) (fun _ => ?_)
    refine lv_iload hx hb dX7_steps_71 (lv_at hl 1 rfl) ?_
    refine lv_iload hx hb dX7_steps_73 (lv_at hl 0 rfl) ?_
    refine lv_ishr hx hb dX7_steps_75 ?_
    refine zo_i (v := 0) (by decide) ?_
    refine lv_iconst (v := 1) hx hb dX7_steps_76 (by decide) ?_
    refine lv_iand hx hb dX7_steps_77 ?_
    refine zo_i (v := 0) q_0and ?_
    refine lv_iconst (v := 1) hx hb dX7_steps_78 (by decide) ?_
    refine lv_icmp_ne (tgt := 97) hx hb dX7_steps_79 (by decide) (fun _ => ?_) (fun h => absurd h (by decide))
    refine lv_iinc (v := 2) (lv' := [(6, .int 2), (5, .int 0), (4, .int 3), (3, .ref q1), (0, .ref mr), (1, .int 2), (2, .int 0)]) hx hb dX7_steps_97 hl (k := 0) rfl (by decide) (by decide) rfl (fun ls hl => ?_)
    refine lv_goto (tgt := 64) hx hb dX7_steps_100 (by decide) ?_
    refine lv_iload hx hb dX7_steps_64 (lv_at hl 0 rfl) ?_
    refine lv_bipush (v := 10) hx hb dX7_steps_66 (by decide) ?_
    refine lv_icmp_ge (tgt := 103) hx hb dX7_steps_68 (by decide) (fun h => absurd h (by decide)) (fun _ => ?_)
    refine lv_iload hx hb dX7_steps_71 (lv_at hl 1 rfl) ?_
    refine lv_iload hx hb dX7_steps_73 (lv_at hl 0 rfl) ?_
    refine lv_ishr hx hb dX7_steps_75 ?_
    refine zo_i (v := 0) (by decide) ?_
    refine lv_iconst (v := 1) hx hb dX7_steps_76 (by decide) ?_
    refine lv_iand hx hb dX7_steps_77 ?_
    refine zo_i (v := 0) q_0and ?_
    refine lv_iconst (v := 1) hx hb dX7_steps_78 (by decide) ?_
    refine lv_icmp_ne (tgt := 97) hx hb dX7_steps_79 (by decide) (fun _ => ?_) (fun h => absurd h (by decide))
    refine lv_iinc (v := 3) (lv' := [(6, .int 3), (5, .int 0), (4, .int 3), (3, .ref q1), (0, .ref mr), (1, .int 2), (2, .int 0)]) hx hb dX7_steps_97 hl (k := 0) rfl (by decide) (by decide) rfl (fun ls hl => ?_)
    refine lv_goto (tgt := 64) hx hb dX7_steps_100 (by decide) ?_
    refine lv_iload hx hb dX7_steps_64 (lv_at hl 0 rfl) ?_
    refine lv_bipush (v := 10) hx hb dX7_steps_66 (by decide) ?_
    refine lv_icmp_ge (tgt := 103) hx hb dX7_steps_68 (by decide) (fun h => absurd h (by decide)) (fun _ => ?_)
    refine lv_iload hx hb dX7_steps_71 (lv_at hl 1 rfl) ?_
    refine lv_iload hx hb dX7_steps_73 (lv_at hl 0 rfl) ?_
    refine lv_ishr hx hb dX7_steps_75 ?_
    refine zo_i (v := 0) (by decide) ?_
    refine lv_iconst (v := 1) hx hb dX7_steps_76 (by decide) ?_
    refine lv_iand hx hb dX7_steps_77 ?_
    refine zo_i (v := 0) q_0and ?_
    refine lv_iconst (v := 1) hx hb dX7_steps_78 (by decide) ?_
    refine lv_icmp_ne (tgt := 97) hx hb dX7_steps_79 (by decide) (fun _ => ?_) (fun h => absurd h (by decide))
    refine lv_iinc (v := 4) (lv' := [(6, .int 4), (5, .int 0), (4, .int 3), (3, .ref q1), (0, .ref mr), (1, .int 2), (2, .int 0)]) hx hb dX7_steps_97 hl (k := 0) rfl (by decide) (by decide) rfl (fun ls hl => ?_)
    refine lv_goto (tgt := 64) hx hb dX7_steps_100 (by decide) ?_
    refine lv_iload hx hb dX7_steps_64 (lv_at hl 0 rfl) ?_
    refine lv_bipush (v := 10) hx hb dX7_steps_66 (by decide) ?_
    refine lv_icmp_ge (tgt := 103) hx hb dX7_steps_68 (by decide) (fun h => absurd h (by decide)) (fun _ => ?_)
    refine lv_iload hx hb dX7_steps_71 (lv_at hl 1 rfl) ?_
    refine lv_iload hx hb dX7_steps_73 (lv_at hl 0 rfl) ?_
    refine lv_ishr hx hb dX7_steps_75 ?_
    refine zo_i (v := 0) (by decide) ?_
    refine lv_iconst (v := 1) hx hb dX7_steps_76 (by decide) ?_
    refine lv_iand hx hb dX7_steps_77 ?_
    refine zo_i (v := 0) q_0and ?_
    refine lv_iconst (v := 1) hx hb dX7_steps_78 (by decide) ?_
    refine lv_icmp_ne (tgt := 97) hx hb dX7_steps_79 (by decide) (fun _ => ?_) (fun h => absurd h (by decide))
    refine lv_iinc (v := 5) (lv' := [(6, .int 5), (5, .int 0), (4, .int 3), (3, .ref q1), (0, .ref mr), (1, .int 2), (2, .int 0)]) hx hb dX7_steps_97 hl (k := 0) rfl (by decide) (by decide) rfl (fun ls hl => ?_)
    refine lv_goto (tgt := 64) hx hb dX7_steps_100 (by decide) ?_
    refine lv_iload hx hb dX7_steps_64 (lv_at hl 0 rfl) ?_
    refine lv_bipush (v := 10) hx hb dX7_steps_66 (by decide) ?_
    refine lv_icmp_ge (tgt := 103) hx hb dX7_steps_68 (by decide) (fun h => absurd h (by decide)) (fun _ => ?_)
    refine lv_iload hx hb dX7_steps_71 (lv_at hl 1 rfl) ?_
    refine lv_iload hx hb dX7_steps_73 (lv_at hl 0 rfl) ?_
    refine lv_ishr hx hb dX7_steps_75 ?_
    refine zo_i (v := 0) (by decide) ?_
    refine lv_iconst (v := 1) hx hb dX7_steps_76 (by decide) ?_
    refine lv_iand hx hb dX7_steps_77 ?_
    refine zo_i (v := 0) q_0and ?_
    refine lv_iconst (v := 1) hx hb dX7_steps_78 (by decide) ?_
    refine lv_icmp_ne (tgt := 97) hx hb dX7_steps_79 (by decide) (fun _ => ?_) (fun h => absurd h (by decide))
    refine lv_iinc (v := 6) (lv' := [(6, .int 6), (5, .int 0), (4, .int 3), (3, .ref q1), (0, .ref mr), (1, .int 2), (2, .int 0)]) hx hb dX7_steps_97 hl (k := 0) rfl (by decide) (by decide) rfl (fun ls hl => ?_)
    refine lv_goto (tgt := 64) hx hb dX7_steps_100 (by decide) ?_
    refine lv_iload hx hb dX7_steps_64 (lv_at hl 0 rfl) ?_
    refine lv_bipush (v := 10) hx hb dX7_steps_66 (by decide) ?_
    refine lv_icmp_ge (tgt := 103) hx hb dX7_steps_68 (by decide) (fun h => absurd h (by decide)) (fun _ => ?_)
    refine lv_iload hx hb dX7_steps_71 (lv_at hl 1 rfl) ?_
    refine lv_iload hx hb dX7_steps_73 (lv_at hl 0 rfl) ?_
    refine lv_ishr hx hb dX7_steps_75 ?_
    refine zo_i (v := 0) (by decide) ?_
    refine lv_iconst (v := 1) hx hb dX7_steps_76 (by decide) ?_
    refine lv_iand hx hb dX7_steps_77 ?_
    refine zo_i (v := 0) q_0and ?_
    refine lv_iconst (v := 1) hx hb dX7_steps_78 (by decide) ?_
    refine lv_icmp_ne (tgt := 97) hx hb dX7_steps_79 (by decide) (fun _ => ?_) (fun h => absurd h (by decide))
    refine lv_iinc (v := 7) (lv' := [(6, .int 7), (5, .int 0), (4, .int 3), (3, .ref q1), (0, .ref mr), (1, .int 2), (2, .int 0)]) hx hb dX7_steps_97 hl (k := 0) rfl (by decide) (by decide) rfl (fun ls hl => ?_)
    refine lv_goto (tgt := 64) hx hb dX7_steps_100 (by decide) ?_
    refine lv_iload hx hb dX7_steps_64 (lv_at hl 0 rfl) ?_
    refine lv_bipush (v := 10) hx hb dX7_steps_66 (by decide) ?_
    refine lv_icmp_ge (tgt := 103) hx hb dX7_steps_68 (by decide) (fun h => absurd h (by decide)) (fun _ => ?_)
    refine lv_iload hx hb dX7_steps_71 (lv_at hl 1 rfl) ?_
    refine lv_iload hx hb dX7_steps_73 (lv_at hl 0 rfl) ?_
    refine lv_ishr hx hb dX7_steps_75 ?_
    refine zo_i (v := 0) (by decide) ?_
    refine lv_iconst (v := 1) hx hb dX7_steps_76 (by decide) ?_
    refine lv_iand hx hb dX7_steps_77 ?_
    refine zo_i (v := 0) q_0and ?_
    refine lv_iconst (v := 1) hx hb dX7_steps_78 (by decide) ?_
    refine lv_icmp_ne (tgt := 97) hx hb dX7_steps_79 (by decide) (fun _ => ?_) (fun h => absurd h (by decide))
    refine lv_iinc (v := 8) (lv' := [(6, .int 8), (5, .int 0), (4, .int 3), (3, .ref q1), (0, .ref mr), (1, .int 2), (2, .int 0)]) hx hb dX7_steps_97 hl (k := 0) rfl (by decide) (by decide) rfl (fun ls hl => ?_)
    refine lv_goto (tgt := 64) hx hb dX7_steps_100 (by decide) ?_
    refine lv_iload hx hb dX7_steps_64 (lv_at hl 0 rfl) ?_
    refine lv_bipush (v := 10) hx hb dX7_steps_66 (by decide) ?_
    refine lv_icmp_ge (tgt := 103) hx hb dX7_steps_68 (by decide) (fun h => absurd h (by decide)) (fun _ => ?_)
    refine lv_iload hx hb dX7_steps_71 (lv_at hl 1 rfl) ?_
    refine lv_iload hx hb dX7_steps_73 (lv_at hl 0 rfl) ?_
    refine lv_ishr hx hb dX7_steps_75 ?_
    refine zo_i (v := 0) (by decide) ?_
    refine lv_iconst (v := 1) hx hb dX7_steps_76 (by decide) ?_
    refine lv_iand hx hb dX7_steps_77 ?_
    refine zo_i (v := 0) q_0and ?_
    refine lv_iconst (v := 1) hx hb dX7_steps_78 (by decide) ?_
    refine lv_icmp_ne (tgt := 97) hx hb dX7_steps_79 (by decide) (fun _ => ?_) (fun h => absurd h (by decide))
    refine lv_iinc (v := 9) (lv' := [(6, .int 9), (5, .int 0), (4, .int 3), (3, .ref q1), (0, .ref mr), (1, .int 2), (2, .int 0)]) hx hb dX7_steps_97 hl (k := 0) rfl (by decide) (by decide) rfl (fun ls hl => ?_)
    refine lv_goto (tgt := 64) hx hb dX7_steps_100 (by decide) ?_
    refine lv_iload hx hb dX7_steps_64 (lv_at hl 0 rfl) ?_
    refine lv_bipush (v := 10) hx hb dX7_steps_66 (by decide) ?_
    refine lv_icmp_ge (tgt := 103) hx hb dX7_steps_68 (by decide) (fun h => absurd h (by decide)) (fun _ => ?_)
    refine lv_iload hx hb dX7_steps_71 (lv_at hl 1 rfl) ?_
    refine lv_iload hx hb dX7_steps_73 (lv_at hl 0 rfl) ?_
    refine lv_ishr hx hb dX7_steps_75 ?_
    refine zo_i (v := 0) (by decide) ?_
    refine lv_iconst (v := 1) hx hb dX7_steps_76 (by decide) ?_
    refine lv_iand hx hb dX7_steps_77 ?_
    refine zo_i (v := 0) q_0and ?_
    refine lv_iconst (v := 1) hx hb dX7_steps_78 (by decide) ?_
    refine lv_icmp_ne (tgt := 97) hx hb dX7_steps_79 (by decide) (fun _ => ?_) (fun h => absurd h (by decide))
    refine lv_iinc (v := 10) (lv' := [(6, .int 10), (5, .int 0), (4, .int 3), (3, .ref q1), (0, .ref mr), (1, .int 2), (2, .int 0)]) hx hb dX7_steps_97 hl (k := 0) rfl (by decide) (by decide) rfl (fun ls hl => ?_)
    refine lv_goto (tgt := 64) hx hb dX7_steps_100 (by decide) ?_
    refine lv_iload hx hb dX7_steps_64 (lv_at hl 0 rfl) ?_
    refine lv_bipush (v := 10) hx hb dX7_steps_66 (by decide) ?_
    refine lv_icmp_ge (tgt := 103) hx hb dX7_steps_68 (by decide) (fun _ => ?_) (fun h => absurd h (by decide))
    refine lv_iinc (v := 4) (lv' := [(4, .int 4), (6, .int 10), (5, .int 0), (3, .ref q1), (0, .ref mr), (1, .int 2), (2, .int 0)]) hx hb dX7_steps_103 hl (k := 2) rfl (by decide) (by decide) rfl (fun ls hl => ?_)
    refine lv_goto (tgt := 34) hx hb dX7_steps_106 (by decide) ?_
    refine zo_loop (fun (i : Nat) (H : Heap) (locs : List Loc) (ls : Array Slot) => va_P (dC, dI) vwCl [(q1, .inl (cA3, 1024, .inl f17))] H ∧ va_D A [(q1, .inl (cA3, 1024, .inl f17))] ∧ va_S A s.heap H locs ∧ lv_has ls 7 [(4, .int (nI (4 + i))), (3, .ref q1), (0, .ref mr), (1, .int 2), (2, .int 0)]) 1020 ⟨hP, hD, hS, lv_sub hl [0, 3, 4, 5, 6] rfl⟩ (fun i hi ih H locs ls hI => ?_) (fun H locs ls hI => ?_)
    · obtain ⟨hP, hD, hS, hl⟩ := hI
      refine lv_iload hx hb dX7_steps_34 (lv_at hl 0 rfl) ?_
      refine lv_aload_n hx hb dX7_steps_36 rfl (lv_at hl 1 rfl) ?_
      refine va_alen hx hb hK hP 0 14 rfl rfl (v := 1024) (by exact rfl) dX7_steps_37 ?_
      refine lv_icmp_ge (tgt := 109) hx hb dX7_steps_38 (by decide) (fun h => absurd h (nI_ge (a := 4 + i) (b := 1024) (by omega) (by decide))) (fun _ => ?_)
      refine lv_aload_n hx hb dX7_steps_41 rfl (lv_at hl 1 rfl) ?_
      refine lv_iload hx hb dX7_steps_42 (lv_at hl 0 rfl) ?_
      refine va_iald hx hb hK hP 0 14 rfl rfl (vp_in_nI (by omega) (by decide)) dX7_steps_44 ?_
      refine zo_i (v := (-1)) (by rw [nI_clamp (n := (4 + i)) (by omega)]; exact hg22 ((4 + i)) (by omega) (by omega)) ?_
      refine lv_iconst (v := (-1)) hx hb dX7_steps_45 (by decide) ?_
      refine lv_icmp_ne (tgt := 52) hx hb dX7_steps_46 (by decide) (fun h => absurd h (by decide)) (fun _ => ?_)
      refine lv_goto (tgt := 103) hx hb dX7_steps_49 (by decide) ?_
      refine lv_iinc (v := (nI ((4 + i) + 1))) (lv' := [(4, .int (nI ((4 + i) + 1))), (3, .ref q1), (0, .ref mr), (1, .int 2), (2, .int 0)]) hx hb dX7_steps_103 hl (k := 0) rfl (nI_1 (4 + i)) (by decide) rfl (fun ls hl => ?_)
      refine lv_goto (tgt := 34) hx hb dX7_steps_106 (by decide) ?_
      exact ih _ _ _ ⟨hP, hD, hS, lv_sub hl [0, 1, 2, 3, 4] rfl⟩
    · obtain ⟨hP, hD, hS, hl⟩ := hI
      refine lv_iload hx hb dX7_steps_34 (lv_at hl 0 rfl) ?_
      refine lv_aload_n hx hb dX7_steps_36 rfl (lv_at hl 1 rfl) ?_
      refine va_alen hx hb hK hP 0 14 rfl rfl (v := 1024) (by exact rfl) dX7_steps_37 ?_
      refine lv_icmp_ge (tgt := 109) hx hb dX7_steps_38 (by decide) (fun _ => ?_) (fun h => absurd (nI_le (a := 1024) (b := 4 + 1020) (by omega) (by decide)) h)
      refine lv_aload_n hx hb dX7_steps_109 rfl (lv_at hl 1 rfl) ?_
      refine W.widen (k := 1) (n := 1024) (Nat.le_of_ble_eq_true rfl) (Nat.le_of_ble_eq_true rfl) ?_
      have hP9 := hP.sub (ws' := [(q1, .inl (cA3, 1024, .inl f17))]) [0] rfl
      have hD9 := hD.sub (ws' := [(q1, .inl (cA3, 1024, .inl f17))]) [0] (by decide) rfl
      have hK9 := hK.sub (tys' := [(cA3, .int)]) [14] rfl
      exact W.aret hx hb hr (Or.inr ⟨_, rfl⟩) (Or.inr ⟨_, rfl⟩) (fun t ht hW => ⟨⟨(), q1, rfl, trivial, ⟨cA3, f17, hg22, ⟨k18, k19, k20, k21⟩, by rw [ht]; exact hP9, hD9, va_K.moved hW.alike hK9⟩⟩, hS.F ht⟩) hS.2.2 dX7_steps_110

set_option maxHeartbeats 4000000 in
set_option maxRecDepth 100000 in
theorem cz_Qdepth_0 (l : Launch) (dC : Nat → ClassId) (dI : Nat → Nat → Nat) (ed sz : Nat) (mr : Nat) (ll : Nat) (lt : Nat) (lp : Nat) (ola : Nat) (cOl : ClassId) (fol : Nat → Option Nat) (la0 : Nat) (la1 : Nat) (cA0 : ClassId) (fa0 : Nat → Int32) (cA1 : ClassId) (fa1 : Nat → Int32) (ota : Nat) (cOt : ClassId) (fot : Nat → Option Nat) (ta0 : Nat) (ta1 : Nat) (ta2 : Nat) (ta3 : Nat) (ta4 : Nat) (ta5 : Nat) (ta6 : Nat) (ta7 : Nat) (ta8 : Nat) (ta9 : Nat) (cB0 : ClassId) (fb0 : Nat → Int32) (y0 : Int32) (cB1 : ClassId) (fb1 : Nat → Int32) (y1 : Int32) (cB2 : ClassId) (fb2 : Nat → Int32) (y2 : Int32) (cB3 : ClassId) (fb3 : Nat → Int32) (y3 : Int32) (cB4 : ClassId) (fb4 : Nat → Int32) (y4 : Int32) (cB5 : ClassId) (fb5 : Nat → Int32) (y5 : Int32) (cB6 : ClassId) (fb6 : Nat → Int32) (y6 : Int32) (cB7 : ClassId) (fb7 : Nat → Int32) (y7 : Int32) (cB8 : ClassId) (fb8 : Nat → Int32) (y8 : Int32) (cB9 : ClassId) (fb9 : Nat → Int32) (y9 : Int32) (hol0 : fol 0 = some la0) (hol1 : fol 1 = some la1) (ha0_0 : fa0 0 = 0) (ha0_1 : fa0 1 = 0) (ha0_8 : fa0 8 = 0) (ha1_0 : fa1 0 = 0) (ha1_1 : fa1 1 = 0) (ha1_8 : fa1 8 = 0) (hot0 : fot 0 = some ta0) (hot1 : fot 1 = some ta1) (hot2 : fot 2 = some ta2) (hot3 : fot 3 = some ta3) (hot4 : fot 4 = some ta4) (hot5 : fot 5 = some ta5) (hot6 : fot 6 = some ta6) (hot7 : fot 7 = some ta7) (hot8 : fot 8 = some ta8) (hot9 : fot 9 = some ta9) (hb0_0 : fb0 0 = (-1)) (hb0_3 : fb0 3 = y0) (hb1_0 : fb1 0 = (-1)) (hb1_3 : fb1 3 = y1) (hb2_0 : fb2 0 = (-1)) (hb2_3 : fb2 3 = y2) (hb3_0 : fb3 0 = (-1)) (hb3_3 : fb3 3 = y3) (hb4_0 : fb4 0 = (-1)) (hb4_3 : fb4 3 = y4) (hb5_0 : fb5 0 = (-1)) (hb5_3 : fb5 3 = y5) (hb6_0 : fb6 0 = (-1)) (hb6_3 : fb6 3 = y6) (hb7_0 : fb7 0 = (-1)) (hb7_3 : fb7 3 = y7) (hb8_0 : fb8 0 = (-1)) (hb8_3 : fb8 3 = y8) (hb9_0 : fb9 0 = (-1)) (hb9_3 : fb9 3 = y9) : Met l yX7_depth wsX7_depth ({ frames := 6, cells := 1, slots := 1024, locals := 142 } : Jvm.Room) (va_Pc [.ref mr, .int 0, .int 0] (zB dC dI ed sz [(mr, .inr (9, [.ref ll, .ref lt, .ref lp, .int 0, .int 0, .int 0, .int 0, .int 0, .int 0, .int 0, .int (-1), .int 0, .int 0, .int 0])), (ll, .inr (1, [.int 2, .ref ola, .int 2])), (ola, .inl (cOl, 10, .inr (.inr (.inr (.inr fol))))), (la0, .inl (cA0, 10, .inl fa0)), (la1, .inl (cA1, 10, .inl fa1)), (lt, .inr (1, [.int 10, .ref ota, .int 10])), (ota, .inl (cOt, 10, .inr (.inr (.inr (.inr fot))))), (ta0, .inl (cB0, 5, .inl fb0)), (ta1, .inl (cB1, 5, .inl fb1)), (ta2, .inl (cB2, 5, .inl fb2)), (ta3, .inl (cB3, 5, .inl fb3)), (ta4, .inl (cB4, 5, .inl fb4)), (ta5, .inl (cB5, 5, .inl fb5)), (ta6, .inl (cB6, 5, .inl fb6)), (ta7, .inl (cB7, 5, .inl fb7)), (ta8, .inl (cB8, 5, .inl fb8)), (ta9, .inl (cB9, 5, .inl fb9))] [] [(cOl, .object "java/lang/Object"), (cA0, .int), (cA1, .int), (cOt, .object "java/lang/Object"), (cB0, .int), (cB1, .int), (cB2, .int), (cB3, .int), (cB4, .int), (cB5, .int), (cB6, .int), (cB7, .int), (cB8, .int), (cB9, .int)])) (va_Qi (fun (r : Int32) (_ : Unit) => r = 1) (fun (_ : Unit) (t : State) => ∃ (rw0 : Nat), ∃ (cW0 : ClassId), ∃ (fW0 : Nat → Int32), va_P (dC, dI) vwCl [(rw0, .inl (cW0, 1024, .inl fW0))] t.heap ∧ va_D (va_A [] sz) [(rw0, .inl (cW0, 1024, .inl fW0))] ∧ va_K (dC, dI) vwCl [(cW0, .int)] t) (va_A [] sz)) 1 1024 (va_A [] sz) := by
  refine Met.ofW (cc := cX7_depth) (maxL := 6) (ret := (some .int)) (by decide) rfl ?_
  intro p e s m args below meth c s₁ B hml hv
  obtain ⟨rfl, hsz, hR0, hP, hK, hD0, hN, hH, hX0⟩ := hv
  have hx := B.exec
  have hb := B.bytes
  have hr := B.returns
  have hts := atoms_spec (ws := wsX7_depth) B.pre
  have hown : s.vm.findClass RX7 = some m.cls := findClass_of_methodNamed B.named
  have hlocks := B.notSynchronized
  subst hsz
  have hD := hD0.self (sz := s.heap.size)
  have hAr := zx_A hX0 hR0
  generalize hAe : va_A [] s.heap.size = A at hD hAr hH ⊢
  have hA : ∀ q : Nat, s.heap.size ≤ q → A q := fun q h => by rw [← hAe]; exact Or.inr h
  have hS : va_S A s.heap s.heap [] := va_S.rf
  have hl := lv_entry ([.ref mr, .int 0, .int 0]) (n := 6) (Nat.le_of_ble_eq_true rfl)
  rw [lg_entry_eq]
  generalize (lg_sl ([.ref mr, .int 0, .int 0]) ++ List.replicate (6 - (lg_sl ([.ref mr, .int 0, .int 0])).length) Slot.unset).toArray = ls at hl ⊢
  have hl : lv_has ls 6 [(0, .ref mr), (1, .int 0), (2, .int 0)] := hl
  refine lv_aload_n hx hb dX7_depth_0 rfl (lv_at hl 0 rfl) ?_
  refine lv_iload_n hx hb dX7_depth_1 rfl (lv_at hl 1 rfl) ?_
  refine lv_iload_n hx hb dX7_depth_2 rfl (lv_at hl 2 rfl) ?_
  have hPr := (hR0).sub (ws' := [(mr, .inr (9, [.ref ll, .ref lt, .ref lp, .int 0, .int 0, .int 0, .int 0, .int 0, .int 0, .int 0, .int (-1), .int 0, .int 0, .int 0])), (ll, .inr (1, [.int 2, .ref ola, .int 2])), (ola, .inl (cOl, 10, .inr (.inr (.inr (.inr fol))))), (la0, .inl (cA0, 10, .inl fa0)), (la1, .inl (cA1, 10, .inl fa1)), (lt, .inr (1, [.int 10, .ref ota, .int 10])), (ota, .inl (cOt, 10, .inr (.inr (.inr (.inr fot))))), (ta0, .inl (cB0, 5, .inl fb0)), (ta1, .inl (cB1, 5, .inl fb1)), (ta2, .inl (cB2, 5, .inl fb2)), (ta3, .inl (cB3, 5, .inl fb3)), (ta4, .inl (cB4, 5, .inl fb4)), (ta5, .inl (cB5, 5, .inl fb5)), (ta6, .inl (cB6, 5, .inl fb6)), (ta7, .inl (cB7, 5, .inl fb7)), (ta8, .inl (cB8, 5, .inl fb8)), (ta9, .inl (cB9, 5, .inl fb9))]) [0, 1, 2, 3, 4, 5, 6, 7, 8, 9, 10, 11, 12, 13, 14, 15, 16] rfl
  have hPc := hP.sub (ws' := []) [] rfl
  have hDc := hD.sub (ws' := []) [] (by decide) rfl
  have hKc := hK.sub (tys' := [(cOl, .object "java/lang/Object"), (cA0, .int), (cA1, .int), (cOt, .object "java/lang/Object"), (cB0, .int), (cB1, .int), (cB2, .int), (cB3, .int), (cB4, .int), (cB5, .int), (cB6, .int), (cB7, .int), (cB8, .int), (cB9, .int)]) [0, 1, 2, 3, 4, 5, 6, 7, 8, 9, 10, 11, 12, 13] rfl
  have hFc := va_free (wc := []) hD hS hA [] rfl
  refine va_callr (va_runV (As := [.int 0, .int 0]) (rest := []) ⟨hx, hb, hml, hown, hts⟩ (cz_Qsteps_0 l dC dI ed s.heap.size mr ll lt lp ola cOl fol la0 la1 cA0 fa0 cA1 fa1 ota cOt fot ta0 ta1 ta2 ta3 ta4 ta5 ta6 ta7 ta8 ta9 cB0 fb0 y0 cB1 fb1 y1 cB2 fb2 y2 cB3 fb3 y3 cB4 fb4 y4 cB5 fb5 y5 cB6 fb6 y6 cB7 fb7 y7 cB8 fb8 y8 cB9 fb9 y9 hol0 hol1 ha0_0 ha0_1 ha0_8 ha1_0 ha1_1 ha1_8 hot0 hot1 hot2 hot3 hot4 hot5 hot6 hot7 hot8 hot9 hb0_0 hb0_3 hb1_0 hb1_3 hb2_0 hb2_3 hb3_0 hb3_3 hb4_0 hb4_3 hb5_0 hb5_3 hb6_0 hb6_3 hb7_0 hb7_3 hb8_0 hb8_3 hb9_0 hb9_3) (cwV 2 hts gX7_depth_X7_steps rfl rfl rfl (by decide +kernel) ⟨Nat.le_of_ble_eq_true rfl, Nat.le_of_ble_eq_true rfl⟩) ⟨zb_blind, va_recv hK hR0 (ci := 9) (q0 := 0) rfl rfl, fun U hU hW => ⟨rfl, zb_mk hU hW hPr hPc hKc hDc hN hH hS hFc zx_e⟩⟩ rfl rfl hl.1 rfl (lv_room (Nat.le_of_ble_eq_true rfl)) dX7_depth_3 ⟨Nat.le_of_ble_eq_true rfl, Nat.le_of_ble_eq_true rfl⟩) hS (fun q _ h => hFc q h) hFc (fun u r2 t H1 locs ht hvm hw hB hz1 hk1 hS => ?_)
  obtain ⟨cS_3, fs_3, hg3, ⟨k3_0, k3_1, k3_2, k3_3⟩, hP1, hD1, hK1⟩ := hB
  rw [ht] at hP1
  obtain ⟨hP, hD⟩ := va_join (wr := []) (w1 := [(r2, .inl (cS_3, 1024, .inl fs_3))]) hP hD [] [] rfl rfl (by decide) (by decide) hk1 hFc hP1 hD1
  have hP : va_P (dC, dI) vwCl [(r2, .inl (cS_3, 1024, .inl fs_3))] H1 := hP
  have hD : va_D A [(r2, .inl (cS_3, 1024, .inl fs_3))] := hD
  have hK := hK.app (va_K.moved hvm.symm hK1)
  have hK : va_K (dC, dI) vwCl [(cOl, .object "java/lang/Object"), (cA0, .int), (cA1, .int), (cOt, .object "java/lang/Object"), (cB0, .int), (cB1, .int), (cB2, .int), (cB3, .int), (cB4, .int), (cB5, .int), (cB6, .int), (cB7, .int), (cB8, .int), (cB9, .int), (cS_3, .int)] s := hK
  refine lv_astore_n (lv' := [(3, .ref r2), (0, .ref mr), (1, .int 0), (2, .int 0)]) hx hb dX7_depth_6 rfl hl (by decide) rfl (fun ls hl => ?_)
  refine lv_iconst (v := (-1)) hx hb dX7_depth_7 (by decide) ?_
  refine lv_istore (lv' := [(4, .int (-1)), (3, .ref r2), (0, .ref mr), (1, .int 0), (2, .int 0)]) hx hb dX7_depth_8 hl (by decide) rfl (fun ls hl => ?_)
  refine lv_iconst (v := 0) hx hb dX7_depth_10 (by decide) ?_
  refine lv_istore (lv' := [(5, .int 0), (4, .int (-1)), (3, .ref r2), (0, .ref mr), (1, .int 0), (2, .int 0)]) hx hb dX7_depth_11 hl (by decide) rfl (fun ls hl => ?_)
  refine lv_iload hx hb dX7_depth_13 (lv_at hl 0 rfl) ?_
  refine lv_aload_n hx hb dX7_depth_15 rfl (lv_at hl 2 rfl) ?_
  refine va_alen hx hb hK hP 0 14 rfl rfl (v := 1024) (by exact rfl) dX7_depth_16 ?_
  refine lv_icmp_ge (tgt := 64) hx hb dX7_depth_17 (by decide) (fun h => absurd h (by decide)) (fun _ => ?_)
  refine lv_aload_n hx hb dX7_depth_20 rfl (lv_at hl 2 rfl) ?_
  refine lv_iload hx hb dX7_depth_21 (lv_at hl 0 rfl) ?_
  refine va_iald hx hb hK hP 0 14 rfl rfl (by unfold vp_in; decide) dX7_depth_23 ?_
  refine zo_i (v := 0) (by rw [show Int32.toNatClampNeg 0 = 0 from by decide]; exact k3_0) ?_
  refine lv_iconst (v := (-1)) hx hb dX7_depth_24 (by decide) ?_
  refine lv_icmp_eq (tgt := 58) hx hb dX7_depth_25 (by decide) (fun h => absurd h (by decide)) (fun _ => ?_)
  refine lv_aload_n hx hb dX7_depth_28 rfl (lv_at hl 3 rfl) ?_
  refine lv_iload hx hb dX7_depth_29 (lv_at hl 0 rfl) ?_
  have hPr := ((zo_R hR0 hS hAr)).sub (ws' := [(mr, .inr (9, [.ref ll, .ref lt, .ref lp, .int 0, .int 0, .int 0, .int 0, .int 0, .int 0, .int 0, .int (-1), .int 0, .int 0, .int 0]))]) [0] rfl
  have hPc := hP.sub (ws' := []) [] rfl
  have hDc := hD.sub (ws' := []) [] (by decide) rfl
  have hKc := hK.sub (tys' := []) [] rfl
  have hFc := va_free (wc := []) hD hS hA [] rfl
  refine va_calli (va_runV (As := [.int 0]) (rest := []) ⟨hx, hb, hml, hown, hts⟩ (cz_QisEnd_0 l dC dI ed H1.size mr ll lt lp) (cwV 1 hts gX7_depth_X7_isEnd rfl rfl rfl (by decide +kernel) ⟨Nat.le_of_ble_eq_true rfl, Nat.le_of_ble_eq_true rfl⟩) ⟨zb_blind, va_recv hK (zo_R hR0 hS hAr) (ci := 9) (q0 := 0) rfl rfl, fun U hU hW => ⟨rfl, zb_mk hU hW hPr hPc hKc hDc hN hH hS hFc zx_e⟩⟩ rfl rfl hl.1 rfl (lv_room (Nat.le_of_ble_eq_true rfl)) dX7_depth_31 ⟨Nat.le_of_ble_eq_true rfl, Nat.le_of_ble_eq_true rfl⟩) hS (fun q _ h => hFc q h) hFc (fun r5 u t H4 locs ht hvm hw hB hz1 hk1 hS => ?_)
  obtain rfl : r5 = 0 := hw
  have hP := zo_K hP hk1
  refine lv_if_eq (tgt := 58) hx hb dX7_depth_34 (by decide) (fun _ => ?_) (fun h => absurd h (by decide))
  refine lv_iinc (v := 1) (lv' := [(5, .int 1), (4, .int (-1)), (3, .ref r2), (0, .ref mr), (1, .int 0), (2, .int 0)]) hx hb dX7_depth_58 hl (k := 0) rfl (by decide) (by decide) rfl (fun ls hl => ?_)
  refine lv_goto (tgt := 13) hx hb dX7_depth_61 (by decide) ?_
  refine lv_iload hx hb dX7_depth_13 (lv_at hl 0 rfl) ?_
  refine lv_aload_n hx hb dX7_depth_15 rfl (lv_at hl 2 rfl) ?_
  refine va_alen hx hb hK hP 0 14 rfl rfl (v := 1024) (by exact rfl) dX7_depth_16 ?_
  refine lv_icmp_ge (tgt := 64) hx hb dX7_depth_17 (by decide) (fun h => absurd h (by decide)) (fun _ => ?_)
  refine lv_aload_n hx hb dX7_depth_20 rfl (lv_at hl 2 rfl) ?_
  refine lv_iload hx hb dX7_depth_21 (lv_at hl 0 rfl) ?_
  refine va_iald hx hb hK hP 0 14 rfl rfl (by unfold vp_in; decide) dX7_depth_23 ?_
  refine zo_i (v := 1) (by rw [show Int32.toNatClampNeg 1 = 1 from by decide]; exact k3_1) ?_
  refine lv_iconst (v := (-1)) hx hb dX7_depth_24 (by decide) ?_
  refine lv_icmp_eq (tgt := 58) hx hb dX7_depth_25 (by decide) (fun h => absurd h (by decide)) (fun _ => ?_)
  refine lv_aload_n hx hb dX7_depth_28 rfl (lv_at hl 3 rfl) ?_
  refine lv_iload hx hb dX7_depth_29 (lv_at hl 0 rfl) ?_
  have hPr := ((zo_R hR0 hS hAr)).sub (ws' := [(mr, .inr (9, [.ref ll, .ref lt, .ref lp, .int 0, .int 0, .int 0, .int 0, .int 0, .int 0, .int 0, .int (-1), .int 0, .int 0, .int 0]))]) [0] rfl
  have hPc := hP.sub (ws' := []) [] rfl
  have hDc := hD.sub (ws' := []) [] (by decide) rfl
  have hKc := hK.sub (tys' := []) [] rfl
  have hFc := va_free (wc := []) hD hS hA [] rfl
  refine va_calli (va_runV (As := [.int 1]) (rest := []) ⟨hx, hb, hml, hown, hts⟩ (cz_QisEnd_1 l dC dI ed H4.size mr ll lt lp) (cwV 1 hts gX7_depth_X7_isEnd rfl rfl rfl (by decide +kernel) ⟨Nat.le_of_ble_eq_true rfl, Nat.le_of_ble_eq_true rfl⟩) ⟨zb_blind, va_recv hK (zo_R hR0 hS hAr) (ci := 9) (q0 := 0) rfl rfl, fun U hU hW => ⟨rfl, zb_mk hU hW hPr hPc hKc hDc hN hH hS hFc zx_e⟩⟩ rfl rfl hl.1 rfl (lv_room (Nat.le_of_ble_eq_true rfl)) dX7_depth_31 ⟨Nat.le_of_ble_eq_true rfl, Nat.le_of_ble_eq_true rfl⟩) hS (fun q _ h => hFc q h) hFc (fun r7 u t H6 locs ht hvm hw hB hz1 hk1 hS => ?_)
  obtain rfl : r7 = 1 := hw
  have hP := zo_K hP hk1
  refine lv_if_eq (tgt := 58) hx hb dX7_depth_34 (by decide) (fun h => absurd h (by decide)) (fun _ => ?_)
  refine lv_iload hx hb dX7_depth_37 (lv_at hl 1 rfl) ?_
  refine lv_iconst (v := (-1)) hx hb dX7_depth_39 (by decide) ?_
  refine lv_icmp_eq (tgt := 52) hx hb dX7_depth_40 (by decide) (fun _ => ?_) (fun h => absurd h (by decide))
  refine lv_aload_n hx hb dX7_depth_52 rfl (lv_at hl 2 rfl) ?_
  refine lv_iload hx hb dX7_depth_53 (lv_at hl 0 rfl) ?_
  refine va_iald hx hb hK hP 0 14 rfl rfl (by unfold vp_in; decide) dX7_depth_55 ?_
  refine zo_i (v := 1) (by rw [show Int32.toNatClampNeg 1 = 1 from by decide]; exact k3_1) ?_
  refine lv_istore (lv' := [(4, .int 1), (5, .int 1), (3, .ref r2), (0, .ref mr), (1, .int 0), (2, .int 0)]) hx hb dX7_depth_56 hl (by decide) rfl (fun ls hl => ?_)
  refine lv_iinc (v := 2) (lv' := [(5, .int 2), (4, .int 1), (3, .ref r2), (0, .ref mr), (1, .int 0), (2, .int 0)]) hx hb dX7_depth_58 hl (k := 1) rfl (by decide) (by decide) rfl (fun ls hl => ?_)
  refine lv_goto (tgt := 13) hx hb dX7_depth_61 (by decide) ?_
  refine lv_iload hx hb dX7_depth_13 (lv_at hl 0 rfl) ?_
  refine lv_aload_n hx hb dX7_depth_15 rfl (lv_at hl 2 rfl) ?_
  refine va_alen hx hb hK hP 0 14 rfl rfl (v := 1024) (by exact rfl) dX7_depth_16 ?_
  refine lv_icmp_ge (tgt := 64) hx hb dX7_depth_17 (by decide) (fun h => absurd h (by decide)) (fun _ => ?_)
  refine lv_aload_n hx hb dX7_depth_20 rfl (lv_at hl 2 rfl) ?_
  refine lv_iload hx hb dX7_depth_21 (lv_at hl 0 rfl) ?_
  refine va_iald hx hb hK hP 0 14 rfl rfl (by unfold vp_in; decide) dX7_depth_23 ?_
  refine zo_i (v := 1) (by rw [show Int32.toNatClampNeg 2 = 2 from by decide]; exact k3_2) ?_
  refine lv_iconst (v := (-1)) hx hb dX7_depth_24 (by decide) ?_
  refine lv_icmp_eq (tgt := 58) hx hb dX7_depth_25 (by decide) (fun h => absurd h (by decide)) (fun _ => ?_)
  refine lv_aload_n hx hb dX7_depth_28 rfl (lv_at hl 3 rfl) ?_
  refine lv_iload hx hb dX7_depth_29 (lv_at hl 0 rfl) ?_
  have hPr := ((zo_R hR0 hS hAr)).sub (ws' := [(mr, .inr (9, [.ref ll, .ref lt, .ref lp, .int 0, .int 0, .int 0, .int 0, .int 0, .int 0, .int 0, .int (-1), .int 0, .int 0, .int 0]))]) [0] rfl
  have hPc := hP.sub (ws' := []) [] rfl
  have hDc := hD.sub (ws' := []) [] (by decide) rfl
  have hKc := hK.sub (tys' := []) [] rfl
  have hFc := va_free (wc := []) hD hS hA [] rfl
  refine va_calli (va_runV (As := [.int 2]) (rest := []) ⟨hx, hb, hml, hown, hts⟩ (cz_QisEnd_2 l dC dI ed H6.size mr ll lt lp) (cwV 1 hts gX7_depth_X7_isEnd rfl rfl rfl (by decide +kernel) ⟨Nat.le_of_ble_eq_true rfl, Nat.le_of_ble_eq_true rfl⟩) ⟨zb_blind, va_recv hK (zo_R hR0 hS hAr) (ci := 9) (q0 := 0) rfl rfl, fun U hU hW => ⟨rfl, zb_mk hU hW hPr hPc hKc hDc hN hH hS hFc zx_e⟩⟩ rfl rfl hl.1 rfl (lv_room (Nat.le_of_ble_eq_true rfl)) dX7_depth_31 ⟨Nat.le_of_ble_eq_true rfl, Nat.le_of_ble_eq_true rfl⟩) hS (fun q _ h => hFc q h) hFc (fun r9 u t H8 locs ht hvm hw hB hz1 hk1 hS => ?_)
  obtain rfl : r9 = 0 := hw
  have hP := zo_K hP hk1
  refine lv_if_eq (tgt := 58) hx hb dX7_depth_34 (by decide) (fun _ => ?_) (fun h => absurd h (by decide))
  refine lv_iinc (v := 3) (lv' := [(5, .int 3), (4, .int 1), (3, .ref r2), (0, .ref mr), (1, .int 0), (2, .int 0)]) hx hb dX7_depth_58 hl (k := 0) rfl (by decide) (by decide) rfl (fun ls hl => ?_)
  refine lv_goto (tgt := 13) hx hb dX7_depth_61 (by decide) ?_
  refine lv_iload hx hb dX7_depth_13 (lv_at hl 0 rfl) ?_
  refine lv_aload_n hx hb dX7_depth_15 rfl (lv_at hl 2 rfl) ?_
  refine va_alen hx hb hK hP 0 14 rfl rfl (v := 1024) (by exact rfl) dX7_depth_16 ?_
  refine lv_icmp_ge (tgt := 64) hx hb dX7_depth_17 (by decide) (fun h => absurd h (by decide)) (fun _ => ?_)
  refine lv_aload_n hx hb dX7_depth_20 rfl (lv_at hl 2 rfl) ?_
  refine lv_iload hx hb dX7_depth_21 (lv_at hl 0 rfl) ?_
  refine va_iald hx hb hK hP 0 14 rfl rfl (by unfold vp_in; decide) dX7_depth_23 ?_
  refine zo_i (v := 2) (by rw [show Int32.toNatClampNeg 3 = 3 from by decide]; exact k3_3) ?_
  refine lv_iconst (v := (-1)) hx hb dX7_depth_24 (by decide) ?_
  refine lv_icmp_eq (tgt := 58) hx hb dX7_depth_25 (by decide) (fun h => absurd h (by decide)) (fun _ => ?_)
  refine lv_aload_n hx hb dX7_depth_28 rfl (lv_at hl 3 rfl) ?_
  refine lv_iload hx hb dX7_depth_29 (lv_at hl 0 rfl) ?_
  have hPr := ((zo_R hR0 hS hAr)).sub (ws' := [(mr, .inr (9, [.ref ll, .ref lt, .ref lp, .int 0, .int 0, .int 0, .int 0, .int 0, .int 0, .int 0, .int (-1), .int 0, .int 0, .int 0]))]) [0] rfl
  have hPc := hP.sub (ws' := []) [] rfl
  have hDc := hD.sub (ws' := []) [] (by decide) rfl
  have hKc := hK.sub (tys' := []) [] rfl
  have hFc := va_free (wc := []) hD hS hA [] rfl
  refine va_calli (va_runV (As := [.int 3]) (rest := []) ⟨hx, hb, hml, hown, hts⟩ (cz_QisEnd_3 l dC dI ed H8.size mr ll lt lp) (cwV 1 hts gX7_depth_X7_isEnd rfl rfl rfl (by decide +kernel) ⟨Nat.le_of_ble_eq_true rfl, Nat.le_of_ble_eq_true rfl⟩) ⟨zb_blind, va_recv hK (zo_R hR0 hS hAr) (ci := 9) (q0 := 0) rfl rfl, fun U hU hW => ⟨rfl, zb_mk hU hW hPr hPc hKc hDc hN hH hS hFc zx_e⟩⟩ rfl rfl hl.1 rfl (lv_room (Nat.le_of_ble_eq_true rfl)) dX7_depth_31 ⟨Nat.le_of_ble_eq_true rfl, Nat.le_of_ble_eq_true rfl⟩) hS (fun q _ h => hFc q h) hFc (fun r11 u t H10 locs ht hvm hw hB hz1 hk1 hS => ?_)
  obtain rfl : r11 = 1 := hw
  have hP := zo_K hP hk1
  refine lv_if_eq (tgt := 58) hx hb dX7_depth_34 (by decide) (fun h => absurd h (by decide)) (fun _ => ?_)
  refine lv_iload hx hb dX7_depth_37 (lv_at hl 1 rfl) ?_
  refine lv_iconst (v := (-1)) hx hb dX7_depth_39 (by decide) ?_
  refine lv_icmp_eq (tgt := 52) hx hb dX7_depth_40 (by decide) (fun h => absurd h (by decide)) (fun _ => ?_)
  refine lv_aload_n hx hb dX7_depth_43 rfl (lv_at hl 2 rfl) ?_
  refine lv_iload hx hb dX7_depth_44 (lv_at hl 0 rfl) ?_
  refine va_iald hx hb hK hP 0 14 rfl rfl (by unfold vp_in; decide) dX7_depth_46 ?_
  refine zo_i (v := 2) (by rw [show Int32.toNatClampNeg 3 = 3 from by decide]; exact k3_3) ?_
  refine lv_iload hx hb dX7_depth_47 (lv_at hl 1 rfl) ?_
  refine lv_icmp_ge (tgt := 58) hx hb dX7_depth_49 (by decide) (fun _ => ?_) (fun h => absurd h (by decide))
  refine lv_iinc (v := 4) (lv' := [(5, .int 4), (4, .int 1), (3, .ref r2), (0, .ref mr), (1, .int 0), (2, .int 0)]) hx hb dX7_depth_58 hl (k := 0) rfl (by decide) (by decide) rfl (fun ls hl => ?_)
  refine lv_goto (tgt := 13) hx hb dX7_depth_61 (by decide) ?_
  refine zo_loop (fun (i : Nat) (H : Heap) (locs : List Loc) (ls : Array Slot) => va_P (dC, dI) vwCl [(r2, .inl (cS_3, 1024, .inl fs_3))] H ∧ va_D A [(r2, .inl (cS_3, 1024, .inl fs_3))] ∧ va_S A s.heap H locs ∧ lv_has ls 6 [(5, .int (nI (4 + i))), (4, .int 1), (3, .ref r2), (0, .ref mr), (1, .int 0), (2, .int 0)]) 1020 ⟨hP, hD, hS, lv_sub hl [0, 1, 2, 3, 4, 5] rfl⟩ (fun i hi ih H locs ls hI => ?_) (fun H locs ls hI => ?_)
  · obtain ⟨hP, hD, hS, hl⟩ := hI
    refine lv_iload hx hb dX7_depth_13 (lv_at hl 0 rfl) ?_
    refine lv_aload_n hx hb dX7_depth_15 rfl (lv_at hl 2 rfl) ?_
    refine va_alen hx hb hK hP 0 14 rfl rfl (v := 1024) (by exact rfl) dX7_depth_16 ?_
    refine lv_icmp_ge (tgt := 64) hx hb dX7_depth_17 (by decide) (fun h => absurd h (nI_ge (a := 4 + i) (b := 1024) (by omega) (by decide))) (fun _ => ?_)
    refine lv_aload_n hx hb dX7_depth_20 rfl (lv_at hl 2 rfl) ?_
    refine lv_iload hx hb dX7_depth_21 (lv_at hl 0 rfl) ?_
    refine va_iald hx hb hK hP 0 14 rfl rfl (vp_in_nI (by omega) (by decide)) dX7_depth_23 ?_
    refine zo_i (v := (-1)) (by rw [nI_clamp (n := (4 + i)) (by omega)]; exact hg3 ((4 + i)) (by omega) (by omega)) ?_
    refine lv_iconst (v := (-1)) hx hb dX7_depth_24 (by decide) ?_
    refine lv_icmp_eq (tgt := 58) hx hb dX7_depth_25 (by decide) (fun _ => ?_) (fun h => absurd h (by decide))
    refine lv_iinc (v := (nI ((4 + i) + 1))) (lv' := [(5, .int (nI ((4 + i) + 1))), (4, .int 1), (3, .ref r2), (0, .ref mr), (1, .int 0), (2, .int 0)]) hx hb dX7_depth_58 hl (k := 0) rfl (nI_1 (4 + i)) (by decide) rfl (fun ls hl => ?_)
    refine lv_goto (tgt := 13) hx hb dX7_depth_61 (by decide) ?_
    exact ih _ _ _ ⟨hP, hD, hS, lv_sub hl [0, 1, 2, 3, 4, 5] rfl⟩
  · obtain ⟨hP, hD, hS, hl⟩ := hI
    refine lv_iload hx hb dX7_depth_13 (lv_at hl 0 rfl) ?_
    refine lv_aload_n hx hb dX7_depth_15 rfl (lv_at hl 2 rfl) ?_
    refine va_alen hx hb hK hP 0 14 rfl rfl (v := 1024) (by exact rfl) dX7_depth_16 ?_
    refine lv_icmp_ge (tgt := 64) hx hb dX7_depth_17 (by decide) (fun _ => ?_) (fun h => absurd (nI_le (a := 1024) (b := 4 + 1020) (by omega) (by decide)) h)
    refine lv_iload hx hb dX7_depth_64 (lv_at hl 1 rfl) ?_
    refine W.widen (k := 1) (n := 1024) (Nat.le_of_ble_eq_true rfl) (Nat.le_of_ble_eq_true rfl) ?_
    have hP9 := hP.sub (ws' := [(r2, .inl (cS_3, 1024, .inl fs_3))]) [0] rfl
    have hD9 := hD.sub (ws' := [(r2, .inl (cS_3, 1024, .inl fs_3))]) [0] (by decide) rfl
    have hK9 := hK.sub (tys' := [(cS_3, .int)]) [14] rfl
    exact W.iret hx hb hr (fun t ht hW => ⟨⟨1, (), rfl, rfl, ⟨r2, cS_3, fs_3, by rw [ht]; exact hP9, hD9, va_K.moved hW.alike hK9⟩⟩, hS.F ht⟩) hS.2.2 dX7_depth_66
set_option maxHeartbeats 4000000 in
set_option maxRecDepth 100000 in
theorem cz_Qdepth_1 (l : Launch) (dC : Nat → ClassId) (dI : Nat → Nat → Nat) (ed sz : Nat) (mr : Nat) (ll : Nat) (lt : Nat) (lp : Nat) (ola : Nat) (cOl : ClassId) (fol : Nat → Option Nat) (la0 : Nat) (la1 : Nat) (cA0 : ClassId) (fa0 : Nat → Int32) (cA1 : ClassId) (fa1 : Nat → Int32) (ota : Nat) (cOt : ClassId) (fot : Nat → Option Nat) (ta0 : Nat) (ta1 : Nat) (ta2 : Nat) (ta3 : Nat) (ta4 : Nat) (ta5 : Nat) (ta6 : Nat) (ta7 : Nat) (ta8 : Nat) (ta9 : Nat) (cB0 : ClassId) (fb0 : Nat → Int32) (y0 : Int32) (cB1 : ClassId) (fb1 : Nat → Int32) (y1 : Int32) (cB2 : ClassId) (fb2 : Nat → Int32) (y2 : Int32) (cB3 : ClassId) (fb3 : Nat → Int32) (y3 : Int32) (cB4 : ClassId) (fb4 : Nat → Int32) (y4 : Int32) (cB5 : ClassId) (fb5 : Nat → Int32) (y5 : Int32) (cB6 : ClassId) (fb6 : Nat → Int32) (y6 : Int32) (cB7 : ClassId) (fb7 : Nat → Int32) (y7 : Int32) (cB8 : ClassId) (fb8 : Nat → Int32) (y8 : Int32) (cB9 : ClassId) (fb9 : Nat → Int32) (y9 : Int32) (hol0 : fol 0 = some la0) (hol1 : fol 1 = some la1) (ha0_0 : fa0 0 = 0) (ha0_1 : fa0 1 = 0) (ha0_8 : fa0 8 = 0) (ha1_0 : fa1 0 = 0) (ha1_1 : fa1 1 = 0) (ha1_8 : fa1 8 = 0) (hot0 : fot 0 = some ta0) (hot1 : fot 1 = some ta1) (hot2 : fot 2 = some ta2) (hot3 : fot 3 = some ta3) (hot4 : fot 4 = some ta4) (hot5 : fot 5 = some ta5) (hot6 : fot 6 = some ta6) (hot7 : fot 7 = some ta7) (hot8 : fot 8 = some ta8) (hot9 : fot 9 = some ta9) (hb0_0 : fb0 0 = (-1)) (hb0_3 : fb0 3 = y0) (hb1_0 : fb1 0 = (-1)) (hb1_3 : fb1 3 = y1) (hb2_0 : fb2 0 = (-1)) (hb2_3 : fb2 3 = y2) (hb3_0 : fb3 0 = (-1)) (hb3_3 : fb3 3 = y3) (hb4_0 : fb4 0 = (-1)) (hb4_3 : fb4 3 = y4) (hb5_0 : fb5 0 = (-1)) (hb5_3 : fb5 3 = y5) (hb6_0 : fb6 0 = (-1)) (hb6_3 : fb6 3 = y6) (hb7_0 : fb7 0 = (-1)) (hb7_3 : fb7 3 = y7) (hb8_0 : fb8 0 = (-1)) (hb8_3 : fb8 3 = y8) (hb9_0 : fb9 0 = (-1)) (hb9_3 : fb9 3 = y9) : Met l yX7_depth wsX7_depth ({ frames := 6, cells := 1, slots := 1024, locals := 142 } : Jvm.Room) (va_Pc [.ref mr, .int 1, .int 0] (zB dC dI ed sz [(mr, .inr (9, [.ref ll, .ref lt, .ref lp, .int 0, .int 0, .int 0, .int 0, .int 0, .int 0, .int 0, .int (-1), .int 0, .int 0, .int 0])), (ll, .inr (1, [.int 2, .ref ola, .int 2])), (ola, .inl (cOl, 10, .inr (.inr (.inr (.inr fol))))), (la0, .inl (cA0, 10, .inl fa0)), (la1, .inl (cA1, 10, .inl fa1)), (lt, .inr (1, [.int 10, .ref ota, .int 10])), (ota, .inl (cOt, 10, .inr (.inr (.inr (.inr fot))))), (ta0, .inl (cB0, 5, .inl fb0)), (ta1, .inl (cB1, 5, .inl fb1)), (ta2, .inl (cB2, 5, .inl fb2)), (ta3, .inl (cB3, 5, .inl fb3)), (ta4, .inl (cB4, 5, .inl fb4)), (ta5, .inl (cB5, 5, .inl fb5)), (ta6, .inl (cB6, 5, .inl fb6)), (ta7, .inl (cB7, 5, .inl fb7)), (ta8, .inl (cB8, 5, .inl fb8)), (ta9, .inl (cB9, 5, .inl fb9))] [] [(cOl, .object "java/lang/Object"), (cA0, .int), (cA1, .int), (cOt, .object "java/lang/Object"), (cB0, .int), (cB1, .int), (cB2, .int), (cB3, .int), (cB4, .int), (cB5, .int), (cB6, .int), (cB7, .int), (cB8, .int), (cB9, .int)])) (va_Qi (fun (r : Int32) (_ : Unit) => r = 0) (fun (_ : Unit) (t : State) => ∃ (rw0 : Nat), ∃ (cW0 : ClassId), ∃ (fW0 : Nat → Int32), va_P (dC, dI) vwCl [(rw0, .inl (cW0, 1024, .inl fW0))] t.heap ∧ va_D (va_A [] sz) [(rw0, .inl (cW0, 1024, .inl fW0))] ∧ va_K (dC, dI) vwCl [(cW0, .int)] t) (va_A [] sz)) 1 1024 (va_A [] sz) := by
  refine Met.ofW (cc := cX7_depth) (maxL := 6) (ret := (some .int)) (by decide) rfl ?_
  intro p e s m args below meth c s₁ B hml hv
  obtain ⟨rfl, hsz, hR0, hP, hK, hD0, hN, hH, hX0⟩ := hv
  have hx := B.exec
  have hb := B.bytes
  have hr := B.returns
  have hts := atoms_spec (ws := wsX7_depth) B.pre
  have hown : s.vm.findClass RX7 = some m.cls := findClass_of_methodNamed B.named
  have hlocks := B.notSynchronized
  subst hsz
  have hD := hD0.self (sz := s.heap.size)
  have hAr := zx_A hX0 hR0
  generalize hAe : va_A [] s.heap.size = A at hD hAr hH ⊢
  have hA : ∀ q : Nat, s.heap.size ≤ q → A q := fun q h => by rw [← hAe]; exact Or.inr h
  have hS : va_S A s.heap s.heap [] := va_S.rf
  have hl := lv_entry ([.ref mr, .int 1, .int 0]) (n := 6) (Nat.le_of_ble_eq_true rfl)
  rw [lg_entry_eq]
  generalize (lg_sl ([.ref mr, .int 1, .int 0]) ++ List.replicate (6 - (lg_sl ([.ref mr, .int 1, .int 0])).length) Slot.unset).toArray = ls at hl ⊢
  have hl : lv_has ls 6 [(0, .ref mr), (1, .int 1), (2, .int 0)] := hl
  refine lv_aload_n hx hb dX7_depth_0 rfl (lv_at hl 0 rfl) ?_
  refine lv_iload_n hx hb dX7_depth_1 rfl (lv_at hl 1 rfl) ?_
  refine lv_iload_n hx hb dX7_depth_2 rfl (lv_at hl 2 rfl) ?_
  have hPr := (hR0).sub (ws' := [(mr, .inr (9, [.ref ll, .ref lt, .ref lp, .int 0, .int 0, .int 0, .int 0, .int 0, .int 0, .int 0, .int (-1), .int 0, .int 0, .int 0])), (ll, .inr (1, [.int 2, .ref ola, .int 2])), (ola, .inl (cOl, 10, .inr (.inr (.inr (.inr fol))))), (la0, .inl (cA0, 10, .inl fa0)), (la1, .inl (cA1, 10, .inl fa1)), (lt, .inr (1, [.int 10, .ref ota, .int 10])), (ota, .inl (cOt, 10, .inr (.inr (.inr (.inr fot))))), (ta0, .inl (cB0, 5, .inl fb0)), (ta1, .inl (cB1, 5, .inl fb1)), (ta2, .inl (cB2, 5, .inl fb2)), (ta3, .inl (cB3, 5, .inl fb3)), (ta4, .inl (cB4, 5, .inl fb4)), (ta5, .inl (cB5, 5, .inl fb5)), (ta6, .inl (cB6, 5, .inl fb6)), (ta7, .inl (cB7, 5, .inl fb7)), (ta8, .inl (cB8, 5, .inl fb8)), (ta9, .inl (cB9, 5, .inl fb9))]) [0, 1, 2, 3, 4, 5, 6, 7, 8, 9, 10, 11, 12, 13, 14, 15, 16] rfl
  have hPc := hP.sub (ws' := []) [] rfl
  have hDc := hD.sub (ws' := []) [] (by decide) rfl
  have hKc := hK.sub (tys' := [(cOl, .object "java/lang/Object"), (cA0, .int), (cA1, .int), (cOt, .object "java/lang/Object"), (cB0, .int), (cB1, .int), (cB2, .int), (cB3, .int), (cB4, .int), (cB5, .int), (cB6, .int), (cB7, .int), (cB8, .int), (cB9, .int)]) [0, 1, 2, 3, 4, 5, 6, 7, 8, 9, 10, 11, 12, 13] rfl
  have hFc := va_free (wc := []) hD hS hA [] rfl
  refine va_callr (va_runV (As := [.int 1, .int 0]) (rest := []) ⟨hx, hb, hml, hown, hts⟩ (cz_Qsteps_1 l dC dI ed s.heap.size mr ll lt lp ola cOl fol la0 la1 cA0 fa0 cA1 fa1 ota cOt fot ta0 ta1 ta2 ta3 ta4 ta5 ta6 ta7 ta8 ta9 cB0 fb0 y0 cB1 fb1 y1 cB2 fb2 y2 cB3 fb3 y3 cB4 fb4 y4 cB5 fb5 y5 cB6 fb6 y6 cB7 fb7 y7 cB8 fb8 y8 cB9 fb9 y9 hol0 hol1 ha0_0 ha0_1 ha0_8 ha1_0 ha1_1 ha1_8 hot0 hot1 hot2 hot3 hot4 hot5 hot6 hot7 hot8 hot9 hb0_0 hb0_3 hb1_0 hb1_3 hb2_0 hb2_3 hb3_0 hb3_3 hb4_0 hb4_3 hb5_0 hb5_3 hb6_0 hb6_3 hb7_0 hb7_3 hb8_0 hb8_3 hb9_0 hb9_3) (cwV 2 hts gX7_depth_X7_steps rfl rfl rfl (by decide +kernel) ⟨Nat.le_of_ble_eq_true rfl, Nat.le_of_ble_eq_true rfl⟩) ⟨zb_blind, va_recv hK hR0 (ci := 9) (q0 := 0) rfl rfl, fun U hU hW => ⟨rfl, zb_mk hU hW hPr hPc hKc hDc hN hH hS hFc zx_e⟩⟩ rfl rfl hl.1 rfl (lv_room (Nat.le_of_ble_eq_true rfl)) dX7_depth_3 ⟨Nat.le_of_ble_eq_true rfl, Nat.le_of_ble_eq_true rfl⟩) hS (fun q _ h => hFc q h) hFc (fun u r2 t H1 locs ht hvm hw hB hz1 hk1 hS => ?_)
  obtain ⟨cS_3, fs_3, hg3, ⟨k3_0, k3_1, k3_2, k3_3⟩, hP1, hD1, hK1⟩ := hB
  rw [ht] at hP1
  obtain ⟨hP, hD⟩ := va_join (wr := []) (w1 := [(r2, .inl (cS_3, 1024, .inl fs_3))]) hP hD [] [] rfl rfl (by decide) (by decide) hk1 hFc hP1 hD1
  have hP : va_P (dC, dI) vwCl [(r2, .inl (cS_3, 1024, .inl fs_3))] H1 := hP
  have hD : va_D A [(r2, .inl (cS_3, 1024, .inl fs_3))] := hD
  have hK := hK.app (va_K.moved hvm.symm hK1)
  have hK : va_K (dC, dI) vwCl [(cOl, .object "java/lang/Object"), (cA0, .int), (cA1, .int), (cOt, .object "java/lang/Object"), (cB0, .int), (cB1, .int), (cB2, .int), (cB3, .int), (cB4, .int), (cB5, .int), (cB6, .int), (cB7, .int), (cB8, .int), (cB9, .int), (cS_3, .int)] s := hK
  refine lv_astore_n (lv' := [(3, .ref r2), (0, .ref mr), (1, .int 1), (2, .int 0)]) hx hb dX7_depth_6 rfl hl (by decide) rfl (fun ls hl => ?_)
  refine lv_iconst (v := (-1)) hx hb dX7_depth_7 (by decide) ?_
  refine lv_istore (lv' := [(4, .int (-1)), (3, .ref r2), (0, .ref mr), (1, .int 1), (2, .int 0)]) hx hb dX7_depth_8 hl (by decide) rfl (fun ls hl => ?_)
  refine lv_iconst (v := 0) hx hb dX7_depth_10 (by decide) ?_
  refine lv_istore (lv' := [(5, .int 0), (4, .int (-1)), (3, .ref r2), (0, .ref mr), (1, .int 1), (2, .int 0)]) hx hb dX7_depth_11 hl (by decide) rfl (fun ls hl => ?_)
  refine lv_iload hx hb dX7_depth_13 (lv_at hl 0 rfl) ?_
  refine lv_aload_n hx hb dX7_depth_15 rfl (lv_at hl 2 rfl) ?_
  refine va_alen hx hb hK hP 0 14 rfl rfl (v := 1024) (by exact rfl) dX7_depth_16 ?_
  refine lv_icmp_ge (tgt := 64) hx hb dX7_depth_17 (by decide) (fun h => absurd h (by decide)) (fun _ => ?_)
  refine lv_aload_n hx hb dX7_depth_20 rfl (lv_at hl 2 rfl) ?_
  refine lv_iload hx hb dX7_depth_21 (lv_at hl 0 rfl) ?_
  refine va_iald hx hb hK hP 0 14 rfl rfl (by unfold vp_in; decide) dX7_depth_23 ?_
  refine zo_i (v := (-1)) (by rw [show Int32.toNatClampNeg 0 = 0 from by decide]; exact k3_0) ?_
  refine lv_iconst (v := (-1)) hx hb dX7_depth_24 (by decide) ?_
  refine lv_icmp_eq (tgt := 58) hx hb dX7_depth_25 (by decide) (fun _ => ?_) (fun h => absurd h (by decide))
  refine lv_iinc (v := 1) (lv' := [(5, .int 1), (4, .int (-1)), (3, .ref r2), (0, .ref mr), (1, .int 1), (2, .int 0)]) hx hb dX7_depth_58 hl (k := 0) rfl (by decide) (by decide) rfl (fun ls hl => ?_)
  refine lv_goto (tgt := 13) hx hb dX7_depth_61 (by decide) ?_
  refine lv_iload hx hb dX7_depth_13 (lv_at hl 0 rfl) ?_
  refine lv_aload_n hx hb dX7_depth_15 rfl (lv_at hl 2 rfl) ?_
  refine va_alen hx hb hK hP 0 14 rfl rfl (v := 1024) (by exact rfl) dX7_depth_16 ?_
  refine lv_icmp_ge (tgt := 64) hx hb dX7_depth_17 (by decide) (fun h => absurd h (by decide)) (fun _ => ?_)
  refine lv_aload_n hx hb dX7_depth_20 rfl (lv_at hl 2 rfl) ?_
  refine lv_iload hx hb dX7_depth_21 (lv_at hl 0 rfl) ?_
  refine va_iald hx hb hK hP 0 14 rfl rfl (by unfold vp_in; decide) dX7_depth_23 ?_
  refine zo_i (v := 0) (by rw [show Int32.toNatClampNeg 1 = 1 from by decide]; exact k3_1) ?_
  refine lv_iconst (v := (-1)) hx hb dX7_depth_24 (by decide) ?_
  refine lv_icmp_eq (tgt := 58) hx hb dX7_depth_25 (by decide) (fun h => absurd h (by decide)) (fun _ => ?_)
  refine lv_aload_n hx hb dX7_depth_28 rfl (lv_at hl 3 rfl) ?_
  refine lv_iload hx hb dX7_depth_29 (lv_at hl 0 rfl) ?_
  have hPr := ((zo_R hR0 hS hAr)).sub (ws' := [(mr, .inr (9, [.ref ll, .ref lt, .ref lp, .int 0, .int 0, .int 0, .int 0, .int 0, .int 0, .int 0, .int (-1), .int 0, .int 0, .int 0]))]) [0] rfl
  have hPc := hP.sub (ws' := []) [] rfl
  have hDc := hD.sub (ws' := []) [] (by decide) rfl
  have hKc := hK.sub (tys' := []) [] rfl
  have hFc := va_free (wc := []) hD hS hA [] rfl
  refine va_calli (va_runV (As := [.int 1]) (rest := []) ⟨hx, hb, hml, hown, hts⟩ (cz_QisEnd_1 l dC dI ed H1.size mr ll lt lp) (cwV 1 hts gX7_depth_X7_isEnd rfl rfl rfl (by decide +kernel) ⟨Nat.le_of_ble_eq_true rfl, Nat.le_of_ble_eq_true rfl⟩) ⟨zb_blind, va_recv hK (zo_R hR0 hS hAr) (ci := 9) (q0 := 0) rfl rfl, fun U hU hW => ⟨rfl, zb_mk hU hW hPr hPc hKc hDc hN hH hS hFc zx_e⟩⟩ rfl rfl hl.1 rfl (lv_room (Nat.le_of_ble_eq_true rfl)) dX7_depth_31 ⟨Nat.le_of_ble_eq_true rfl, Nat.le_of_ble_eq_true rfl⟩) hS (fun q _ h => hFc q h) hFc (fun r5 u t H4 locs ht hvm hw hB hz1 hk1 hS => ?_)
  obtain rfl : r5 = 1 := hw
  have hP := zo_K hP hk1
  refine lv_if_eq (tgt := 58) hx hb dX7_depth_34 (by decide) (fun h => absurd h (by decide)) (fun _ => ?_)
  refine lv_iload hx hb dX7_depth_37 (lv_at hl 1 rfl) ?_
  refine lv_iconst (v := (-1)) hx hb dX7_depth_39 (by decide) ?_
  refine lv_icmp_eq (tgt := 52) hx hb dX7_depth_40 (by decide) (fun _ => ?_) (fun h => absurd h (by decide))
  refine lv_aload_n hx hb dX7_depth_52 rfl (lv_at hl 2 rfl) ?_
  refine lv_iload hx hb dX7_depth_53 (lv_at hl 0 rfl) ?_
  refine va_iald hx hb hK hP 0 14 rfl rfl (by unfold vp_in; decide) dX7_depth_55 ?_
  refine zo_i (v := 0) (by rw [show Int32.toNatClampNeg 1 = 1 from by decide]; exact k3_1) ?_
  refine lv_istore (lv' := [(4, .int 0), (5, .int 1), (3, .ref r2), (0, .ref mr), (1, .int 1), (2, .int 0)]) hx hb dX7_depth_56 hl (by decide) rfl (fun ls hl => ?_)
  refine lv_iinc (v := 2) (lv' := [(5, .int 2), (4, .int 0), (3, .ref r2), (0, .ref mr), (1, .int 1), (2, .int 0)]) hx hb dX7_depth_58 hl (k := 1) rfl (by decide) (by decide) rfl (fun ls hl => ?_)
  refine lv_goto (tgt := 13) hx hb dX7_depth_61 (by decide) ?_
  refine lv_iload hx hb dX7_depth_13 (lv_at hl 0 rfl) ?_
  refine lv_aload_n hx hb dX7_depth_15 rfl (lv_at hl 2 rfl) ?_
  refine va_alen hx hb hK hP 0 14 rfl rfl (v := 1024) (by exact rfl) dX7_depth_16 ?_
  refine lv_icmp_ge (tgt := 64) hx hb dX7_depth_17 (by decide) (fun h => absurd h (by decide)) (fun _ => ?_)
  refine lv_aload_n hx hb dX7_depth_20 rfl (lv_at hl 2 rfl) ?_
  refine lv_iload hx hb dX7_depth_21 (lv_at hl 0 rfl) ?_
  refine va_iald hx hb hK hP 0 14 rfl rfl (by unfold vp_in; decide) dX7_depth_23 ?_
  refine zo_i (v := (-1)) (by rw [show Int32.toNatClampNeg 2 = 2 from by decide]; exact k3_2) ?_
  refine lv_iconst (v := (-1)) hx hb dX7_depth_24 (by decide) ?_
  refine lv_icmp_eq (tgt := 58) hx hb dX7_depth_25 (by decide) (fun _ => ?_) (fun h => absurd h (by decide))
  refine lv_iinc (v := 3) (lv' := [(5, .int 3), (4, .int 0), (3, .ref r2), (0, .ref mr), (1, .int 1), (2, .int 0)]) hx hb dX7_depth_58 hl (k := 0) rfl (by decide) (by decide) rfl (fun ls hl => ?_)
  refine lv_goto (tgt := 13) hx hb dX7_depth_61 (by decide) ?_
  refine lv_iload hx hb dX7_depth_13 (lv_at hl 0 rfl) ?_
  refine lv_aload_n hx hb dX7_depth_15 rfl (lv_at hl 2 rfl) ?_
  refine va_alen hx hb hK hP 0 14 rfl rfl (v := 1024) (by exact rfl) dX7_depth_16 ?_
  refine lv_icmp_ge (tgt := 64) hx hb dX7_depth_17 (by decide) (fun h => absurd h (by decide)) (fun _ => ?_)
  refine lv_aload_n hx hb dX7_depth_20 rfl (lv_at hl 2 rfl) ?_
  refine lv_iload hx hb dX7_depth_21 (lv_at hl 0 rfl) ?_
  refine va_iald hx hb hK hP 0 14 rfl rfl (by unfold vp_in; decide) dX7_depth_23 ?_
  refine zo_i (v := 1) (by rw [show Int32.toNatClampNeg 3 = 3 from by decide]; exact k3_3) ?_
  refine lv_iconst (v := (-1)) hx hb dX7_depth_24 (by decide) ?_
  refine lv_icmp_eq (tgt := 58) hx hb dX7_depth_25 (by decide) (fun h => absurd h (by decide)) (fun _ => ?_)
  refine lv_aload_n hx hb dX7_depth_28 rfl (lv_at hl 3 rfl) ?_
  refine lv_iload hx hb dX7_depth_29 (lv_at hl 0 rfl) ?_
  have hPr := ((zo_R hR0 hS hAr)).sub (ws' := [(mr, .inr (9, [.ref ll, .ref lt, .ref lp, .int 0, .int 0, .int 0, .int 0, .int 0, .int 0, .int 0, .int (-1), .int 0, .int 0, .int 0]))]) [0] rfl
  have hPc := hP.sub (ws' := []) [] rfl
  have hDc := hD.sub (ws' := []) [] (by decide) rfl
  have hKc := hK.sub (tys' := []) [] rfl
  have hFc := va_free (wc := []) hD hS hA [] rfl
  refine va_calli (va_runV (As := [.int 3]) (rest := []) ⟨hx, hb, hml, hown, hts⟩ (cz_QisEnd_3 l dC dI ed H4.size mr ll lt lp) (cwV 1 hts gX7_depth_X7_isEnd rfl rfl rfl (by decide +kernel) ⟨Nat.le_of_ble_eq_true rfl, Nat.le_of_ble_eq_true rfl⟩) ⟨zb_blind, va_recv hK (zo_R hR0 hS hAr) (ci := 9) (q0 := 0) rfl rfl, fun U hU hW => ⟨rfl, zb_mk hU hW hPr hPc hKc hDc hN hH hS hFc zx_e⟩⟩ rfl rfl hl.1 rfl (lv_room (Nat.le_of_ble_eq_true rfl)) dX7_depth_31 ⟨Nat.le_of_ble_eq_true rfl, Nat.le_of_ble_eq_true rfl⟩) hS (fun q _ h => hFc q h) hFc (fun r7 u t H6 locs ht hvm hw hB hz1 hk1 hS => ?_)
  obtain rfl : r7 = 1 := hw
  have hP := zo_K hP hk1
  refine lv_if_eq (tgt := 58) hx hb dX7_depth_34 (by decide) (fun h => absurd h (by decide)) (fun _ => ?_)
  refine lv_iload hx hb dX7_depth_37 (lv_at hl 1 rfl) ?_
  refine lv_iconst (v := (-1)) hx hb dX7_depth_39 (by decide) ?_
  refine lv_icmp_eq (tgt := 52) hx hb dX7_depth_40 (by decide) (fun h => absurd h (by decide)) (fun _ => ?_)
  refine lv_aload_n hx hb dX7_depth_43 rfl (lv_at hl 2 rfl) ?_
  refine lv_iload hx hb dX7_depth_44 (lv_at hl 0 rfl) ?_
  refine va_iald hx hb hK hP 0 14 rfl rfl (by unfold vp_in; decide) dX7_depth_46 ?_
  refine zo_i (v := 1) (by rw [show Int32.toNatClampNeg 3 = 3 from by decide]; exact k3_3) ?_
  refine lv_iload hx hb dX7_depth_47 (lv_at hl 1 rfl) ?_
  refine lv_icmp_ge (tgt := 58) hx hb dX7_depth_49 (by decide) (fun _ => ?_) (fun h => absurd h (by decide))
  refine lv_iinc (v := 4) (lv' := [(5, .int 4), (4, .int 0), (3, .ref r2), (0, .ref mr), (1, .int 1), (2, .int 0)]) hx hb dX7_depth_58 hl (k := 0) rfl (by decide) (by decide) rfl (fun ls hl => ?_)
  refine lv_goto (tgt := 13) hx hb dX7_depth_61 (by decide) ?_
  refine zo_loop (fun (i : Nat) (H : Heap) (locs : List Loc) (ls : Array Slot) => va_P (dC, dI) vwCl [(r2, .inl (cS_3, 1024, .inl fs_3))] H ∧ va_D A [(r2, .inl (cS_3, 1024, .inl fs_3))] ∧ va_S A s.heap H locs ∧ lv_has ls 6 [(5, .int (nI (4 + i))), (4, .int 0), (3, .ref r2), (0, .ref mr), (1, .int 1), (2, .int 0)]) 1020 ⟨hP, hD, hS, lv_sub hl [0, 1, 2, 3, 4, 5] rfl⟩ (fun i hi ih H locs ls hI => ?_) (fun H locs ls hI => ?_)
  · obtain ⟨hP, hD, hS, hl⟩ := hI
    refine lv_iload hx hb dX7_depth_13 (lv_at hl 0 rfl) ?_
    refine lv_aload_n hx hb dX7_depth_15 rfl (lv_at hl 2 rfl) ?_
    refine va_alen hx hb hK hP 0 14 rfl rfl (v := 1024) (by exact rfl) dX7_depth_16 ?_
    refine lv_icmp_ge (tgt := 64) hx hb dX7_depth_17 (by decide) (fun h => absurd h (nI_ge (a := 4 + i) (b := 1024) (by omega) (by decide))) (fun _ => ?_)
    refine lv_aload_n hx hb dX7_depth_20 rfl (lv_at hl 2 rfl) ?_
    refine lv_iload hx hb dX7_depth_21 (lv_at hl 0 rfl) ?_
    refine va_iald hx hb hK hP 0 14 rfl rfl (vp_in_nI (by omega) (by decide)) dX7_depth_23 ?_
    refine zo_i (v := (-1)) (by rw [nI_clamp (n := (4 + i)) (by omega)]; exact hg3 ((4 + i)) (by omega) (by omega)) ?_
    refine lv_iconst (v := (-1)) hx hb dX7_depth_24 (by decide) ?_
    refine lv_icmp_eq (tgt := 58) hx hb dX7_depth_25 (by decide) (fun _ => ?_) (fun h => absurd h (by decide))
    refine lv_iinc (v := (nI ((4 + i) + 1))) (lv' := [(5, .int (nI ((4 + i) + 1))), (4, .int 0), (3, .ref r2), (0, .ref mr), (1, .int 1), (2, .int 0)]) hx hb dX7_depth_58 hl (k := 0) rfl (nI_1 (4 + i)) (by decide) rfl (fun ls hl => ?_)
    refine lv_goto (tgt := 13) hx hb dX7_depth_61 (by decide) ?_
    exact ih _ _ _ ⟨hP, hD, hS, lv_sub hl [0, 1, 2, 3, 4, 5] rfl⟩
  · obtain ⟨hP, hD, hS, hl⟩ := hI
    refine lv_iload hx hb dX7_depth_13 (lv_at hl 0 rfl) ?_
    refine lv_aload_n hx hb dX7_depth_15 rfl (lv_at hl 2 rfl) ?_
    refine va_alen hx hb hK hP 0 14 rfl rfl (v := 1024) (by exact rfl) dX7_depth_16 ?_
    refine lv_icmp_ge (tgt := 64) hx hb dX7_depth_17 (by decide) (fun _ => ?_) (fun h => absurd (nI_le (a := 1024) (b := 4 + 1020) (by omega) (by decide)) h)
    refine lv_iload hx hb dX7_depth_64 (lv_at hl 1 rfl) ?_
    refine W.widen (k := 1) (n := 1024) (Nat.le_of_ble_eq_true rfl) (Nat.le_of_ble_eq_true rfl) ?_
    have hP9 := hP.sub (ws' := [(r2, .inl (cS_3, 1024, .inl fs_3))]) [0] rfl
    have hD9 := hD.sub (ws' := [(r2, .inl (cS_3, 1024, .inl fs_3))]) [0] (by decide) rfl
    have hK9 := hK.sub (tys' := [(cS_3, .int)]) [14] rfl
    exact W.iret hx hb hr (fun t ht hW => ⟨⟨0, (), rfl, rfl, ⟨r2, cS_3, fs_3, by rw [ht]; exact hP9, hD9, va_K.moved hW.alike hK9⟩⟩, hS.F ht⟩) hS.2.2 dX7_depth_66
set_option maxHeartbeats 4000000 in
set_option maxRecDepth 100000 in
theorem cz_Qdepth_2 (l : Launch) (dC : Nat → ClassId) (dI : Nat → Nat → Nat) (ed sz : Nat) (mr : Nat) (ll : Nat) (lt : Nat) (lp : Nat) (ola : Nat) (cOl : ClassId) (fol : Nat → Option Nat) (la0 : Nat) (la1 : Nat) (cA0 : ClassId) (fa0 : Nat → Int32) (cA1 : ClassId) (fa1 : Nat → Int32) (ota : Nat) (cOt : ClassId) (fot : Nat → Option Nat) (ta0 : Nat) (ta1 : Nat) (ta2 : Nat) (ta3 : Nat) (ta4 : Nat) (ta5 : Nat) (ta6 : Nat) (ta7 : Nat) (ta8 : Nat) (ta9 : Nat) (cB0 : ClassId) (fb0 : Nat → Int32) (y0 : Int32) (cB1 : ClassId) (fb1 : Nat → Int32) (y1 : Int32) (cB2 : ClassId) (fb2 : Nat → Int32) (y2 : Int32) (cB3 : ClassId) (fb3 : Nat → Int32) (y3 : Int32) (cB4 : ClassId) (fb4 : Nat → Int32) (y4 : Int32) (cB5 : ClassId) (fb5 : Nat → Int32) (y5 : Int32) (cB6 : ClassId) (fb6 : Nat → Int32) (y6 : Int32) (cB7 : ClassId) (fb7 : Nat → Int32) (y7 : Int32) (cB8 : ClassId) (fb8 : Nat → Int32) (y8 : Int32) (cB9 : ClassId) (fb9 : Nat → Int32) (y9 : Int32) (hol0 : fol 0 = some la0) (hol1 : fol 1 = some la1) (ha0_0 : fa0 0 = 0) (ha0_1 : fa0 1 = 0) (ha0_8 : fa0 8 = 0) (ha1_0 : fa1 0 = 0) (ha1_1 : fa1 1 = 0) (ha1_8 : fa1 8 = 0) (hot0 : fot 0 = some ta0) (hot1 : fot 1 = some ta1) (hot2 : fot 2 = some ta2) (hot3 : fot 3 = some ta3) (hot4 : fot 4 = some ta4) (hot5 : fot 5 = some ta5) (hot6 : fot 6 = some ta6) (hot7 : fot 7 = some ta7) (hot8 : fot 8 = some ta8) (hot9 : fot 9 = some ta9) (hb0_0 : fb0 0 = (-1)) (hb0_3 : fb0 3 = y0) (hb1_0 : fb1 0 = (-1)) (hb1_3 : fb1 3 = y1) (hb2_0 : fb2 0 = (-1)) (hb2_3 : fb2 3 = y2) (hb3_0 : fb3 0 = (-1)) (hb3_3 : fb3 3 = y3) (hb4_0 : fb4 0 = (-1)) (hb4_3 : fb4 3 = y4) (hb5_0 : fb5 0 = (-1)) (hb5_3 : fb5 3 = y5) (hb6_0 : fb6 0 = (-1)) (hb6_3 : fb6 3 = y6) (hb7_0 : fb7 0 = (-1)) (hb7_3 : fb7 3 = y7) (hb8_0 : fb8 0 = (-1)) (hb8_3 : fb8 3 = y8) (hb9_0 : fb9 0 = (-1)) (hb9_3 : fb9 3 = y9) : Met l yX7_depth wsX7_depth ({ frames := 6, cells := 1, slots := 1024, locals := 142 } : Jvm.Room) (va_Pc [.ref mr, .int 2, .int 0] (zB dC dI ed sz [(mr, .inr (9, [.ref ll, .ref lt, .ref lp, .int 0, .int 0, .int 0, .int 0, .int 0, .int 0, .int 0, .int (-1), .int 0, .int 0, .int 0])), (ll, .inr (1, [.int 2, .ref ola, .int 2])), (ola, .inl (cOl, 10, .inr (.inr (.inr (.inr fol))))), (la0, .inl (cA0, 10, .inl fa0)), (la1, .inl (cA1, 10, .inl fa1)), (lt, .inr (1, [.int 10, .ref ota, .int 10])), (ota, .inl (cOt, 10, .inr (.inr (.inr (.inr fot))))), (ta0, .inl (cB0, 5, .inl fb0)), (ta1, .inl (cB1, 5, .inl fb1)), (ta2, .inl (cB2, 5, .inl fb2)), (ta3, .inl (cB3, 5, .inl fb3)), (ta4, .inl (cB4, 5, .inl fb4)), (ta5, .inl (cB5, 5, .inl fb5)), (ta6, .inl (cB6, 5, .inl fb6)), (ta7, .inl (cB7, 5, .inl fb7)), (ta8, .inl (cB8, 5, .inl fb8)), (ta9, .inl (cB9, 5, .inl fb9))] [] [(cOl, .object "java/lang/Object"), (cA0, .int), (cA1, .int), (cOt, .object "java/lang/Object"), (cB0, .int), (cB1, .int), (cB2, .int), (cB3, .int), (cB4, .int), (cB5, .int), (cB6, .int), (cB7, .int), (cB8, .int), (cB9, .int)])) (va_Qi (fun (r : Int32) (_ : Unit) => r = 1) (fun (_ : Unit) (t : State) => ∃ (rw0 : Nat), ∃ (cW0 : ClassId), ∃ (fW0 : Nat → Int32), va_P (dC, dI) vwCl [(rw0, .inl (cW0, 1024, .inl fW0))] t.heap ∧ va_D (va_A [] sz) [(rw0, .inl (cW0, 1024, .inl fW0))] ∧ va_K (dC, dI) vwCl [(cW0, .int)] t) (va_A [] sz)) 1 1024 (va_A [] sz) := by
  refine Met.ofW (cc := cX7_depth) (maxL := 6) (ret := (some .int)) (by decide) rfl ?_
  intro p e s m args below meth c s₁ B hml hv
  obtain ⟨rfl, hsz, hR0, hP, hK, hD0, hN, hH, hX0⟩ := hv
  have hx := B.exec
  have hb := B.bytes
  have hr := B.returns
  have hts := atoms_spec (ws := wsX7_depth) B.pre
  have hown : s.vm.findClass RX7 = some m.cls := findClass_of_methodNamed B.named
  have hlocks := B.notSynchronized
  subst hsz
  have hD := hD0.self (sz := s.heap.size)
  have hAr := zx_A hX0 hR0
  generalize hAe : va_A [] s.heap.size = A at hD hAr hH ⊢
  have hA : ∀ q : Nat, s.heap.size ≤ q → A q := fun q h => by rw [← hAe]; exact Or.inr h
  have hS : va_S A s.heap s.heap [] := va_S.rf
  have hl := lv_entry ([.ref mr, .int 2, .int 0]) (n := 6) (Nat.le_of_ble_eq_true rfl)
  rw [lg_entry_eq]
  generalize (lg_sl ([.ref mr, .int 2, .int 0]) ++ List.replicate (6 - (lg_sl ([.ref mr, .int 2, .int 0])).length) Slot.unset).toArray = ls at hl ⊢
  have hl : lv_has ls 6 [(0, .ref mr), (1, .int 2), (2, .int 0)] := hl
  refine lv_aload_n hx hb dX7_depth_0 rfl (lv_at hl 0 rfl) ?_
  refine lv_iload_n hx hb dX7_depth_1 rfl (lv_at hl 1 rfl) ?_
  refine lv_iload_n hx hb dX7_depth_2 rfl (lv_at hl 2 rfl) ?_
  have hPr := (hR0).sub (ws' := [(mr, .inr (9, [.ref ll, .ref lt, .ref lp, .int 0, .int 0, .int 0, .int 0, .int 0, .int 0, .int 0, .int (-1), .int 0, .int 0, .int 0])), (ll, .inr (1, [.int 2, .ref ola, .int 2])), (ola, .inl (cOl, 10, .inr (.inr (.inr (.inr fol))))), (la0, .inl (cA0, 10, .inl fa0)), (la1, .inl (cA1, 10, .inl fa1)), (lt, .inr (1, [.int 10, .ref ota, .int 10])), (ota, .inl (cOt, 10, .inr (.inr (.inr (.inr fot))))), (ta0, .inl (cB0, 5, .inl fb0)), (ta1, .inl (cB1, 5, .inl fb1)), (ta2, .inl (cB2, 5, .inl fb2)), (ta3, .inl (cB3, 5, .inl fb3)), (ta4, .inl (cB4, 5, .inl fb4)), (ta5, .inl (cB5, 5, .inl fb5)), (ta6, .inl (cB6, 5, .inl fb6)), (ta7, .inl (cB7, 5, .inl fb7)), (ta8, .inl (cB8, 5, .inl fb8)), (ta9, .inl (cB9, 5, .inl fb9))]) [0, 1, 2, 3, 4, 5, 6, 7, 8, 9, 10, 11, 12, 13, 14, 15, 16] rfl
  have hPc := hP.sub (ws' := []) [] rfl
  have hDc := hD.sub (ws' := []) [] (by decide) rfl
  have hKc := hK.sub (tys' := [(cOl, .object "java/lang/Object"), (cA0, .int), (cA1, .int), (cOt, .object "java/lang/Object"), (cB0, .int), (cB1, .int), (cB2, .int), (cB3, .int), (cB4, .int), (cB5, .int), (cB6, .int), (cB7, .int), (cB8, .int), (cB9, .int)]) [0, 1, 2, 3, 4, 5, 6, 7, 8, 9, 10, 11, 12, 13] rfl
  have hFc := va_free (wc := []) hD hS hA [] rfl
  refine va_callr (va_runV (As := [.int 2, .int 0]) (rest := []) ⟨hx, hb, hml, hown, hts⟩ (cz_Qsteps_2 l dC dI ed s.heap.size mr ll lt lp ola cOl fol la0 la1 cA0 fa0 cA1 fa1 ota cOt fot ta0 ta1 ta2 ta3 ta4 ta5 ta6 ta7 ta8 ta9 cB0 fb0 y0 cB1 fb1 y1 cB2 fb2 y2 cB3 fb3 y3 cB4 fb4 y4 cB5 fb5 y5 cB6 fb6 y6 cB7 fb7 y7 cB8 fb8 y8 cB9 fb9 y9 hol0 hol1 ha0_0 ha0_1 ha0_8 ha1_0 ha1_1 ha1_8 hot0 hot1 hot2 hot3 hot4 hot5 hot6 hot7 hot8 hot9 hb0_0 hb0_3 hb1_0 hb1_3 hb2_0 hb2_3 hb3_0 hb3_3 hb4_0 hb4_3 hb5_0 hb5_3 hb6_0 hb6_3 hb7_0 hb7_3 hb8_0 hb8_3 hb9_0 hb9_3) (cwV 2 hts gX7_depth_X7_steps rfl rfl rfl (by decide +kernel) ⟨Nat.le_of_ble_eq_true rfl, Nat.le_of_ble_eq_true rfl⟩) ⟨zb_blind, va_recv hK hR0 (ci := 9) (q0 := 0) rfl rfl, fun U hU hW => ⟨rfl, zb_mk hU hW hPr hPc hKc hDc hN hH hS hFc zx_e⟩⟩ rfl rfl hl.1 rfl (lv_room (Nat.le_of_ble_eq_true rfl)) dX7_depth_3 ⟨Nat.le_of_ble_eq_true rfl, Nat.le_of_ble_eq_true rfl⟩) hS (fun q _ h => hFc q h) hFc (fun u r2 t H1 locs ht hvm hw hB hz1 hk1 hS => ?_)
  obtain ⟨cS_3, fs_3, hg3, ⟨k3_0, k3_1, k3_2, k3_3⟩, hP1, hD1, hK1⟩ := hB
  rw [ht] at hP1
  obtain ⟨hP, hD⟩ := va_join (wr := []) (w1 := [(r2, .inl (cS_3, 1024, .inl fs_3))]) hP hD [] [] rfl rfl (by decide) (by decide) hk1 hFc hP1 hD1
  have hP : va_P (dC, dI) vwCl [(r2, .inl (cS_3, 1024, .inl fs_3))] H1 := hP
  have hD : va_D A [(r2, .inl (cS_3, 1024, .inl fs_3))] := hD
  have hK := hK.app (va_K.moved hvm.symm hK1)
  have hK : va_K (dC, dI) vwCl [(cOl, .object "java/lang/Object"), (cA0, .int), (cA1, .int), (cOt, .object "java/lang/Object"), (cB0, .int), (cB1, .int), (cB2, .int), (cB3, .int), (cB4, .int), (cB5, .int), (cB6, .int), (cB7, .int), (cB8, .int), (cB9, .int), (cS_3, .int)] s := hK
  refine lv_astore_n (lv' := [(3, .ref r2), (0, .ref mr), (1, .int 2), (2, .int 0)]) hx hb dX7_depth_6 rfl hl (by decide) rfl (fun ls hl => ?_)
  refine lv_iconst (v := (-1)) hx hb dX7_depth_7 (by decide) ?_
  refine lv_istore (lv' := [(4, .int (-1)), (3, .ref r2), (0, .ref mr), (1, .int 2), (2, .int 0)]) hx hb dX7_depth_8 hl (by decide) rfl (fun ls hl => ?_)
  refine lv_iconst (v := 0) hx hb dX7_depth_10 (by decide) ?_
  refine lv_istore (lv' := [(5, .int 0), (4, .int (-1)), (3, .ref r2), (0, .ref mr), (1, .int 2), (2, .int 0)]) hx hb dX7_depth_11 hl (by decide) rfl (fun ls hl => ?_)
  refine lv_iload hx hb dX7_depth_13 (lv_at hl 0 rfl) ?_
  refine lv_aload_n hx hb dX7_depth_15 rfl (lv_at hl 2 rfl) ?_
  refine va_alen hx hb hK hP 0 14 rfl rfl (v := 1024) (by exact rfl) dX7_depth_16 ?_
  refine lv_icmp_ge (tgt := 64) hx hb dX7_depth_17 (by decide) (fun h => absurd h (by decide)) (fun _ => ?_)
  refine lv_aload_n hx hb dX7_depth_20 rfl (lv_at hl 2 rfl) ?_
  refine lv_iload hx hb dX7_depth_21 (lv_at hl 0 rfl) ?_
  refine va_iald hx hb hK hP 0 14 rfl rfl (by unfold vp_in; decide) dX7_depth_23 ?_
  refine zo_i (v := (-1)) (by rw [show Int32.toNatClampNeg 0 = 0 from by decide]; exact k3_0) ?_
  refine lv_iconst (v := (-1)) hx hb dX7_depth_24 (by decide) ?_
  refine lv_icmp_eq (tgt := 58) hx hb dX7_depth_25 (by decide) (fun _ => ?_) (fun h => absurd h (by decide))
  refine lv_iinc (v := 1) (lv' := [(5, .int 1), (4, .int (-1)), (3, .ref r2), (0, .ref mr), (1, .int 2), (2, .int 0)]) hx hb dX7_depth_58 hl (k := 0) rfl (by decide) (by decide) rfl (fun ls hl => ?_)
  refine lv_goto (tgt := 13) hx hb dX7_depth_61 (by decide) ?_
  refine lv_iload hx hb dX7_depth_13 (lv_at hl 0 rfl) ?_
  refine lv_aload_n hx hb dX7_depth_15 rfl (lv_at hl 2 rfl) ?_
  refine va_alen hx hb hK hP 0 14 rfl rfl (v := 1024) (by exact rfl) dX7_depth_16 ?_
  refine lv_icmp_ge (tgt := 64) hx hb dX7_depth_17 (by decide) (fun h => absurd h (by decide)) (fun _ => ?_)
  refine lv_aload_n hx hb dX7_depth_20 rfl (lv_at hl 2 rfl) ?_
  refine lv_iload hx hb dX7_depth_21 (lv_at hl 0 rfl) ?_
  refine va_iald hx hb hK hP 0 14 rfl rfl (by unfold vp_in; decide) dX7_depth_23 ?_
  refine zo_i (v := (-1)) (by rw [show Int32.toNatClampNeg 1 = 1 from by decide]; exact k3_1) ?_
  refine lv_iconst (v := (-1)) hx hb dX7_depth_24 (by decide) ?_
  refine lv_icmp_eq (tgt := 58) hx hb dX7_depth_25 (by decide) (fun _ => ?_) (fun h => absurd h (by decide))
  refine lv_iinc (v := 2) (lv' := [(5, .int 2), (4, .int (-1)), (3, .ref r2), (0, .ref mr), (1, .int 2), (2, .int 0)]) hx hb dX7_depth_58 hl (k := 0) rfl (by decide) (by decide) rfl (fun ls hl => ?_)
  refine lv_goto (tgt := 13) hx hb dX7_depth_61 (by decide) ?_
  refine lv_iload hx hb dX7_depth_13 (lv_at hl 0 rfl) ?_
  refine lv_aload_n hx hb dX7_depth_15 rfl (lv_at hl 2 rfl) ?_
  refine va_alen hx hb hK hP 0 14 rfl rfl (v := 1024) (by exact rfl) dX7_depth_16 ?_
  refine lv_icmp_ge (tgt := 64) hx hb dX7_depth_17 (by decide) (fun h => absurd h (by decide)) (fun _ => ?_)
  refine lv_aload_n hx hb dX7_depth_20 rfl (lv_at hl 2 rfl) ?_
  refine lv_iload hx hb dX7_depth_21 (lv_at hl 0 rfl) ?_
  refine va_iald hx hb hK hP 0 14 rfl rfl (by unfold vp_in; decide) dX7_depth_23 ?_
  refine zo_i (v := 0) (by rw [show Int32.toNatClampNeg 2 = 2 from by decide]; exact k3_2) ?_
  refine lv_iconst (v := (-1)) hx hb dX7_depth_24 (by decide) ?_
  refine lv_icmp_eq (tgt := 58) hx hb dX7_depth_25 (by decide) (fun h => absurd h (by decide)) (fun _ => ?_)
  refine lv_aload_n hx hb dX7_depth_28 rfl (lv_at hl 3 rfl) ?_
  refine lv_iload hx hb dX7_depth_29 (lv_at hl 0 rfl) ?_
  have hPr := ((zo_R hR0 hS hAr)).sub (ws' := [(mr, .inr (9, [.ref ll, .ref lt, .ref lp, .int 0, .int 0, .int 0, .int 0, .int 0, .int 0, .int 0, .int (-1), .int 0, .int 0, .int 0]))]) [0] rfl
  have hPc := hP.sub (ws' := []) [] rfl
  have hDc := hD.sub (ws' := []) [] (by decide) rfl
  have hKc := hK.sub (tys' := []) [] rfl
  have hFc := va_free (wc := []) hD hS hA [] rfl
  refine va_calli (va_runV (As := [.int 2]) (rest := []) ⟨hx, hb, hml, hown, hts⟩ (cz_QisEnd_2 l dC dI ed H1.size mr ll lt lp) (cwV 1 hts gX7_depth_X7_isEnd rfl rfl rfl (by decide +kernel) ⟨Nat.le_of_ble_eq_true rfl, Nat.le_of_ble_eq_true rfl⟩) ⟨zb_blind, va_recv hK (zo_R hR0 hS hAr) (ci := 9) (q0 := 0) rfl rfl, fun U hU hW => ⟨rfl, zb_mk hU hW hPr hPc hKc hDc hN hH hS hFc zx_e⟩⟩ rfl rfl hl.1 rfl (lv_room (Nat.le_of_ble_eq_true rfl)) dX7_depth_31 ⟨Nat.le_of_ble_eq_true rfl, Nat.le_of_ble_eq_true rfl⟩) hS (fun q _ h => hFc q h) hFc (fun r5 u t H4 locs ht hvm hw hB hz1 hk1 hS => ?_)
  obtain rfl : r5 = 0 := hw
  have hP := zo_K hP hk1
  refine lv_if_eq (tgt := 58) hx hb dX7_depth_34 (by decide) (fun _ => ?_) (fun h => absurd h (by decide))
  refine lv_iinc (v := 3) (lv' := [(5, .int 3), (4, .int (-1)), (3, .ref r2), (0, .ref mr), (1, .int 2), (2, .int 0)]) hx hb dX7_depth_58 hl (k := 0) rfl (by decide) (by decide) rfl (fun ls hl => ?_)
  refine lv_goto (tgt := 13) hx hb dX7_depth_61 (by decide) ?_
  refine lv_iload hx hb dX7_depth_13 (lv_at hl 0 rfl) ?_
  refine lv_aload_n hx hb dX7_depth_15 rfl (lv_at hl 2 rfl) ?_
  refine va_alen hx hb hK hP 0 14 rfl rfl (v := 1024) (by exact rfl) dX7_depth_16 ?_
  refine lv_icmp_ge (tgt := 64) hx hb dX7_depth_17 (by decide) (fun h => absurd h (by decide)) (fun _ => ?_)
  refine lv_aload_n hx hb dX7_depth_20 rfl (lv_at hl 2 rfl) ?_
  refine lv_iload hx hb dX7_depth_21 (lv_at hl 0 rfl) ?_
  refine va_iald hx hb hK hP 0 14 rfl rfl (by unfold vp_in; decide) dX7_depth_23 ?_
  refine zo_i (v := 1) (by rw [show Int32.toNatClampNeg 3 = 3 from by decide]; exact k3_3) ?_
  refine lv_iconst (v := (-1)) hx hb dX7_depth_24 (by decide) ?_
  refine lv_icmp_eq (tgt := 58) hx hb dX7_depth_25 (by decide) (fun h => absurd h (by decide)) (fun _ => ?_)
  refine lv_aload_n hx hb dX7_depth_28 rfl (lv_at hl 3 rfl) ?_
  refine lv_iload hx hb dX7_depth_29 (lv_at hl 0 rfl) ?_
  have hPr := ((zo_R hR0 hS hAr)).sub (ws' := [(mr, .inr (9, [.ref ll, .ref lt, .ref lp, .int 0, .int 0, .int 0, .int 0, .int 0, .int 0, .int 0, .int (-1), .int 0, .int 0, .int 0]))]) [0] rfl
  have hPc := hP.sub (ws' := []) [] rfl
  have hDc := hD.sub (ws' := []) [] (by decide) rfl
  have hKc := hK.sub (tys' := []) [] rfl
  have hFc := va_free (wc := []) hD hS hA [] rfl
  refine va_calli (va_runV (As := [.int 3]) (rest := []) ⟨hx, hb, hml, hown, hts⟩ (cz_QisEnd_3 l dC dI ed H4.size mr ll lt lp) (cwV 1 hts gX7_depth_X7_isEnd rfl rfl rfl (by decide +kernel) ⟨Nat.le_of_ble_eq_true rfl, Nat.le_of_ble_eq_true rfl⟩) ⟨zb_blind, va_recv hK (zo_R hR0 hS hAr) (ci := 9) (q0 := 0) rfl rfl, fun U hU hW => ⟨rfl, zb_mk hU hW hPr hPc hKc hDc hN hH hS hFc zx_e⟩⟩ rfl rfl hl.1 rfl (lv_room (Nat.le_of_ble_eq_true rfl)) dX7_depth_31 ⟨Nat.le_of_ble_eq_true rfl, Nat.le_of_ble_eq_true rfl⟩) hS (fun q _ h => hFc q h) hFc (fun r7 u t H6 locs ht hvm hw hB hz1 hk1 hS => ?_)
  obtain rfl : r7 = 1 := hw
  have hP := zo_K hP hk1
  refine lv_if_eq (tgt := 58) hx hb dX7_depth_34 (by decide) (fun h => absurd h (by decide)) (fun _ => ?_)
  refine lv_iload hx hb dX7_depth_37 (lv_at hl 1 rfl) ?_
  refine lv_iconst (v := (-1)) hx hb dX7_depth_39 (by decide) ?_
  refine lv_icmp_eq (tgt := 52) hx hb dX7_depth_40 (by decide) (fun _ => ?_) (fun h => absurd h (by decide))
  refine lv_aload_n hx hb dX7_depth_52 rfl (lv_at hl 2 rfl) ?_
  refine lv_iload hx hb dX7_depth_53 (lv_at hl 0 rfl) ?_
  refine va_iald hx hb hK hP 0 14 rfl rfl (by unfold vp_in; decide) dX7_depth_55 ?_
  refine zo_i (v := 1) (by rw [show Int32.toNatClampNeg 3 = 3 from by decide]; exact k3_3) ?_
  refine lv_istore (lv' := [(4, .int 1), (5, .int 3), (3, .ref r2), (0, .ref mr), (1, .int 2), (2, .int 0)]) hx hb dX7_depth_56 hl (by decide) rfl (fun ls hl => ?_)
  refine lv_iinc (v := 4) (lv' := [(5, .int 4), (4, .int 1), (3, .ref r2), (0, .ref mr), (1, .int 2), (2, .int 0)]) hx hb dX7_depth_58 hl (k := 1) rfl (by decide) (by decide) rfl (fun ls hl => ?_)
  refine lv_goto (tgt := 13) hx hb dX7_depth_61 (by decide) ?_
  refine zo_loop (fun (i : Nat) (H : Heap) (locs : List Loc) (ls : Array Slot) => va_P (dC, dI) vwCl [(r2, .inl (cS_3, 1024, .inl fs_3))] H ∧ va_D A [(r2, .inl (cS_3, 1024, .inl fs_3))] ∧ va_S A s.heap H locs ∧ lv_has ls 6 [(5, .int (nI (4 + i))), (4, .int 1), (3, .ref r2), (0, .ref mr), (1, .int 2), (2, .int 0)]) 1020 ⟨hP, hD, hS, lv_sub hl [0, 1, 2, 3, 4, 5] rfl⟩ (fun i hi ih H locs ls hI => ?_) (fun H locs ls hI => ?_)
  · obtain ⟨hP, hD, hS, hl⟩ := hI
    refine lv_iload hx hb dX7_depth_13 (lv_at hl 0 rfl) ?_
    refine lv_aload_n hx hb dX7_depth_15 rfl (lv_at hl 2 rfl) ?_
    refine va_alen hx hb hK hP 0 14 rfl rfl (v := 1024) (by exact rfl) dX7_depth_16 ?_
    refine lv_icmp_ge (tgt := 64) hx hb dX7_depth_17 (by decide) (fun h => absurd h (nI_ge (a := 4 + i) (b := 1024) (by omega) (by decide))) (fun _ => ?_)
    refine lv_aload_n hx hb dX7_depth_20 rfl (lv_at hl 2 rfl) ?_
    refine lv_iload hx hb dX7_depth_21 (lv_at hl 0 rfl) ?_
    refine va_iald hx hb hK hP 0 14 rfl rfl (vp_in_nI (by omega) (by decide)) dX7_depth_23 ?_
    refine zo_i (v := (-1)) (by rw [nI_clamp (n := (4 + i)) (by omega)]; exact hg3 ((4 + i)) (by omega) (by omega)) ?_
    refine lv_iconst (v := (-1)) hx hb dX7_depth_24 (by decide) ?_
    refine lv_icmp_eq (tgt := 58) hx hb dX7_depth_25 (by decide) (fun _ => ?_) (fun h => absurd h (by decide))
    refine lv_iinc (v := (nI ((4 + i) + 1))) (lv' := [(5, .int (nI ((4 + i) + 1))), (4, .int 1), (3, .ref r2), (0, .ref mr), (1, .int 2), (2, .int 0)]) hx hb dX7_depth_58 hl (k := 0) rfl (nI_1 (4 + i)) (by decide) rfl (fun ls hl => ?_)
    refine lv_goto (tgt := 13) hx hb dX7_depth_61 (by decide) ?_
    exact ih _ _ _ ⟨hP, hD, hS, lv_sub hl [0, 1, 2, 3, 4, 5] rfl⟩
  · obtain ⟨hP, hD, hS, hl⟩ := hI
    refine lv_iload hx hb dX7_depth_13 (lv_at hl 0 rfl) ?_
    refine lv_aload_n hx hb dX7_depth_15 rfl (lv_at hl 2 rfl) ?_
    refine va_alen hx hb hK hP 0 14 rfl rfl (v := 1024) (by exact rfl) dX7_depth_16 ?_
    refine lv_icmp_ge (tgt := 64) hx hb dX7_depth_17 (by decide) (fun _ => ?_) (fun h => absurd (nI_le (a := 1024) (b := 4 + 1020) (by omega) (by decide)) h)
    refine lv_iload hx hb dX7_depth_64 (lv_at hl 1 rfl) ?_
    refine W.widen (k := 1) (n := 1024) (Nat.le_of_ble_eq_true rfl) (Nat.le_of_ble_eq_true rfl) ?_
    have hP9 := hP.sub (ws' := [(r2, .inl (cS_3, 1024, .inl fs_3))]) [0] rfl
    have hD9 := hD.sub (ws' := [(r2, .inl (cS_3, 1024, .inl fs_3))]) [0] (by decide) rfl
    have hK9 := hK.sub (tys' := [(cS_3, .int)]) [14] rfl
    exact W.iret hx hb hr (fun t ht hW => ⟨⟨1, (), rfl, rfl, ⟨r2, cS_3, fs_3, by rw [ht]; exact hP9, hD9, va_K.moved hW.alike hK9⟩⟩, hS.F ht⟩) hS.2.2 dX7_depth_66
set_option maxHeartbeats 4000000 in
set_option maxRecDepth 100000 in
theorem cz_Qdepth_ (l : Launch) (dC : Nat → ClassId) (dI : Nat → Nat → Nat) (ed sz : Nat) (mr : Nat) (ll : Nat) (lt : Nat) (lp : Nat) (ola : Nat) (cOl : ClassId) (fol : Nat → Option Nat) (la0 : Nat) (la1 : Nat) (cA0 : ClassId) (fa0 : Nat → Int32) (cA1 : ClassId) (fa1 : Nat → Int32) (ota : Nat) (cOt : ClassId) (fot : Nat → Option Nat) (ta0 : Nat) (ta1 : Nat) (ta2 : Nat) (ta3 : Nat) (ta4 : Nat) (ta5 : Nat) (ta6 : Nat) (ta7 : Nat) (ta8 : Nat) (ta9 : Nat) (cB0 : ClassId) (fb0 : Nat → Int32) (y0 : Int32) (cB1 : ClassId) (fb1 : Nat → Int32) (y1 : Int32) (cB2 : ClassId) (fb2 : Nat → Int32) (y2 : Int32) (cB3 : ClassId) (fb3 : Nat → Int32) (y3 : Int32) (cB4 : ClassId) (fb4 : Nat → Int32) (y4 : Int32) (cB5 : ClassId) (fb5 : Nat → Int32) (y5 : Int32) (cB6 : ClassId) (fb6 : Nat → Int32) (y6 : Int32) (cB7 : ClassId) (fb7 : Nat → Int32) (y7 : Int32) (cB8 : ClassId) (fb8 : Nat → Int32) (y8 : Int32) (cB9 : ClassId) (fb9 : Nat → Int32) (y9 : Int32) (hol0 : fol 0 = some la0) (hol1 : fol 1 = some la1) (ha0_0 : fa0 0 = 0) (ha0_1 : fa0 1 = 0) (ha0_4 : fa0 4 = 0) (ha0_8 : fa0 8 = 0) (ha1_0 : fa1 0 = 0) (ha1_1 : fa1 1 = 0) (ha1_4 : fa1 4 = 0) (ha1_8 : fa1 8 = 0) (hot0 : fot 0 = some ta0) (hot1 : fot 1 = some ta1) (hot2 : fot 2 = some ta2) (hot3 : fot 3 = some ta3) (hot4 : fot 4 = some ta4) (hot5 : fot 5 = some ta5) (hot6 : fot 6 = some ta6) (hot7 : fot 7 = some ta7) (hot8 : fot 8 = some ta8) (hot9 : fot 9 = some ta9) (hb0_0 : fb0 0 = (-1)) (hb0_3 : fb0 3 = y0) (hb1_0 : fb1 0 = (-1)) (hb1_3 : fb1 3 = y1) (hb2_0 : fb2 0 = (-1)) (hb2_3 : fb2 3 = y2) (hb3_0 : fb3 0 = (-1)) (hb3_3 : fb3 3 = y3) (hb4_0 : fb4 0 = (-1)) (hb4_3 : fb4 3 = y4) (hb5_0 : fb5 0 = (-1)) (hb5_3 : fb5 3 = y5) (hb6_0 : fb6 0 = (-1)) (hb6_3 : fb6 3 = y6) (hb7_0 : fb7 0 = (-1)) (hb7_3 : fb7 3 = y7) (hb8_0 : fb8 0 = (-1)) (hb8_3 : fb8 3 = y8) (hb9_0 : fb9 0 = (-1)) (hb9_3 : fb9 3 = y9) : Met l yX7_depth_ wsX7_depth_ ({ frames := 7, cells := 1, slots := 1024, locals := 167 } : Jvm.Room) (va_Pc [.ref mr] (zB dC dI ed sz [(mr, .inr (9, [.ref ll, .ref lt, .ref lp, .int 0, .int 0, .int 0, .int 0, .int 0, .int 0, .int 0, .int (-1), .int 0, .int 0, .int 0])), (ll, .inr (1, [.int 2, .ref ola, .int 2])), (ola, .inl (cOl, 10, .inr (.inr (.inr (.inr fol))))), (la0, .inl (cA0, 10, .inl fa0)), (la1, .inl (cA1, 10, .inl fa1)), (lt, .inr (1, [.int 10, .ref ota, .int 10])), (ota, .inl (cOt, 10, .inr (.inr (.inr (.inr fot))))), (ta0, .inl (cB0, 5, .inl fb0)), (ta1, .inl (cB1, 5, .inl fb1)), (ta2, .inl (cB2, 5, .inl fb2)), (ta3, .inl (cB3, 5, .inl fb3)), (ta4, .inl (cB4, 5, .inl fb4)), (ta5, .inl (cB5, 5, .inl fb5)), (ta6, .inl (cB6, 5, .inl fb6)), (ta7, .inl (cB7, 5, .inl fb7)), (ta8, .inl (cB8, 5, .inl fb8)), (ta9, .inl (cB9, 5, .inl fb9))] [] [(cOl, .object "java/lang/Object"), (cA0, .int), (cA1, .int), (cOt, .object "java/lang/Object"), (cB0, .int), (cB1, .int), (cB2, .int), (cB3, .int), (cB4, .int), (cB5, .int), (cB6, .int), (cB7, .int), (cB8, .int), (cB9, .int)])) (va_Qi (fun (r : Int32) (_ : Unit) => r = 1) (fun (_ : Unit) (t : State) => ∃ (rw0 : Nat), ∃ (cW0 : ClassId), ∃ (fW0 : Nat → Int32), va_P (dC, dI) vwCl [(rw0, .inl (cW0, 1024, .inl fW0))] t.heap ∧ va_D (va_A [] sz) [(rw0, .inl (cW0, 1024, .inl fW0))] ∧ va_K (dC, dI) vwCl [(cW0, .int)] t) (va_A [] sz)) 1 1024 (va_A [] sz) := by
  refine Met.ofW (cc := cX7_depth_) (maxL := 1) (ret := (some .int)) (by decide) rfl ?_
  intro p e s m args below meth c s₁ B hml hv
  obtain ⟨rfl, hsz, hR0, hP, hK, hD0, hN, hH, hX0⟩ := hv
  have hx := B.exec
  have hb := B.bytes
  have hr := B.returns
  have hts := atoms_spec (ws := wsX7_depth_) B.pre
  have hown : s.vm.findClass RX7 = some m.cls := findClass_of_methodNamed B.named
  have hlocks := B.notSynchronized
  subst hsz
  have hD := hD0.self (sz := s.heap.size)
  have hAr := zx_A hX0 hR0
  generalize hAe : va_A [] s.heap.size = A at hD hAr hH ⊢
  have hA : ∀ q : Nat, s.heap.size ≤ q → A q := fun q h => by rw [← hAe]; exact Or.inr h
  have hS : va_S A s.heap s.heap [] := va_S.rf
  have hl := lv_entry ([.ref mr]) (n := 1) (Nat.le_of_ble_eq_true rfl)
  rw [lg_entry_eq]
  generalize (lg_sl ([.ref mr]) ++ List.replicate (1 - (lg_sl ([.ref mr])).length) Slot.unset).toArray = ls at hl ⊢
  have hl : lv_has ls 1 [(0, .ref mr)] := hl
  refine lv_aload_n hx hb dX7_depth__0 rfl (lv_at hl 0 rfl) ?_
  refine lv_aload_n hx hb dX7_depth__1 rfl (lv_at hl 0 rfl) ?_
  have hPr := (hR0).sub (ws' := [(mr, .inr (9, [.ref ll, .ref lt, .ref lp, .int 0, .int 0, .int 0, .int 0, .int 0, .int 0, .int 0, .int (-1), .int 0, .int 0, .int 0])), (ll, .inr (1, [.int 2, .ref ola, .int 2])), (ola, .inl (cOl, 10, .inr (.inr (.inr (.inr fol))))), (la0, .inl (cA0, 10, .inl fa0)), (la1, .inl (cA1, 10, .inl fa1))]) [0, 1, 2, 3, 4] rfl
  have hPc := hP.sub (ws' := []) [] rfl
  have hDc := hD.sub (ws' := []) [] (by decide) rfl
  have hKc := hK.sub (tys' := [(cOl, .object "java/lang/Object"), (cA0, .int), (cA1, .int)]) [0, 1, 2] rfl
  have hFc := va_free (wc := []) hD hS hA [] rfl
  refine va_calli (va_runV (As := []) (rest := [.ref mr]) ⟨hx, hb, hml, hown, hts⟩ (cz_Qopened l dC dI ed s.heap.size mr ll lt lp ola cOl fol la0 la1 cA0 fa0 cA1 fa1 hol0 hol1 ha0_4 ha1_4) (cwV 0 hts gX7_depth__X7_opened rfl rfl rfl (by decide +kernel) ⟨Nat.le_of_ble_eq_true rfl, Nat.le_of_ble_eq_true rfl⟩) ⟨zb_blind, va_recv hK hR0 (ci := 9) (q0 := 0) rfl rfl, fun U hU hW => ⟨rfl, zb_mk hU hW hPr hPc hKc hDc hN hH hS hFc zx_e⟩⟩ rfl rfl hl.1 rfl (lv_room (Nat.le_of_ble_eq_true rfl)) dX7_depth__2 ⟨Nat.le_of_ble_eq_true rfl, Nat.le_of_ble_eq_true rfl⟩) hS (fun q _ h => hFc q h) hFc (fun r2 u t H1 locs ht hvm hw hB hz1 hk1 hS => ?_)
  obtain rfl : r2 = 0 := hw
  have hP := zo_K hP hk1
  refine lv_aload_n hx hb dX7_depth__5 rfl (lv_at hl 0 rfl) ?_
  have hPr := ((zo_R hR0 hS hAr)).sub (ws' := [(mr, .inr (9, [.ref ll, .ref lt, .ref lp, .int 0, .int 0, .int 0, .int 0, .int 0, .int 0, .int 0, .int (-1), .int 0, .int 0, .int 0])), (ll, .inr (1, [.int 2, .ref ola, .int 2])), (ola, .inl (cOl, 10, .inr (.inr (.inr (.inr fol))))), (la0, .inl (cA0, 10, .inl fa0)), (la1, .inl (cA1, 10, .inl fa1))]) [0, 1, 2, 3, 4] rfl
  have hPc := hP.sub (ws' := []) [] rfl
  have hDc := hD.sub (ws' := []) [] (by decide) rfl
  have hKc := hK.sub (tys' := [(cOl, .object "java/lang/Object"), (cA0, .int), (cA1, .int)]) [0, 1, 2] rfl
  have hFc := va_free (wc := []) hD hS hA [] rfl
  refine va_calli (va_runV (As := []) (rest := [.int 0, .ref mr]) ⟨hx, hb, hml, hown, hts⟩ (cz_Qopened l dC dI ed H1.size mr ll lt lp ola cOl fol la0 la1 cA0 fa0 cA1 fa1 hol0 hol1 ha0_4 ha1_4) (cwV 0 hts gX7_depth__X7_opened rfl rfl rfl (by decide +kernel) ⟨Nat.le_of_ble_eq_true rfl, Nat.le_of_ble_eq_true rfl⟩) ⟨zb_blind, va_recv hK (zo_R hR0 hS hAr) (ci := 9) (q0 := 0) rfl rfl, fun U hU hW => ⟨rfl, zb_mk hU hW hPr hPc hKc hDc hN hH hS hFc zx_e⟩⟩ rfl rfl hl.1 rfl (lv_room (Nat.le_of_ble_eq_true rfl)) dX7_depth__6 ⟨Nat.le_of_ble_eq_true rfl, Nat.le_of_ble_eq_true rfl⟩) hS (fun q _ h => hFc q h) hFc (fun r4 u t H3 locs ht hvm hw hB hz1 hk1 hS => ?_)
  obtain rfl : r4 = 0 := hw
  have hP := zo_K hP hk1
  have hPr := ((zo_R hR0 hS hAr)).sub (ws' := [(mr, .inr (9, [.ref ll, .ref lt, .ref lp, .int 0, .int 0, .int 0, .int 0, .int 0, .int 0, .int 0, .int (-1), .int 0, .int 0, .int 0])), (ll, .inr (1, [.int 2, .ref ola, .int 2])), (ola, .inl (cOl, 10, .inr (.inr (.inr (.inr fol))))), (la0, .inl (cA0, 10, .inl fa0)), (la1, .inl (cA1, 10, .inl fa1)), (lt, .inr (1, [.int 10, .ref ota, .int 10])), (ota, .inl (cOt, 10, .inr (.inr (.inr (.inr fot))))), (ta0, .inl (cB0, 5, .inl fb0)), (ta1, .inl (cB1, 5, .inl fb1)), (ta2, .inl (cB2, 5, .inl fb2)), (ta3, .inl (cB3, 5, .inl fb3)), (ta4, .inl (cB4, 5, .inl fb4)), (ta5, .inl (cB5, 5, .inl fb5)), (ta6, .inl (cB6, 5, .inl fb6)), (ta7, .inl (cB7, 5, .inl fb7)), (ta8, .inl (cB8, 5, .inl fb8)), (ta9, .inl (cB9, 5, .inl fb9))]) [0, 1, 2, 3, 4, 5, 6, 7, 8, 9, 10, 11, 12, 13, 14, 15, 16] rfl
  have hPc := hP.sub (ws' := []) [] rfl
  have hDc := hD.sub (ws' := []) [] (by decide) rfl
  have hKc := hK.sub (tys' := [(cOl, .object "java/lang/Object"), (cA0, .int), (cA1, .int), (cOt, .object "java/lang/Object"), (cB0, .int), (cB1, .int), (cB2, .int), (cB3, .int), (cB4, .int), (cB5, .int), (cB6, .int), (cB7, .int), (cB8, .int), (cB9, .int)]) [0, 1, 2, 3, 4, 5, 6, 7, 8, 9, 10, 11, 12, 13] rfl
  have hFc := va_free (wc := []) hD hS hA [] rfl
  refine va_calli (va_runV (As := [.int 0, .int 0]) (rest := []) ⟨hx, hb, hml, hown, hts⟩ (cz_Qdepth_0 l dC dI ed H3.size mr ll lt lp ola cOl fol la0 la1 cA0 fa0 cA1 fa1 ota cOt fot ta0 ta1 ta2 ta3 ta4 ta5 ta6 ta7 ta8 ta9 cB0 fb0 y0 cB1 fb1 y1 cB2 fb2 y2 cB3 fb3 y3 cB4 fb4 y4 cB5 fb5 y5 cB6 fb6 y6 cB7 fb7 y7 cB8 fb8 y8 cB9 fb9 y9 hol0 hol1 ha0_0 ha0_1 ha0_8 ha1_0 ha1_1 ha1_8 hot0 hot1 hot2 hot3 hot4 hot5 hot6 hot7 hot8 hot9 hb0_0 hb0_3 hb1_0 hb1_3 hb2_0 hb2_3 hb3_0 hb3_3 hb4_0 hb4_3 hb5_0 hb5_3 hb6_0 hb6_3 hb7_0 hb7_3 hb8_0 hb8_3 hb9_0 hb9_3) (cwV 2 hts gX7_depth__X7_depth rfl rfl rfl (by decide +kernel) ⟨Nat.le_of_ble_eq_true rfl, Nat.le_of_ble_eq_true rfl⟩) ⟨zb_blind, va_recv hK (zo_R hR0 hS hAr) (ci := 9) (q0 := 0) rfl rfl, fun U hU hW => ⟨rfl, zb_mk hU hW hPr hPc hKc hDc hN hH hS hFc zx_e⟩⟩ rfl rfl hl.1 rfl (lv_room (Nat.le_of_ble_eq_true rfl)) dX7_depth__9 ⟨Nat.le_of_ble_eq_true rfl, Nat.le_of_ble_eq_true rfl⟩) hS (fun q _ h => hFc q h) hFc (fun r6 u t H5 locs ht hvm hw hB hz1 hk1 hS => ?_)
  obtain rfl : r6 = 1 := hw
  obtain ⟨rw0_7, cW0_7, fW0_7, hP1, hD1, hK1⟩ := hB
  rw [ht] at hP1
  obtain ⟨hP, hD⟩ := va_join (wr := []) (w1 := [(rw0_7, .inl (cW0_7, 1024, .inl fW0_7))]) hP hD [] [] rfl rfl (by decide) (by decide) hk1 hFc hP1 hD1
  have hP : va_P (dC, dI) vwCl [(rw0_7, .inl (cW0_7, 1024, .inl fW0_7))] H5 := hP
  have hD : va_D A [(rw0_7, .inl (cW0_7, 1024, .inl fW0_7))] := hD
  have hK := hK.app (va_K.moved hvm.symm hK1)
  have hK : va_K (dC, dI) vwCl [(cOl, .object "java/lang/Object"), (cA0, .int), (cA1, .int), (cOt, .object "java/lang/Object"), (cB0, .int), (cB1, .int), (cB2, .int), (cB3, .int), (cB4, .int), (cB5, .int), (cB6, .int), (cB7, .int), (cB8, .int), (cB9, .int), (cW0_7, .int)] s := hK
  refine W.widen (k := 1) (n := 1024) (Nat.le_of_ble_eq_true rfl) (Nat.le_of_ble_eq_true rfl) ?_
  have hP9 := hP.sub (ws' := [(rw0_7, .inl (cW0_7, 1024, .inl fW0_7))]) [0] rfl
  have hD9 := hD.sub (ws' := [(rw0_7, .inl (cW0_7, 1024, .inl fW0_7))]) [0] (by decide) rfl
  have hK9 := hK.sub (tys' := [(cW0_7, .int)]) [14] rfl
  exact W.iret hx hb hr (fun t ht hW => ⟨⟨1, (), rfl, rfl, ⟨rw0_7, cW0_7, fW0_7, by rw [ht]; exact hP9, hD9, va_K.moved hW.alike hK9⟩⟩, hS.F ht⟩) hS.2.2 dX7_depth__12
set_option maxHeartbeats 4000000 in
set_option maxRecDepth 100000 in
theorem cz_Qstands7 (l : Launch) (dC : Nat → ClassId) (dI : Nat → Nat → Nat) (ed sz : Nat) (mr : Nat) (ll : Nat) (lt : Nat) (lp : Nat) (ola : Nat) (cOl : ClassId) (fol : Nat → Option Nat) (la0 : Nat) (la1 : Nat) (cA0 : ClassId) (fa0 : Nat → Int32) (cA1 : ClassId) (fa1 : Nat → Int32) (ota : Nat) (cOt : ClassId) (fot : Nat → Option Nat) (ta0 : Nat) (ta1 : Nat) (ta2 : Nat) (ta3 : Nat) (ta4 : Nat) (ta5 : Nat) (ta6 : Nat) (ta7 : Nat) (ta8 : Nat) (ta9 : Nat) (cB0 : ClassId) (fb0 : Nat → Int32) (y0 : Int32) (cB1 : ClassId) (fb1 : Nat → Int32) (y1 : Int32) (cB2 : ClassId) (fb2 : Nat → Int32) (y2 : Int32) (cB3 : ClassId) (fb3 : Nat → Int32) (y3 : Int32) (cB4 : ClassId) (fb4 : Nat → Int32) (y4 : Int32) (cB5 : ClassId) (fb5 : Nat → Int32) (y5 : Int32) (cB6 : ClassId) (fb6 : Nat → Int32) (y6 : Int32) (cB7 : ClassId) (fb7 : Nat → Int32) (y7 : Int32) (cB8 : ClassId) (fb8 : Nat → Int32) (y8 : Int32) (cB9 : ClassId) (fb9 : Nat → Int32) (y9 : Int32) (hol0 : fol 0 = some la0) (hol1 : fol 1 = some la1) (ha0_0 : fa0 0 = 0) (ha0_1 : fa0 1 = 0) (ha0_4 : fa0 4 = 0) (ha0_8 : fa0 8 = 0) (ha1_0 : fa1 0 = 0) (ha1_1 : fa1 1 = 0) (ha1_4 : fa1 4 = 0) (ha1_8 : fa1 8 = 0) (hot0 : fot 0 = some ta0) (hot1 : fot 1 = some ta1) (hot2 : fot 2 = some ta2) (hot3 : fot 3 = some ta3) (hot4 : fot 4 = some ta4) (hot5 : fot 5 = some ta5) (hot6 : fot 6 = some ta6) (hot7 : fot 7 = some ta7) (hot8 : fot 8 = some ta8) (hot9 : fot 9 = some ta9) (hb0_0 : fb0 0 = (-1)) (hb0_3 : fb0 3 = y0) (hb1_0 : fb1 0 = (-1)) (hb1_3 : fb1 3 = y1) (hb2_0 : fb2 0 = (-1)) (hb2_3 : fb2 3 = y2) (hb3_0 : fb3 0 = (-1)) (hb3_3 : fb3 3 = y3) (hb4_0 : fb4 0 = (-1)) (hb4_3 : fb4 3 = y4) (hb5_0 : fb5 0 = (-1)) (hb5_3 : fb5 3 = y5) (hb6_0 : fb6 0 = (-1)) (hb6_3 : fb6 3 = y6) (hb7_0 : fb7 0 = (-1)) (hb7_3 : fb7 3 = y7) (hb8_0 : fb8 0 = (-1)) (hb8_3 : fb8 3 = y8) (hb9_0 : fb9 0 = (-1)) (hb9_3 : fb9 3 = y9) : Met l yX7_stands wsX7_stands ({ frames := 6, cells := 1, slots := 1024, locals := 142 } : Jvm.Room) (va_Pc [.ref mr] (zB dC dI ed sz [(mr, .inr (9, [.ref ll, .ref lt, .ref lp, .int 0, .int 0, .int 0, .int 0, .int 0, .int 0, .int 0, .int (-1), .int 0, .int 0, .int 0])), (ll, .inr (1, [.int 2, .ref ola, .int 2])), (ola, .inl (cOl, 10, .inr (.inr (.inr (.inr fol))))), (la0, .inl (cA0, 10, .inl fa0)), (la1, .inl (cA1, 10, .inl fa1)), (lt, .inr (1, [.int 10, .ref ota, .int 10])), (ota, .inl (cOt, 10, .inr (.inr (.inr (.inr fot))))), (ta0, .inl (cB0, 5, .inl fb0)), (ta1, .inl (cB1, 5, .inl fb1)), (ta2, .inl (cB2, 5, .inl fb2)), (ta3, .inl (cB3, 5, .inl fb3)), (ta4, .inl (cB4, 5, .inl fb4)), (ta5, .inl (cB5, 5, .inl fb5)), (ta6, .inl (cB6, 5, .inl fb6)), (ta7, .inl (cB7, 5, .inl fb7)), (ta8, .inl (cB8, 5, .inl fb8)), (ta9, .inl (cB9, 5, .inl fb9))] [] [(cOl, .object "java/lang/Object"), (cA0, .int), (cA1, .int), (cOt, .object "java/lang/Object"), (cB0, .int), (cB1, .int), (cB2, .int), (cB3, .int), (cB4, .int), (cB5, .int), (cB6, .int), (cB7, .int), (cB8, .int), (cB9, .int)])) (va_Qi (fun (r : Int32) (_ : Unit) => r = 4) (fun (_ : Unit) (t : State) => ∃ (rw0 : Nat), ∃ (cW0 : ClassId), ∃ (fW0 : Nat → Int32), va_P (dC, dI) vwCl [(rw0, .inl (cW0, 1024, .inl fW0))] t.heap ∧ va_D (va_A [] sz) [(rw0, .inl (cW0, 1024, .inl fW0))] ∧ va_K (dC, dI) vwCl [(cW0, .int)] t) (va_A [] sz)) 1 1024 (va_A [] sz) := by
  refine Met.ofW (cc := cX7_stands) (maxL := 6) (ret := (some .int)) (by decide) rfl ?_
  intro p e s m args below meth c s₁ B hml hv
  obtain ⟨rfl, hsz, hR0, hP, hK, hD0, hN, hH, hX0⟩ := hv
  have hx := B.exec
  have hb := B.bytes
  have hr := B.returns
  have hts := atoms_spec (ws := wsX7_stands) B.pre
  have hown : s.vm.findClass RX7 = some m.cls := findClass_of_methodNamed B.named
  have hlocks := B.notSynchronized
  subst hsz
  have hD := hD0.self (sz := s.heap.size)
  have hAr := zx_A hX0 hR0
  generalize hAe : va_A [] s.heap.size = A at hD hAr hH ⊢
  have hA : ∀ q : Nat, s.heap.size ≤ q → A q := fun q h => by rw [← hAe]; exact Or.inr h
  have hS : va_S A s.heap s.heap [] := va_S.rf
  have hl := lv_entry ([.ref mr]) (n := 6) (Nat.le_of_ble_eq_true rfl)
  rw [lg_entry_eq]
  generalize (lg_sl ([.ref mr]) ++ List.replicate (6 - (lg_sl ([.ref mr])).length) Slot.unset).toArray = ls at hl ⊢
  have hl : lv_has ls 6 [(0, .ref mr)] := hl
  refine lv_iconst (v := 0) hx hb dX7_stands_0 (by decide) ?_
  refine lv_istore_n (lv' := [(1, .int 0), (0, .ref mr)]) hx hb dX7_stands_1 rfl hl (by decide) rfl (fun ls hl => ?_)
  refine lv_aload_n hx hb dX7_stands_2 rfl (lv_at hl 1 rfl) ?_
  refine lv_aload_n hx hb dX7_stands_3 rfl (lv_at hl 1 rfl) ?_
  have hPr := (hR0).sub (ws' := [(mr, .inr (9, [.ref ll, .ref lt, .ref lp, .int 0, .int 0, .int 0, .int 0, .int 0, .int 0, .int 0, .int (-1), .int 0, .int 0, .int 0])), (ll, .inr (1, [.int 2, .ref ola, .int 2])), (ola, .inl (cOl, 10, .inr (.inr (.inr (.inr fol))))), (la0, .inl (cA0, 10, .inl fa0)), (la1, .inl (cA1, 10, .inl fa1))]) [0, 1, 2, 3, 4] rfl
  have hPc := hP.sub (ws' := []) [] rfl
  have hDc := hD.sub (ws' := []) [] (by decide) rfl
  have hKc := hK.sub (tys' := [(cOl, .object "java/lang/Object"), (cA0, .int), (cA1, .int)]) [0, 1, 2] rfl
  have hFc := va_free (wc := []) hD hS hA [] rfl
  refine va_calli (va_runV (As := []) (rest := [.ref mr]) ⟨hx, hb, hml, hown, hts⟩ (cz_Qopened l dC dI ed s.heap.size mr ll lt lp ola cOl fol la0 la1 cA0 fa0 cA1 fa1 hol0 hol1 ha0_4 ha1_4) (cwV 0 hts gX7_stands_X7_opened rfl rfl rfl (by decide +kernel) ⟨Nat.le_of_ble_eq_true rfl, Nat.le_of_ble_eq_true rfl⟩) ⟨zb_blind, va_recv hK hR0 (ci := 9) (q0 := 0) rfl rfl, fun U hU hW => ⟨rfl, zb_mk hU hW hPr hPc hKc hDc hN hH hS hFc zx_e⟩⟩ rfl rfl hl.1 rfl (lv_room (Nat.le_of_ble_eq_true rfl)) dX7_stands_4 ⟨Nat.le_of_ble_eq_true rfl, Nat.le_of_ble_eq_true rfl⟩) hS (fun q _ h => hFc q h) hFc (fun r2 u t H1 locs ht hvm hw hB hz1 hk1 hS => ?_)
  obtain rfl : r2 = 0 := hw
  have hP := zo_K hP hk1
  refine lv_aload_n hx hb dX7_stands_7 rfl (lv_at hl 1 rfl) ?_
  have hPr := ((zo_R hR0 hS hAr)).sub (ws' := [(mr, .inr (9, [.ref ll, .ref lt, .ref lp, .int 0, .int 0, .int 0, .int 0, .int 0, .int 0, .int 0, .int (-1), .int 0, .int 0, .int 0])), (ll, .inr (1, [.int 2, .ref ola, .int 2])), (ola, .inl (cOl, 10, .inr (.inr (.inr (.inr fol))))), (la0, .inl (cA0, 10, .inl fa0)), (la1, .inl (cA1, 10, .inl fa1))]) [0, 1, 2, 3, 4] rfl
  have hPc := hP.sub (ws' := []) [] rfl
  have hDc := hD.sub (ws' := []) [] (by decide) rfl
  have hKc := hK.sub (tys' := [(cOl, .object "java/lang/Object"), (cA0, .int), (cA1, .int)]) [0, 1, 2] rfl
  have hFc := va_free (wc := []) hD hS hA [] rfl
  refine va_calli (va_runV (As := []) (rest := [.int 0, .ref mr]) ⟨hx, hb, hml, hown, hts⟩ (cz_Qopened l dC dI ed H1.size mr ll lt lp ola cOl fol la0 la1 cA0 fa0 cA1 fa1 hol0 hol1 ha0_4 ha1_4) (cwV 0 hts gX7_stands_X7_opened rfl rfl rfl (by decide +kernel) ⟨Nat.le_of_ble_eq_true rfl, Nat.le_of_ble_eq_true rfl⟩) ⟨zb_blind, va_recv hK (zo_R hR0 hS hAr) (ci := 9) (q0 := 0) rfl rfl, fun U hU hW => ⟨rfl, zb_mk hU hW hPr hPc hKc hDc hN hH hS hFc zx_e⟩⟩ rfl rfl hl.1 rfl (lv_room (Nat.le_of_ble_eq_true rfl)) dX7_stands_8 ⟨Nat.le_of_ble_eq_true rfl, Nat.le_of_ble_eq_true rfl⟩) hS (fun q _ h => hFc q h) hFc (fun r4 u t H3 locs ht hvm hw hB hz1 hk1 hS => ?_)
  obtain rfl : r4 = 0 := hw
  have hP := zo_K hP hk1
  have hPr := ((zo_R hR0 hS hAr)).sub (ws' := [(mr, .inr (9, [.ref ll, .ref lt, .ref lp, .int 0, .int 0, .int 0, .int 0, .int 0, .int 0, .int 0, .int (-1), .int 0, .int 0, .int 0])), (ll, .inr (1, [.int 2, .ref ola, .int 2])), (ola, .inl (cOl, 10, .inr (.inr (.inr (.inr fol))))), (la0, .inl (cA0, 10, .inl fa0)), (la1, .inl (cA1, 10, .inl fa1)), (lt, .inr (1, [.int 10, .ref ota, .int 10])), (ota, .inl (cOt, 10, .inr (.inr (.inr (.inr fot))))), (ta0, .inl (cB0, 5, .inl fb0)), (ta1, .inl (cB1, 5, .inl fb1)), (ta2, .inl (cB2, 5, .inl fb2)), (ta3, .inl (cB3, 5, .inl fb3)), (ta4, .inl (cB4, 5, .inl fb4)), (ta5, .inl (cB5, 5, .inl fb5)), (ta6, .inl (cB6, 5, .inl fb6)), (ta7, .inl (cB7, 5, .inl fb7)), (ta8, .inl (cB8, 5, .inl fb8)), (ta9, .inl (cB9, 5, .inl fb9))]) [0, 1, 2, 3, 4, 5, 6, 7, 8, 9, 10, 11, 12, 13, 14, 15, 16] rfl
  have hPc := hP.sub (ws' := []) [] rfl
  have hDc := hD.sub (ws' := []) [] (by decide) rfl
  have hKc := hK.sub (tys' := [(cOl, .object "java/lang/Object"), (cA0, .int), (cA1, .int), (cOt, .object "java/lang/Object"), (cB0, .int), (cB1, .int), (cB2, .int), (cB3, .int), (cB4, .int), (cB5, .int), (cB6, .int), (cB7, .int), (cB8, .int), (cB9, .int)]) [0, 1, 2, 3, 4, 5, 6, 7, 8, 9, 10, 11, 12, 13] rfl
  have hFc := va_free (wc := []) hD hS hA [] rfl
  refine va_callr (va_runV (As := [.int 0, .int 0]) (rest := []) ⟨hx, hb, hml, hown, hts⟩ (cz_Qsteps_0 l dC dI ed H3.size mr ll lt lp ola cOl fol la0 la1 cA0 fa0 cA1 fa1 ota cOt fot ta0 ta1 ta2 ta3 ta4 ta5 ta6 ta7 ta8 ta9 cB0 fb0 y0 cB1 fb1 y1 cB2 fb2 y2 cB3 fb3 y3 cB4 fb4 y4 cB5 fb5 y5 cB6 fb6 y6 cB7 fb7 y7 cB8 fb8 y8 cB9 fb9 y9 hol0 hol1 ha0_0 ha0_1 ha0_8 ha1_0 ha1_1 ha1_8 hot0 hot1 hot2 hot3 hot4 hot5 hot6 hot7 hot8 hot9 hb0_0 hb0_3 hb1_0 hb1_3 hb2_0 hb2_3 hb3_0 hb3_3 hb4_0 hb4_3 hb5_0 hb5_3 hb6_0 hb6_3 hb7_0 hb7_3 hb8_0 hb8_3 hb9_0 hb9_3) (cwV 2 hts gX7_stands_X7_steps rfl rfl rfl (by decide +kernel) ⟨Nat.le_of_ble_eq_true rfl, Nat.le_of_ble_eq_true rfl⟩) ⟨zb_blind, va_recv hK (zo_R hR0 hS hAr) (ci := 9) (q0 := 0) rfl rfl, fun U hU hW => ⟨rfl, zb_mk hU hW hPr hPc hKc hDc hN hH hS hFc zx_e⟩⟩ rfl rfl hl.1 rfl (lv_room (Nat.le_of_ble_eq_true rfl)) dX7_stands_11 ⟨Nat.le_of_ble_eq_true rfl, Nat.le_of_ble_eq_true rfl⟩) hS (fun q _ h => hFc q h) hFc (fun u r6 t H5 locs ht hvm hw hB hz1 hk1 hS => ?_)
  obtain ⟨cS_7, fs_7, hg7, ⟨k7_0, k7_1, k7_2, k7_3⟩, hP1, hD1, hK1⟩ := hB
  rw [ht] at hP1
  obtain ⟨hP, hD⟩ := va_join (wr := []) (w1 := [(r6, .inl (cS_7, 1024, .inl fs_7))]) hP hD [] [] rfl rfl (by decide) (by decide) hk1 hFc hP1 hD1
  have hP : va_P (dC, dI) vwCl [(r6, .inl (cS_7, 1024, .inl fs_7))] H5 := hP
  have hD : va_D A [(r6, .inl (cS_7, 1024, .inl fs_7))] := hD
  have hK := hK.app (va_K.moved hvm.symm hK1)
  have hK : va_K (dC, dI) vwCl [(cOl, .object "java/lang/Object"), (cA0, .int), (cA1, .int), (cOt, .object "java/lang/Object"), (cB0, .int), (cB1, .int), (cB2, .int), (cB3, .int), (cB4, .int), (cB5, .int), (cB6, .int), (cB7, .int), (cB8, .int), (cB9, .int), (cS_7, .int)] s := hK
  refine lv_astore_n (lv' := [(2, .ref r6), (1, .int 0), (0, .ref mr)]) hx hb dX7_stands_14 rfl hl (by decide) rfl (fun ls hl => ?_)
  refine lv_aload_n hx hb dX7_stands_15 rfl (lv_at hl 0 rfl) ?_
  refine va_alen hx hb hK hP 0 14 rfl rfl (v := 1024) (by exact rfl) dX7_stands_16 ?_
  refine lv_istore_n (lv' := [(3, .int 1024), (2, .ref r6), (1, .int 0), (0, .ref mr)]) hx hb dX7_stands_17 rfl hl (by decide) rfl (fun ls hl => ?_)
  refine lv_iconst (v := 0) hx hb dX7_stands_18 (by decide) ?_
  refine lv_istore (lv' := [(4, .int 0), (3, .int 1024), (2, .ref r6), (1, .int 0), (0, .ref mr)]) hx hb dX7_stands_19 hl (by decide) rfl (fun ls hl => ?_)
  refine lv_iload hx hb dX7_stands_21 (lv_at hl 0 rfl) ?_
  refine lv_iload_n hx hb dX7_stands_23 rfl (lv_at hl 1 rfl) ?_
  refine lv_icmp_ge (tgt := 53) hx hb dX7_stands_24 (by decide) (fun h => absurd h (by decide)) (fun _ => ?_)
  refine lv_aload_n hx hb dX7_stands_27 rfl (lv_at hl 2 rfl) ?_
  refine lv_iload hx hb dX7_stands_28 (lv_at hl 0 rfl) ?_
  refine va_iald hx hb hK hP 0 14 rfl rfl (by unfold vp_in; decide) dX7_stands_30 ?_
  refine zo_i (v := 0) (by rw [show Int32.toNatClampNeg 0 = 0 from by decide]; exact k7_0) ?_
  refine lv_istore (lv' := [(5, .int 0), (4, .int 0), (3, .int 1024), (2, .ref r6), (1, .int 0), (0, .ref mr)]) hx hb dX7_stands_31 hl (by decide) rfl (fun ls hl => ?_)
  refine lv_iload_n hx hb dX7_stands_33 rfl (lv_at hl 4 rfl) ?_
  refine lv_iload hx hb dX7_stands_34 (lv_at hl 0 rfl) ?_
  refine lv_iconst (v := (-1)) hx hb dX7_stands_36 (by decide) ?_
  refine lv_icmp_ne (tgt := 44) hx hb dX7_stands_37 (by decide) (fun _ => ?_) (fun h => absurd h (by decide))
  refine lv_iconst (v := 1) hx hb dX7_stands_44 (by decide) ?_
  refine lv_iadd hx hb dX7_stands_45 ?_
  refine zo_i (v := 1) (by decide) ?_
  refine lv_istore_n (lv' := [(1, .int 1), (5, .int 0), (4, .int 0), (3, .int 1024), (2, .ref r6), (0, .ref mr)]) hx hb dX7_stands_46 rfl hl (by decide) rfl (fun ls hl => ?_)
  refine lv_iinc (v := 1) (lv' := [(4, .int 1), (1, .int 1), (5, .int 0), (3, .int 1024), (2, .ref r6), (0, .ref mr)]) hx hb dX7_stands_47 hl (k := 2) rfl (by decide) (by decide) rfl (fun ls hl => ?_)
  refine lv_goto (tgt := 21) hx hb dX7_stands_50 (by decide) ?_
  refine lv_iload hx hb dX7_stands_21 (lv_at hl 0 rfl) ?_
  refine lv_iload_n hx hb dX7_stands_23 rfl (lv_at hl 3 rfl) ?_
  refine lv_icmp_ge (tgt := 53) hx hb dX7_stands_24 (by decide) (fun h => absurd h (by decide)) (fun _ => ?_)
  refine lv_aload_n hx hb dX7_stands_27 rfl (lv_at hl 4 rfl) ?_
  refine lv_iload hx hb dX7_stands_28 (lv_at hl 0 rfl) ?_
  refine va_iald hx hb hK hP 0 14 rfl rfl (by unfold vp_in; decide) dX7_stands_30 ?_
  refine zo_i (v := 1) (by rw [show Int32.toNatClampNeg 1 = 1 from by decide]; exact k7_1) ?_
  refine lv_istore (lv' := [(5, .int 1), (4, .int 1), (1, .int 1), (3, .int 1024), (2, .ref r6), (0, .ref mr)]) hx hb dX7_stands_31 hl (by decide) rfl (fun ls hl => ?_)
  refine lv_iload_n hx hb dX7_stands_33 rfl (lv_at hl 2 rfl) ?_
  refine lv_iload hx hb dX7_stands_34 (lv_at hl 0 rfl) ?_
  refine lv_iconst (v := (-1)) hx hb dX7_stands_36 (by decide) ?_
  refine lv_icmp_ne (tgt := 44) hx hb dX7_stands_37 (by decide) (fun _ => ?_) (fun h => absurd h (by decide))
  refine lv_iconst (v := 1) hx hb dX7_stands_44 (by decide) ?_
  refine lv_iadd hx hb dX7_stands_45 ?_
  refine zo_i (v := 2) (by decide) ?_
  refine lv_istore_n (lv' := [(1, .int 2), (5, .int 1), (4, .int 1), (3, .int 1024), (2, .ref r6), (0, .ref mr)]) hx hb dX7_stands_46 rfl hl (by decide) rfl (fun ls hl => ?_)
  refine lv_iinc (v := 2) (lv' := [(4, .int 2), (1, .int 2), (5, .int 1), (3, .int 1024), (2, .ref r6), (0, .ref mr)]) hx hb dX7_stands_47 hl (k := 2) rfl (by decide) (by decide) rfl (fun ls hl => ?_)
  refine lv_goto (tgt := 21) hx hb dX7_stands_50 (by decide) ?_
  refine lv_iload hx hb dX7_stands_21 (lv_at hl 0 rfl) ?_
  refine lv_iload_n hx hb dX7_stands_23 rfl (lv_at hl 3 rfl) ?_
  refine lv_icmp_ge (tgt := 53) hx hb dX7_stands_24 (by decide) (fun h => absurd h (by decide)) (fun _ => ?_)
  refine lv_aload_n hx hb dX7_stands_27 rfl (lv_at hl 4 rfl) ?_
  refine lv_iload hx hb dX7_stands_28 (lv_at hl 0 rfl) ?_
  refine va_iald hx hb hK hP 0 14 rfl rfl (by unfold vp_in; decide) dX7_stands_30 ?_
  refine zo_i (v := 1) (by rw [show Int32.toNatClampNeg 2 = 2 from by decide]; exact k7_2) ?_
  refine lv_istore (lv' := [(5, .int 1), (4, .int 2), (1, .int 2), (3, .int 1024), (2, .ref r6), (0, .ref mr)]) hx hb dX7_stands_31 hl (by decide) rfl (fun ls hl => ?_)
  refine lv_iload_n hx hb dX7_stands_33 rfl (lv_at hl 2 rfl) ?_
  refine lv_iload hx hb dX7_stands_34 (lv_at hl 0 rfl) ?_
  refine lv_iconst (v := (-1)) hx hb dX7_stands_36 (by decide) ?_
  refine lv_icmp_ne (tgt := 44) hx hb dX7_stands_37 (by decide) (fun _ => ?_) (fun h => absurd h (by decide))
  refine lv_iconst (v := 1) hx hb dX7_stands_44 (by decide) ?_
  refine lv_iadd hx hb dX7_stands_45 ?_
  refine zo_i (v := 3) (by decide) ?_
  refine lv_istore_n (lv' := [(1, .int 3), (5, .int 1), (4, .int 2), (3, .int 1024), (2, .ref r6), (0, .ref mr)]) hx hb dX7_stands_46 rfl hl (by decide) rfl (fun ls hl => ?_)
  refine lv_iinc (v := 3) (lv' := [(4, .int 3), (1, .int 3), (5, .int 1), (3, .int 1024), (2, .ref r6), (0, .ref mr)]) hx hb dX7_stands_47 hl (k := 2) rfl (by decide) (by decide) rfl (fun ls hl => ?_)
  refine lv_goto (tgt := 21) hx hb dX7_stands_50 (by decide) ?_
  refine lv_iload hx hb dX7_stands_21 (lv_at hl 0 rfl) ?_
  refine lv_iload_n hx hb dX7_stands_23 rfl (lv_at hl 3 rfl) ?_
  refine lv_icmp_ge (tgt := 53) hx hb dX7_stands_24 (by decide) (fun h => absurd h (by decide)) (fun _ => ?_)
  refine lv_aload_n hx hb dX7_stands_27 rfl (lv_at hl 4 rfl) ?_
  refine lv_iload hx hb dX7_stands_28 (lv_at hl 0 rfl) ?_
  refine va_iald hx hb hK hP 0 14 rfl rfl (by unfold vp_in; decide) dX7_stands_30 ?_
  refine zo_i (v := 2) (by rw [show Int32.toNatClampNeg 3 = 3 from by decide]; exact k7_3) ?_
  refine lv_istore (lv' := [(5, .int 2), (4, .int 3), (1, .int 3), (3, .int 1024), (2, .ref r6), (0, .ref mr)]) hx hb dX7_stands_31 hl (by decide) rfl (fun ls hl => ?_)
  refine lv_iload_n hx hb dX7_stands_33 rfl (lv_at hl 2 rfl) ?_
  refine lv_iload hx hb dX7_stands_34 (lv_at hl 0 rfl) ?_
  refine lv_iconst (v := (-1)) hx hb dX7_stands_36 (by decide) ?_
  refine lv_icmp_ne (tgt := 44) hx hb dX7_stands_37 (by decide) (fun _ => ?_) (fun h => absurd h (by decide))
  refine lv_iconst (v := 1) hx hb dX7_stands_44 (by decide) ?_
  refine lv_iadd hx hb dX7_stands_45 ?_
  refine zo_i (v := 4) (by decide) ?_
  refine lv_istore_n (lv' := [(1, .int 4), (5, .int 2), (4, .int 3), (3, .int 1024), (2, .ref r6), (0, .ref mr)]) hx hb dX7_stands_46 rfl hl (by decide) rfl (fun ls hl => ?_)
  refine lv_iinc (v := 4) (lv' := [(4, .int 4), (1, .int 4), (5, .int 2), (3, .int 1024), (2, .ref r6), (0, .ref mr)]) hx hb dX7_stands_47 hl (k := 2) rfl (by decide) (by decide) rfl (fun ls hl => ?_)
  refine lv_goto (tgt := 21) hx hb dX7_stands_50 (by decide) ?_
  refine zo_loop (fun (i : Nat) (H : Heap) (locs : List Loc) (ls : Array Slot) => va_P (dC, dI) vwCl [(r6, .inl (cS_7, 1024, .inl fs_7))] H ∧ va_D A [(r6, .inl (cS_7, 1024, .inl fs_7))] ∧ va_S A s.heap H locs ∧ lv_has ls 6 [(4, .int (nI (4 + i))), (1, .int 4), (3, .int 1024), (2, .ref r6), (0, .ref mr)]) 1020 ⟨hP, hD, hS, lv_sub hl [0, 1, 3, 4, 5] rfl⟩ (fun i hi ih H locs ls hI => ?_) (fun H locs ls hI => ?_)
  · obtain ⟨hP, hD, hS, hl⟩ := hI
    refine lv_iload hx hb dX7_stands_21 (lv_at hl 0 rfl) ?_
    refine lv_iload_n hx hb dX7_stands_23 rfl (lv_at hl 2 rfl) ?_
    refine lv_icmp_ge (tgt := 53) hx hb dX7_stands_24 (by decide) (fun h => absurd h (nI_ge (a := 4 + i) (b := 1024) (by omega) (by decide))) (fun _ => ?_)
    refine lv_aload_n hx hb dX7_stands_27 rfl (lv_at hl 3 rfl) ?_
    refine lv_iload hx hb dX7_stands_28 (lv_at hl 0 rfl) ?_
    refine va_iald hx hb hK hP 0 14 rfl rfl (vp_in_nI (by omega) (by decide)) dX7_stands_30 ?_
    refine zo_i (v := (-1)) (by rw [nI_clamp (n := (4 + i)) (by omega)]; exact hg7 ((4 + i)) (by omega) (by omega)) ?_
    refine lv_istore (lv' := [(5, .int (-1)), (4, .int (nI (4 + i))), (1, .int 4), (3, .int 1024), (2, .ref r6), (0, .ref mr)]) hx hb dX7_stands_31 hl (by decide) rfl (fun ls hl => ?_)
    refine lv_iload_n hx hb dX7_stands_33 rfl (lv_at hl 2 rfl) ?_
    refine lv_iload hx hb dX7_stands_34 (lv_at hl 0 rfl) ?_
    refine lv_iconst (v := (-1)) hx hb dX7_stands_36 (by decide) ?_
    refine lv_icmp_ne (tgt := 44) hx hb dX7_stands_37 (by decide) (fun h => absurd h (by decide)) (fun _ => ?_)
    refine lv_iconst (v := 0) hx hb dX7_stands_40 (by decide) ?_
    refine lv_goto (tgt := 45) hx hb dX7_stands_41 (by decide) ?_
    refine lv_iadd hx hb dX7_stands_45 ?_
    refine zo_i (v := 4) (by decide) ?_
    refine lv_istore_n (lv' := [(1, .int 4), (5, .int (-1)), (4, .int (nI (4 + i))), (3, .int 1024), (2, .ref r6), (0, .ref mr)]) hx hb dX7_stands_46 rfl hl (by decide) rfl (fun ls hl => ?_)
    refine lv_iinc (v := (nI ((4 + i) + 1))) (lv' := [(4, .int (nI ((4 + i) + 1))), (1, .int 4), (5, .int (-1)), (3, .int 1024), (2, .ref r6), (0, .ref mr)]) hx hb dX7_stands_47 hl (k := 2) rfl (nI_1 (4 + i)) (by decide) rfl (fun ls hl => ?_)
    refine lv_goto (tgt := 21) hx hb dX7_stands_50 (by decide) ?_
    exact ih _ _ _ ⟨hP, hD, hS, lv_sub hl [0, 1, 3, 4, 5] rfl⟩
  · obtain ⟨hP, hD, hS, hl⟩ := hI
    refine lv_iload hx hb dX7_stands_21 (lv_at hl 0 rfl) ?_
    refine lv_iload_n hx hb dX7_stands_23 rfl (lv_at hl 2 rfl) ?_
    refine lv_icmp_ge (tgt := 53) hx hb dX7_stands_24 (by decide) (fun _ => ?_) (fun h => absurd (nI_le (a := 1024) (b := 4 + 1020) (by omega) (by decide)) h)
    refine lv_iload_n hx hb dX7_stands_53 rfl (lv_at hl 1 rfl) ?_
    refine W.widen (k := 1) (n := 1024) (Nat.le_of_ble_eq_true rfl) (Nat.le_of_ble_eq_true rfl) ?_
    have hP9 := hP.sub (ws' := [(r6, .inl (cS_7, 1024, .inl fs_7))]) [0] rfl
    have hD9 := hD.sub (ws' := [(r6, .inl (cS_7, 1024, .inl fs_7))]) [0] (by decide) rfl
    have hK9 := hK.sub (tys' := [(cS_7, .int)]) [14] rfl
    exact W.iret hx hb hr (fun t ht hW => ⟨⟨4, (), rfl, rfl, ⟨r6, cS_7, fs_7, by rw [ht]; exact hP9, hD9, va_K.moved hW.alike hK9⟩⟩, hS.F ht⟩) hS.2.2 dX7_stands_54
set_option maxHeartbeats 4000000 in
set_option maxRecDepth 100000 in
theorem cz_QdeadEnds7 (l : Launch) (dC : Nat → ClassId) (dI : Nat → Nat → Nat) (ed sz : Nat) (mr : Nat) (ll : Nat) (lt : Nat) (lp : Nat) (ola : Nat) (cOl : ClassId) (fol : Nat → Option Nat) (la0 : Nat) (la1 : Nat) (cA0 : ClassId) (fa0 : Nat → Int32) (cA1 : ClassId) (fa1 : Nat → Int32) (ota : Nat) (cOt : ClassId) (fot : Nat → Option Nat) (ta0 : Nat) (ta1 : Nat) (ta2 : Nat) (ta3 : Nat) (ta4 : Nat) (ta5 : Nat) (ta6 : Nat) (ta7 : Nat) (ta8 : Nat) (ta9 : Nat) (cB0 : ClassId) (fb0 : Nat → Int32) (y0 : Int32) (cB1 : ClassId) (fb1 : Nat → Int32) (y1 : Int32) (cB2 : ClassId) (fb2 : Nat → Int32) (y2 : Int32) (cB3 : ClassId) (fb3 : Nat → Int32) (y3 : Int32) (cB4 : ClassId) (fb4 : Nat → Int32) (y4 : Int32) (cB5 : ClassId) (fb5 : Nat → Int32) (y5 : Int32) (cB6 : ClassId) (fb6 : Nat → Int32) (y6 : Int32) (cB7 : ClassId) (fb7 : Nat → Int32) (y7 : Int32) (cB8 : ClassId) (fb8 : Nat → Int32) (y8 : Int32) (cB9 : ClassId) (fb9 : Nat → Int32) (y9 : Int32) (hol0 : fol 0 = some la0) (hol1 : fol 1 = some la1) (ha0_0 : fa0 0 = 0) (ha0_1 : fa0 1 = 0) (ha0_4 : fa0 4 = 0) (ha0_8 : fa0 8 = 0) (ha1_0 : fa1 0 = 0) (ha1_1 : fa1 1 = 0) (ha1_4 : fa1 4 = 0) (ha1_8 : fa1 8 = 0) (hot0 : fot 0 = some ta0) (hot1 : fot 1 = some ta1) (hot2 : fot 2 = some ta2) (hot3 : fot 3 = some ta3) (hot4 : fot 4 = some ta4) (hot5 : fot 5 = some ta5) (hot6 : fot 6 = some ta6) (hot7 : fot 7 = some ta7) (hot8 : fot 8 = some ta8) (hot9 : fot 9 = some ta9) (hb0_0 : fb0 0 = (-1)) (hb0_3 : fb0 3 = y0) (hb1_0 : fb1 0 = (-1)) (hb1_3 : fb1 3 = y1) (hb2_0 : fb2 0 = (-1)) (hb2_3 : fb2 3 = y2) (hb3_0 : fb3 0 = (-1)) (hb3_3 : fb3 3 = y3) (hb4_0 : fb4 0 = (-1)) (hb4_3 : fb4 3 = y4) (hb5_0 : fb5 0 = (-1)) (hb5_3 : fb5 3 = y5) (hb6_0 : fb6 0 = (-1)) (hb6_3 : fb6 3 = y6) (hb7_0 : fb7 0 = (-1)) (hb7_3 : fb7 3 = y7) (hb8_0 : fb8 0 = (-1)) (hb8_3 : fb8 3 = y8) (hb9_0 : fb9 0 = (-1)) (hb9_3 : fb9 3 = y9) : Met l yX7_deadEnds wsX7_deadEnds ({ frames := 6, cells := 2, slots := 2048, locals := 142 } : Jvm.Room) (va_Pc [.ref mr] (zB dC dI ed sz [(mr, .inr (9, [.ref ll, .ref lt, .ref lp, .int 0, .int 0, .int 0, .int 0, .int 0, .int 0, .int 0, .int (-1), .int 0, .int 0, .int 0])), (ll, .inr (1, [.int 2, .ref ola, .int 2])), (ola, .inl (cOl, 10, .inr (.inr (.inr (.inr fol))))), (la0, .inl (cA0, 10, .inl fa0)), (la1, .inl (cA1, 10, .inl fa1)), (lt, .inr (1, [.int 10, .ref ota, .int 10])), (ota, .inl (cOt, 10, .inr (.inr (.inr (.inr fot))))), (ta0, .inl (cB0, 5, .inl fb0)), (ta1, .inl (cB1, 5, .inl fb1)), (ta2, .inl (cB2, 5, .inl fb2)), (ta3, .inl (cB3, 5, .inl fb3)), (ta4, .inl (cB4, 5, .inl fb4)), (ta5, .inl (cB5, 5, .inl fb5)), (ta6, .inl (cB6, 5, .inl fb6)), (ta7, .inl (cB7, 5, .inl fb7)), (ta8, .inl (cB8, 5, .inl fb8)), (ta9, .inl (cB9, 5, .inl fb9))] [] [(cOl, .object "java/lang/Object"), (cA0, .int), (cA1, .int), (cOt, .object "java/lang/Object"), (cB0, .int), (cB1, .int), (cB2, .int), (cB3, .int), (cB4, .int), (cB5, .int), (cB6, .int), (cB7, .int), (cB8, .int), (cB9, .int)])) (va_Qi (fun (r : Int32) (_ : Unit) => r = 0) (fun (_ : Unit) (t : State) => ∃ (rw0 : Nat), ∃ (rw1 : Nat), ∃ (cW0 : ClassId), ∃ (cW1 : ClassId), ∃ (fW0 : Nat → Int32), ∃ (fW1 : Nat → Int32), va_P (dC, dI) vwCl [(rw0, .inl (cW0, 1024, .inl fW0)), (rw1, .inl (cW1, 1024, .inl fW1))] t.heap ∧ va_D (va_A [] sz) [(rw0, .inl (cW0, 1024, .inl fW0)), (rw1, .inl (cW1, 1024, .inl fW1))] ∧ va_K (dC, dI) vwCl [(cW0, .int), (cW1, .boolean)] t) (va_A [] sz)) 2 2048 (va_A [] sz) := by
  refine Met.ofW (cc := cX7_deadEnds) (maxL := 8) (ret := (some .int)) (by decide) rfl ?_
  intro p e s m args below meth c s₁ B hml hv
  obtain ⟨rfl, hsz, hR0, hP, hK, hD0, hN, hH, hX0⟩ := hv
  have hx := B.exec
  have hb := B.bytes
  have hr := B.returns
  have hts := atoms_spec (ws := wsX7_deadEnds) B.pre
  have hown : s.vm.findClass RX7 = some m.cls := findClass_of_methodNamed B.named
  have hlocks := B.notSynchronized
  subst hsz
  have hD := hD0.self (sz := s.heap.size)
  have hAr := zx_A hX0 hR0
  generalize hAe : va_A [] s.heap.size = A at hD hAr hH ⊢
  have hA : ∀ q : Nat, s.heap.size ≤ q → A q := fun q h => by rw [← hAe]; exact Or.inr h
  have hS : va_S A s.heap s.heap [] := va_S.rf
  have hl := lv_entry ([.ref mr]) (n := 8) (Nat.le_of_ble_eq_true rfl)
  rw [lg_entry_eq]
  generalize (lg_sl ([.ref mr]) ++ List.replicate (8 - (lg_sl ([.ref mr])).length) Slot.unset).toArray = ls at hl ⊢
  have hl : lv_has ls 8 [(0, .ref mr)] := hl
  refine lv_aload_n hx hb dX7_deadEnds_0 rfl (lv_at hl 0 rfl) ?_
  have hPr := (hR0).sub (ws' := [(mr, .inr (9, [.ref ll, .ref lt, .ref lp, .int 0, .int 0, .int 0, .int 0, .int 0, .int 0, .int 0, .int (-1), .int 0, .int 0, .int 0])), (ll, .inr (1, [.int 2, .ref ola, .int 2])), (ola, .inl (cOl, 10, .inr (.inr (.inr (.inr fol))))), (la0, .inl (cA0, 10, .inl fa0)), (la1, .inl (cA1, 10, .inl fa1))]) [0, 1, 2, 3, 4] rfl
  have hPc := hP.sub (ws' := []) [] rfl
  have hDc := hD.sub (ws' := []) [] (by decide) rfl
  have hKc := hK.sub (tys' := [(cOl, .object "java/lang/Object"), (cA0, .int), (cA1, .int)]) [0, 1, 2] rfl
  have hFc := va_free (wc := []) hD hS hA [] rfl
  refine va_calli (va_runV (As := []) (rest := []) ⟨hx, hb, hml, hown, hts⟩ (cz_Qopened l dC dI ed s.heap.size mr ll lt lp ola cOl fol la0 la1 cA0 fa0 cA1 fa1 hol0 hol1 ha0_4 ha1_4) (cwV 0 hts gX7_deadEnds_X7_opened rfl rfl rfl (by decide +kernel) ⟨Nat.le_of_ble_eq_true rfl, Nat.le_of_ble_eq_true rfl⟩) ⟨zb_blind, va_recv hK hR0 (ci := 9) (q0 := 0) rfl rfl, fun U hU hW => ⟨rfl, zb_mk hU hW hPr hPc hKc hDc hN hH hS hFc zx_e⟩⟩ rfl rfl hl.1 rfl (lv_room (Nat.le_of_ble_eq_true rfl)) dX7_deadEnds_1 ⟨Nat.le_of_ble_eq_true rfl, Nat.le_of_ble_eq_true rfl⟩) hS (fun q _ h => hFc q h) hFc (fun r2 u t H1 locs ht hvm hw hB hz1 hk1 hS => ?_)
  obtain rfl : r2 = 0 := hw
  have hP := zo_K hP hk1
  refine lv_istore_n (lv' := [(1, .int 0), (0, .ref mr)]) hx hb dX7_deadEnds_4 rfl hl (by decide) rfl (fun ls hl => ?_)
  refine lv_aload_n hx hb dX7_deadEnds_5 rfl (lv_at hl 1 rfl) ?_
  refine lv_iload_n hx hb dX7_deadEnds_6 rfl (lv_at hl 0 rfl) ?_
  refine lv_iload_n hx hb dX7_deadEnds_7 rfl (lv_at hl 0 rfl) ?_
  have hPr := ((zo_R hR0 hS hAr)).sub (ws' := [(mr, .inr (9, [.ref ll, .ref lt, .ref lp, .int 0, .int 0, .int 0, .int 0, .int 0, .int 0, .int 0, .int (-1), .int 0, .int 0, .int 0])), (ll, .inr (1, [.int 2, .ref ola, .int 2])), (ola, .inl (cOl, 10, .inr (.inr (.inr (.inr fol))))), (la0, .inl (cA0, 10, .inl fa0)), (la1, .inl (cA1, 10, .inl fa1)), (lt, .inr (1, [.int 10, .ref ota, .int 10])), (ota, .inl (cOt, 10, .inr (.inr (.inr (.inr fot))))), (ta0, .inl (cB0, 5, .inl fb0)), (ta1, .inl (cB1, 5, .inl fb1)), (ta2, .inl (cB2, 5, .inl fb2)), (ta3, .inl (cB3, 5, .inl fb3)), (ta4, .inl (cB4, 5, .inl fb4)), (ta5, .inl (cB5, 5, .inl fb5)), (ta6, .inl (cB6, 5, .inl fb6)), (ta7, .inl (cB7, 5, .inl fb7)), (ta8, .inl (cB8, 5, .inl fb8)), (ta9, .inl (cB9, 5, .inl fb9))]) [0, 1, 2, 3, 4, 5, 6, 7, 8, 9, 10, 11, 12, 13, 14, 15, 16] rfl
  have hPc := hP.sub (ws' := []) [] rfl
  have hDc := hD.sub (ws' := []) [] (by decide) rfl
  have hKc := hK.sub (tys' := [(cOl, .object "java/lang/Object"), (cA0, .int), (cA1, .int), (cOt, .object "java/lang/Object"), (cB0, .int), (cB1, .int), (cB2, .int), (cB3, .int), (cB4, .int), (cB5, .int), (cB6, .int), (cB7, .int), (cB8, .int), (cB9, .int)]) [0, 1, 2, 3, 4, 5, 6, 7, 8, 9, 10, 11, 12, 13] rfl
  have hFc := va_free (wc := []) hD hS hA [] rfl
  refine va_callr (va_runV (As := [.int 0, .int 0]) (rest := []) ⟨hx, hb, hml, hown, hts⟩ (cz_Qsteps_0 l dC dI ed H1.size mr ll lt lp ola cOl fol la0 la1 cA0 fa0 cA1 fa1 ota cOt fot ta0 ta1 ta2 ta3 ta4 ta5 ta6 ta7 ta8 ta9 cB0 fb0 y0 cB1 fb1 y1 cB2 fb2 y2 cB3 fb3 y3 cB4 fb4 y4 cB5 fb5 y5 cB6 fb6 y6 cB7 fb7 y7 cB8 fb8 y8 cB9 fb9 y9 hol0 hol1 ha0_0 ha0_1 ha0_8 ha1_0 ha1_1 ha1_8 hot0 hot1 hot2 hot3 hot4 hot5 hot6 hot7 hot8 hot9 hb0_0 hb0_3 hb1_0 hb1_3 hb2_0 hb2_3 hb3_0 hb3_3 hb4_0 hb4_3 hb5_0 hb5_3 hb6_0 hb6_3 hb7_0 hb7_3 hb8_0 hb8_3 hb9_0 hb9_3) (cwV 2 hts gX7_deadEnds_X7_steps rfl rfl rfl (by decide +kernel) ⟨Nat.le_of_ble_eq_true rfl, Nat.le_of_ble_eq_true rfl⟩) ⟨zb_blind, va_recv hK (zo_R hR0 hS hAr) (ci := 9) (q0 := 0) rfl rfl, fun U hU hW => ⟨rfl, zb_mk hU hW hPr hPc hKc hDc hN hH hS hFc zx_e⟩⟩ rfl rfl hl.1 rfl (lv_room (Nat.le_of_ble_eq_true rfl)) dX7_deadEnds_8 ⟨Nat.le_of_ble_eq_true rfl, Nat.le_of_ble_eq_true rfl⟩) hS (fun q _ h => hFc q h) hFc (fun u r4 t H3 locs ht hvm hw hB hz1 hk1 hS => ?_)
  obtain ⟨cS_5, fs_5, hg5, ⟨k5_0, k5_1, k5_2, k5_3⟩, hP1, hD1, hK1⟩ := hB
  rw [ht] at hP1
  obtain ⟨hP, hD⟩ := va_join (wr := []) (w1 := [(r4, .inl (cS_5, 1024, .inl fs_5))]) hP hD [] [] rfl rfl (by decide) (by decide) hk1 hFc hP1 hD1
  have hP : va_P (dC, dI) vwCl [(r4, .inl (cS_5, 1024, .inl fs_5))] H3 := hP
  have hD : va_D A [(r4, .inl (cS_5, 1024, .inl fs_5))] := hD
  have hK := hK.app (va_K.moved hvm.symm hK1)
  have hK : va_K (dC, dI) vwCl [(cOl, .object "java/lang/Object"), (cA0, .int), (cA1, .int), (cOt, .object "java/lang/Object"), (cB0, .int), (cB1, .int), (cB2, .int), (cB3, .int), (cB4, .int), (cB5, .int), (cB6, .int), (cB7, .int), (cB8, .int), (cB9, .int), (cS_5, .int)] s := hK
  refine lv_astore_n (lv' := [(2, .ref r4), (1, .int 0), (0, .ref mr)]) hx hb dX7_deadEnds_11 rfl hl (by decide) rfl (fun ls hl => ?_)
  refine lv_aload_n hx hb dX7_deadEnds_12 rfl (lv_at hl 0 rfl) ?_
  refine va_alen hx hb hK hP 0 14 rfl rfl (v := 1024) (by exact rfl) dX7_deadEnds_13 ?_
  refine va_newa (atype := .boolean) (a0 := (1024, .inl (fun _ => 0))) hx hb (hts (.arrayClass .boolean) (by decide +kernel)) rfl hK hP hD hS hA (fun cA => rfl) (by decide) (N' := 1024) (by decide) (by decide) (Nat.le_of_ble_eq_true rfl) (Nat.le_of_ble_eq_true rfl) dX7_deadEnds_14 (fun q6 cA8 H7 hK hP hD hS => ?_)
  have hP : va_P (dC, dI) vwCl [(r4, .inl (cS_5, 1024, .inl fs_5)), (q6, .inl (cA8, 1024, .inl (fun _ => 0)))] H7 := hP
  have hD : va_D A [(r4, .inl (cS_5, 1024, .inl fs_5)), (q6, .inl (cA8, 1024, .inl (fun _ => 0)))] := hD
  refine lv_astore_n (lv' := [(3, .ref q6), (2, .ref r4), (1, .int 0), (0, .ref mr)]) hx hb dX7_deadEnds_16 rfl hl (by decide) rfl (fun ls hl => ?_)
  refine lv_iconst (v := 0) hx hb dX7_deadEnds_17 (by decide) ?_
  refine lv_istore (lv' := [(4, .int 0), (3, .ref q6), (2, .ref r4), (1, .int 0), (0, .ref mr)]) hx hb dX7_deadEnds_18 hl (by decide) rfl (fun ls hl => ?_)
  refine lv_aload_n hx hb dX7_deadEnds_20 rfl (lv_at hl 2 rfl) ?_
  refine va_alen hx hb hK hP 0 14 rfl rfl (v := 1024) (by exact rfl) dX7_deadEnds_21 ?_
  refine lv_iconst (v := 1) hx hb dX7_deadEnds_22 (by decide) ?_
  refine lv_isub hx hb dX7_deadEnds_23 ?_
  refine zo_i (v := 1023) (by decide) ?_
  refine lv_istore (lv' := [(5, .int 1023), (4, .int 0), (3, .ref q6), (2, .ref r4), (1, .int 0), (0, .ref mr)]) hx hb dX7_deadEnds_24 hl (by decide) rfl (fun ls hl => ?_)
  refine zo_loop (fun (i : Nat) (H : Heap) (locs : List Loc) (ls : Array Slot) => va_P (dC, dI) vwCl [(r4, .inl (cS_5, 1024, .inl fs_5)), (q6, .inl (cA8, 1024, .inl (fun _ => 0)))] H ∧ va_D A [(r4, .inl (cS_5, 1024, .inl fs_5)), (q6, .inl (cA8, 1024, .inl (fun _ => 0)))] ∧ va_S A s.heap H locs ∧ lv_has ls 8 [(5, .int (nI (1023 - i))), (4, .int 0), (3, .ref q6), (2, .ref r4), (1, .int 0), (0, .ref mr)]) 1020 ⟨hP, hD, hS, lv_sub hl [0, 1, 2, 3, 4, 5] rfl⟩ (fun i hi ih H locs ls hI => ?_) (fun H locs ls hI => ?_)
  · obtain ⟨hP, hD, hS, hl⟩ := hI
    refine lv_iload hx hb dX7_deadEnds_26 (lv_at hl 0 rfl) ?_
    refine lv_if_lt (tgt := 128) hx hb dX7_deadEnds_28 (by decide) (fun h => absurd h (nI_pos (n := 1023 - i) (by omega))) (fun _ => ?_)
    refine lv_aload_n hx hb dX7_deadEnds_31 rfl (lv_at hl 3 rfl) ?_
    refine lv_iload hx hb dX7_deadEnds_32 (lv_at hl 0 rfl) ?_
    refine va_iald hx hb hK hP 0 14 rfl rfl (vp_in_nI (by omega) (by decide)) dX7_deadEnds_34 ?_
    refine zo_i (v := (-1)) (by rw [nI_clamp (n := (1023 - i)) (by omega)]; exact hg5 ((1023 - i)) (by omega) (by omega)) ?_
    refine lv_iconst (v := (-1)) hx hb dX7_deadEnds_35 (by decide) ?_
    refine lv_icmp_ne (tgt := 42) hx hb dX7_deadEnds_36 (by decide) (fun h => absurd h (by decide)) (fun _ => ?_)
    refine lv_goto (tgt := 122) hx hb dX7_deadEnds_39 (by decide) ?_
    refine lv_iinc (v := (nI (1023 - (i + 1)))) (lv' := [(5, .int (nI (1023 - (i + 1)))), (4, .int 0), (3, .ref q6), (2, .ref r4), (1, .int 0), (0, .ref mr)]) hx hb dX7_deadEnds_122 hl (k := 0) rfl ((by rw [show 1023 - i = (1023 - (i + 1)) + 1 from by omega]; exact pk_m1 _)) (by decide) rfl (fun ls hl => ?_)
    refine lv_goto (tgt := 26) hx hb dX7_deadEnds_125 (by decide) ?_
    exact ih _ _ _ ⟨hP, hD, hS, lv_sub hl [0, 1, 2, 3, 4, 5] rfl⟩
  · obtain ⟨hP, hD, hS, hl⟩ := hI
    have hl : lv_has ls 8 [(5, .int 3), (4, .int 0), (3, .ref q6), (2, .ref r4), (1, .int 0), (0, .ref mr)] := hl
    refine lv_iload hx hb dX7_deadEnds_26 (lv_at hl 0 rfl) ?_
    refine lv_if_lt (tgt := 128) hx hb dX7_deadEnds_28 (by decide) (fun h => absurd h (by decide)) (fun _ => ?_)
    refine lv_aload_n hx hb dX7_deadEnds_31 rfl (lv_at hl 3 rfl) ?_
    refine lv_iload hx hb dX7_deadEnds_32 (lv_at hl 0 rfl) ?_
    refine va_iald hx hb hK hP 0 14 rfl rfl (by unfold vp_in; decide) dX7_deadEnds_34 ?_
    refine zo_i (v := 2) (by rw [show Int32.toNatClampNeg 3 = 3 from by decide]; exact k5_3) ?_
    refine lv_iconst (v := (-1)) hx hb dX7_deadEnds_35 (by decide) ?_
    refine lv_icmp_ne (tgt := 42) hx hb dX7_deadEnds_36 (by decide) (fun _ => ?_) (fun h => absurd h (by decide))
    refine lv_aload_n hx hb dX7_deadEnds_42 rfl (lv_at hl 2 rfl) ?_
    refine lv_iload hx hb dX7_deadEnds_43 (lv_at hl 0 rfl) ?_
    refine lv_aload_n hx hb dX7_deadEnds_45 rfl (lv_at hl 5 rfl) ?_
    refine lv_iload hx hb dX7_deadEnds_46 (lv_at hl 0 rfl) ?_
    have hPr := ((zo_R hR0 hS hAr)).sub (ws' := [(mr, .inr (9, [.ref ll, .ref lt, .ref lp, .int 0, .int 0, .int 0, .int 0, .int 0, .int 0, .int 0, .int (-1), .int 0, .int 0, .int 0]))]) [0] rfl
    have hPc := hP.sub (ws' := []) [] rfl
    have hDc := hD.sub (ws' := []) [] (by decide) rfl
    have hKc := hK.sub (tys' := []) [] rfl
    have hFc := va_free (wc := []) hD hS hA [] rfl
    refine va_calli (va_runV (As := [.int 3]) (rest := [.int 3, .ref q6]) ⟨hx, hb, hml, hown, hts⟩ (cz_QisEnd_3 l dC dI ed H.size mr ll lt lp) (cwV 1 hts gX7_deadEnds_X7_isEnd rfl rfl rfl (by decide +kernel) ⟨Nat.le_of_ble_eq_true rfl, Nat.le_of_ble_eq_true rfl⟩) ⟨zb_blind, va_recv hK (zo_R hR0 hS hAr) (ci := 9) (q0 := 0) rfl rfl, fun U hU hW => ⟨rfl, zb_mk hU hW hPr hPc hKc hDc hN hH hS hFc zx_e⟩⟩ rfl rfl hl.1 rfl (lv_room (Nat.le_of_ble_eq_true rfl)) dX7_deadEnds_48 ⟨Nat.le_of_ble_eq_true rfl, Nat.le_of_ble_eq_true rfl⟩) hS (fun q _ h => hFc q h) hFc (fun r11 u t H10 locs ht hvm hw hB hz1 hk1 hS => ?_)
    obtain rfl : r11 = 1 := hw
    have hP := zo_K hP hk1
    refine va_zast hx hb hK hP hD hS 1 15 rfl rfl (by unfold vp_in; decide) dX7_deadEnds_51 (fun H12 locs hP hD hS => ?_)
    obtain ⟨f13, ef13⟩ : ∃ z : Nat → Int32, z = upd (fun _ => 0) 3 (vp_nar .boolean 1) := ⟨_, rfl⟩
    have k14 : f13 0 = 0 := by rw [ef13]; exact (pk_un (by decide)).trans (rfl)
    have k15 : f13 1 = 0 := by rw [ef13]; exact (pk_un (by decide)).trans (rfl)
    have k16 : f13 2 = 0 := by rw [ef13]; exact (pk_un (by decide)).trans (rfl)
    have k17 : f13 3 = 1 := by rw [ef13]; exact pk_us.trans (by decide)
    have hP : va_P (dC, dI) vwCl [(r4, .inl (cS_5, 1024, .inl fs_5)), (q6, .inl (cA8, 1024, .inl f13))] H12 := by rw [ef13]; exact hP
    have hD : va_D A [(r4, .inl (cS_5, 1024, .inl fs_5)), (q6, .inl (cA8, 1024, .inl f13))] := by rw [ef13]; exact hD
    refine lv_aload_n hx hb dX7_deadEnds_52 rfl (lv_at hl 5 rfl) ?_
    refine lv_iload hx hb dX7_deadEnds_53 (lv_at hl 0 rfl) ?_
    refine lv_iload_n hx hb dX7_deadEnds_55 rfl (lv_at hl 4 rfl) ?_
    have hPr := ((zo_R hR0 hS hAr)).sub (ws' := [(mr, .inr (9, [.ref ll, .ref lt, .ref lp, .int 0, .int 0, .int 0, .int 0, .int 0, .int 0, .int 0, .int (-1), .int 0, .int 0, .int 0])), (ll, .inr (1, [.int 2, .ref ola, .int 2])), (ola, .inl (cOl, 10, .inr (.inr (.inr (.inr fol))))), (la0, .inl (cA0, 10, .inl fa0)), (la1, .inl (cA1, 10, .inl fa1)), (lt, .inr (1, [.int 10, .ref ota, .int 10])), (ota, .inl (cOt, 10, .inr (.inr (.inr (.inr fot))))), (ta0, .inl (cB0, 5, .inl fb0)), (ta1, .inl (cB1, 5, .inl fb1)), (ta2, .inl (cB2, 5, .inl fb2)), (ta3, .inl (cB3, 5, .inl fb3)), (ta4, .inl (cB4, 5, .inl fb4)), (ta5, .inl (cB5, 5, .inl fb5)), (ta6, .inl (cB6, 5, .inl fb6)), (ta7, .inl (cB7, 5, .inl fb7)), (ta8, .inl (cB8, 5, .inl fb8)), (ta9, .inl (cB9, 5, .inl fb9))]) [0, 1, 2, 3, 4, 5, 6, 7, 8, 9, 10, 11, 12, 13, 14, 15, 16] rfl
    have hPc := hP.sub (ws' := []) [] rfl
    have hDc := hD.sub (ws' := []) [] (by decide) rfl
    have hKc := hK.sub (tys' := [(cOl, .object "java/lang/Object"), (cA0, .int), (cA1, .int), (cOt, .object "java/lang/Object"), (cB0, .int), (cB1, .int), (cB2, .int), (cB3, .int), (cB4, .int), (cB5, .int), (cB6, .int), (cB7, .int), (cB8, .int), (cB9, .int)]) [0, 1, 2, 3, 4, 5, 6, 7, 8, 9, 10, 11, 12, 13] rfl
    have hFc := va_free (wc := []) hD hS hA [] rfl
    refine va_calli (va_runV (As := [.int 3, .int 0]) (rest := []) ⟨hx, hb, hml, hown, hts⟩ (cz_Qnext7_3 l dC dI ed H12.size mr ll lt lp ola cOl fol la0 la1 cA0 fa0 cA1 fa1 ota cOt fot ta0 ta1 ta2 ta3 ta4 ta5 ta6 ta7 ta8 ta9 cB0 fb0 y0 cB1 fb1 y1 cB2 fb2 y2 cB3 fb3 y3 cB4 fb4 y4 cB5 fb5 y5 cB6 fb6 y6 cB7 fb7 y7 cB8 fb8 y8 cB9 fb9 y9 hol0 hol1 ha0_0 ha0_1 ha0_8 ha1_0 ha1_1 ha1_8 hot0 hot1 hot2 hot3 hot4 hot5 hot6 hot7 hot8 hot9 hb0_0 hb0_3 hb1_0 hb1_3 hb2_0 hb2_3 hb3_0 hb3_3 hb4_0 hb4_3 hb5_0 hb5_3 hb6_0 hb6_3 hb7_0 hb7_3 hb8_0 hb8_3 hb9_0 hb9_3) (cwV 2 hts gX7_deadEnds_X7_next rfl rfl rfl (by decide +kernel) ⟨Nat.le_of_ble_eq_true rfl, Nat.le_of_ble_eq_true rfl⟩) ⟨zb_blind, va_recv hK (zo_R hR0 hS hAr) (ci := 9) (q0 := 0) rfl rfl, fun U hU hW => ⟨rfl, zb_mk hU hW hPr hPc hKc hDc hN hH hS hFc zx_e⟩⟩ rfl rfl hl.1 rfl (lv_room (Nat.le_of_ble_eq_true rfl)) dX7_deadEnds_56 ⟨Nat.le_of_ble_eq_true rfl, Nat.le_of_ble_eq_true rfl⟩) hS (fun q _ h => hFc q h) hFc (fun r19 u t H18 locs ht hvm hw hB hz1 hk1 hS => ?_)
    obtain rfl : r19 = 0 := hw
    have hP := zo_K hP hk1
    refine lv_istore (lv' := [(6, .int 0), (5, .int 3), (4, .int 0), (3, .ref q6), (2, .ref r4), (1, .int 0), (0, .ref mr)]) hx hb dX7_deadEnds_59 hl (by decide) rfl (fun ls hl => ?_)
    refine lv_iconst (v := 0) hx hb dX7_deadEnds_61 (by decide) ?_
    refine lv_istore (lv' := [(7, .int 0), (6, .int 0), (5, .int 3), (4, .int 0), (3, .ref q6), (2, .ref r4), (1, .int 0), (0, .ref mr)]) hx hb dX7_deadEnds_62 hl (by decide) rfl (fun ls hl => ?_)
    refine lv_iload hx hb dX7_deadEnds_64 (lv_at hl 0 rfl) ?_
    refine lv_bipush (v := 10) hx hb dX7_deadEnds_66 (by decide) ?_
    refine lv_icmp_ge (tgt := 105) hx hb dX7_deadEnds_68 (by decide) (fun h => absurd h (by decide)) (fun _ => ?_)
    refine lv_iload hx hb dX7_deadEnds_71 (lv_at hl 1 rfl) ?_
    refine lv_iload hx hb dX7_deadEnds_73 (lv_at hl 0 rfl) ?_
    refine lv_ishr hx hb dX7_deadEnds_75 ?_
    refine zo_i (v := 0) (by decide) ?_
    refine lv_iconst (v := 1) hx hb dX7_deadEnds_76 (by decide) ?_
    refine lv_iand hx hb dX7_deadEnds_77 ?_
    refine zo_i (v := 0) q_0and ?_
    refine lv_iconst (v := 1) hx hb dX7_deadEnds_78 (by decide) ?_
    refine lv_icmp_ne (tgt := 99) hx hb dX7_deadEnds_79 (by decide) (fun _ => ?_) (fun h => absurd h (by decide))
    refine lv_iinc (v := 1) (lv' := [(7, .int 1), (6, .int 0), (5, .int 3), (4, .int 0), (3, .ref q6), (2, .ref r4), (1, .int 0), (0, .ref mr)]) hx hb dX7_deadEnds_99 hl (k := 0) rfl (by decide) (by decide) rfl (fun ls hl => ?_)
    refine lv_goto (tgt := 64) hx hb dX7_deadEnds_102 (by decide) ?_
    refine lv_iload hx hb dX7_deadEnds_64 (lv_at hl 0 rfl) ?_
    refine lv_bipush (v := 10) hx hb dX7_deadEnds_66 (by decide) ?_
    refine lv_icmp_ge (tgt := 105) hx hb dX7_deadEnds_68 (by decide) (fun h => absurd h (by decide)) (fun _ => ?_)
    refine lv_iload hx hb dX7_deadEnds_71 (lv_at hl 1 rfl) ?_
    refine lv_iload hx hb dX7_deadEnds_73 (lv_at hl 0 rfl) ?_
    refine lv_ishr hx hb dX7_deadEnds_75 ?_
    refine zo_i (v := 0) (by decide) ?_
    refine lv_iconst (v := 1) hx hb dX7_deadEnds_76 (by decide) ?_
    refine lv_iand hx hb dX7_deadEnds_77 ?_
    refine zo_i (v := 0) q_0and ?_
    refine lv_iconst (v := 1) hx hb dX7_deadEnds_78 (by decide) ?_
    refine lv_icmp_ne (tgt := 99) hx hb dX7_deadEnds_79 (by decide) (fun _ => ?_) (fun h => absurd h (by decide))
    refine lv_iinc (v := 2) (lv' := [(7, .int 2), (6, .int 0), (5, .int 3), (4, .int 0), (3, .ref q6), (2, .ref r4), (1, .int 0), (0, .ref mr)]) hx hb dX7_deadEnds_99 hl (k := 0) rfl (by decide) (by decide) rfl (fun ls hl => ?_)
    refine lv_goto (tgt := 64) hx hb dX7_deadEnds_102 (by decide) ?_
    refine lv_iload hx hb dX7_deadEnds_64 (lv_at hl 0 rfl) ?_
    refine lv_bipush (v := 10) hx hb dX7_deadEnds_66 (by decide) ?_
    refine lv_icmp_ge (tgt := 105) hx hb dX7_deadEnds_68 (by decide) (fun h => absurd h (by decide)) (fun _ => ?_)
    refine lv_iload hx hb dX7_deadEnds_71 (lv_at hl 1 rfl) ?_
    refine lv_iload hx hb dX7_deadEnds_73 (lv_at hl 0 rfl) ?_
    refine lv_ishr hx hb dX7_deadEnds_75 ?_
    refine zo_i (v := 0) (by decide) ?_
    refine lv_iconst (v := 1) hx hb dX7_deadEnds_76 (by decide) ?_
    refine lv_iand hx hb dX7_deadEnds_77 ?_
    refine zo_i (v := 0) q_0and ?_
    refine lv_iconst (v := 1) hx hb dX7_deadEnds_78 (by decide) ?_
    refine lv_icmp_ne (tgt := 99) hx hb dX7_deadEnds_79 (by decide) (fun _ => ?_) (fun h => absurd h (by decide))
    refine lv_iinc (v := 3) (lv' := [(7, .int 3), (6, .int 0), (5, .int 3), (4, .int 0), (3, .ref q6), (2, .ref r4), (1, .int 0), (0, .ref mr)]) hx hb dX7_deadEnds_99 hl (k := 0) rfl (by decide) (by decide) rfl (fun ls hl => ?_)
    refine lv_goto (tgt := 64) hx hb dX7_deadEnds_102 (by decide) ?_
    refine lv_iload hx hb dX7_deadEnds_64 (lv_at hl 0 rfl) ?_
    refine lv_bipush (v := 10) hx hb dX7_deadEnds_66 (by decide) ?_
    refine lv_icmp_ge (tgt := 105) hx hb dX7_deadEnds_68 (by decide) (fun h => absurd h (by decide)) (fun _ => ?_)
    refine lv_iload hx hb dX7_deadEnds_71 (lv_at hl 1 rfl) ?_
    refine lv_iload hx hb dX7_deadEnds_73 (lv_at hl 0 rfl) ?_
    refine lv_ishr hx hb dX7_deadEnds_75 ?_
    refine zo_i (v := 0) (by decide) ?_
    refine lv_iconst (v := 1) hx hb dX7_deadEnds_76 (by decide) ?_
    refine lv_iand hx hb dX7_deadEnds_77 ?_
    refine zo_i (v := 0) q_0and ?_
    refine lv_iconst (v := 1) hx hb dX7_deadEnds_78 (by decide) ?_
    refine lv_icmp_ne (tgt := 99) hx hb dX7_deadEnds_79 (by decide) (fun _ => ?_) (fun h => absurd h (by decide))
    refine lv_iinc (v := 4) (lv' := [(7, .int 4), (6, .int 0), (5, .int 3), (4, .int 0), (3, .ref q6), (2, .ref r4), (1, .int 0), (0, .ref mr)]) hx hb dX7_deadEnds_99 hl (k := 0) rfl (by decide) (by decide) rfl (fun ls hl => ?_)
    refine lv_goto (tgt := 64) hx hb dX7_deadEnds_102 (by decide) ?_
    refine lv_iload hx hb dX7_deadEnds_64 (lv_at hl 0 rfl) ?_
    refine lv_bipush (v := 10) hx hb dX7_deadEnds_66 (by decide) ?_
    refine lv_icmp_ge (tgt := 105) hx hb dX7_deadEnds_68 (by decide) (fun h => absurd h (by decide)) (fun _ => ?_)
    refine lv_iload hx hb dX7_deadEnds_71 (lv_at hl 1 rfl) ?_
    refine lv_iload hx hb dX7_deadEnds_73 (lv_at hl 0 rfl) ?_
    refine lv_ishr hx hb dX7_deadEnds_75 ?_
    refine zo_i (v := 0) (by decide) ?_
    refine lv_iconst (v := 1) hx hb dX7_deadEnds_76 (by decide) ?_
    refine lv_iand hx hb dX7_deadEnds_77 ?_
    refine zo_i (v := 0) q_0and ?_
    refine lv_iconst (v := 1) hx hb dX7_deadEnds_78 (by decide) ?_
    refine lv_icmp_ne (tgt := 99) hx hb dX7_deadEnds_79 (by decide) (fun _ => ?_) (fun h => absurd h (by decide))
    refine lv_iinc (v := 5) (lv' := [(7, .int 5), (6, .int 0), (5, .int 3), (4, .int 0), (3, .ref q6), (2, .ref r4), (1, .int 0), (0, .ref mr)]) hx hb dX7_deadEnds_99 hl (k := 0) rfl (by decide) (by decide) rfl (fun ls hl => ?_)
    refine lv_goto (tgt := 64) hx hb dX7_deadEnds_102 (by decide) ?_
    refine lv_iload hx hb dX7_deadEnds_64 (lv_at hl 0 rfl) ?_
    refine lv_bipush (v := 10) hx hb dX7_deadEnds_66 (by decide) ?_
    refine lv_icmp_ge (tgt := 105) hx hb dX7_deadEnds_68 (by decide) (fun h => absurd h (by decide)) (fun _ => ?_)
    refine lv_iload hx hb dX7_deadEnds_71 (lv_at hl 1 rfl) ?_
    refine lv_iload hx hb dX7_deadEnds_73 (lv_at hl 0 rfl) ?_
    refine lv_ishr hx hb dX7_deadEnds_75 ?_
    refine zo_i (v := 0) (by decide) ?_
    refine lv_iconst (v := 1) hx hb dX7_deadEnds_76 (by decide) ?_
    refine lv_iand hx hb dX7_deadEnds_77 ?_
    refine zo_i (v := 0) q_0and ?_
    refine lv_iconst (v := 1) hx hb dX7_deadEnds_78 (by decide) ?_
    refine lv_icmp_ne (tgt := 99) hx hb dX7_deadEnds_79 (by decide) (fun _ => ?_) (fun h => absurd h (by decide))
    refine lv_iinc (v := 6) (lv' := [(7, .int 6), (6, .int 0), (5, .int 3), (4, .int 0), (3, .ref q6), (2, .ref r4), (1, .int 0), (0, .ref mr)]) hx hb dX7_deadEnds_99 hl (k := 0) rfl (by decide) (by decide) rfl (fun ls hl => ?_)
    refine lv_goto (tgt := 64) hx hb dX7_deadEnds_102 (by decide) ?_
    refine lv_iload hx hb dX7_deadEnds_64 (lv_at hl 0 rfl) ?_
    refine lv_bipush (v := 10) hx hb dX7_deadEnds_66 (by decide) ?_
    refine lv_icmp_ge (tgt := 105) hx hb dX7_deadEnds_68 (by decide) (fun h => absurd h (by decide)) (fun _ => ?_)
    refine lv_iload hx hb dX7_deadEnds_71 (lv_at hl 1 rfl) ?_
    refine lv_iload hx hb dX7_deadEnds_73 (lv_at hl 0 rfl) ?_
    refine lv_ishr hx hb dX7_deadEnds_75 ?_
    refine zo_i (v := 0) (by decide) ?_
    refine lv_iconst (v := 1) hx hb dX7_deadEnds_76 (by decide) ?_
    refine lv_iand hx hb dX7_deadEnds_77 ?_
    refine zo_i (v := 0) q_0and ?_
    refine lv_iconst (v := 1) hx hb dX7_deadEnds_78 (by decide) ?_
    refine lv_icmp_ne (tgt := 99) hx hb dX7_deadEnds_79 (by decide) (fun _ => ?_) (fun h => absurd h (by decide))
    refine lv_iinc (v := 7) (lv' := [(7, .int 7), (6, .int 0), (5, .int 3), (4, .int 0), (3, .ref q6), (2, .ref r4), (1, .int 0), (0, .ref mr)]) hx hb dX7_deadEnds_99 hl (k := 0) rfl (by decide) (by decide) rfl (fun ls hl => ?_)
    refine lv_goto (tgt := 64) hx hb dX7_deadEnds_102 (by decide) ?_
    refine lv_iload hx hb dX7_deadEnds_64 (lv_at hl 0 rfl) ?_
    refine lv_bipush (v := 10) hx hb dX7_deadEnds_66 (by decide) ?_
    refine lv_icmp_ge (tgt := 105) hx hb dX7_deadEnds_68 (by decide) (fun h => absurd h (by decide)) (fun _ => ?_)
    refine lv_iload hx hb dX7_deadEnds_71 (lv_at hl 1 rfl) ?_
    refine lv_iload hx hb dX7_deadEnds_73 (lv_at hl 0 rfl) ?_
    refine lv_ishr hx hb dX7_deadEnds_75 ?_
    refine zo_i (v := 0) (by decide) ?_
    refine lv_iconst (v := 1) hx hb dX7_deadEnds_76 (by decide) ?_
    refine lv_iand hx hb dX7_deadEnds_77 ?_
    refine zo_i (v := 0) q_0and ?_
    refine lv_iconst (v := 1) hx hb dX7_deadEnds_78 (by decide) ?_
    refine lv_icmp_ne (tgt := 99) hx hb dX7_deadEnds_79 (by decide) (fun _ => ?_) (fun h => absurd h (by decide))
    refine lv_iinc (v := 8) (lv' := [(7, .int 8), (6, .int 0), (5, .int 3), (4, .int 0), (3, .ref q6), (2, .ref r4), (1, .int 0), (0, .ref mr)]) hx hb dX7_deadEnds_99 hl (k := 0) rfl (by decide) (by decide) rfl (fun ls hl => ?_)
    refine lv_goto (tgt := 64) hx hb dX7_deadEnds_102 (by decide) ?_
    refine lv_iload hx hb dX7_deadEnds_64 (lv_at hl 0 rfl) ?_
    refine lv_bipush (v := 10) hx hb dX7_deadEnds_66 (by decide) ?_
    refine lv_icmp_ge (tgt := 105) hx hb dX7_deadEnds_68 (by decide) (fun h => absurd h (by decide)) (fun _ => ?_)
    refine lv_iload hx hb dX7_deadEnds_71 (lv_at hl 1 rfl) ?_
    refine lv_iload hx hb dX7_deadEnds_73 (lv_at hl 0 rfl) ?_
    refine lv_ishr hx hb dX7_deadEnds_75 ?_
    refine zo_i (v := 0) (by decide) ?_
    refine lv_iconst (v := 1) hx hb dX7_deadEnds_76 (by decide) ?_
    refine lv_iand hx hb dX7_deadEnds_77 ?_
    refine zo_i (v := 0) q_0and ?_
    refine lv_iconst (v := 1) hx hb dX7_deadEnds_78 (by decide) ?_
    refine lv_icmp_ne (tgt := 99) hx hb dX7_deadEnds_79 (by decide) (fun _ => ?_) (fun h => absurd h (by decide))
    refine lv_iinc (v := 9) (lv' := [(7, .int 9), (6, .int 0), (5, .int 3), (4, .int 0), (3, .ref q6), (2, .ref r4), (1, .int 0), (0, .ref mr)]) hx hb dX7_deadEnds_99 hl (k := 0) rfl (by decide) (by decide) rfl (fun ls hl => ?_)
    refine lv_goto (tgt := 64) hx hb dX7_deadEnds_102 (by decide) ?_
    refine lv_iload hx hb dX7_deadEnds_64 (lv_at hl 0 rfl) ?_
    refine lv_bipush (v := 10) hx hb dX7_deadEnds_66 (by decide) ?_
    refine lv_icmp_ge (tgt := 105) hx hb dX7_deadEnds_68 (by decide) (fun h => absurd h (by decide)) (fun _ => ?_)
    refine lv_iload hx hb dX7_deadEnds_71 (lv_at hl 1 rfl) ?_
    refine lv_iload hx hb dX7_deadEnds_73 (lv_at hl 0 rfl) ?_
    refine lv_ishr hx hb dX7_deadEnds_75 ?_
    refine zo_i (v := 0) (by decide) ?_
    refine lv_iconst (v := 1) hx hb dX7_deadEnds_76 (by decide) ?_
    refine lv_iand hx hb dX7_deadEnds_77 ?_
    refine zo_i (v := 0) q_0and ?_
    refine lv_iconst (v := 1) hx hb dX7_deadEnds_78 (by decide) ?_
    refine lv_icmp_ne (tgt := 99) hx hb dX7_deadEnds_79 (by decide) (fun _ => ?_) (fun h => absurd h (by decide))
    refine lv_iinc (v := 10) (lv' := [(7, .int 10), (6, .int 0), (5, .int 3), (4, .int 0), (3, .ref q6), (2, .ref r4), (1, .int 0), (0, .ref mr)]) hx hb dX7_deadEnds_99 hl (k := 0) rfl (by decide) (by decide) rfl (fun ls hl => ?_)
    refine lv_goto (tgt := 64) hx hb dX7_deadEnds_102 (by decide) ?_
    refine lv_iload hx hb dX7_deadEnds_64 (lv_at hl 0 rfl) ?_
    refine lv_bipush (v := 10) hx hb dX7_deadEnds_66 (by decide) ?_
    refine lv_icmp_ge (tgt := 105) hx hb dX7_deadEnds_68 (by decide) (fun _ => ?_) (fun h => absurd h (by decide))
    refine lv_iload hx hb dX7_deadEnds_105 (lv_at hl 3 rfl) ?_
    refine lv_aload_n hx hb dX7_deadEnds_107 rfl (lv_at hl 4 rfl) ?_
    refine lv_iload hx hb dX7_deadEnds_108 (lv_at hl 2 rfl) ?_
    refine va_zald hx hb hK hP 1 15 rfl rfl (by unfold vp_in; decide) dX7_deadEnds_110 ?_
    refine zo_i (v := 1) (by rw [show Int32.toNatClampNeg 3 = 3 from by decide]; exact k17) ?_
    refine lv_if_eq (tgt := 118) hx hb dX7_deadEnds_111 (by decide) (fun h => absurd h (by decide)) (fun _ => ?_)
    refine lv_iconst (v := 0) hx hb dX7_deadEnds_114 (by decide) ?_
    refine lv_goto (tgt := 119) hx hb dX7_deadEnds_115 (by decide) ?_
    refine lv_iadd hx hb dX7_deadEnds_119 ?_
    refine zo_i (v := 0) (by decide) ?_
    refine lv_istore (lv' := [(4, .int 0), (7, .int 10), (6, .int 0), (5, .int 3), (3, .ref q6), (2, .ref r4), (1, .int 0), (0, .ref mr)]) hx hb dX7_deadEnds_120 hl (by decide) rfl (fun ls hl => ?_)
    refine lv_iinc (v := 2) (lv' := [(5, .int 2), (4, .int 0), (7, .int 10), (6, .int 0), (3, .ref q6), (2, .ref r4), (1, .int 0), (0, .ref mr)]) hx hb dX7_deadEnds_122 hl (k := 3) rfl (by decide) (by decide) rfl (fun ls hl => ?_)
    refine lv_goto (tgt := 26) hx hb dX7_deadEnds_125 (by decide) ?_
    refine lv_iload hx hb dX7_deadEnds_26 (lv_at hl 0 rfl) ?_
    refine lv_if_lt (tgt := 128) hx hb dX7_deadEnds_28 (by decide) (fun h => absurd h (by decide)) (fun _ => ?_)
    refine lv_aload_n hx hb dX7_deadEnds_31 rfl (lv_at hl 5 rfl) ?_
    refine lv_iload hx hb dX7_deadEnds_32 (lv_at hl 0 rfl) ?_
    refine va_iald hx hb hK hP 0 14 rfl rfl (by unfold vp_in; decide) dX7_deadEnds_34 ?_
    refine zo_i (v := 1) (by rw [show Int32.toNatClampNeg 2 = 2 from by decide]; exact k5_2) ?_
    refine lv_iconst (v := (-1)) hx hb dX7_deadEnds_35 (by decide) ?_
    refine lv_icmp_ne (tgt := 42) hx hb dX7_deadEnds_36 (by decide) (fun _ => ?_) (fun h => absurd h (by decide))
    refine lv_aload_n hx hb dX7_deadEnds_42 rfl (lv_at hl 4 rfl) ?_
    refine lv_iload hx hb dX7_deadEnds_43 (lv_at hl 0 rfl) ?_
    refine lv_aload_n hx hb dX7_deadEnds_45 rfl (lv_at hl 7 rfl) ?_
    refine lv_iload hx hb dX7_deadEnds_46 (lv_at hl 0 rfl) ?_
    have hPr := ((zo_R hR0 hS hAr)).sub (ws' := [(mr, .inr (9, [.ref ll, .ref lt, .ref lp, .int 0, .int 0, .int 0, .int 0, .int 0, .int 0, .int 0, .int (-1), .int 0, .int 0, .int 0]))]) [0] rfl
    have hPc := hP.sub (ws' := []) [] rfl
    have hDc := hD.sub (ws' := []) [] (by decide) rfl
    have hKc := hK.sub (tys' := []) [] rfl
    have hFc := va_free (wc := []) hD hS hA [] rfl
    refine va_calli (va_runV (As := [.int 2]) (rest := [.int 2, .ref q6]) ⟨hx, hb, hml, hown, hts⟩ (cz_QisEnd_2 l dC dI ed H18.size mr ll lt lp) (cwV 1 hts gX7_deadEnds_X7_isEnd rfl rfl rfl (by decide +kernel) ⟨Nat.le_of_ble_eq_true rfl, Nat.le_of_ble_eq_true rfl⟩) ⟨zb_blind, va_recv hK (zo_R hR0 hS hAr) (ci := 9) (q0 := 0) rfl rfl, fun U hU hW => ⟨rfl, zb_mk hU hW hPr hPc hKc hDc hN hH hS hFc zx_e⟩⟩ rfl rfl hl.1 rfl (lv_room (Nat.le_of_ble_eq_true rfl)) dX7_deadEnds_48 ⟨Nat.le_of_ble_eq_true rfl, Nat.le_of_ble_eq_true rfl⟩) hS (fun q _ h => hFc q h) hFc (fun r21 u t H20 locs ht hvm hw hB hz1 hk1 hS => ?_)
    obtain rfl : r21 = 0 := hw
    have hP := zo_K hP hk1
    refine va_zast hx hb hK hP hD hS 1 15 rfl rfl (by unfold vp_in; decide) dX7_deadEnds_51 (fun H22 locs hP hD hS => ?_)
    obtain ⟨f23, ef23⟩ : ∃ z : Nat → Int32, z = upd f13 2 (vp_nar .boolean 0) := ⟨_, rfl⟩
    have k24 : f23 0 = 0 := by rw [ef23]; exact (pk_un (by decide)).trans (k14)
    have k25 : f23 1 = 0 := by rw [ef23]; exact (pk_un (by decide)).trans (k15)
    have k26 : f23 3 = 1 := by rw [ef23]; exact (pk_un (by decide)).trans (k17)
    have k27 : f23 2 = 0 := by rw [ef23]; exact pk_us.trans (by decide)
    have hP : va_P (dC, dI) vwCl [(r4, .inl (cS_5, 1024, .inl fs_5)), (q6, .inl (cA8, 1024, .inl f23))] H22 := by rw [ef23]; exact hP
    have hD : va_D A [(r4, .inl (cS_5, 1024, .inl fs_5)), (q6, .inl (cA8, 1024, .inl f23))] := by rw [ef23]; exact hD
    refine lv_aload_n hx hb dX7_deadEnds_52 rfl (lv_at hl 7 rfl) ?_
    refine lv_iload hx hb dX7_deadEnds_53 (lv_at hl 0 rfl) ?_
    refine lv_iload_n hx hb dX7_deadEnds_55 rfl (lv_at hl 6 rfl) ?_
    have hPr := ((zo_R hR0 hS hAr)).sub (ws' := [(mr, .inr (9, [.ref ll, .ref lt, .ref lp, .int 0, .int 0, .int 0, .int 0, .int 0, .int 0, .int 0, .int (-1), .int 0, .int 0, .int 0])), (ll, .inr (1, [.int 2, .ref ola, .int 2])), (ola, .inl (cOl, 10, .inr (.inr (.inr (.inr fol))))), (la0, .inl (cA0, 10, .inl fa0)), (la1, .inl (cA1, 10, .inl fa1)), (lt, .inr (1, [.int 10, .ref ota, .int 10])), (ota, .inl (cOt, 10, .inr (.inr (.inr (.inr fot))))), (ta0, .inl (cB0, 5, .inl fb0)), (ta1, .inl (cB1, 5, .inl fb1)), (ta2, .inl (cB2, 5, .inl fb2)), (ta3, .inl (cB3, 5, .inl fb3)), (ta4, .inl (cB4, 5, .inl fb4)), (ta5, .inl (cB5, 5, .inl fb5)), (ta6, .inl (cB6, 5, .inl fb6)), (ta7, .inl (cB7, 5, .inl fb7)), (ta8, .inl (cB8, 5, .inl fb8)), (ta9, .inl (cB9, 5, .inl fb9))]) [0, 1, 2, 3, 4, 5, 6, 7, 8, 9, 10, 11, 12, 13, 14, 15, 16] rfl
    have hPc := hP.sub (ws' := []) [] rfl
    have hDc := hD.sub (ws' := []) [] (by decide) rfl
    have hKc := hK.sub (tys' := [(cOl, .object "java/lang/Object"), (cA0, .int), (cA1, .int), (cOt, .object "java/lang/Object"), (cB0, .int), (cB1, .int), (cB2, .int), (cB3, .int), (cB4, .int), (cB5, .int), (cB6, .int), (cB7, .int), (cB8, .int), (cB9, .int)]) [0, 1, 2, 3, 4, 5, 6, 7, 8, 9, 10, 11, 12, 13] rfl
    have hFc := va_free (wc := []) hD hS hA [] rfl
    refine va_calli (va_runV (As := [.int 2, .int 0]) (rest := []) ⟨hx, hb, hml, hown, hts⟩ (cz_Qnext7_2 l dC dI ed H22.size mr ll lt lp ola cOl fol la0 la1 cA0 fa0 cA1 fa1 ota cOt fot ta0 ta1 ta2 ta3 ta4 ta5 ta6 ta7 ta8 ta9 cB0 fb0 y0 cB1 fb1 y1 cB2 fb2 y2 cB3 fb3 y3 cB4 fb4 y4 cB5 fb5 y5 cB6 fb6 y6 cB7 fb7 y7 cB8 fb8 y8 cB9 fb9 y9 hol0 hol1 ha0_0 ha0_1 ha0_8 ha1_0 ha1_1 ha1_8 hot0 hot1 hot2 hot3 hot4 hot5 hot6 hot7 hot8 hot9 hb0_0 hb0_3 hb1_0 hb1_3 hb2_0 hb2_3 hb3_0 hb3_3 hb4_0 hb4_3 hb5_0 hb5_3 hb6_0 hb6_3 hb7_0 hb7_3 hb8_0 hb8_3 hb9_0 hb9_3) (cwV 2 hts gX7_deadEnds_X7_next rfl rfl rfl (by decide +kernel) ⟨Nat.le_of_ble_eq_true rfl, Nat.le_of_ble_eq_true rfl⟩) ⟨zb_blind, va_recv hK (zo_R hR0 hS hAr) (ci := 9) (q0 := 0) rfl rfl, fun U hU hW => ⟨rfl, zb_mk hU hW hPr hPc hKc hDc hN hH hS hFc zx_e⟩⟩ rfl rfl hl.1 rfl (lv_room (Nat.le_of_ble_eq_true rfl)) dX7_deadEnds_56 ⟨Nat.le_of_ble_eq_true rfl, Nat.le_of_ble_eq_true rfl⟩) hS (fun q _ h => hFc q h) hFc (fun r29 u t H28 locs ht hvm hw hB hz1 hk1 hS => ?_)
    obtain rfl : r29 = 1 := hw
    have hP := zo_K hP hk1
    refine lv_istore (lv' := [(6, .int 1), (5, .int 2), (4, .int 0), (7, .int 10), (3, .ref q6), (2, .ref r4), (1, .int 0), (0, .ref mr)]) hx hb dX7_deadEnds_59 hl (by decide) rfl (fun ls hl => ?_)
    refine lv_iconst (v := 0) hx hb dX7_deadEnds_61 (by decide) ?_
    refine lv_istore (lv' := [(7, .int 0), (6, .int 1), (5, .int 2), (4, .int 0), (3, .ref q6), (2, .ref r4), (1, .int 0), (0, .ref mr)]) hx hb dX7_deadEnds_62 hl (by decide) rfl (fun ls hl => ?_)
    refine lv_iload hx hb dX7_deadEnds_64 (lv_at hl 0 rfl) ?_
    refine lv_bipush (v := 10) hx hb dX7_deadEnds_66 (by decide) ?_
    refine lv_icmp_ge (tgt := 105) hx hb dX7_deadEnds_68 (by decide) (fun h => absurd h (by decide)) (fun _ => ?_)
    refine lv_iload hx hb dX7_deadEnds_71 (lv_at hl 1 rfl) ?_
    refine lv_iload hx hb dX7_deadEnds_73 (lv_at hl 0 rfl) ?_
    refine lv_ishr hx hb dX7_deadEnds_75 ?_
    refine zo_i (v := 1) (by decide) ?_
    refine lv_iconst (v := 1) hx hb dX7_deadEnds_76 (by decide) ?_
    refine lv_iand hx hb dX7_deadEnds_77 ?_
    refine zo_i (v := 1) (by decide) ?_
    refine lv_iconst (v := 1) hx hb dX7_deadEnds_78 (by decide) ?_
    refine lv_icmp_ne (tgt := 99) hx hb dX7_deadEnds_79 (by decide) (fun h => absurd h (by decide)) (fun _ => ?_)
    refine lv_aload_n hx hb dX7_deadEnds_82 rfl (lv_at hl 4 rfl) ?_
    refine lv_iload hx hb dX7_deadEnds_83 (lv_at hl 2 rfl) ?_
    refine lv_iconst (v := 1) hx hb dX7_deadEnds_85 (by decide) ?_
    refine lv_iload hx hb dX7_deadEnds_86 (lv_at hl 0 rfl) ?_
    refine lv_ishl hx hb dX7_deadEnds_88 ?_
    refine zo_i (v := 1) (by decide) ?_
    refine lv_ior hx hb dX7_deadEnds_89 ?_
    refine zo_i (v := 3) (by decide) ?_
    refine va_zald hx hb hK hP 1 15 rfl rfl (by unfold vp_in; decide) dX7_deadEnds_90 ?_
    refine zo_i (v := 1) (by rw [show Int32.toNatClampNeg 3 = 3 from by decide]; exact k26) ?_
    refine lv_if_eq (tgt := 99) hx hb dX7_deadEnds_91 (by decide) (fun h => absurd h (by decide)) (fun _ => ?_)
    refine lv_aload_n hx hb dX7_deadEnds_94 rfl (lv_at hl 4 rfl) ?_
    refine lv_iload hx hb dX7_deadEnds_95 (lv_at hl 2 rfl) ?_
    refine lv_iconst (v := 1) hx hb dX7_deadEnds_97 (by decide) ?_
    refine va_zast hx hb hK hP hD hS 1 15 rfl rfl (by unfold vp_in; decide) dX7_deadEnds_98 (fun H30 locs hP hD hS => ?_)
    obtain ⟨f31, ef31⟩ : ∃ z : Nat → Int32, z = upd f23 2 (vp_nar .boolean 1) := ⟨_, rfl⟩
    have k32 : f31 0 = 0 := by rw [ef31]; exact (pk_un (by decide)).trans (k24)
    have k33 : f31 1 = 0 := by rw [ef31]; exact (pk_un (by decide)).trans (k25)
    have k34 : f31 3 = 1 := by rw [ef31]; exact (pk_un (by decide)).trans (k26)
    have k35 : f31 2 = 1 := by rw [ef31]; exact pk_us.trans (by decide)
    have hP : va_P (dC, dI) vwCl [(r4, .inl (cS_5, 1024, .inl fs_5)), (q6, .inl (cA8, 1024, .inl f31))] H30 := by rw [ef31]; exact hP
    have hD : va_D A [(r4, .inl (cS_5, 1024, .inl fs_5)), (q6, .inl (cA8, 1024, .inl f31))] := by rw [ef31]; exact hD
    refine lv_iinc (v := 1) (lv' := [(7, .int 1), (6, .int 1), (5, .int 2), (4, .int 0), (3, .ref q6), (2, .ref r4), (1, .int 0), (0, .ref mr)]) hx hb dX7_deadEnds_99 hl (k := 0) rfl (by decide) (by decide) rfl (fun ls hl => ?_)
    refine lv_goto (tgt := 64) hx hb dX7_deadEnds_102 (by decide) ?_
    refine lv_iload hx hb dX7_deadEnds_64 (lv_at hl 0 rfl) ?_
    refine lv_bipush (v := 10) hx hb dX7_deadEnds_66 (by decide) ?_
    refine lv_icmp_ge (tgt := 105) hx hb dX7_deadEnds_68 (by decide) (fun h => absurd h (by decide)) (fun _ => ?_)
    refine lv_iload hx hb dX7_deadEnds_71 (lv_at hl 1 rfl) ?_
    refine lv_iload hx hb dX7_deadEnds_73 (lv_at hl 0 rfl) ?_
    refine lv_ishr hx hb dX7_deadEnds_75 ?_
    refine zo_i (v := 0) (by decide) ?_
    refine lv_iconst (v := 1) hx hb dX7_deadEnds_76 (by decide) ?_
    refine lv_iand hx hb dX7_deadEnds_77 ?_
    refine zo_i (v := 0) q_0and ?_
    refine lv_iconst (v := 1) hx hb dX7_deadEnds_78 (by decide) ?_
    refine lv_icmp_ne (tgt := 99) hx hb dX7_deadEnds_79 (by decide) (fun _ => ?_) (fun h => absurd h (by decide))
    refine lv_iinc (v := 2) (lv' := [(7, .int 2), (6, .int 1), (5, .int 2), (4, .int 0), (3, .ref q6), (2, .ref r4), (1, .int 0), (0, .ref mr)]) hx hb dX7_deadEnds_99 hl (k := 0) rfl (by decide) (by decide) rfl (fun ls hl => ?_)
    refine lv_goto (tgt := 64) hx hb dX7_deadEnds_102 (by decide) ?_
    refine lv_iload hx hb dX7_deadEnds_64 (lv_at hl 0 rfl) ?_
    refine lv_bipush (v := 10) hx hb dX7_deadEnds_66 (by decide) ?_
    refine lv_icmp_ge (tgt := 105) hx hb dX7_deadEnds_68 (by decide) (fun h => absurd h (by decide)) (fun _ => ?_)
    refine lv_iload hx hb dX7_deadEnds_71 (lv_at hl 1 rfl) ?_
    refine lv_iload hx hb dX7_deadEnds_73 (lv_at hl 0 rfl) ?_
    refine lv_ishr hx hb dX7_deadEnds_75 ?_
    refine zo_i (v := 0) (by decide) ?_
    refine lv_iconst (v := 1) hx hb dX7_deadEnds_76 (by decide) ?_
    refine lv_iand hx hb dX7_deadEnds_77 ?_
    refine zo_i (v := 0) q_0and ?_
    refine lv_iconst (v := 1) hx hb dX7_deadEnds_78 (by decide) ?_
    refine lv_icmp_ne (tgt := 99) hx hb dX7_deadEnds_79 (by decide) (fun _ => ?_) (fun h => absurd h (by decide))
    refine lv_iinc (v := 3) (lv' := [(7, .int 3), (6, .int 1), (5, .int 2), (4, .int 0), (3, .ref q6), (2, .ref r4), (1, .int 0), (0, .ref mr)]) hx hb dX7_deadEnds_99 hl (k := 0) rfl (by decide) (by decide) rfl (fun ls hl => ?_)
    refine lv_goto (tgt := 64) hx hb dX7_deadEnds_102 (by decide) ?_
    refine lv_iload hx hb dX7_deadEnds_64 (lv_at hl 0 rfl) ?_
    refine lv_bipush (v := 10) hx hb dX7_deadEnds_66 (by decide) ?_
    refine lv_icmp_ge (tgt := 105) hx hb dX7_deadEnds_68 (by decide) (fun h => absurd h (by decide)) (fun _ => ?_)
    refine lv_iload hx hb dX7_deadEnds_71 (lv_at hl 1 rfl) ?_
    refine lv_iload hx hb dX7_deadEnds_73 (lv_at hl 0 rfl) ?_
    refine lv_ishr hx hb dX7_deadEnds_75 ?_
    refine zo_i (v := 0) (by decide) ?_
    refine lv_iconst (v := 1) hx hb dX7_deadEnds_76 (by decide) ?_
    refine lv_iand hx hb dX7_deadEnds_77 ?_
    refine zo_i (v := 0) q_0and ?_
    refine lv_iconst (v := 1) hx hb dX7_deadEnds_78 (by decide) ?_
    refine lv_icmp_ne (tgt := 99) hx hb dX7_deadEnds_79 (by decide) (fun _ => ?_) (fun h => absurd h (by decide))
    refine lv_iinc (v := 4) (lv' := [(7, .int 4), (6, .int 1), (5, .int 2), (4, .int 0), (3, .ref q6), (2, .ref r4), (1, .int 0), (0, .ref mr)]) hx hb dX7_deadEnds_99 hl (k := 0) rfl (by decide) (by decide) rfl (fun ls hl => ?_)
    refine lv_goto (tgt := 64) hx hb dX7_deadEnds_102 (by decide) ?_
    refine lv_iload hx hb dX7_deadEnds_64 (lv_at hl 0 rfl) ?_
    refine lv_bipush (v := 10) hx hb dX7_deadEnds_66 (by decide) ?_
    refine lv_icmp_ge (tgt := 105) hx hb dX7_deadEnds_68 (by decide) (fun h => absurd h (by decide)) (fun _ => ?_)
    refine lv_iload hx hb dX7_deadEnds_71 (lv_at hl 1 rfl) ?_
    refine lv_iload hx hb dX7_deadEnds_73 (lv_at hl 0 rfl) ?_
    refine lv_ishr hx hb dX7_deadEnds_75 ?_
    refine zo_i (v := 0) (by decide) ?_
    refine lv_iconst (v := 1) hx hb dX7_deadEnds_76 (by decide) ?_
    refine lv_iand hx hb dX7_deadEnds_77 ?_
    refine zo_i (v := 0) q_0and ?_
    refine lv_iconst (v := 1) hx hb dX7_deadEnds_78 (by decide) ?_
    refine lv_icmp_ne (tgt := 99) hx hb dX7_deadEnds_79 (by decide) (fun _ => ?_) (fun h => absurd h (by decide))
    refine lv_iinc (v := 5) (lv' := [(7, .int 5), (6, .int 1), (5, .int 2), (4, .int 0), (3, .ref q6), (2, .ref r4), (1, .int 0), (0, .ref mr)]) hx hb dX7_deadEnds_99 hl (k := 0) rfl (by decide) (by decide) rfl (fun ls hl => ?_)
    refine lv_goto (tgt := 64) hx hb dX7_deadEnds_102 (by decide) ?_
    refine lv_iload hx hb dX7_deadEnds_64 (lv_at hl 0 rfl) ?_
    refine lv_bipush (v := 10) hx hb dX7_deadEnds_66 (by decide) ?_
    refine lv_icmp_ge (tgt := 105) hx hb dX7_deadEnds_68 (by decide) (fun h => absurd h (by decide)) (fun _ => ?_)
    refine lv_iload hx hb dX7_deadEnds_71 (lv_at hl 1 rfl) ?_
    refine lv_iload hx hb dX7_deadEnds_73 (lv_at hl 0 rfl) ?_
    refine lv_ishr hx hb dX7_deadEnds_75 ?_
    refine zo_i (v := 0) (by decide) ?_
    refine lv_iconst (v := 1) hx hb dX7_deadEnds_76 (by decide) ?_
    refine lv_iand hx hb dX7_deadEnds_77 ?_
    refine zo_i (v := 0) q_0and ?_
    refine lv_iconst (v := 1) hx hb dX7_deadEnds_78 (by decide) ?_
    refine lv_icmp_ne (tgt := 99) hx hb dX7_deadEnds_79 (by decide) (fun _ => ?_) (fun h => absurd h (by decide))
    refine lv_iinc (v := 6) (lv' := [(7, .int 6), (6, .int 1), (5, .int 2), (4, .int 0), (3, .ref q6), (2, .ref r4), (1, .int 0), (0, .ref mr)]) hx hb dX7_deadEnds_99 hl (k := 0) rfl (by decide) (by decide) rfl (fun ls hl => ?_)
    refine lv_goto (tgt := 64) hx hb dX7_deadEnds_102 (by decide) ?_
    refine lv_iload hx hb dX7_deadEnds_64 (lv_at hl 0 rfl) ?_
    refine lv_bipush (v := 10) hx hb dX7_deadEnds_66 (by decide) ?_
    refine lv_icmp_ge (tgt := 105) hx hb dX7_deadEnds_68 (by decide) (fun h => absurd h (by decide)) (fun _ => ?_)
    refine lv_iload hx hb dX7_deadEnds_71 (lv_at hl 1 rfl) ?_
    refine lv_iload hx hb dX7_deadEnds_73 (lv_at hl 0 rfl) ?_
    refine lv_ishr hx hb dX7_deadEnds_75 ?_
    refine zo_i (v := 0) (by decide) ?_
    refine lv_iconst (v := 1) hx hb dX7_deadEnds_76 (by decide) ?_
    refine lv_iand hx hb dX7_deadEnds_77 ?_
    refine zo_i (v := 0) q_0and ?_
    refine lv_iconst (v := 1) hx hb dX7_deadEnds_78 (by decide) ?_
    refine lv_icmp_ne (tgt := 99) hx hb dX7_deadEnds_79 (by decide) (fun _ => ?_) (fun h => absurd h (by decide))
    refine lv_iinc (v := 7) (lv' := [(7, .int 7), (6, .int 1), (5, .int 2), (4, .int 0), (3, .ref q6), (2, .ref r4), (1, .int 0), (0, .ref mr)]) hx hb dX7_deadEnds_99 hl (k := 0) rfl (by decide) (by decide) rfl (fun ls hl => ?_)
    refine lv_goto (tgt := 64) hx hb dX7_deadEnds_102 (by decide) ?_
    refine lv_iload hx hb dX7_deadEnds_64 (lv_at hl 0 rfl) ?_
    refine lv_bipush (v := 10) hx hb dX7_deadEnds_66 (by decide) ?_
    refine lv_icmp_ge (tgt := 105) hx hb dX7_deadEnds_68 (by decide) (fun h => absurd h (by decide)) (fun _ => ?_)
    refine lv_iload hx hb dX7_deadEnds_71 (lv_at hl 1 rfl) ?_
    refine lv_iload hx hb dX7_deadEnds_73 (lv_at hl 0 rfl) ?_
    refine lv_ishr hx hb dX7_deadEnds_75 ?_
    refine zo_i (v := 0) (by decide) ?_
    refine lv_iconst (v := 1) hx hb dX7_deadEnds_76 (by decide) ?_
    refine lv_iand hx hb dX7_deadEnds_77 ?_
    refine zo_i (v := 0) q_0and ?_
    refine lv_iconst (v := 1) hx hb dX7_deadEnds_78 (by decide) ?_
    refine lv_icmp_ne (tgt := 99) hx hb dX7_deadEnds_79 (by decide) (fun _ => ?_) (fun h => absurd h (by decide))
    refine lv_iinc (v := 8) (lv' := [(7, .int 8), (6, .int 1), (5, .int 2), (4, .int 0), (3, .ref q6), (2, .ref r4), (1, .int 0), (0, .ref mr)]) hx hb dX7_deadEnds_99 hl (k := 0) rfl (by decide) (by decide) rfl (fun ls hl => ?_)
    refine lv_goto (tgt := 64) hx hb dX7_deadEnds_102 (by decide) ?_
    refine lv_iload hx hb dX7_deadEnds_64 (lv_at hl 0 rfl) ?_
    refine lv_bipush (v := 10) hx hb dX7_deadEnds_66 (by decide) ?_
    refine lv_icmp_ge (tgt := 105) hx hb dX7_deadEnds_68 (by decide) (fun h => absurd h (by decide)) (fun _ => ?_)
    refine lv_iload hx hb dX7_deadEnds_71 (lv_at hl 1 rfl) ?_
    refine lv_iload hx hb dX7_deadEnds_73 (lv_at hl 0 rfl) ?_
    refine lv_ishr hx hb dX7_deadEnds_75 ?_
    refine zo_i (v := 0) (by decide) ?_
    refine lv_iconst (v := 1) hx hb dX7_deadEnds_76 (by decide) ?_
    refine lv_iand hx hb dX7_deadEnds_77 ?_
    refine zo_i (v := 0) q_0and ?_
    refine lv_iconst (v := 1) hx hb dX7_deadEnds_78 (by decide) ?_
    refine lv_icmp_ne (tgt := 99) hx hb dX7_deadEnds_79 (by decide) (fun _ => ?_) (fun h => absurd h (by decide))
    refine lv_iinc (v := 9) (lv' := [(7, .int 9), (6, .int 1), (5, .int 2), (4, .int 0), (3, .ref q6), (2, .ref r4), (1, .int 0), (0, .ref mr)]) hx hb dX7_deadEnds_99 hl (k := 0) rfl (by decide) (by decide) rfl (fun ls hl => ?_)
    refine lv_goto (tgt := 64) hx hb dX7_deadEnds_102 (by decide) ?_
    refine lv_iload hx hb dX7_deadEnds_64 (lv_at hl 0 rfl) ?_
    refine lv_bipush (v := 10) hx hb dX7_deadEnds_66 (by decide) ?_
    refine lv_icmp_ge (tgt := 105) hx hb dX7_deadEnds_68 (by decide) (fun h => absurd h (by decide)) (fun _ => ?_)
    refine lv_iload hx hb dX7_deadEnds_71 (lv_at hl 1 rfl) ?_
    refine lv_iload hx hb dX7_deadEnds_73 (lv_at hl 0 rfl) ?_
    refine lv_ishr hx hb dX7_deadEnds_75 ?_
    refine zo_i (v := 0) (by decide) ?_
    refine lv_iconst (v := 1) hx hb dX7_deadEnds_76 (by decide) ?_
    refine lv_iand hx hb dX7_deadEnds_77 ?_
    refine zo_i (v := 0) q_0and ?_
    refine lv_iconst (v := 1) hx hb dX7_deadEnds_78 (by decide) ?_
    refine lv_icmp_ne (tgt := 99) hx hb dX7_deadEnds_79 (by decide) (fun _ => ?_) (fun h => absurd h (by decide))
    refine lv_iinc (v := 10) (lv' := [(7, .int 10), (6, .int 1), (5, .int 2), (4, .int 0), (3, .ref q6), (2, .ref r4), (1, .int 0), (0, .ref mr)]) hx hb dX7_deadEnds_99 hl (k := 0) rfl (by decide) (by decide) rfl (fun ls hl => ?_)
    refine lv_goto (tgt := 64) hx hb dX7_deadEnds_102 (by decide) ?_
    refine lv_iload hx hb dX7_deadEnds_64 (lv_at hl 0 rfl) ?_
    refine lv_bipush (v := 10) hx hb dX7_deadEnds_66 (by decide) ?_
    refine lv_icmp_ge (tgt := 105) hx hb dX7_deadEnds_68 (by decide) (fun _ => ?_) (fun h => absurd h (by decide))
    refine lv_iload hx hb dX7_deadEnds_105 (lv_at hl 3 rfl) ?_
    refine lv_aload_n hx hb dX7_deadEnds_107 rfl (lv_at hl 4 rfl) ?_
    refine lv_iload hx hb dX7_deadEnds_108 (lv_at hl 2 rfl) ?_
    refine va_zald hx hb hK hP 1 15 rfl rfl (by unfold vp_in; decide) dX7_deadEnds_110 ?_
    refine zo_i (v := 1) (by rw [show Int32.toNatClampNeg 2 = 2 from by decide]; exact k35) ?_
    refine lv_if_eq (tgt := 118) hx hb dX7_deadEnds_111 (by decide) (fun h => absurd h (by decide)) (fun _ => ?_)
    refine lv_iconst (v := 0) hx hb dX7_deadEnds_114 (by decide) ?_
    refine lv_goto (tgt := 119) hx hb dX7_deadEnds_115 (by decide) ?_
    refine lv_iadd hx hb dX7_deadEnds_119 ?_
    refine zo_i (v := 0) (by decide) ?_
    refine lv_istore (lv' := [(4, .int 0), (7, .int 10), (6, .int 1), (5, .int 2), (3, .ref q6), (2, .ref r4), (1, .int 0), (0, .ref mr)]) hx hb dX7_deadEnds_120 hl (by decide) rfl (fun ls hl => ?_)
    refine lv_iinc (v := 1) (lv' := [(5, .int 1), (4, .int 0), (7, .int 10), (6, .int 1), (3, .ref q6), (2, .ref r4), (1, .int 0), (0, .ref mr)]) hx hb dX7_deadEnds_122 hl (k := 3) rfl (by decide) (by decide) rfl (fun ls hl => ?_)
    refine lv_goto (tgt := 26) hx hb dX7_deadEnds_125 (by decide) ?_
    refine lv_iload hx hb dX7_deadEnds_26 (lv_at hl 0 rfl) ?_
    refine lv_if_lt (tgt := 128) hx hb dX7_deadEnds_28 (by decide) (fun h => absurd h (by decide)) (fun _ => ?_)
    refine lv_aload_n hx hb dX7_deadEnds_31 rfl (lv_at hl 5 rfl) ?_
    refine lv_iload hx hb dX7_deadEnds_32 (lv_at hl 0 rfl) ?_
    refine va_iald hx hb hK hP 0 14 rfl rfl (by unfold vp_in; decide) dX7_deadEnds_34 ?_
    refine zo_i (v := 1) (by rw [show Int32.toNatClampNeg 1 = 1 from by decide]; exact k5_1) ?_
    refine lv_iconst (v := (-1)) hx hb dX7_deadEnds_35 (by decide) ?_
    refine lv_icmp_ne (tgt := 42) hx hb dX7_deadEnds_36 (by decide) (fun _ => ?_) (fun h => absurd h (by decide))
    refine lv_aload_n hx hb dX7_deadEnds_42 rfl (lv_at hl 4 rfl) ?_
    refine lv_iload hx hb dX7_deadEnds_43 (lv_at hl 0 rfl) ?_
    refine lv_aload_n hx hb dX7_deadEnds_45 rfl (lv_at hl 7 rfl) ?_
    refine lv_iload hx hb dX7_deadEnds_46 (lv_at hl 0 rfl) ?_
    have hPr := ((zo_R hR0 hS hAr)).sub (ws' := [(mr, .inr (9, [.ref ll, .ref lt, .ref lp, .int 0, .int 0, .int 0, .int 0, .int 0, .int 0, .int 0, .int (-1), .int 0, .int 0, .int 0]))]) [0] rfl
    have hPc := hP.sub (ws' := []) [] rfl
    have hDc := hD.sub (ws' := []) [] (by decide) rfl
    have hKc := hK.sub (tys' := []) [] rfl
    have hFc := va_free (wc := []) hD hS hA [] rfl
    refine va_calli (va_runV (As := [.int 1]) (rest := [.int 1, .ref q6]) ⟨hx, hb, hml, hown, hts⟩ (cz_QisEnd_1 l dC dI ed H30.size mr ll lt lp) (cwV 1 hts gX7_deadEnds_X7_isEnd rfl rfl rfl (by decide +kernel) ⟨Nat.le_of_ble_eq_true rfl, Nat.le_of_ble_eq_true rfl⟩) ⟨zb_blind, va_recv hK (zo_R hR0 hS hAr) (ci := 9) (q0 := 0) rfl rfl, fun U hU hW => ⟨rfl, zb_mk hU hW hPr hPc hKc hDc hN hH hS hFc zx_e⟩⟩ rfl rfl hl.1 rfl (lv_room (Nat.le_of_ble_eq_true rfl)) dX7_deadEnds_48 ⟨Nat.le_of_ble_eq_true rfl, Nat.le_of_ble_eq_true rfl⟩) hS (fun q _ h => hFc q h) hFc (fun r37 u t H36 locs ht hvm hw hB hz1 hk1 hS => ?_)
    obtain rfl : r37 = 1 := hw
    have hP := zo_K hP hk1
    refine va_zast hx hb hK hP hD hS 1 15 rfl rfl (by unfold vp_in; decide) dX7_deadEnds_51 (fun H38 locs hP hD hS => ?_)
    obtain ⟨f39, ef39⟩ : ∃ z : Nat → Int32, z = upd f31 1 (vp_nar .boolean 1) := ⟨_, rfl⟩
    have k40 : f39 0 = 0 := by rw [ef39]; exact (pk_un (by decide)).trans (k32)
    have k41 : f39 3 = 1 := by rw [ef39]; exact (pk_un (by decide)).trans (k34)
    have k42 : f39 2 = 1 := by rw [ef39]; exact (pk_un (by decide)).trans (k35)
    have k43 : f39 1 = 1 := by rw [ef39]; exact pk_us.trans (by decide)
    have hP : va_P (dC, dI) vwCl [(r4, .inl (cS_5, 1024, .inl fs_5)), (q6, .inl (cA8, 1024, .inl f39))] H38 := by rw [ef39]; exact hP
    have hD : va_D A [(r4, .inl (cS_5, 1024, .inl fs_5)), (q6, .inl (cA8, 1024, .inl f39))] := by rw [ef39]; exact hD
    refine lv_aload_n hx hb dX7_deadEnds_52 rfl (lv_at hl 7 rfl) ?_
    refine lv_iload hx hb dX7_deadEnds_53 (lv_at hl 0 rfl) ?_
    refine lv_iload_n hx hb dX7_deadEnds_55 rfl (lv_at hl 6 rfl) ?_
    have hPr := ((zo_R hR0 hS hAr)).sub (ws' := [(mr, .inr (9, [.ref ll, .ref lt, .ref lp, .int 0, .int 0, .int 0, .int 0, .int 0, .int 0, .int 0, .int (-1), .int 0, .int 0, .int 0])), (ll, .inr (1, [.int 2, .ref ola, .int 2])), (ola, .inl (cOl, 10, .inr (.inr (.inr (.inr fol))))), (la0, .inl (cA0, 10, .inl fa0)), (la1, .inl (cA1, 10, .inl fa1)), (lt, .inr (1, [.int 10, .ref ota, .int 10])), (ota, .inl (cOt, 10, .inr (.inr (.inr (.inr fot))))), (ta0, .inl (cB0, 5, .inl fb0)), (ta1, .inl (cB1, 5, .inl fb1)), (ta2, .inl (cB2, 5, .inl fb2)), (ta3, .inl (cB3, 5, .inl fb3)), (ta4, .inl (cB4, 5, .inl fb4)), (ta5, .inl (cB5, 5, .inl fb5)), (ta6, .inl (cB6, 5, .inl fb6)), (ta7, .inl (cB7, 5, .inl fb7)), (ta8, .inl (cB8, 5, .inl fb8)), (ta9, .inl (cB9, 5, .inl fb9))]) [0, 1, 2, 3, 4, 5, 6, 7, 8, 9, 10, 11, 12, 13, 14, 15, 16] rfl
    have hPc := hP.sub (ws' := []) [] rfl
    have hDc := hD.sub (ws' := []) [] (by decide) rfl
    have hKc := hK.sub (tys' := [(cOl, .object "java/lang/Object"), (cA0, .int), (cA1, .int), (cOt, .object "java/lang/Object"), (cB0, .int), (cB1, .int), (cB2, .int), (cB3, .int), (cB4, .int), (cB5, .int), (cB6, .int), (cB7, .int), (cB8, .int), (cB9, .int)]) [0, 1, 2, 3, 4, 5, 6, 7, 8, 9, 10, 11, 12, 13] rfl
    have hFc := va_free (wc := []) hD hS hA [] rfl
    refine va_calli (va_runV (As := [.int 1, .int 0]) (rest := []) ⟨hx, hb, hml, hown, hts⟩ (cz_Qnext7_1 l dC dI ed H38.size mr ll lt lp ola cOl fol la0 la1 cA0 fa0 cA1 fa1 ota cOt fot ta0 ta1 ta2 ta3 ta4 ta5 ta6 ta7 ta8 ta9 cB0 fb0 y0 cB1 fb1 y1 cB2 fb2 y2 cB3 fb3 y3 cB4 fb4 y4 cB5 fb5 y5 cB6 fb6 y6 cB7 fb7 y7 cB8 fb8 y8 cB9 fb9 y9 hol0 hol1 ha0_0 ha0_1 ha0_8 ha1_0 ha1_1 ha1_8 hot0 hot1 hot2 hot3 hot4 hot5 hot6 hot7 hot8 hot9 hb0_0 hb0_3 hb1_0 hb1_3 hb2_0 hb2_3 hb3_0 hb3_3 hb4_0 hb4_3 hb5_0 hb5_3 hb6_0 hb6_3 hb7_0 hb7_3 hb8_0 hb8_3 hb9_0 hb9_3) (cwV 2 hts gX7_deadEnds_X7_next rfl rfl rfl (by decide +kernel) ⟨Nat.le_of_ble_eq_true rfl, Nat.le_of_ble_eq_true rfl⟩) ⟨zb_blind, va_recv hK (zo_R hR0 hS hAr) (ci := 9) (q0 := 0) rfl rfl, fun U hU hW => ⟨rfl, zb_mk hU hW hPr hPc hKc hDc hN hH hS hFc zx_e⟩⟩ rfl rfl hl.1 rfl (lv_room (Nat.le_of_ble_eq_true rfl)) dX7_deadEnds_56 ⟨Nat.le_of_ble_eq_true rfl, Nat.le_of_ble_eq_true rfl⟩) hS (fun q _ h => hFc q h) hFc (fun r45 u t H44 locs ht hvm hw hB hz1 hk1 hS => ?_)
    obtain rfl : r45 = 2 := hw
    have hP := zo_K hP hk1
    refine lv_istore (lv' := [(6, .int 2), (5, .int 1), (4, .int 0), (7, .int 10), (3, .ref q6), (2, .ref r4), (1, .int 0), (0, .ref mr)]) hx hb dX7_deadEnds_59 hl (by decide) rfl (fun ls hl => ?_)
    refine lv_iconst (v := 0) hx hb dX7_deadEnds_61 (by decide) ?_
    refine lv_istore (lv' := [(7, .int 0), (6, .int 2), (5, .int 1), (4, .int 0), (3, .ref q6), (2, .ref r4), (1, .int 0), (0, .ref mr)]) hx hb dX7_deadEnds_62 hl (by decide) rfl (fun ls hl => ?_)
    refine lv_iload hx hb dX7_deadEnds_64 (lv_at hl 0 rfl) ?_
    refine lv_bipush (v := 10) hx hb dX7_deadEnds_66 (by decide) ?_
    refine lv_icmp_ge (tgt := 105) hx hb dX7_deadEnds_68 (by decide) (fun h => absurd h (by decide)) (fun _ => ?_)
    refine lv_iload hx hb dX7_deadEnds_71 (lv_at hl 1 rfl) ?_
    refine lv_iload hx hb dX7_deadEnds_73 (lv_at hl 0 rfl) ?_
    refine lv_ishr hx hb dX7_deadEnds_75 ?_
    refine zo_i (v := 2) (by decide) ?_
    refine lv_iconst (v := 1) hx hb dX7_deadEnds_76 (by decide) ?_
    refine lv_iand hx hb dX7_deadEnds_77 ?_
    refine zo_i (v := 0) (by decide) ?_
    refine lv_iconst (v := 1) hx hb dX7_deadEnds_78 (by decide) ?_
    refine lv_icmp_ne (tgt := 99) hx hb dX7_deadEnds_79 (by decide) (fun _ => ?_) (fun h => absurd h (by decide))
    refine lv_iinc (v := 1) (lv' := [(7, .int 1), (6, .int 2), (5, .int 1), (4, .int 0), (3, .ref q6), (2, .ref r4), (1, .int 0), (0, .ref mr)]) hx hb dX7_deadEnds_99 hl (k := 0) rfl (by decide) (by decide) rfl (fun ls hl => ?_)
    refine lv_goto (tgt := 64) hx hb dX7_deadEnds_102 (by decide) ?_
    refine lv_iload hx hb dX7_deadEnds_64 (lv_at hl 0 rfl) ?_
    refine lv_bipush (v := 10) hx hb dX7_deadEnds_66 (by decide) ?_
    refine lv_icmp_ge (tgt := 105) hx hb dX7_deadEnds_68 (by decide) (fun h => absurd h (by decide)) (fun _ => ?_)
    refine lv_iload hx hb dX7_deadEnds_71 (lv_at hl 1 rfl) ?_
    refine lv_iload hx hb dX7_deadEnds_73 (lv_at hl 0 rfl) ?_
    refine lv_ishr hx hb dX7_deadEnds_75 ?_
    refine zo_i (v := 1) (by decide) ?_
    refine lv_iconst (v := 1) hx hb dX7_deadEnds_76 (by decide) ?_
    refine lv_iand hx hb dX7_deadEnds_77 ?_
    refine zo_i (v := 1) (by decide) ?_
    refine lv_iconst (v := 1) hx hb dX7_deadEnds_78 (by decide) ?_
    refine lv_icmp_ne (tgt := 99) hx hb dX7_deadEnds_79 (by decide) (fun h => absurd h (by decide)) (fun _ => ?_)
    refine lv_aload_n hx hb dX7_deadEnds_82 rfl (lv_at hl 4 rfl) ?_
    refine lv_iload hx hb dX7_deadEnds_83 (lv_at hl 2 rfl) ?_
    refine lv_iconst (v := 1) hx hb dX7_deadEnds_85 (by decide) ?_
    refine lv_iload hx hb dX7_deadEnds_86 (lv_at hl 0 rfl) ?_
    refine lv_ishl hx hb dX7_deadEnds_88 ?_
    refine zo_i (v := 2) (by decide) ?_
    refine lv_ior hx hb dX7_deadEnds_89 ?_
    refine zo_i (v := 3) (by decide) ?_
    refine va_zald hx hb hK hP 1 15 rfl rfl (by unfold vp_in; decide) dX7_deadEnds_90 ?_
    refine zo_i (v := 1) (by rw [show Int32.toNatClampNeg 3 = 3 from by decide]; exact k41) ?_
    refine lv_if_eq (tgt := 99) hx hb dX7_deadEnds_91 (by decide) (fun h => absurd h (by decide)) (fun _ => ?_)
    refine lv_aload_n hx hb dX7_deadEnds_94 rfl (lv_at hl 4 rfl) ?_
    refine lv_iload hx hb dX7_deadEnds_95 (lv_at hl 2 rfl) ?_
    refine lv_iconst (v := 1) hx hb dX7_deadEnds_97 (by decide) ?_
    refine va_zast hx hb hK hP hD hS 1 15 rfl rfl (by unfold vp_in; decide) dX7_deadEnds_98 (fun H46 locs hP hD hS => ?_)
    obtain ⟨f47, ef47⟩ : ∃ z : Nat → Int32, z = upd f39 1 (vp_nar .boolean 1) := ⟨_, rfl⟩
    have k48 : f47 0 = 0 := by rw [ef47]; exact (pk_un (by decide)).trans (k40)
    have k49 : f47 3 = 1 := by rw [ef47]; exact (pk_un (by decide)).trans (k41)
    have k50 : f47 2 = 1 := by rw [ef47]; exact (pk_un (by decide)).trans (k42)
    have k51 : f47 1 = 1 := by rw [ef47]; exact pk_us.trans (by decide)
    have hP : va_P (dC, dI) vwCl [(r4, .inl (cS_5, 1024, .inl fs_5)), (q6, .inl (cA8, 1024, .inl f47))] H46 := by rw [ef47]; exact hP
    have hD : va_D A [(r4, .inl (cS_5, 1024, .inl fs_5)), (q6, .inl (cA8, 1024, .inl f47))] := by rw [ef47]; exact hD
    refine lv_iinc (v := 2) (lv' := [(7, .int 2), (6, .int 2), (5, .int 1), (4, .int 0), (3, .ref q6), (2, .ref r4), (1, .int 0), (0, .ref mr)]) hx hb dX7_deadEnds_99 hl (k := 0) rfl (by decide) (by decide) rfl (fun ls hl => ?_)
    refine lv_goto (tgt := 64) hx hb dX7_deadEnds_102 (by decide) ?_
    refine lv_iload hx hb dX7_deadEnds_64 (lv_at hl 0 rfl) ?_
    refine lv_bipush (v := 10) hx hb dX7_deadEnds_66 (by decide) ?_
    refine lv_icmp_ge (tgt := 105) hx hb dX7_deadEnds_68 (by decide) (fun h => absurd h (by decide)) (fun _ => ?_)
    refine lv_iload hx hb dX7_deadEnds_71 (lv_at hl 1 rfl) ?_
    refine lv_iload hx hb dX7_deadEnds_73 (lv_at hl 0 rfl) ?_
    refine lv_ishr hx hb dX7_deadEnds_75 ?_
    refine zo_i (v := 0) (by decide) ?_
    refine lv_iconst (v := 1) hx hb dX7_deadEnds_76 (by decide) ?_
    refine lv_iand hx hb dX7_deadEnds_77 ?_
    refine zo_i (v := 0) q_0and ?_
    refine lv_iconst (v := 1) hx hb dX7_deadEnds_78 (by decide) ?_
    refine lv_icmp_ne (tgt := 99) hx hb dX7_deadEnds_79 (by decide) (fun _ => ?_) (fun h => absurd h (by decide))
    refine lv_iinc (v := 3) (lv' := [(7, .int 3), (6, .int 2), (5, .int 1), (4, .int 0), (3, .ref q6), (2, .ref r4), (1, .int 0), (0, .ref mr)]) hx hb dX7_deadEnds_99 hl (k := 0) rfl (by decide) (by decide) rfl (fun ls hl => ?_)
    refine lv_goto (tgt := 64) hx hb dX7_deadEnds_102 (by decide) ?_
    refine lv_iload hx hb dX7_deadEnds_64 (lv_at hl 0 rfl) ?_
    refine lv_bipush (v := 10) hx hb dX7_deadEnds_66 (by decide) ?_
    refine lv_icmp_ge (tgt := 105) hx hb dX7_deadEnds_68 (by decide) (fun h => absurd h (by decide)) (fun _ => ?_)
    refine lv_iload hx hb dX7_deadEnds_71 (lv_at hl 1 rfl) ?_
    refine lv_iload hx hb dX7_deadEnds_73 (lv_at hl 0 rfl) ?_
    refine lv_ishr hx hb dX7_deadEnds_75 ?_
    refine zo_i (v := 0) (by decide) ?_
    refine lv_iconst (v := 1) hx hb dX7_deadEnds_76 (by decide) ?_
    refine lv_iand hx hb dX7_deadEnds_77 ?_
    refine zo_i (v := 0) q_0and ?_
    refine lv_iconst (v := 1) hx hb dX7_deadEnds_78 (by decide) ?_
    refine lv_icmp_ne (tgt := 99) hx hb dX7_deadEnds_79 (by decide) (fun _ => ?_) (fun h => absurd h (by decide))
    refine lv_iinc (v := 4) (lv' := [(7, .int 4), (6, .int 2), (5, .int 1), (4, .int 0), (3, .ref q6), (2, .ref r4), (1, .int 0), (0, .ref mr)]) hx hb dX7_deadEnds_99 hl (k := 0) rfl (by decide) (by decide) rfl (fun ls hl => ?_)
    refine lv_goto (tgt := 64) hx hb dX7_deadEnds_102 (by decide) ?_
    refine lv_iload hx hb dX7_deadEnds_64 (lv_at hl 0 rfl) ?_
    refine lv_bipush (v := 10) hx hb dX7_deadEnds_66 (by decide) ?_
    refine lv_icmp_ge (tgt := 105) hx hb dX7_deadEnds_68 (by decide) (fun h => absurd h (by decide)) (fun _ => ?_)
    refine lv_iload hx hb dX7_deadEnds_71 (lv_at hl 1 rfl) ?_
    refine lv_iload hx hb dX7_deadEnds_73 (lv_at hl 0 rfl) ?_
    refine lv_ishr hx hb dX7_deadEnds_75 ?_
    refine zo_i (v := 0) (by decide) ?_
    refine lv_iconst (v := 1) hx hb dX7_deadEnds_76 (by decide) ?_
    refine lv_iand hx hb dX7_deadEnds_77 ?_
    refine zo_i (v := 0) q_0and ?_
    refine lv_iconst (v := 1) hx hb dX7_deadEnds_78 (by decide) ?_
    refine lv_icmp_ne (tgt := 99) hx hb dX7_deadEnds_79 (by decide) (fun _ => ?_) (fun h => absurd h (by decide))
    refine lv_iinc (v := 5) (lv' := [(7, .int 5), (6, .int 2), (5, .int 1), (4, .int 0), (3, .ref q6), (2, .ref r4), (1, .int 0), (0, .ref mr)]) hx hb dX7_deadEnds_99 hl (k := 0) rfl (by decide) (by decide) rfl (fun ls hl => ?_)
    refine lv_goto (tgt := 64) hx hb dX7_deadEnds_102 (by decide) ?_
    refine lv_iload hx hb dX7_deadEnds_64 (lv_at hl 0 rfl) ?_
    refine lv_bipush (v := 10) hx hb dX7_deadEnds_66 (by decide) ?_
    refine lv_icmp_ge (tgt := 105) hx hb dX7_deadEnds_68 (by decide) (fun h => absurd h (by decide)) (fun _ => ?_)
    refine lv_iload hx hb dX7_deadEnds_71 (lv_at hl 1 rfl) ?_
    refine lv_iload hx hb dX7_deadEnds_73 (lv_at hl 0 rfl) ?_
    refine lv_ishr hx hb dX7_deadEnds_75 ?_
    refine zo_i (v := 0) (by decide) ?_
    refine lv_iconst (v := 1) hx hb dX7_deadEnds_76 (by decide) ?_
    refine lv_iand hx hb dX7_deadEnds_77 ?_
    refine zo_i (v := 0) q_0and ?_
    refine lv_iconst (v := 1) hx hb dX7_deadEnds_78 (by decide) ?_
    refine lv_icmp_ne (tgt := 99) hx hb dX7_deadEnds_79 (by decide) (fun _ => ?_) (fun h => absurd h (by decide))
    refine lv_iinc (v := 6) (lv' := [(7, .int 6), (6, .int 2), (5, .int 1), (4, .int 0), (3, .ref q6), (2, .ref r4), (1, .int 0), (0, .ref mr)]) hx hb dX7_deadEnds_99 hl (k := 0) rfl (by decide) (by decide) rfl (fun ls hl => ?_)
    refine lv_goto (tgt := 64) hx hb dX7_deadEnds_102 (by decide) ?_
    refine lv_iload hx hb dX7_deadEnds_64 (lv_at hl 0 rfl) ?_
    refine lv_bipush (v := 10) hx hb dX7_deadEnds_66 (by decide) ?_
    refine lv_icmp_ge (tgt := 105) hx hb dX7_deadEnds_68 (by decide) (fun h => absurd h (by decide)) (fun _ => ?_)
    refine lv_iload hx hb dX7_deadEnds_71 (lv_at hl 1 rfl) ?_
    refine lv_iload hx hb dX7_deadEnds_73 (lv_at hl 0 rfl) ?_
    refine lv_ishr hx hb dX7_deadEnds_75 ?_
    refine zo_i (v := 0) (by decide) ?_
    refine lv_iconst (v := 1) hx hb dX7_deadEnds_76 (by decide) ?_
    refine lv_iand hx hb dX7_deadEnds_77 ?_
    refine zo_i (v := 0) q_0and ?_
    refine lv_iconst (v := 1) hx hb dX7_deadEnds_78 (by decide) ?_
    refine lv_icmp_ne (tgt := 99) hx hb dX7_deadEnds_79 (by decide) (fun _ => ?_) (fun h => absurd h (by decide))
    refine lv_iinc (v := 7) (lv' := [(7, .int 7), (6, .int 2), (5, .int 1), (4, .int 0), (3, .ref q6), (2, .ref r4), (1, .int 0), (0, .ref mr)]) hx hb dX7_deadEnds_99 hl (k := 0) rfl (by decide) (by decide) rfl (fun ls hl => ?_)
    refine lv_goto (tgt := 64) hx hb dX7_deadEnds_102 (by decide) ?_
    refine lv_iload hx hb dX7_deadEnds_64 (lv_at hl 0 rfl) ?_
    refine lv_bipush (v := 10) hx hb dX7_deadEnds_66 (by decide) ?_
    refine lv_icmp_ge (tgt := 105) hx hb dX7_deadEnds_68 (by decide) (fun h => absurd h (by decide)) (fun _ => ?_)
    refine lv_iload hx hb dX7_deadEnds_71 (lv_at hl 1 rfl) ?_
    refine lv_iload hx hb dX7_deadEnds_73 (lv_at hl 0 rfl) ?_
    refine lv_ishr hx hb dX7_deadEnds_75 ?_
    refine zo_i (v := 0) (by decide) ?_
    refine lv_iconst (v := 1) hx hb dX7_deadEnds_76 (by decide) ?_
    refine lv_iand hx hb dX7_deadEnds_77 ?_
    refine zo_i (v := 0) q_0and ?_
    refine lv_iconst (v := 1) hx hb dX7_deadEnds_78 (by decide) ?_
    refine lv_icmp_ne (tgt := 99) hx hb dX7_deadEnds_79 (by decide) (fun _ => ?_) (fun h => absurd h (by decide))
    refine lv_iinc (v := 8) (lv' := [(7, .int 8), (6, .int 2), (5, .int 1), (4, .int 0), (3, .ref q6), (2, .ref r4), (1, .int 0), (0, .ref mr)]) hx hb dX7_deadEnds_99 hl (k := 0) rfl (by decide) (by decide) rfl (fun ls hl => ?_)
    refine lv_goto (tgt := 64) hx hb dX7_deadEnds_102 (by decide) ?_
    refine lv_iload hx hb dX7_deadEnds_64 (lv_at hl 0 rfl) ?_
    refine lv_bipush (v := 10) hx hb dX7_deadEnds_66 (by decide) ?_
    refine lv_icmp_ge (tgt := 105) hx hb dX7_deadEnds_68 (by decide) (fun h => absurd h (by decide)) (fun _ => ?_)
    refine lv_iload hx hb dX7_deadEnds_71 (lv_at hl 1 rfl) ?_
    refine lv_iload hx hb dX7_deadEnds_73 (lv_at hl 0 rfl) ?_
    refine lv_ishr hx hb dX7_deadEnds_75 ?_
    refine zo_i (v := 0) (by decide) ?_
    refine lv_iconst (v := 1) hx hb dX7_deadEnds_76 (by decide) ?_
    refine lv_iand hx hb dX7_deadEnds_77 ?_
    refine zo_i (v := 0) q_0and ?_
    refine lv_iconst (v := 1) hx hb dX7_deadEnds_78 (by decide) ?_
    refine lv_icmp_ne (tgt := 99) hx hb dX7_deadEnds_79 (by decide) (fun _ => ?_) (fun h => absurd h (by decide))
    refine lv_iinc (v := 9) (lv' := [(7, .int 9), (6, .int 2), (5, .int 1), (4, .int 0), (3, .ref q6), (2, .ref r4), (1, .int 0), (0, .ref mr)]) hx hb dX7_deadEnds_99 hl (k := 0) rfl (by decide) (by decide) rfl (fun ls hl => ?_)
    refine lv_goto (tgt := 64) hx hb dX7_deadEnds_102 (by decide) ?_
    refine lv_iload hx hb dX7_deadEnds_64 (lv_at hl 0 rfl) ?_
    refine lv_bipush (v := 10) hx hb dX7_deadEnds_66 (by decide) ?_
    refine lv_icmp_ge (tgt := 105) hx hb dX7_deadEnds_68 (by decide) (fun h => absurd h (by decide)) (fun _ => ?_)
    refine lv_iload hx hb dX7_deadEnds_71 (lv_at hl 1 rfl) ?_
    refine lv_iload hx hb dX7_deadEnds_73 (lv_at hl 0 rfl) ?_
    refine lv_ishr hx hb dX7_deadEnds_75 ?_
    refine zo_i (v := 0) (by decide) ?_
    refine lv_iconst (v := 1) hx hb dX7_deadEnds_76 (by decide) ?_
    refine lv_iand hx hb dX7_deadEnds_77 ?_
    refine zo_i (v := 0) q_0and ?_
    refine lv_iconst (v := 1) hx hb dX7_deadEnds_78 (by decide) ?_
    refine lv_icmp_ne (tgt := 99) hx hb dX7_deadEnds_79 (by decide) (fun _ => ?_) (fun h => absurd h (by decide))
    refine lv_iinc (v := 10) (lv' := [(7, .int 10), (6, .int 2), (5, .int 1), (4, .int 0), (3, .ref q6), (2, .ref r4), (1, .int 0), (0, .ref mr)]) hx hb dX7_deadEnds_99 hl (k := 0) rfl (by decide) (by decide) rfl (fun ls hl => ?_)
    refine lv_goto (tgt := 64) hx hb dX7_deadEnds_102 (by decide) ?_
    refine lv_iload hx hb dX7_deadEnds_64 (lv_at hl 0 rfl) ?_
    refine lv_bipush (v := 10) hx hb dX7_deadEnds_66 (by decide) ?_
    refine lv_icmp_ge (tgt := 105) hx hb dX7_deadEnds_68 (by decide) (fun _ => ?_) (fun h => absurd h (by decide))
    refine lv_iload hx hb dX7_deadEnds_105 (lv_at hl 3 rfl) ?_
    refine lv_aload_n hx hb dX7_deadEnds_107 rfl (lv_at hl 4 rfl) ?_
    refine lv_iload hx hb dX7_deadEnds_108 (lv_at hl 2 rfl) ?_
    refine va_zald hx hb hK hP 1 15 rfl rfl (by unfold vp_in; decide) dX7_deadEnds_110 ?_
    refine zo_i (v := 1) (by rw [show Int32.toNatClampNeg 1 = 1 from by decide]; exact k51) ?_
    refine lv_if_eq (tgt := 118) hx hb dX7_deadEnds_111 (by decide) (fun h => absurd h (by decide)) (fun _ => ?_)
    refine lv_iconst (v := 0) hx hb dX7_deadEnds_114 (by decide) ?_
    refine lv_goto (tgt := 119) hx hb dX7_deadEnds_115 (by decide) ?_
    refine lv_iadd hx hb dX7_deadEnds_119 ?_
    refine zo_i (v := 0) (by decide) ?_
    refine lv_istore (lv' := [(4, .int 0), (7, .int 10), (6, .int 2), (5, .int 1), (3, .ref q6), (2, .ref r4), (1, .int 0), (0, .ref mr)]) hx hb dX7_deadEnds_120 hl (by decide) rfl (fun ls hl => ?_)
    refine lv_iinc (v := 0) (lv' := [(5, .int 0), (4, .int 0), (7, .int 10), (6, .int 2), (3, .ref q6), (2, .ref r4), (1, .int 0), (0, .ref mr)]) hx hb dX7_deadEnds_122 hl (k := 3) rfl (by decide) (by decide) rfl (fun ls hl => ?_)
    refine lv_goto (tgt := 26) hx hb dX7_deadEnds_125 (by decide) ?_
    refine lv_iload hx hb dX7_deadEnds_26 (lv_at hl 0 rfl) ?_
    refine lv_if_lt (tgt := 128) hx hb dX7_deadEnds_28 (by decide) (fun h => absurd h (by decide)) (fun _ => ?_)
    refine lv_aload_n hx hb dX7_deadEnds_31 rfl (lv_at hl 5 rfl) ?_
    refine lv_iload hx hb dX7_deadEnds_32 (lv_at hl 0 rfl) ?_
    refine va_iald hx hb hK hP 0 14 rfl rfl (by unfold vp_in; decide) dX7_deadEnds_34 ?_
    refine zo_i (v := 0) (by rw [show Int32.toNatClampNeg 0 = 0 from by decide]; exact k5_0) ?_
    refine lv_iconst (v := (-1)) hx hb dX7_deadEnds_35 (by decide) ?_
    refine lv_icmp_ne (tgt := 42) hx hb dX7_deadEnds_36 (by decide) (fun _ => ?_) (fun h => absurd h (by decide))
    refine lv_aload_n hx hb dX7_deadEnds_42 rfl (lv_at hl 4 rfl) ?_
    refine lv_iload hx hb dX7_deadEnds_43 (lv_at hl 0 rfl) ?_
    refine lv_aload_n hx hb dX7_deadEnds_45 rfl (lv_at hl 7 rfl) ?_
    refine lv_iload hx hb dX7_deadEnds_46 (lv_at hl 0 rfl) ?_
    have hPr := ((zo_R hR0 hS hAr)).sub (ws' := [(mr, .inr (9, [.ref ll, .ref lt, .ref lp, .int 0, .int 0, .int 0, .int 0, .int 0, .int 0, .int 0, .int (-1), .int 0, .int 0, .int 0]))]) [0] rfl
    have hPc := hP.sub (ws' := []) [] rfl
    have hDc := hD.sub (ws' := []) [] (by decide) rfl
    have hKc := hK.sub (tys' := []) [] rfl
    have hFc := va_free (wc := []) hD hS hA [] rfl
    refine va_calli (va_runV (As := [.int 0]) (rest := [.int 0, .ref q6]) ⟨hx, hb, hml, hown, hts⟩ (cz_QisEnd_0 l dC dI ed H46.size mr ll lt lp) (cwV 1 hts gX7_deadEnds_X7_isEnd rfl rfl rfl (by decide +kernel) ⟨Nat.le_of_ble_eq_true rfl, Nat.le_of_ble_eq_true rfl⟩) ⟨zb_blind, va_recv hK (zo_R hR0 hS hAr) (ci := 9) (q0 := 0) rfl rfl, fun U hU hW => ⟨rfl, zb_mk hU hW hPr hPc hKc hDc hN hH hS hFc zx_e⟩⟩ rfl rfl hl.1 rfl (lv_room (Nat.le_of_ble_eq_true rfl)) dX7_deadEnds_48 ⟨Nat.le_of_ble_eq_true rfl, Nat.le_of_ble_eq_true rfl⟩) hS (fun q _ h => hFc q h) hFc (fun r53 u t H52 locs ht hvm hw hB hz1 hk1 hS => ?_)
    obtain rfl : r53 = 0 := hw
    have hP := zo_K hP hk1
    refine va_zast hx hb hK hP hD hS 1 15 rfl rfl (by unfold vp_in; decide) dX7_deadEnds_51 (fun H54 locs hP hD hS => ?_)
    obtain ⟨f55, ef55⟩ : ∃ z : Nat → Int32, z = upd f47 0 (vp_nar .boolean 0) := ⟨_, rfl⟩
    have k56 : f55 3 = 1 := by rw [ef55]; exact (pk_un (by decide)).trans (k49)
    have k57 : f55 2 = 1 := by rw [ef55]; exact (pk_un (by decide)).trans (k50)
    have k58 : f55 1 = 1 := by rw [ef55]; exact (pk_un (by decide)).trans (k51)
    have k59 : f55 0 = 0 := by rw [ef55]; exact pk_us.trans (by decide)
    have hP : va_P (dC, dI) vwCl [(r4, .inl (cS_5, 1024, .inl fs_5)), (q6, .inl (cA8, 1024, .inl f55))] H54 := by rw [ef55]; exact hP
    have hD : va_D A [(r4, .inl (cS_5, 1024, .inl fs_5)), (q6, .inl (cA8, 1024, .inl f55))] := by rw [ef55]; exact hD
    refine lv_aload_n hx hb dX7_deadEnds_52 rfl (lv_at hl 7 rfl) ?_
    refine lv_iload hx hb dX7_deadEnds_53 (lv_at hl 0 rfl) ?_
    refine lv_iload_n hx hb dX7_deadEnds_55 rfl (lv_at hl 6 rfl) ?_
    have hPr := ((zo_R hR0 hS hAr)).sub (ws' := [(mr, .inr (9, [.ref ll, .ref lt, .ref lp, .int 0, .int 0, .int 0, .int 0, .int 0, .int 0, .int 0, .int (-1), .int 0, .int 0, .int 0])), (ll, .inr (1, [.int 2, .ref ola, .int 2])), (ola, .inl (cOl, 10, .inr (.inr (.inr (.inr fol))))), (la0, .inl (cA0, 10, .inl fa0)), (la1, .inl (cA1, 10, .inl fa1)), (lt, .inr (1, [.int 10, .ref ota, .int 10])), (ota, .inl (cOt, 10, .inr (.inr (.inr (.inr fot))))), (ta0, .inl (cB0, 5, .inl fb0)), (ta1, .inl (cB1, 5, .inl fb1)), (ta2, .inl (cB2, 5, .inl fb2)), (ta3, .inl (cB3, 5, .inl fb3)), (ta4, .inl (cB4, 5, .inl fb4)), (ta5, .inl (cB5, 5, .inl fb5)), (ta6, .inl (cB6, 5, .inl fb6)), (ta7, .inl (cB7, 5, .inl fb7)), (ta8, .inl (cB8, 5, .inl fb8)), (ta9, .inl (cB9, 5, .inl fb9))]) [0, 1, 2, 3, 4, 5, 6, 7, 8, 9, 10, 11, 12, 13, 14, 15, 16] rfl
    have hPc := hP.sub (ws' := []) [] rfl
    have hDc := hD.sub (ws' := []) [] (by decide) rfl
    have hKc := hK.sub (tys' := [(cOl, .object "java/lang/Object"), (cA0, .int), (cA1, .int), (cOt, .object "java/lang/Object"), (cB0, .int), (cB1, .int), (cB2, .int), (cB3, .int), (cB4, .int), (cB5, .int), (cB6, .int), (cB7, .int), (cB8, .int), (cB9, .int)]) [0, 1, 2, 3, 4, 5, 6, 7, 8, 9, 10, 11, 12, 13] rfl
    have hFc := va_free (wc := []) hD hS hA [] rfl
    refine va_calli (va_runV (As := [.int 0, .int 0]) (rest := []) ⟨hx, hb, hml, hown, hts⟩ (cz_Qnext7_0 l dC dI ed H54.size mr ll lt lp ola cOl fol la0 la1 cA0 fa0 cA1 fa1 ota cOt fot ta0 ta1 ta2 ta3 ta4 ta5 ta6 ta7 ta8 ta9 cB0 fb0 y0 cB1 fb1 y1 cB2 fb2 y2 cB3 fb3 y3 cB4 fb4 y4 cB5 fb5 y5 cB6 fb6 y6 cB7 fb7 y7 cB8 fb8 y8 cB9 fb9 y9 hol0 hol1 ha0_0 ha0_1 ha0_8 ha1_0 ha1_1 ha1_8 hot0 hot1 hot2 hot3 hot4 hot5 hot6 hot7 hot8 hot9 hb0_0 hb0_3 hb1_0 hb1_3 hb2_0 hb2_3 hb3_0 hb3_3 hb4_0 hb4_3 hb5_0 hb5_3 hb6_0 hb6_3 hb7_0 hb7_3 hb8_0 hb8_3 hb9_0 hb9_3) (cwV 2 hts gX7_deadEnds_X7_next rfl rfl rfl (by decide +kernel) ⟨Nat.le_of_ble_eq_true rfl, Nat.le_of_ble_eq_true rfl⟩) ⟨zb_blind, va_recv hK (zo_R hR0 hS hAr) (ci := 9) (q0 := 0) rfl rfl, fun U hU hW => ⟨rfl, zb_mk hU hW hPr hPc hKc hDc hN hH hS hFc zx_e⟩⟩ rfl rfl hl.1 rfl (lv_room (Nat.le_of_ble_eq_true rfl)) dX7_deadEnds_56 ⟨Nat.le_of_ble_eq_true rfl, Nat.le_of_ble_eq_true rfl⟩) hS (fun q _ h => hFc q h) hFc (fun r61 u t H60 locs ht hvm hw hB hz1 hk1 hS => ?_)
    obtain rfl : r61 = 3 := hw
    have hP := zo_K hP hk1
    refine lv_istore (lv' := [(6, .int 3), (5, .int 0), (4, .int 0), (7, .int 10), (3, .ref q6), (2, .ref r4), (1, .int 0), (0, .ref mr)]) hx hb dX7_deadEnds_59 hl (by decide) rfl (fun ls hl => ?_)
    refine lv_iconst (v := 0) hx hb dX7_deadEnds_61 (by decide) ?_
    refine lv_istore (lv' := [(7, .int 0), (6, .int 3), (5, .int 0), (4, .int 0), (3, .ref q6), (2, .ref r4), (1, .int 0), (0, .ref mr)]) hx hb dX7_deadEnds_62 hl (by decide) rfl (fun ls hl => ?_)
    refine lv_iload hx hb dX7_deadEnds_64 (lv_at hl 0 rfl) ?_
    refine lv_bipush (v := 10) hx hb dX7_deadEnds_66 (by decide) ?_
    refine lv_icmp_ge (tgt := 105) hx hb dX7_deadEnds_68 (by decide) (fun h => absurd h (by decide)) (fun _ => ?_)
    refine lv_iload hx hb dX7_deadEnds_71 (lv_at hl 1 rfl) ?_
    refine lv_iload hx hb dX7_deadEnds_73 (lv_at hl 0 rfl) ?_
    refine lv_ishr hx hb dX7_deadEnds_75 ?_
    refine zo_i (v := 3) (by decide) ?_
    refine lv_iconst (v := 1) hx hb dX7_deadEnds_76 (by decide) ?_
    refine lv_iand hx hb dX7_deadEnds_77 ?_
    refine zo_i (v := 1) (by decide) ?_
    refine lv_iconst (v := 1) hx hb dX7_deadEnds_78 (by decide) ?_
    refine lv_icmp_ne (tgt := 99) hx hb dX7_deadEnds_79 (by decide) (fun h => absurd h (by decide)) (fun _ => ?_)
    refine lv_aload_n hx hb dX7_deadEnds_82 rfl (lv_at hl 4 rfl) ?_
    refine lv_iload hx hb dX7_deadEnds_83 (lv_at hl 2 rfl) ?_
    refine lv_iconst (v := 1) hx hb dX7_deadEnds_85 (by decide) ?_
    refine lv_iload hx hb dX7_deadEnds_86 (lv_at hl 0 rfl) ?_
    refine lv_ishl hx hb dX7_deadEnds_88 ?_
    refine zo_i (v := 1) (by decide) ?_
    refine lv_ior hx hb dX7_deadEnds_89 ?_
    refine zo_i (v := 1) (by decide) ?_
    refine va_zald hx hb hK hP 1 15 rfl rfl (by unfold vp_in; decide) dX7_deadEnds_90 ?_
    refine zo_i (v := 1) (by rw [show Int32.toNatClampNeg 1 = 1 from by decide]; exact k58) ?_
    refine lv_if_eq (tgt := 99) hx hb dX7_deadEnds_91 (by decide) (fun h => absurd h (by decide)) (fun _ => ?_)
    refine lv_aload_n hx hb dX7_deadEnds_94 rfl (lv_at hl 4 rfl) ?_
    refine lv_iload hx hb dX7_deadEnds_95 (lv_at hl 2 rfl) ?_
    refine lv_iconst (v := 1) hx hb dX7_deadEnds_97 (by decide) ?_
    refine va_zast hx hb hK hP hD hS 1 15 rfl rfl (by unfold vp_in; decide) dX7_deadEnds_98 (fun H62 locs hP hD hS => ?_)
    obtain ⟨f63, ef63⟩ : ∃ z : Nat → Int32, z = upd f55 0 (vp_nar .boolean 1) := ⟨_, rfl⟩
    have k64 : f63 3 = 1 := by rw [ef63]; exact (pk_un (by decide)).trans (k56)
    have k65 : f63 2 = 1 := by rw [ef63]; exact (pk_un (by decide)).trans (k57)
    have k66 : f63 1 = 1 := by rw [ef63]; exact (pk_un (by decide)).trans (k58)
    have k67 : f63 0 = 1 := by rw [ef63]; exact pk_us.trans (by decide)
    have hP : va_P (dC, dI) vwCl [(r4, .inl (cS_5, 1024, .inl fs_5)), (q6, .inl (cA8, 1024, .inl f63))] H62 := by rw [ef63]; exact hP
    have hD : va_D A [(r4, .inl (cS_5, 1024, .inl fs_5)), (q6, .inl (cA8, 1024, .inl f63))] := by rw [ef63]; exact hD
    refine lv_iinc (v := 1) (lv' := [(7, .int 1), (6, .int 3), (5, .int 0), (4, .int 0), (3, .ref q6), (2, .ref r4), (1, .int 0), (0, .ref mr)]) hx hb dX7_deadEnds_99 hl (k := 0) rfl (by decide) (by decide) rfl (fun ls hl => ?_)
    refine lv_goto (tgt := 64) hx hb dX7_deadEnds_102 (by decide) ?_
    refine lv_iload hx hb dX7_deadEnds_64 (lv_at hl 0 rfl) ?_
    refine lv_bipush (v := 10) hx hb dX7_deadEnds_66 (by decide) ?_
    refine lv_icmp_ge (tgt := 105) hx hb dX7_deadEnds_68 (by decide) (fun h => absurd h (by decide)) (fun _ => ?_)
    refine lv_iload hx hb dX7_deadEnds_71 (lv_at hl 1 rfl) ?_
    refine lv_iload hx hb dX7_deadEnds_73 (lv_at hl 0 rfl) ?_
    refine lv_ishr hx hb dX7_deadEnds_75 ?_
    refine zo_i (v := 1) (by decide) ?_
    refine lv_iconst (v := 1) hx hb dX7_deadEnds_76 (by decide) ?_
    refine lv_iand hx hb dX7_deadEnds_77 ?_
    refine zo_i (v := 1) (by decide) ?_
    refine lv_iconst (v := 1) hx hb dX7_deadEnds_78 (by decide) ?_
    refine lv_icmp_ne (tgt := 99) hx hb dX7_deadEnds_79 (by decide) (fun h => absurd h (by decide)) (fun _ => ?_)
    refine lv_aload_n hx hb dX7_deadEnds_82 rfl (lv_at hl 4 rfl) ?_
    refine lv_iload hx hb dX7_deadEnds_83 (lv_at hl 2 rfl) ?_
    refine lv_iconst (v := 1) hx hb dX7_deadEnds_85 (by decide) ?_
    refine lv_iload hx hb dX7_deadEnds_86 (lv_at hl 0 rfl) ?_
    refine lv_ishl hx hb dX7_deadEnds_88 ?_
    refine zo_i (v := 2) (by decide) ?_
    refine lv_ior hx hb dX7_deadEnds_89 ?_
    refine zo_i (v := 2) (by decide) ?_
    refine va_zald hx hb hK hP 1 15 rfl rfl (by unfold vp_in; decide) dX7_deadEnds_90 ?_
    refine zo_i (v := 1) (by rw [show Int32.toNatClampNeg 2 = 2 from by decide]; exact k65) ?_
    refine lv_if_eq (tgt := 99) hx hb dX7_deadEnds_91 (by decide) (fun h => absurd h (by decide)) (fun _ => ?_)
    refine lv_aload_n hx hb dX7_deadEnds_94 rfl (lv_at hl 4 rfl) ?_
    refine lv_iload hx hb dX7_deadEnds_95 (lv_at hl 2 rfl) ?_
    refine lv_iconst (v := 1) hx hb dX7_deadEnds_97 (by decide) ?_
    refine va_zast hx hb hK hP hD hS 1 15 rfl rfl (by unfold vp_in; decide) dX7_deadEnds_98 (fun H68 locs hP hD hS => ?_)
    obtain ⟨f69, ef69⟩ : ∃ z : Nat → Int32, z = upd f63 0 (vp_nar .boolean 1) := ⟨_, rfl⟩
    have k70 : f69 3 = 1 := by rw [ef69]; exact (pk_un (by decide)).trans (k64)
    have k71 : f69 2 = 1 := by rw [ef69]; exact (pk_un (by decide)).trans (k65)
    have k72 : f69 1 = 1 := by rw [ef69]; exact (pk_un (by decide)).trans (k66)
    have k73 : f69 0 = 1 := by rw [ef69]; exact pk_us.trans (by decide)
    have hP : va_P (dC, dI) vwCl [(r4, .inl (cS_5, 1024, .inl fs_5)), (q6, .inl (cA8, 1024, .inl f69))] H68 := by rw [ef69]; exact hP
    have hD : va_D A [(r4, .inl (cS_5, 1024, .inl fs_5)), (q6, .inl (cA8, 1024, .inl f69))] := by rw [ef69]; exact hD
    refine lv_iinc (v := 2) (lv' := [(7, .int 2), (6, .int 3), (5, .int 0), (4, .int 0), (3, .ref q6), (2, .ref r4), (1, .int 0), (0, .ref mr)]) hx hb dX7_deadEnds_99 hl (k := 0) rfl (by decide) (by decide) rfl (fun ls hl => ?_)
    refine lv_goto (tgt := 64) hx hb dX7_deadEnds_102 (by decide) ?_
    refine lv_iload hx hb dX7_deadEnds_64 (lv_at hl 0 rfl) ?_
    refine lv_bipush (v := 10) hx hb dX7_deadEnds_66 (by decide) ?_
    refine lv_icmp_ge (tgt := 105) hx hb dX7_deadEnds_68 (by decide) (fun h => absurd h (by decide)) (fun _ => ?_)
    refine lv_iload hx hb dX7_deadEnds_71 (lv_at hl 1 rfl) ?_
    refine lv_iload hx hb dX7_deadEnds_73 (lv_at hl 0 rfl) ?_
    refine lv_ishr hx hb dX7_deadEnds_75 ?_
    refine zo_i (v := 0) (by decide) ?_
    refine lv_iconst (v := 1) hx hb dX7_deadEnds_76 (by decide) ?_
    refine lv_iand hx hb dX7_deadEnds_77 ?_
    refine zo_i (v := 0) q_0and ?_
    refine lv_iconst (v := 1) hx hb dX7_deadEnds_78 (by decide) ?_
    refine lv_icmp_ne (tgt := 99) hx hb dX7_deadEnds_79 (by decide) (fun _ => ?_) (fun h => absurd h (by decide))
    refine lv_iinc (v := 3) (lv' := [(7, .int 3), (6, .int 3), (5, .int 0), (4, .int 0), (3, .ref q6), (2, .ref r4), (1, .int 0), (0, .ref mr)]) hx hb dX7_deadEnds_99 hl (k := 0) rfl (by decide) (by decide) rfl (fun ls hl => ?_)
    refine lv_goto (tgt := 64) hx hb dX7_deadEnds_102 (by decide) ?_
    refine lv_iload hx hb dX7_deadEnds_64 (lv_at hl 0 rfl) ?_
    refine lv_bipush (v := 10) hx hb dX7_deadEnds_66 (by decide) ?_
    refine lv_icmp_ge (tgt := 105) hx hb dX7_deadEnds_68 (by decide) (fun h => absurd h (by decide)) (fun _ => ?_)
    refine lv_iload hx hb dX7_deadEnds_71 (lv_at hl 1 rfl) ?_
    refine lv_iload hx hb dX7_deadEnds_73 (lv_at hl 0 rfl) ?_
    refine lv_ishr hx hb dX7_deadEnds_75 ?_
    refine zo_i (v := 0) (by decide) ?_
    refine lv_iconst (v := 1) hx hb dX7_deadEnds_76 (by decide) ?_
    refine lv_iand hx hb dX7_deadEnds_77 ?_
    refine zo_i (v := 0) q_0and ?_
    refine lv_iconst (v := 1) hx hb dX7_deadEnds_78 (by decide) ?_
    refine lv_icmp_ne (tgt := 99) hx hb dX7_deadEnds_79 (by decide) (fun _ => ?_) (fun h => absurd h (by decide))
    refine lv_iinc (v := 4) (lv' := [(7, .int 4), (6, .int 3), (5, .int 0), (4, .int 0), (3, .ref q6), (2, .ref r4), (1, .int 0), (0, .ref mr)]) hx hb dX7_deadEnds_99 hl (k := 0) rfl (by decide) (by decide) rfl (fun ls hl => ?_)
    refine lv_goto (tgt := 64) hx hb dX7_deadEnds_102 (by decide) ?_
    refine lv_iload hx hb dX7_deadEnds_64 (lv_at hl 0 rfl) ?_
    refine lv_bipush (v := 10) hx hb dX7_deadEnds_66 (by decide) ?_
    refine lv_icmp_ge (tgt := 105) hx hb dX7_deadEnds_68 (by decide) (fun h => absurd h (by decide)) (fun _ => ?_)
    refine lv_iload hx hb dX7_deadEnds_71 (lv_at hl 1 rfl) ?_
    refine lv_iload hx hb dX7_deadEnds_73 (lv_at hl 0 rfl) ?_
    refine lv_ishr hx hb dX7_deadEnds_75 ?_
    refine zo_i (v := 0) (by decide) ?_
    refine lv_iconst (v := 1) hx hb dX7_deadEnds_76 (by decide) ?_
    refine lv_iand hx hb dX7_deadEnds_77 ?_
    refine zo_i (v := 0) q_0and ?_
    refine lv_iconst (v := 1) hx hb dX7_deadEnds_78 (by decide) ?_
    refine lv_icmp_ne (tgt := 99) hx hb dX7_deadEnds_79 (by decide) (fun _ => ?_) (fun h => absurd h (by decide))
    refine lv_iinc (v := 5) (lv' := [(7, .int 5), (6, .int 3), (5, .int 0), (4, .int 0), (3, .ref q6), (2, .ref r4), (1, .int 0), (0, .ref mr)]) hx hb dX7_deadEnds_99 hl (k := 0) rfl (by decide) (by decide) rfl (fun ls hl => ?_)
    refine lv_goto (tgt := 64) hx hb dX7_deadEnds_102 (by decide) ?_
    refine lv_iload hx hb dX7_deadEnds_64 (lv_at hl 0 rfl) ?_
    refine lv_bipush (v := 10) hx hb dX7_deadEnds_66 (by decide) ?_
    refine lv_icmp_ge (tgt := 105) hx hb dX7_deadEnds_68 (by decide) (fun h => absurd h (by decide)) (fun _ => ?_)
    refine lv_iload hx hb dX7_deadEnds_71 (lv_at hl 1 rfl) ?_
    refine lv_iload hx hb dX7_deadEnds_73 (lv_at hl 0 rfl) ?_
    refine lv_ishr hx hb dX7_deadEnds_75 ?_
    refine zo_i (v := 0) (by decide) ?_
    refine lv_iconst (v := 1) hx hb dX7_deadEnds_76 (by decide) ?_
    refine lv_iand hx hb dX7_deadEnds_77 ?_
    refine zo_i (v := 0) q_0and ?_
    refine lv_iconst (v := 1) hx hb dX7_deadEnds_78 (by decide) ?_
    refine lv_icmp_ne (tgt := 99) hx hb dX7_deadEnds_79 (by decide) (fun _ => ?_) (fun h => absurd h (by decide))
    refine lv_iinc (v := 6) (lv' := [(7, .int 6), (6, .int 3), (5, .int 0), (4, .int 0), (3, .ref q6), (2, .ref r4), (1, .int 0), (0, .ref mr)]) hx hb dX7_deadEnds_99 hl (k := 0) rfl (by decide) (by decide) rfl (fun ls hl => ?_)
    refine lv_goto (tgt := 64) hx hb dX7_deadEnds_102 (by decide) ?_
    refine lv_iload hx hb dX7_deadEnds_64 (lv_at hl 0 rfl) ?_
    refine lv_bipush (v := 10) hx hb dX7_deadEnds_66 (by decide) ?_
    refine lv_icmp_ge (tgt := 105) hx hb dX7_deadEnds_68 (by decide) (fun h => absurd h (by decide)) (fun _ => ?_)
    refine lv_iload hx hb dX7_deadEnds_71 (lv_at hl 1 rfl) ?_
    refine lv_iload hx hb dX7_deadEnds_73 (lv_at hl 0 rfl) ?_
    refine lv_ishr hx hb dX7_deadEnds_75 ?_
    refine zo_i (v := 0) (by decide) ?_
    refine lv_iconst (v := 1) hx hb dX7_deadEnds_76 (by decide) ?_
    refine lv_iand hx hb dX7_deadEnds_77 ?_
    refine zo_i (v := 0) q_0and ?_
    refine lv_iconst (v := 1) hx hb dX7_deadEnds_78 (by decide) ?_
    refine lv_icmp_ne (tgt := 99) hx hb dX7_deadEnds_79 (by decide) (fun _ => ?_) (fun h => absurd h (by decide))
    refine lv_iinc (v := 7) (lv' := [(7, .int 7), (6, .int 3), (5, .int 0), (4, .int 0), (3, .ref q6), (2, .ref r4), (1, .int 0), (0, .ref mr)]) hx hb dX7_deadEnds_99 hl (k := 0) rfl (by decide) (by decide) rfl (fun ls hl => ?_)
    refine lv_goto (tgt := 64) hx hb dX7_deadEnds_102 (by decide) ?_
    refine lv_iload hx hb dX7_deadEnds_64 (lv_at hl 0 rfl) ?_
    refine lv_bipush (v := 10) hx hb dX7_deadEnds_66 (by decide) ?_
    refine lv_icmp_ge (tgt := 105) hx hb dX7_deadEnds_68 (by decide) (fun h => absurd h (by decide)) (fun _ => ?_)
    refine lv_iload hx hb dX7_deadEnds_71 (lv_at hl 1 rfl) ?_
    refine lv_iload hx hb dX7_deadEnds_73 (lv_at hl 0 rfl) ?_
    refine lv_ishr hx hb dX7_deadEnds_75 ?_
    refine zo_i (v := 0) (by decide) ?_
    refine lv_iconst (v := 1) hx hb dX7_deadEnds_76 (by decide) ?_
    refine lv_iand hx hb dX7_deadEnds_77 ?_
    refine zo_i (v := 0) q_0and ?_
    refine lv_iconst (v := 1) hx hb dX7_deadEnds_78 (by decide) ?_
    refine lv_icmp_ne (tgt := 99) hx hb dX7_deadEnds_79 (by decide) (fun _ => ?_) (fun h => absurd h (by decide))
    refine lv_iinc (v := 8) (lv' := [(7, .int 8), (6, .int 3), (5, .int 0), (4, .int 0), (3, .ref q6), (2, .ref r4), (1, .int 0), (0, .ref mr)]) hx hb dX7_deadEnds_99 hl (k := 0) rfl (by decide) (by decide) rfl (fun ls hl => ?_)
    refine lv_goto (tgt := 64) hx hb dX7_deadEnds_102 (by decide) ?_
    refine lv_iload hx hb dX7_deadEnds_64 (lv_at hl 0 rfl) ?_
    refine lv_bipush (v := 10) hx hb dX7_deadEnds_66 (by decide) ?_
    refine lv_icmp_ge (tgt := 105) hx hb dX7_deadEnds_68 (by decide) (fun h => absurd h (by decide)) (fun _ => ?_)
    refine lv_iload hx hb dX7_deadEnds_71 (lv_at hl 1 rfl) ?_
    refine lv_iload hx hb dX7_deadEnds_73 (lv_at hl 0 rfl) ?_
    refine lv_ishr hx hb dX7_deadEnds_75 ?_
    refine zo_i (v := 0) (by decide) ?_
    refine lv_iconst (v := 1) hx hb dX7_deadEnds_76 (by decide) ?_
    refine lv_iand hx hb dX7_deadEnds_77 ?_
    refine zo_i (v := 0) q_0and ?_
    refine lv_iconst (v := 1) hx hb dX7_deadEnds_78 (by decide) ?_
    refine lv_icmp_ne (tgt := 99) hx hb dX7_deadEnds_79 (by decide) (fun _ => ?_) (fun h => absurd h (by decide))
    refine lv_iinc (v := 9) (lv' := [(7, .int 9), (6, .int 3), (5, .int 0), (4, .int 0), (3, .ref q6), (2, .ref r4), (1, .int 0), (0, .ref mr)]) hx hb dX7_deadEnds_99 hl (k := 0) rfl (by decide) (by decide) rfl (fun ls hl => ?_)
    refine lv_goto (tgt := 64) hx hb dX7_deadEnds_102 (by decide) ?_
    refine lv_iload hx hb dX7_deadEnds_64 (lv_at hl 0 rfl) ?_
    refine lv_bipush (v := 10) hx hb dX7_deadEnds_66 (by decide) ?_
    refine lv_icmp_ge (tgt := 105) hx hb dX7_deadEnds_68 (by decide) (fun h => absurd h (by decide)) (fun _ => ?_)
    refine lv_iload hx hb dX7_deadEnds_71 (lv_at hl 1 rfl) ?_
    refine lv_iload hx hb dX7_deadEnds_73 (lv_at hl 0 rfl) ?_
    refine lv_ishr hx hb dX7_deadEnds_75 ?_
    refine zo_i (v := 0) (by decide) ?_
    refine lv_iconst (v := 1) hx hb dX7_deadEnds_76 (by decide) ?_
    refine lv_iand hx hb dX7_deadEnds_77 ?_
    refine zo_i (v := 0) q_0and ?_
    refine lv_iconst (v := 1) hx hb dX7_deadEnds_78 (by decide) ?_
    refine lv_icmp_ne (tgt := 99) hx hb dX7_deadEnds_79 (by decide) (fun _ => ?_) (fun h => absurd h (by decide))
    refine lv_iinc (v := 10) (lv' := [(7, .int 10), (6, .int 3), (5, .int 0), (4, .int 0), (3, .ref q6), (2, .ref r4), (1, .int 0), (0, .ref mr)]) hx hb dX7_deadEnds_99 hl (k := 0) rfl (by decide) (by decide) rfl (fun ls hl => ?_)
    refine lv_goto (tgt := 64) hx hb dX7_deadEnds_102 (by decide) ?_
    refine lv_iload hx hb dX7_deadEnds_64 (lv_at hl 0 rfl) ?_
    refine lv_bipush (v := 10) hx hb dX7_deadEnds_66 (by decide) ?_
    refine lv_icmp_ge (tgt := 105) hx hb dX7_deadEnds_68 (by decide) (fun _ => ?_) (fun h => absurd h (by decide))
    refine lv_iload hx hb dX7_deadEnds_105 (lv_at hl 3 rfl) ?_
    refine lv_aload_n hx hb dX7_deadEnds_107 rfl (lv_at hl 4 rfl) ?_
    refine lv_iload hx hb dX7_deadEnds_108 (lv_at hl 2 rfl) ?_
    refine va_zald hx hb hK hP 1 15 rfl rfl (by unfold vp_in; decide) dX7_deadEnds_110 ?_
    refine zo_i (v := 1) (by rw [show Int32.toNatClampNeg 0 = 0 from by decide]; exact k73) ?_
    refine lv_if_eq (tgt := 118) hx hb dX7_deadEnds_111 (by decide) (fun h => absurd h (by decide)) (fun _ => ?_)
    refine lv_iconst (v := 0) hx hb dX7_deadEnds_114 (by decide) ?_
    refine lv_goto (tgt := 119) hx hb dX7_deadEnds_115 (by decide) ?_
    refine lv_iadd hx hb dX7_deadEnds_119 ?_
    refine zo_i (v := 0) (by decide) ?_
    refine lv_istore (lv' := [(4, .int 0), (7, .int 10), (6, .int 3), (5, .int 0), (3, .ref q6), (2, .ref r4), (1, .int 0), (0, .ref mr)]) hx hb dX7_deadEnds_120 hl (by decide) rfl (fun ls hl => ?_)
    refine lv_iinc (v := (-1)) (lv' := [(5, .int (-1)), (4, .int 0), (7, .int 10), (6, .int 3), (3, .ref q6), (2, .ref r4), (1, .int 0), (0, .ref mr)]) hx hb dX7_deadEnds_122 hl (k := 3) rfl (by decide) (by decide) rfl (fun ls hl => ?_)
    refine lv_goto (tgt := 26) hx hb dX7_deadEnds_125 (by decide) ?_
    refine lv_iload hx hb dX7_deadEnds_26 (lv_at hl 0 rfl) ?_
    refine lv_if_lt (tgt := 128) hx hb dX7_deadEnds_28 (by decide) (fun _ => ?_) (fun h => absurd h (by decide))
    refine lv_iload hx hb dX7_deadEnds_128 (lv_at hl 1 rfl) ?_
    refine W.widen (k := 2) (n := 2048) (Nat.le_of_ble_eq_true rfl) (Nat.le_of_ble_eq_true rfl) ?_
    have hP9 := hP.sub (ws' := [(r4, .inl (cS_5, 1024, .inl fs_5)), (q6, .inl (cA8, 1024, .inl f69))]) [0, 1] rfl
    have hD9 := hD.sub (ws' := [(r4, .inl (cS_5, 1024, .inl fs_5)), (q6, .inl (cA8, 1024, .inl f69))]) [0, 1] (by decide) rfl
    have hK9 := hK.sub (tys' := [(cS_5, .int), (cA8, .boolean)]) [14, 15] rfl
    exact W.iret hx hb hr (fun t ht hW => ⟨⟨0, (), rfl, rfl, ⟨r4, q6, cS_5, cA8, fs_5, f69, by rw [ht]; exact hP9, hD9, va_K.moved hW.alike hK9⟩⟩, hS.F ht⟩) hS.2.2 dX7_deadEnds_130

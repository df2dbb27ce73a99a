theorem zo_fill {f : Nat → Int32} {i : Nat} (hf : ∀ j : Nat, j < i → f j = -1) : ∀ j : Nat, j < i + 1 → upd f i (-1) j = -1 := by
  intro j h
  by_cases e : j = i
  · subst e; exact pk_us
  · exact (pk_un e).trans (hf j (by omega))
theorem zo_first {f : Nat → Int32} (hf : ∀ j : Nat, j < 1024 → f j = -1) (x : Int32) : ∀ j : Nat, 0 < j → j < 1024 → upd f 0 x j = -1 := fun j h1 h2 => (pk_un (by omega)).trans (hf j h2)

set_option maxHeartbeats 4000000 in
set_option maxRecDepth 100000 in
theorem cz_steps (l : Launch) (dC : Nat → ClassId) (dI : Nat → Nat → Nat) (ed sz : Nat) (mr : Nat) (ll : Nat) (lt : Nat) (lp : Nat) : Met l yX7_steps wsX7_steps ({ frames := 3, cells := 1, slots := 1024, locals := 72 } : Jvm.Room) (va_Pc [.ref mr, .int 0, .int 0] (zB dC dI ed sz [(mr, .inr (9, [.ref ll, .ref lt, .ref lp, .int (-1), .int 0, .int 0, .int 0, .int 0, .int 0, .int 0, .int (-1), .int 0, .int 0, .int 0])), (ll, .inr (1, [.int 0, .ref ed, .int 0])), (lt, .inr (1, [.int 0, .ref ed, .int 0])), (lp, .inr (1, [.int 0, .ref ed, .int 0]))] [] [])) (va_Qr (fun (_ : Unit) => True) (fun (_ : Unit) (sa : Nat) (t : State) => ∃ (cS : ClassId), ∃ (fs : Nat → Int32), (∀ j : Nat, 0 < j → j < 1024 → fs j = -1) ∧ (fs 0 = 0) ∧ va_P (dC, dI) vwCl [(sa, .inl (cS, 1024, .inl fs))] t.heap ∧ va_D (va_A [] sz) [(sa, .inl (cS, 1024, .inl fs))] ∧ va_K (dC, dI) vwCl [(cS, .int)] t) (va_A [] sz)) 1 1024 (va_A [] sz) := by
  refine Met.ofW (cc := cX7_steps) (maxL := 7) (ret := (some (.array .int))) (by decide) rfl ?_
  intro p e s m args below meth c s₁ B hml hv
  obtain ⟨rfl, hsz, hR0, hP, hK, hD0, hN, hH, hX0⟩ := hv
  have hx := B.exec
  have hb := B.bytes
  have hr := B.returns
  have hts := atoms_spec (ws := wsX7_steps) B.pre
  have hown : s.vm.findClass RX7 = some m.cls := findClass_of_methodNamed B.named
  have hlocks := B.notSynchronized
  subst hsz
  have hD := hD0.self (sz := s.heap.size)
  have hAr := zx_A hX0 hR0
  generalize hAe : va_A [] s.heap.size = A at hD hAr hH ⊢
  have hA : ∀ q : Nat, s.heap.size ≤ q → A q := fun q h => by rw [← hAe]; exact Or.inr h
  have hS : va_S A s.heap s.heap [] := va_S.rf
  have hl := lv_entry ([.ref mr, .int 0, .int 0]) (n := 7) (Nat.le_of_ble_eq_true rfl)
  rw [lg_entry_eq]
  generalize (lg_sl ([.ref mr, .int 0, .int 0]) ++ List.replicate (7 - (lg_sl ([.ref mr, .int 0, .int 0])).length) Slot.unset).toArray = ls at hl ⊢
  have hl : lv_has ls 7 [(0, .ref mr), (1, .int 0), (2, .int 0)] := hl
  refine lv_sipush (v := 1024) hx hb dX7_steps_0 (by decide) ?_
  refine va_newa (atype := .int) (a0 := (1024, .inl (fun _ => 0))) hx hb (hts (.arrayClass .int) (by decide +kernel)) rfl hK hP hD hS hA (fun cA => rfl) (by decide) (N' := 1024) (by decide) (by decide) (Nat.le_of_ble_eq_true rfl) (Nat.le_of_ble_eq_true rfl) dX7_steps_3 (fun q1 cA3 H2 hK hP hD hS => ?_)
  have hP : va_P (dC, dI) vwCl [(q1, .inl (cA3, 1024, .inl (fun _ => 0)))] H2 := hP
  have hD : va_D A [(q1, .inl (cA3, 1024, .inl (fun _ => 0)))] := hD
  refine lv_astore_n (lv' := [(3, .ref q1), (0, .ref mr), (1, .int 0), (2, .int 0)]) hx hb dX7_steps_5 rfl hl (by decide) rfl (fun ls hl => ?_)
  refine lv_iconst (v := 0) hx hb dX7_steps_6 (by decide) ?_
  refine lv_istore (lv' := [(4, .int 0), (3, .ref q1), (0, .ref mr), (1, .int 0), (2, .int 0)]) hx hb dX7_steps_7 hl (by decide) rfl (fun ls hl => ?_)
  refine zo_loop (fun (i : Nat) (H : Heap) (locs : List Loc) (ls : Array Slot) => ∃ (fa : Nat → Int32), (∀ j : Nat, j < i → fa j = -1) ∧ va_P (dC, dI) vwCl [(q1, .inl (cA3, 1024, .inl fa))] H ∧ va_D A [(q1, .inl (cA3, 1024, .inl fa))] ∧ va_S A s.heap H locs ∧ lv_has ls 7 [(4, .int (nI i)), (3, .ref q1), (0, .ref mr), (1, .int 0), (2, .int 0)]) 1024 ⟨(fun _ => 0), fun j h => absurd h (Nat.not_lt_zero j), hP, hD, hS, lv_sub hl [0, 1, 2, 3, 4] rfl⟩ (fun i hi ih H locs ls hI => ?_) (fun H locs ls hI => ?_)
  · obtain ⟨fa, hf, hP, hD, hS, hl⟩ := hI
    refine lv_iload hx hb dX7_steps_9 (lv_at hl 0 rfl) ?_
    refine lv_aload_n hx hb dX7_steps_11 rfl (lv_at hl 1 rfl) ?_
    refine va_alen hx hb hK hP 0 0 rfl rfl (v := 1024) (by exact rfl) dX7_steps_12 ?_
    refine lv_icmp_ge (tgt := 27) hx hb dX7_steps_13 (by decide) (fun h => absurd h (nI_ge (b := 1024) hi (by decide))) (fun _ => ?_)
    refine lv_aload_n hx hb dX7_steps_16 rfl (lv_at hl 1 rfl) ?_
    refine lv_iload hx hb dX7_steps_17 (lv_at hl 0 rfl) ?_
    refine lv_iconst (v := (-1)) hx hb dX7_steps_19 (by decide) ?_
    refine va_iast hx hb hK hP hD hS 0 0 rfl rfl (vp_in_nI (by omega) (by decide)) dX7_steps_20 (fun H5 locs hP hD hS => ?_)
    rw [nI_clamp (n := i) (by omega)] at hP hD
    obtain ⟨f6, ef6⟩ : ∃ z : Nat → Int32, z = upd fa (i) (-1) := ⟨_, rfl⟩
    rw [← ef6] at hP hD
    have hP : va_P (dC, dI) vwCl [(q1, .inl (cA3, 1024, .inl f6))] H5 := hP
    have hD : va_D A [(q1, .inl (cA3, 1024, .inl f6))] := hD
    refine lv_iinc (v := (nI (i + 1))) (lv' := [(4, .int (nI (i + 1))), (3, .ref q1), (0, .ref mr), (1, .int 0), (2, .int 0)]) hx hb dX7_steps_21 hl (k := 0) rfl (nI_1 i) (by decide) rfl (fun ls hl => ?_)
    refine lv_goto (tgt := 9) hx hb dX7_steps_24 (by decide) ?_
    exact ih _ _ _ ⟨f6, by rw [ef6]; exact zo_fill hf, hP, hD, hS, lv_sub hl [0, 1, 2, 3, 4] rfl⟩
  · obtain ⟨fa, hf, hP, hD, hS, hl⟩ := hI
    refine lv_iload hx hb dX7_steps_9 (lv_at hl 0 rfl) ?_
    refine lv_aload_n hx hb dX7_steps_11 rfl (lv_at hl 1 rfl) ?_
    refine va_alen hx hb hK hP 0 0 rfl rfl (v := 1024) (by exact rfl) dX7_steps_12 ?_
    refine lv_icmp_ge (tgt := 27) hx hb dX7_steps_13 (by decide) (fun _ => ?_) (fun h => absurd (nI_le (a := 1024) (b := 1024) (Nat.le_refl _) (by decide)) h)
    refine lv_aload_n hx hb dX7_steps_27 rfl (lv_at hl 1 rfl) ?_
    refine lv_iload_n hx hb dX7_steps_28 rfl (lv_at hl 3 rfl) ?_
    refine lv_iconst (v := 0) hx hb dX7_steps_29 (by decide) ?_
    refine va_iast hx hb hK hP hD hS 0 0 rfl rfl (by unfold vp_in; decide) dX7_steps_30 (fun H7 locs hP hD hS => ?_)
    obtain ⟨f8, ef8⟩ : ∃ z : Nat → Int32, z = upd fa 0 0 := ⟨_, rfl⟩
    have k9 : f8 0 = 0 := by rw [ef8]; exact pk_us
    have hP : va_P (dC, dI) vwCl [(q1, .inl (cA3, 1024, .inl f8))] H7 := by rw [ef8]; exact hP
    have hD : va_D A [(q1, .inl (cA3, 1024, .inl f8))] := by rw [ef8]; exact hD
    refine lv_iload_n hx hb dX7_steps_31 rfl (lv_at hl 3 rfl) ?_
    refine lv_istore (lv' := [(4, .int 0), (3, .ref q1), (0, .ref mr), (1, .int 0), (2, .int 0)]) hx hb dX7_steps_32 hl (by decide) rfl (fun ls hl => ?_)
    refine lv_iload hx hb dX7_steps_34 (lv_at hl 0 rfl) ?_
    refine lv_aload_n hx hb dX7_steps_36 rfl (lv_at hl 1 rfl) ?_
    refine va_alen hx hb hK hP 0 0 rfl rfl (v := 1024) (by exact rfl) dX7_steps_37 ?_
    refine lv_icmp_ge (tgt := 109) hx hb dX7_steps_38 (by decide) (fun h => absurd h (by decide)) (fun _ => ?_)
    refine lv_aload_n hx hb dX7_steps_41 rfl (lv_at hl 1 rfl) ?_
    refine lv_iload hx hb dX7_steps_42 (lv_at hl 0 rfl) ?_
    refine va_iald hx hb hK hP 0 0 rfl rfl (by unfold vp_in; decide) dX7_steps_44 ?_
    refine zo_i (v := 0) (by rw [show Int32.toNatClampNeg 0 = 0 from by decide]; exact k9) ?_
    refine lv_iconst (v := (-1)) hx hb dX7_steps_45 (by decide) ?_
    refine lv_icmp_ne (tgt := 52) hx hb dX7_steps_46 (by decide) (fun _ => ?_) (fun h => absurd h (by decide))
    refine lv_aload_n hx hb dX7_steps_52 rfl (lv_at hl 2 rfl) ?_
    refine lv_iload hx hb dX7_steps_53 (lv_at hl 0 rfl) ?_
    refine lv_iload_n hx hb dX7_steps_55 rfl (lv_at hl 4 rfl) ?_
    have hPr := ((zo_R hR0 hS hAr)).sub (ws' := [(mr, .inr (9, [.ref ll, .ref lt, .ref lp, .int (-1), .int 0, .int 0, .int 0, .int 0, .int 0, .int 0, .int (-1), .int 0, .int 0, .int 0])), (ll, .inr (1, [.int 0, .ref ed, .int 0])), (lt, .inr (1, [.int 0, .ref ed, .int 0])), (lp, .inr (1, [.int 0, .ref ed, .int 0]))]) [0, 1, 2, 3] rfl
    have hPc := hP.sub (ws' := []) [] rfl
    have hDc := hD.sub (ws' := []) [] (by decide) rfl
    have hKc := hK.sub (tys' := []) [] rfl
    have hFc := va_free (wc := []) hD hS hA [] rfl
    refine va_calli (va_runV (As := [.int 0, .int 0]) (rest := []) ⟨hx, hb, hml, hown, hts⟩ (cz_next l dC dI ed H7.size mr ll lt lp) (cwV 2 hts gX7_steps_X7_next rfl rfl rfl (by decide +kernel) ⟨Nat.le_of_ble_eq_true rfl, Nat.le_of_ble_eq_true rfl⟩) ⟨zb_blind, va_recv hK (zo_R hR0 hS hAr) (ci := 9) (q0 := 0) rfl rfl, fun U hU hW => ⟨rfl, zb_mk hU hW hPr hPc hKc hDc hN hH hS hFc zx_e⟩⟩ rfl rfl hl.1 rfl (lv_room (Nat.le_of_ble_eq_true rfl)) dX7_steps_56 ⟨Nat.le_of_ble_eq_true rfl, Nat.le_of_ble_eq_true rfl⟩) hS (fun q _ h => hFc q h) hFc (fun r11 u t H10 locs ht hvm hw hB hz1 hk1 hS => ?_)
    obtain rfl : r11 = 0 := hw
    have hP := zo_K hP hk1
    refine lv_istore (lv' := [(5, .int 0), (4, .int 0), (3, .ref q1), (0, .ref mr), (1, .int 0), (2, .int 0)]) hx hb dX7_steps_59 hl (by decide) rfl (fun ls hl => ?_)
    refine lv_iconst (v := 0) hx hb dX7_steps_61 (by decide) ?_
    refine lv_istore (lv' := [(6, .int 0), (5, .int 0), (4, .int 0), (3, .ref q1), (0, .ref mr), (1, .int 0), (2, .int 0)]) hx hb dX7_steps_62 hl (by decide) rfl (fun ls hl => ?_)
    refine lv_iload hx hb dX7_steps_64 (lv_at hl 0 rfl) ?_
    refine lv_bipush (v := 10) hx hb dX7_steps_66 (by decide) ?_
    refine lv_icmp_ge (tgt := 103) hx hb dX7_steps_68 (by decide) (fun h => absurd h (by decide)) (fun _ => ?_)
    refine lv_iload hx hb dX7_steps_71 (lv_at hl 1 rfl) ?_
    refine lv_iload hx hb dX7_steps_73 (lv_at hl 0 rfl) ?_
    refine lv_ishr hx hb dX7_steps_75 ?_
    refine zo_i (v := 0) (by decide) ?_
    refine lv_iconst (v := 1) hx hb dX7_steps_76 (by decide) ?_
    refine lv_iand hx hb dX7_steps_77 ?_
    refine zo_i (v := 0) (by decide) ?_
    refine lv_iconst (v := 1) hx hb dX7_steps_78 (by decide) ?_
    refine lv_icmp_ne (tgt := 97) hx hb dX7_steps_79 (by decide) (fun _ => ?_) (fun h => absurd h (by decide))
    refine lv_iinc (v := 1) (lv' := [(6, .int 1), (5, .int 0), (4, .int 0), (3, .ref q1), (0, .ref mr), (1, .int 0), (2, .int 0)]) hx hb dX7_steps_97 hl (k := 0) rfl (by decide) (by decide) rfl (fun ls hl => ?_)
    refine lv_goto (tgt := 64) hx hb dX7_steps_100 (by decide) ?_
    refine lv_iload hx hb dX7_steps_64 (lv_at hl 0 rfl) ?_
    refine lv_bipush (v := 10) hx hb dX7_steps_66 (by decide) ?_
    refine lv_icmp_ge (tgt := 103) hx hb dX7_steps_68 (by decide) (fun h => absurd h (by decide)) (fun _ => ?_)
    refine lv_iload hx hb dX7_steps_71 (lv_at hl 1 rfl) ?_
    refine lv_iload hx hb dX7_steps_73 (lv_at hl 0 rfl) ?_
    refine lv_ishr hx hb dX7_steps_75 ?_
    refine zo_i (v := 0) (by decide) ?_
    refine lv_iconst (v := 1) hx hb dX7_steps_76 (by decide) ?_
    refine lv_iand hx hb dX7_steps_77 ?_
    refine zo_i (v := 0) (by decide) ?_
    refine lv_iconst (v := 1) hx hb dX7_steps_78 (by decide) ?_
    refine lv_icmp_ne (tgt := 97) hx hb dX7_steps_79 (by decide) (fun _ => ?_) (fun h => absurd h (by decide))
    refine lv_iinc (v := 2) (lv' := [(6, .int 2), (5, .int 0), (4, .int 0), (3, .ref q1), (0, .ref mr), (1, .int 0), (2, .int 0)]) hx hb dX7_steps_97 hl (k := 0) rfl (by decide) (by decide) rfl (fun ls hl => ?_)
    refine lv_goto (tgt := 64) hx hb dX7_steps_100 (by decide) ?_
    refine lv_iload hx hb dX7_steps_64 (lv_at hl 0 rfl) ?_
    refine lv_bipush (v := 10) hx hb dX7_steps_66 (by decide) ?_
    refine lv_icmp_ge (tgt := 103) hx hb dX7_steps_68 (by decide) (fun h => absurd h (by decide)) (fun _ => ?_)
    refine lv_iload hx hb dX7_steps_71 (lv_at hl 1 rfl) ?_
    refine lv_iload hx hb dX7_steps_73 (lv_at hl 0 rfl) ?_
    refine lv_ishr hx hb dX7_steps_75 ?_
    refine zo_i (v := 0) (by decide) ?_
    refine lv_iconst (v := 1) hx hb dX7_steps_76 (by decide) ?_
    refine lv_iand hx hb dX7_steps_77 ?_
    refine zo_i (v := 0) (by decide) ?_
    refine lv_iconst (v := 1) hx hb dX7_steps_78 (by decide) ?_
    refine lv_icmp_ne (tgt := 97) hx hb dX7_steps_79 (by decide) (fun _ => ?_) (fun h => absurd h (by decide))
    refine lv_iinc (v := 3) (lv' := [(6, .int 3), (5, .int 0), (4, .int 0), (3, .ref q1), (0, .ref mr), (1, .int 0), (2, .int 0)]) hx hb dX7_steps_97 hl (k := 0) rfl (by decide) (by decide) rfl (fun ls hl => ?_)
    refine lv_goto (tgt := 64) hx hb dX7_steps_100 (by decide) ?_
    refine lv_iload hx hb dX7_steps_64 (lv_at hl 0 rfl) ?_
    refine lv_bipush (v := 10) hx hb dX7_steps_66 (by decide) ?_
    refine lv_icmp_ge (tgt := 103) hx hb dX7_steps_68 (by decide) (fun h => absurd h (by decide)) (fun _ => ?_)
    refine lv_iload hx hb dX7_steps_71 (lv_at hl 1 rfl) ?_
    refine lv_iload hx hb dX7_steps_73 (lv_at hl 0 rfl) ?_
    refine lv_ishr hx hb dX7_steps_75 ?_
    refine zo_i (v := 0) (by decide) ?_
    refine lv_iconst (v := 1) hx hb dX7_steps_76 (by decide) ?_
    refine lv_iand hx hb dX7_steps_77 ?_
    refine zo_i (v := 0) (by decide) ?_
    refine lv_iconst (v := 1) hx hb dX7_steps_78 (by decide) ?_
    refine lv_icmp_ne (tgt := 97) hx hb dX7_steps_79 (by decide) (fun _ => ?_) (fun h => absurd h (by decide))
    refine lv_iinc (v := 4) (lv' := [(6, .int 4), (5, .int 0), (4, .int 0), (3, .ref q1), (0, .ref mr), (1, .int 0), (2, .int 0)]) hx hb dX7_steps_97 hl (k := 0) rfl (by decide) (by decide) rfl (fun ls hl => ?_)
    refine lv_goto (tgt := 64) hx hb dX7_steps_100 (by decide) ?_
    refine lv_iload hx hb dX7_steps_64 (lv_at hl 0 rfl) ?_
    refine lv_bipush (v := 10) hx hb dX7_steps_66 (by decide) ?_
    refine lv_icmp_ge (tgt := 103) hx hb dX7_steps_68 (by decide) (fun h => absurd h (by decide)) (fun _ => ?_)
    refine lv_iload hx hb dX7_steps_71 (lv_at hl 1 rfl) ?_
    refine lv_iload hx hb dX7_steps_73 (lv_at hl 0 rfl) ?_
    refine lv_ishr hx hb dX7_steps_75 ?_
    refine zo_i (v := 0) (by decide) ?_
    refine lv_iconst (v := 1) hx hb dX7_steps_76 (by decide) ?_
    refine lv_iand hx hb dX7_steps_77 ?_
    refine zo_i (v := 0) (by decide) ?_
    refine lv_iconst (v := 1) hx hb dX7_steps_78 (by decide) ?_
    refine lv_icmp_ne (tgt := 97) hx hb dX7_steps_79 (by decide) (fun _ => ?_) (fun h => absurd h (by decide))
    refine lv_iinc (v := 5) (lv' := [(6, .int 5), (5, .int 0), (4, .int 0), (3, .ref q1), (0, .ref mr), (1, .int 0), (2, .int 0)]) hx hb dX7_steps_97 hl (k := 0) rfl (by decide) (by decide) rfl (fun ls hl => ?_)
    refine lv_goto (tgt := 64) hx hb dX7_steps_100 (by decide) ?_
    refine lv_iload hx hb dX7_steps_64 (lv_at hl 0 rfl) ?_
    refine lv_bipush (v := 10) hx hb dX7_steps_66 (by decide) ?_
    refine lv_icmp_ge (tgt := 103) hx hb dX7_steps_68 (by decide) (fun h => absurd h (by decide)) (fun _ => ?_)
    refine lv_iload hx hb dX7_steps_71 (lv_at hl 1 rfl) ?_
    refine lv_iload hx hb dX7_steps_73 (lv_at hl 0 rfl) ?_
    refine lv_ishr hx hb dX7_steps_75 ?_
    refine zo_i (v := 0) (by decide) ?_
    refine lv_iconst (v := 1) hx hb dX7_steps_76 (by decide) ?_
    refine lv_iand hx hb dX7_steps_77 ?_
    refine zo_i (v := 0) (by decide) ?_
    refine lv_iconst (v := 1) hx hb dX7_steps_78 (by decide) ?_
    refine lv_icmp_ne (tgt := 97) hx hb dX7_steps_79 (by decide) (fun _ => ?_) (fun h => absurd h (by decide))
    refine lv_iinc (v := 6) (lv' := [(6, .int 6), (5, .int 0), (4, .int 0), (3, .ref q1), (0, .ref mr), (1, .int 0), (2, .int 0)]) hx hb dX7_steps_97 hl (k := 0) rfl (by decide) (by decide) rfl (fun ls hl => ?_)
    refine lv_goto (tgt := 64) hx hb dX7_steps_100 (by decide) ?_
    refine lv_iload hx hb dX7_steps_64 (lv_at hl 0 rfl) ?_
    refine lv_bipush (v := 10) hx hb dX7_steps_66 (by decide) ?_
    refine lv_icmp_ge (tgt := 103) hx hb dX7_steps_68 (by decide) (fun h => absurd h (by decide)) (fun _ => ?_)
    refine lv_iload hx hb dX7_steps_71 (lv_at hl 1 rfl) ?_
    refine lv_iload hx hb dX7_steps_73 (lv_at hl 0 rfl) ?_
    refine lv_ishr hx hb dX7_steps_75 ?_
    refine zo_i (v := 0) (by decide) ?_
    refine lv_iconst (v := 1) hx hb dX7_steps_76 (by decide) ?_
    refine lv_iand hx hb dX7_steps_77 ?_
    refine zo_i (v := 0) (by decide) ?_
    refine lv_iconst (v := 1) hx hb dX7_steps_78 (by decide) ?_
    refine lv_icmp_ne (tgt := 97) hx hb dX7_steps_79 (by decide) (fun _ => ?_) (fun h => absurd h (by decide))
    refine lv_iinc (v := 7) (lv' := [(6, .int 7), (5, .int 0), (4, .int 0), (3, .ref q1), (0, .ref mr), (1, .int 0), (2, .int 0)]) hx hb dX7_steps_97 hl (k := 0) rfl (by decide) (by decide) rfl (fun ls hl => ?_)
    refine lv_goto (tgt := 64) hx hb dX7_steps_100 (by decide) ?_
    refine lv_iload hx hb dX7_steps_64 (lv_at hl 0 rfl) ?_
    refine lv_bipush (v := 10) hx hb dX7_steps_66 (by decide) ?_
    refine lv_icmp_ge (tgt := 103) hx hb dX7_steps_68 (by decide) (fun h => absurd h (by decide)) (fun _ => ?_)
    refine lv_iload hx hb dX7_steps_71 (lv_at hl 1 rfl) ?_
    refine lv_iload hx hb dX7_steps_73 (lv_at hl 0 rfl) ?_
    refine lv_ishr hx hb dX7_steps_75 ?_
    refine zo_i (v := 0) (by decide) ?_
    refine lv_iconst (v := 1) hx hb dX7_steps_76 (by decide) ?_
    refine lv_iand hx hb dX7_steps_77 ?_
    refine zo_i (v := 0) (by decide) ?_
    refine lv_iconst (v := 1) hx hb dX7_steps_78 (by decide) ?_
    refine lv_icmp_ne (tgt := 97) hx hb dX7_steps_79 (by decide) (fun _ => ?_) (fun h => absurd h (by decide))
    refine lv_iinc (v := 8) (lv' := [(6, .int 8), (5, .int 0), (4, .int 0), (3, .ref q1), (0, .ref mr), (1, .int 0), (2, .int 0)]) hx hb dX7_steps_97 hl (k := 0) rfl (by decide) (by decide) rfl (fun ls hl => ?_)
    refine lv_goto (tgt := 64) hx hb dX7_steps_100 (by decide) ?_
    refine lv_iload hx hb dX7_steps_64 (lv_at hl 0 rfl) ?_
    refine lv_bipush (v := 10) hx hb dX7_steps_66 (by decide) ?_
    refine lv_icmp_ge (tgt := 103) hx hb dX7_steps_68 (by decide) (fun h => absurd h (by decide)) (fun _ => ?_)
    refine lv_iload hx hb dX7_steps_71 (lv_at hl 1 rfl) ?_
    refine lv_iload hx hb dX7_steps_73 (lv_at hl 0 rfl) ?_
    refine lv_ishr hx hb dX7_steps_75 ?_
    refine zo_i (v := 0) (by decide) ?_
    refine lv_iconst (v := 1) hx hb dX7_steps_76 (by decide) ?_
    refine lv_iand hx hb dX7_steps_77 ?_
    refine zo_i (v := 0) (by decide) ?_
    refine lv_iconst (v := 1) hx hb dX7_steps_78 (by decide) ?_
    refine lv_icmp_ne (tgt := 97) hx hb dX7_steps_79 (by decide) (fun _ => ?_) (fun h => absurd h (by decide))
    refine lv_iinc (v := 9) (lv' := [(6, .int 9), (5, .int 0), (4, .int 0), (3, .ref q1), (0, .ref mr), (1, .int 0), (2, .int 0)]) hx hb dX7_steps_97 hl (k := 0) rfl (by decide) (by decide) rfl (fun ls hl => ?_)
    refine lv_goto (tgt := 64) hx hb dX7_steps_100 (by decide) ?_
    refine lv_iload hx hb dX7_steps_64 (lv_at hl 0 rfl) ?_
    refine lv_bipush (v := 10) hx hb dX7_steps_66 (by decide) ?_
    refine lv_icmp_ge (tgt := 103) hx hb dX7_steps_68 (by decide) (fun h => absurd h (by decide)) (fun _ => ?_)
    refine lv_iload hx hb dX7_steps_71 (lv_at hl 1 rfl) ?_
    refine lv_iload hx hb dX7_steps_73 (lv_at hl 0 rfl) ?_
    refine lv_ishr hx hb dX7_steps_75 ?_
    refine zo_i (v := 0) (by decide) ?_
    refine lv_iconst (v := 1) hx hb dX7_steps_76 (by decide) ?_
    refine lv_iand hx hb dX7_steps_77 ?_
    refine zo_i (v := 0) (by decide) ?_
    refine lv_iconst (v := 1) hx hb dX7_steps_78 (by decide) ?_
    refine lv_icmp_ne (tgt := 97) hx hb dX7_steps_79 (by decide) (fun _ => ?_) (fun h => absurd h (by decide))
    refine lv_iinc (v := 10) (lv' := [(6, .int 10), (5, .int 0), (4, .int 0), (3, .ref q1), (0, .ref mr), (1, .int 0), (2, .int 0)]) hx hb dX7_steps_97 hl (k := 0) rfl (by decide) (by decide) rfl (fun ls hl => ?_)
    refine lv_goto (tgt := 64) hx hb dX7_steps_100 (by decide) ?_
    refine lv_iload hx hb dX7_steps_64 (lv_at hl 0 rfl) ?_
    refine lv_bipush (v := 10) hx hb dX7_steps_66 (by decide) ?_
    refine lv_icmp_ge (tgt := 103) hx hb dX7_steps_68 (by decide) (fun _ => ?_) (fun h => absurd h (by decide))
    refine lv_iinc (v := 1) (lv' := [(4, .int 1), (6, .int 10), (5, .int 0), (3, .ref q1), (0, .ref mr), (1, .int 0), (2, .int 0)]) hx hb dX7_steps_103 hl (k := 2) rfl (by decide) (by decide) rfl (fun ls hl => ?_)
    refine lv_goto (tgt := 34) hx hb dX7_steps_106 (by decide) ?_
    have hg : ∀ j : Nat, 0 < j → j < 1024 → f8 j = -1 := by rw [ef8]; exact zo_first hf _
    refine zo_loop (fun (i : Nat) (H : Heap) (locs : List Loc) (ls : Array Slot) => va_P (dC, dI) vwCl [(q1, .inl (cA3, 1024, .inl f8))] H ∧ va_D A [(q1, .inl (cA3, 1024, .inl f8))] ∧ va_S A s.heap H locs ∧ lv_has ls 7 [(4, .int (nI (i + 1))), (3, .ref q1), (0, .ref mr), (1, .int 0), (2, .int 0)]) 1023 ⟨hP, hD, hS, lv_sub hl [0, 3, 4, 5, 6] rfl⟩ (fun i hi ih H locs ls hI => ?_) (fun H locs ls hI => ?_)
    · obtain ⟨hP, hD, hS, hl⟩ := hI
      refine lv_iload hx hb dX7_steps_34 (lv_at hl 0 rfl) ?_
      refine lv_aload_n hx hb dX7_steps_36 rfl (lv_at hl 1 rfl) ?_
      refine va_alen hx hb hK hP 0 0 rfl rfl (v := 1024) (by exact rfl) dX7_steps_37 ?_
      refine lv_icmp_ge (tgt := 109) hx hb dX7_steps_38 (by decide) (fun h => absurd h (nI_ge (a := i + 1) (b := 1024) (by omega) (by decide))) (fun _ => ?_)
      refine lv_aload_n hx hb dX7_steps_41 rfl (lv_at hl 1 rfl) ?_
      refine lv_iload hx hb dX7_steps_42 (lv_at hl 0 rfl) ?_
      refine va_iald hx hb hK hP 0 0 rfl rfl (vp_in_nI (by omega) (by decide)) dX7_steps_44 ?_
      refine zo_i (v := (-1)) (by rw [nI_clamp (n := (i + 1)) (by omega)]; exact hg ((i + 1)) (by omega) (by omega)) ?_
      refine lv_iconst (v := (-1)) hx hb dX7_steps_45 (by decide) ?_
      refine lv_icmp_ne (tgt := 52) hx hb dX7_steps_46 (by decide) (fun h => absurd h (by decide)) (fun _ => ?_)
      refine lv_goto (tgt := 103) hx hb dX7_steps_49 (by decide) ?_
      refine lv_iinc (v := (nI ((i + 1) + 1))) (lv' := [(4, .int (nI ((i + 1) + 1))), (3, .ref q1), (0, .ref mr), (1, .int 0), (2, .int 0)]) hx hb dX7_steps_103 hl (k := 0) rfl (nI_1 (i + 1)) (by decide) rfl (fun ls hl => ?_)
      refine lv_goto (tgt := 34) hx hb dX7_steps_106 (by decide) ?_
      exact ih _ _ _ ⟨hP, hD, hS, lv_sub hl [0, 1, 2, 3, 4] rfl⟩
    · obtain ⟨hP, hD, hS, hl⟩ := hI
      refine lv_iload hx hb dX7_steps_34 (lv_at hl 0 rfl) ?_
      refine lv_aload_n hx hb dX7_steps_36 rfl (lv_at hl 1 rfl) ?_
      refine va_alen hx hb hK hP 0 0 rfl rfl (v := 1024) (by exact rfl) dX7_steps_37 ?_
      refine lv_icmp_ge (tgt := 109) hx hb dX7_steps_38 (by decide) (fun _ => ?_) (fun h => absurd (nI_le (a := 1024) (b := 1023 + 1) (by omega) (by decide)) h)
      refine lv_aload_n hx hb dX7_steps_109 rfl (lv_at hl 1 rfl) ?_
      refine W.widen (k := 1) (n := 1024) (Nat.le_of_ble_eq_true rfl) (Nat.le_of_ble_eq_true rfl) ?_
      have hP9 := hP.sub (ws' := [(q1, .inl (cA3, 1024, .inl f8))]) [0] rfl
      have hD9 := hD.sub (ws' := [(q1, .inl (cA3, 1024, .inl f8))]) [0] (by decide) rfl
      have hK9 := hK.sub (tys' := [(cA3, .int)]) [0] rfl
      exact W.aret hx hb hr (Or.inr ⟨_, rfl⟩) (Or.inr ⟨_, rfl⟩) (fun t ht hW => ⟨⟨(), q1, rfl, trivial, ⟨cA3, f8, hg, k9, by rw [ht]; exact hP9, hD9, va_K.moved hW.alike hK9⟩⟩, hS.F ht⟩) hS.2.2 dX7_steps_110

set_option maxHeartbeats 4000000 in
set_option maxRecDepth 100000 in
theorem cz_depth2 (l : Launch) (dC : Nat → ClassId) (dI : Nat → Nat → Nat) (ed sz : Nat) (mr : Nat) (ll : Nat) (lt : Nat) (lp : Nat) : Met l yX7_depth wsX7_depth ({ frames := 4, cells := 1, slots := 1024, locals := 98 } : Jvm.Room) (va_Pc [.ref mr, .int 0, .int 0] (zB dC dI ed sz [(mr, .inr (9, [.ref ll, .ref lt, .ref lp, .int (-1), .int 0, .int 0, .int 0, .int 0, .int 0, .int 0, .int (-1), .int 0, .int 0, .int 0])), (ll, .inr (1, [.int 0, .ref ed, .int 0])), (lt, .inr (1, [.int 0, .ref ed, .int 0])), (lp, .inr (1, [.int 0, .ref ed, .int 0]))] [] [])) (va_Qi (fun (r : Int32) (_ : Unit) => r = (-1)) (fun (_ : Unit) (_ : State) => True) (va_A [] sz)) 1 1024 (va_A [] sz) := by
  refine Met.ofW (cc := cX7_depth) (maxL := 6) (ret := (some .int)) (by decide) rfl ?_
  intro p e s m args below meth c s₁ B hml hv
  obtain ⟨rfl, hsz, hR0, hP, hK, hD0, hN, hH, hX0⟩ := hv
  have hx := B.exec
  have hb := B.bytes
  have hr := B.returns
  have hts := atoms_spec (ws := wsX7_depth) B.pre
  have hown : s.vm.findClass RX7 = some m.cls := findClass_of_methodNamed B.named
  have hlocks := B.notSynchronized
  subst hsz
  have hD := hD0.self (sz := s.heap.size)
  have hAr := zx_A hX0 hR0
  generalize hAe : va_A [] s.heap.size = A at hD hAr hH ⊢
  have hA : ∀ q : Nat, s.heap.size ≤ q → A q := fun q h => by rw [← hAe]; exact Or.inr h
  have hS : va_S A s.heap s.heap [] := va_S.rf
  have hl := lv_entry ([.ref mr, .int 0, .int 0]) (n := 6) (Nat.le_of_ble_eq_true rfl)
  rw [lg_entry_eq]
  generalize (lg_sl ([.ref mr, .int 0, .int 0]) ++ List.replicate (6 - (lg_sl ([.ref mr, .int 0, .int 0])).length) Slot.unset).toArray = ls at hl ⊢
  have hl : lv_has ls 6 [(0, .ref mr), (1, .int 0), (2, .int 0)] := hl
  refine lv_aload_n hx hb dX7_depth_0 rfl (lv_at hl 0 rfl) ?_
  refine lv_iload_n hx hb dX7_depth_1 rfl (lv_at hl 1 rfl) ?_
  refine lv_iload_n hx hb dX7_depth_2 rfl (lv_at hl 2 rfl) ?_
  have hPr := (hR0).sub (ws' := [(mr, .inr (9, [.ref ll, .ref lt, .ref lp, .int (-1), .int 0, .int 0, .int 0, .int 0, .int 0, .int 0, .int (-1), .int 0, .int 0, .int 0])), (ll, .inr (1, [.int 0, .ref ed, .int 0])), (lt, .inr (1, [.int 0, .ref ed, .int 0])), (lp, .inr (1, [.int 0, .ref ed, .int 0]))]) [0, 1, 2, 3] rfl
  have hPc := hP.sub (ws' := []) [] rfl
  have hDc := hD.sub (ws' := []) [] (by decide) rfl
  have hKc := hK.sub (tys' := []) [] rfl
  have hFc := va_free (wc := []) hD hS hA [] rfl
  refine va_callr (va_runV (As := [.int 0, .int 0]) (rest := []) ⟨hx, hb, hml, hown, hts⟩ (cz_steps l dC dI ed s.heap.size mr ll lt lp) (cwV 2 hts gX7_depth_X7_steps rfl rfl rfl (by decide +kernel) ⟨Nat.le_of_ble_eq_true rfl, Nat.le_of_ble_eq_true rfl⟩) ⟨zb_blind, va_recv hK hR0 (ci := 9) (q0 := 0) rfl rfl, fun U hU hW => ⟨rfl, zb_mk hU hW hPr hPc hKc hDc hN hH hS hFc zx_e⟩⟩ rfl rfl hl.1 rfl (lv_room (Nat.le_of_ble_eq_true rfl)) dX7_depth_3 ⟨Nat.le_of_ble_eq_true rfl, Nat.le_of_ble_eq_true rfl⟩) hS (fun q _ h => hFc q h) hFc (fun u r2 t H1 locs ht hvm hw hB hz1 hk1 hS => ?_)
  obtain ⟨cS_3, fs_3, hg3, k3_0, hP1, hD1, hK1⟩ := hB
  rw [ht] at hP1
  obtain ⟨hP, hD⟩ := va_join (wr := []) (w1 := [(r2, .inl (cS_3, 1024, .inl fs_3))]) hP hD [] [] rfl rfl (by decide) (by decide) hk1 hFc hP1 hD1
  have hP : va_P (dC, dI) vwCl [(r2, .inl (cS_3, 1024, .inl fs_3))] H1 := hP
  have hD : va_D A [(r2, .inl (cS_3, 1024, .inl fs_3))] := hD
  have hK := hK.app (va_K.moved hvm.symm hK1)
  have hK : va_K (dC, dI) vwCl [(cS_3, .int)] s := hK
  refine lv_astore_n (lv' := [(3, .ref r2), (0, .ref mr), (1, .int 0), (2, .int 0)]) hx hb dX7_depth_6 rfl hl (by decide) rfl (fun ls hl => ?_)
  refine lv_iconst (v := (-1)) hx hb dX7_depth_7 (by decide) ?_
  refine lv_istore (lv' := [(4, .int (-1)), (3, .ref r2), (0, .ref mr), (1, .int 0), (2, .int 0)]) hx hb dX7_depth_8 hl (by decide) rfl (fun ls hl => ?_)
  refine lv_iconst (v := 0) hx hb dX7_depth_10 (by decide) ?_
  refine lv_istore (lv' := [(5, .int 0), (4, .int (-1)), (3, .ref r2), (0, .ref mr), (1, .int 0), (2, .int 0)]) hx hb dX7_depth_11 hl (by decide) rfl (fun ls hl => ?_)
  refine lv_iload hx hb dX7_depth_13 (lv_at hl 0 rfl) ?_
  refine lv_aload_n hx hb dX7_depth_15 rfl (lv_at hl 2 rfl) ?_
  refine va_alen hx hb hK hP 0 0 rfl rfl (v := 1024) (by exact rfl) dX7_depth_16 ?_
  refine lv_icmp_ge (tgt := 64) hx hb dX7_depth_17 (by decide) (fun h => absurd h (by decide)) (fun _ => ?_)
  refine lv_aload_n hx hb dX7_depth_20 rfl (lv_at hl 2 rfl) ?_
  refine lv_iload hx hb dX7_depth_21 (lv_at hl 0 rfl) ?_
  refine va_iald hx hb hK hP 0 0 rfl rfl (by unfold vp_in; decide) dX7_depth_23 ?_
  refine zo_i (v := 0) (by rw [show Int32.toNatClampNeg 0 = 0 from by decide]; exact k3_0) ?_
  refine lv_iconst (v := (-1)) hx hb dX7_depth_24 (by decide) ?_
  refine lv_icmp_eq (tgt := 58) hx hb dX7_depth_25 (by decide) (fun h => absurd h (by decide)) (fun _ => ?_)
  refine lv_aload_n hx hb dX7_depth_28 rfl (lv_at hl 3 rfl) ?_
  refine lv_iload hx hb dX7_depth_29 (lv_at hl 0 rfl) ?_
  have hPr := ((zo_R hR0 hS hAr)).sub (ws' := [(mr, .inr (9, [.ref ll, .ref lt, .ref lp, .int (-1), .int 0, .int 0, .int 0, .int 0, .int 0, .int 0, .int (-1), .int 0, .int 0, .int 0])), (ll, .inr (1, [.int 0, .ref ed, .int 0])), (lt, .inr (1, [.int 0, .ref ed, .int 0])), (lp, .inr (1, [.int 0, .ref ed, .int 0]))]) [0, 1, 2, 3] rfl
  have hPc := hP.sub (ws' := []) [] rfl
  have hDc := hD.sub (ws' := []) [] (by decide) rfl
  have hKc := hK.sub (tys' := []) [] rfl
  have hFc := va_free (wc := []) hD hS hA [] rfl
  refine va_calli (va_runV (As := [.int 0]) (rest := []) ⟨hx, hb, hml, hown, hts⟩ (cz_isEnd l dC dI ed H1.size mr ll lt lp) (cwV 1 hts gX7_depth_X7_isEnd rfl rfl rfl (by decide +kernel) ⟨Nat.le_of_ble_eq_true rfl, Nat.le_of_ble_eq_true rfl⟩) ⟨zb_blind, va_recv hK (zo_R hR0 hS hAr) (ci := 9) (q0 := 0) rfl rfl, fun U hU hW => ⟨rfl, zb_mk hU hW hPr hPc hKc hDc hN hH hS hFc zx_e⟩⟩ rfl rfl hl.1 rfl (lv_room (Nat.le_of_ble_eq_true rfl)) dX7_depth_31 ⟨Nat.le_of_ble_eq_true rfl, Nat.le_of_ble_eq_true rfl⟩) hS (fun q _ h => hFc q h) hFc (fun r5 u t H4 locs ht hvm hw hB hz1 hk1 hS => ?_)
  obtain rfl : r5 = 0 := hw
  have hP := zo_K hP hk1
  refine lv_if_eq (tgt := 58) hx hb dX7_depth_34 (by decide) (fun _ => ?_) (fun h => absurd h (by decide))
  refine lv_iinc (v := 1) (lv' := [(5, .int 1), (4, .int (-1)), (3, .ref r2), (0, .ref mr), (1, .int 0), (2, .int 0)]) hx hb dX7_depth_58 hl (k := 0) rfl (by decide) (by decide) rfl (fun ls hl => ?_)
  refine lv_goto (tgt := 13) hx hb dX7_depth_61 (by decide) ?_
  refine zo_loop (fun (i : Nat) (H : Heap) (locs : List Loc) (ls : Array Slot) => va_P (dC, dI) vwCl [(r2, .inl (cS_3, 1024, .inl fs_3))] H ∧ va_D A [(r2, .inl (cS_3, 1024, .inl fs_3))] ∧ va_S A s.heap H locs ∧ lv_has ls 6 [(5, .int (nI (i + 1))), (4, .int (-1)), (3, .ref r2), (0, .ref mr), (1, .int 0), (2, .int 0)]) 1023 ⟨hP, hD, hS, lv_sub hl [0, 1, 2, 3, 4, 5] rfl⟩ (fun i hi ih H locs ls hI => ?_) (fun H locs ls hI => ?_)
  · obtain ⟨hP, hD, hS, hl⟩ := hI
    refine lv_iload hx hb dX7_depth_13 (lv_at hl 0 rfl) ?_
    refine lv_aload_n hx hb dX7_depth_15 rfl (lv_at hl 2 rfl) ?_
    refine va_alen hx hb hK hP 0 0 rfl rfl (v := 1024) (by exact rfl) dX7_depth_16 ?_
    refine lv_icmp_ge (tgt := 64) hx hb dX7_depth_17 (by decide) (fun h => absurd h (nI_ge (a := i + 1) (b := 1024) (by omega) (by decide))) (fun _ => ?_)
    refine lv_aload_n hx hb dX7_depth_20 rfl (lv_at hl 2 rfl) ?_
    refine lv_iload hx hb dX7_depth_21 (lv_at hl 0 rfl) ?_
    refine va_iald hx hb hK hP 0 0 rfl rfl (vp_in_nI (by omega) (by decide)) dX7_depth_23 ?_
    refine zo_i (v := (-1)) (by rw [nI_clamp (n := (i + 1)) (by omega)]; exact hg3 ((i + 1)) (by omega) (by omega)) ?_
    refine lv_iconst (v := (-1)) hx hb dX7_depth_24 (by decide) ?_
    refine lv_icmp_eq (tgt := 58) hx hb dX7_depth_25 (by decide) (fun _ => ?_) (fun h => absurd h (by decide))
    refine lv_iinc (v := (nI ((i + 1) + 1))) (lv' := [(5, .int (nI ((i + 1) + 1))), (4, .int (-1)), (3, .ref r2), (0, .ref mr), (1, .int 0), (2, .int 0)]) hx hb dX7_depth_58 hl (k := 0) rfl (nI_1 (i + 1)) (by decide) rfl (fun ls hl => ?_)
    refine lv_goto (tgt := 13) hx hb dX7_depth_61 (by decide) ?_
    exact ih _ _ _ ⟨hP, hD, hS, lv_sub hl [0, 1, 2, 3, 4, 5] rfl⟩
  · obtain ⟨hP, hD, hS, hl⟩ := hI
    refine lv_iload hx hb dX7_depth_13 (lv_at hl 0 rfl) ?_
    refine lv_aload_n hx hb dX7_depth_15 rfl (lv_at hl 2 rfl) ?_
    refine va_alen hx hb hK hP 0 0 rfl rfl (v := 1024) (by exact rfl) dX7_depth_16 ?_
    refine lv_icmp_ge (tgt := 64) hx hb dX7_depth_17 (by decide) (fun _ => ?_) (fun h => absurd (nI_le (a := 1024) (b := 1023 + 1) (by omega) (by decide)) h)
    refine lv_iload hx hb dX7_depth_64 (lv_at hl 1 rfl) ?_
    refine W.widen (k := 1) (n := 1024) (Nat.le_of_ble_eq_true rfl) (Nat.le_of_ble_eq_true rfl) ?_
    exact W.iret hx hb hr (fun t ht hW => ⟨⟨(-1), (), rfl, rfl, trivial⟩, hS.F ht⟩) hS.2.2 dX7_depth_66

set_option maxHeartbeats 4000000 in
set_option maxRecDepth 100000 in
theorem cz_depth0 (l : Launch) (dC : Nat → ClassId) (dI : Nat → Nat → Nat) (ed sz : Nat) (mr : Nat) (ll : Nat) (lt : Nat) (lp : Nat) : Met l yX7_depth_ wsX7_depth_ ({ frames := 5, cells := 1, slots := 1024, locals := 123 } : Jvm.Room) (va_Pc [.ref mr] (zB dC dI ed sz [(mr, .inr (9, [.ref ll, .ref lt, .ref lp, .int (-1), .int 0, .int 0, .int 0, .int 0, .int 0, .int 0, .int (-1), .int 0, .int 0, .int 0])), (ll, .inr (1, [.int 0, .ref ed, .int 0])), (lt, .inr (1, [.int 0, .ref ed, .int 0])), (lp, .inr (1, [.int 0, .ref ed, .int 0]))] [] [])) (va_Qi (fun (r : Int32) (_ : Unit) => r = (-1)) (fun (_ : Unit) (_ : State) => True) (va_A [] sz)) 1 1024 (va_A [] sz) := by
  refine Met.ofW (cc := cX7_depth_) (maxL := 1) (ret := (some .int)) (by decide) rfl ?_
  intro p e s m args below meth c s₁ B hml hv
  obtain ⟨rfl, hsz, hR0, hP, hK, hD0, hN, hH, hX0⟩ := hv
  have hx := B.exec
  have hb := B.bytes
  have hr := B.returns
  have hts := atoms_spec (ws := wsX7_depth_) B.pre
  have hown : s.vm.findClass RX7 = some m.cls := findClass_of_methodNamed B.named
  have hlocks := B.notSynchronized
  subst hsz
  have hD := hD0.self (sz := s.heap.size)
  have hAr := zx_A hX0 hR0
  generalize hAe : va_A [] s.heap.size = A at hD hAr hH ⊢
  have hA : ∀ q : Nat, s.heap.size ≤ q → A q := fun q h => by rw [← hAe]; exact Or.inr h
  have hS : va_S A s.heap s.heap [] := va_S.rf
  have hl := lv_entry ([.ref mr]) (n := 1) (Nat.le_of_ble_eq_true rfl)
  rw [lg_entry_eq]
  generalize (lg_sl ([.ref mr]) ++ List.replicate (1 - (lg_sl ([.ref mr])).length) Slot.unset).toArray = ls at hl ⊢
  have hl : lv_has ls 1 [(0, .ref mr)] := hl
  refine lv_aload_n hx hb dX7_depth__0 rfl (lv_at hl 0 rfl) ?_
  refine lv_aload_n hx hb dX7_depth__1 rfl (lv_at hl 0 rfl) ?_
  have hPr := (hR0).sub (ws' := [(mr, .inr (9, [.ref ll, .ref lt, .ref lp, .int (-1), .int 0, .int 0, .int 0, .int 0, .int 0, .int 0, .int (-1), .int 0, .int 0, .int 0])), (ll, .inr (1, [.int 0, .ref ed, .int 0])), (lt, .inr (1, [.int 0, .ref ed, .int 0])), (lp, .inr (1, [.int 0, .ref ed, .int 0]))]) [0, 1, 2, 3] rfl
  have hPc := hP.sub (ws' := []) [] rfl
  have hDc := hD.sub (ws' := []) [] (by decide) rfl
  have hKc := hK.sub (tys' := []) [] rfl
  have hFc := va_free (wc := []) hD hS hA [] rfl
  refine va_calli (va_runV (As := []) (rest := [.ref mr]) ⟨hx, hb, hml, hown, hts⟩ (cz_opened l dC dI ed s.heap.size mr ll lt lp) (cwV 0 hts gX7_depth__X7_opened rfl rfl rfl (by decide +kernel) ⟨Nat.le_of_ble_eq_true rfl, Nat.le_of_ble_eq_true rfl⟩) ⟨zb_blind, va_recv hK hR0 (ci := 9) (q0 := 0) rfl rfl, fun U hU hW => ⟨rfl, zb_mk hU hW hPr hPc hKc hDc hN hH hS hFc zx_e⟩⟩ rfl rfl hl.1 rfl (lv_room (Nat.le_of_ble_eq_true rfl)) dX7_depth__2 ⟨Nat.le_of_ble_eq_true rfl, Nat.le_of_ble_eq_true rfl⟩) hS (fun q _ h => hFc q h) hFc (fun r2 u t H1 locs ht hvm hw hB hz1 hk1 hS => ?_)
  obtain rfl : r2 = 0 := hw
  have hP := zo_K hP hk1
  refine lv_aload_n hx hb dX7_depth__5 rfl (lv_at hl 0 rfl) ?_
  have hPr := ((zo_R hR0 hS hAr)).sub (ws' := [(mr, .inr (9, [.ref ll, .ref lt, .ref lp, .int (-1), .int 0, .int 0, .int 0, .int 0, .int 0, .int 0, .int (-1), .int 0, .int 0, .int 0])), (ll, .inr (1, [.int 0, .ref ed, .int 0])), (lt, .inr (1, [.int 0, .ref ed, .int 0])), (lp, .inr (1, [.int 0, .ref ed, .int 0]))]) [0, 1, 2, 3] rfl
  have hPc := hP.sub (ws' := []) [] rfl
  have hDc := hD.sub (ws' := []) [] (by decide) rfl
  have hKc := hK.sub (tys' := []) [] rfl
  have hFc := va_free (wc := []) hD hS hA [] rfl
  refine va_calli (va_runV (As := []) (rest := [.int 0, .ref mr]) ⟨hx, hb, hml, hown, hts⟩ (cz_opened l dC dI ed H1.size mr ll lt lp) (cwV 0 hts gX7_depth__X7_opened rfl rfl rfl (by decide +kernel) ⟨Nat.le_of_ble_eq_true rfl, Nat.le_of_ble_eq_true rfl⟩) ⟨zb_blind, va_recv hK (zo_R hR0 hS hAr) (ci := 9) (q0 := 0) rfl rfl, fun U hU hW => ⟨rfl, zb_mk hU hW hPr hPc hKc hDc hN hH hS hFc zx_e⟩⟩ rfl rfl hl.1 rfl (lv_room (Nat.le_of_ble_eq_true rfl)) dX7_depth__6 ⟨Nat.le_of_ble_eq_true rfl, Nat.le_of_ble_eq_true rfl⟩) hS (fun q _ h => hFc q h) hFc (fun r4 u t H3 locs ht hvm hw hB hz1 hk1 hS => ?_)
  obtain rfl : r4 = 0 := hw
  have hP := zo_K hP hk1
  have hPr := ((zo_R hR0 hS hAr)).sub (ws' := [(mr, .inr (9, [.ref ll, .ref lt, .ref lp, .int (-1), .int 0, .int 0, .int 0, .int 0, .int 0, .int 0, .int (-1), .int 0, .int 0, .int 0])), (ll, .inr (1, [.int 0, .ref ed, .int 0])), (lt, .inr (1, [.int 0, .ref ed, .int 0])), (lp, .inr (1, [.int 0, .ref ed, .int 0]))]) [0, 1, 2, 3] rfl
  have hPc := hP.sub (ws' := []) [] rfl
  have hDc := hD.sub (ws' := []) [] (by decide) rfl
  have hKc := hK.sub (tys' := []) [] rfl
  have hFc := va_free (wc := []) hD hS hA [] rfl
  refine va_calli (va_runV (As := [.int 0, .int 0]) (rest := []) ⟨hx, hb, hml, hown, hts⟩ (cz_depth2 l dC dI ed H3.size mr ll lt lp) (cwV 2 hts gX7_depth__X7_depth rfl rfl rfl (by decide +kernel) ⟨Nat.le_of_ble_eq_true rfl, Nat.le_of_ble_eq_true rfl⟩) ⟨zb_blind, va_recv hK (zo_R hR0 hS hAr) (ci := 9) (q0 := 0) rfl rfl, fun U hU hW => ⟨rfl, zb_mk hU hW hPr hPc hKc hDc hN hH hS hFc zx_e⟩⟩ rfl rfl hl.1 rfl (lv_room (Nat.le_of_ble_eq_true rfl)) dX7_depth__9 ⟨Nat.le_of_ble_eq_true rfl, Nat.le_of_ble_eq_true rfl⟩) hS (fun q _ h => hFc q h) hFc (fun r6 u t H5 locs ht hvm hw hB hz1 hk1 hS => ?_)
  obtain rfl : r6 = (-1) := hw
  have hP := zo_K hP hk1
  refine W.widen (k := 1) (n := 1024) (Nat.le_of_ble_eq_true rfl) (Nat.le_of_ble_eq_true rfl) ?_
  exact W.iret hx hb hr (fun t ht hW => ⟨⟨(-1), (), rfl, rfl, trivial⟩, hS.F ht⟩) hS.2.2 dX7_depth__12

set_option maxHeartbeats 4000000 in
set_option maxRecDepth 100000 in
theorem cz_stands7 (l : Launch) (dC : Nat → ClassId) (dI : Nat → Nat → Nat) (ed sz : Nat) (mr : Nat) (ll : Nat) (lt : Nat) (lp : Nat) : Met l yX7_stands wsX7_stands ({ frames := 4, cells := 1, slots := 1024, locals := 98 } : Jvm.Room) (va_Pc [.ref mr] (zB dC dI ed sz [(mr, .inr (9, [.ref ll, .ref lt, .ref lp, .int (-1), .int 0, .int 0, .int 0, .int 0, .int 0, .int 0, .int (-1), .int 0, .int 0, .int 0])), (ll, .inr (1, [.int 0, .ref ed, .int 0])), (lt, .inr (1, [.int 0, .ref ed, .int 0])), (lp, .inr (1, [.int 0, .ref ed, .int 0]))] [] [])) (va_Qi (fun (r : Int32) (_ : Unit) => r = 1) (fun (_ : Unit) (_ : State) => True) (va_A [] sz)) 1 1024 (va_A [] sz) := by
  refine Met.ofW (cc := cX7_stands) (maxL := 6) (ret := (some .int)) (by decide) rfl ?_
  intro p e s m args below meth c s₁ B hml hv
  obtain ⟨rfl, hsz, hR0, hP, hK, hD0, hN, hH, hX0⟩ := hv
  have hx := B.exec
  have hb := B.bytes
  have hr := B.returns
  have hts := atoms_spec (ws := wsX7_stands) B.pre
  have hown : s.vm.findClass RX7 = some m.cls := findClass_of_methodNamed B.named
  have hlocks := B.notSynchronized
  subst hsz
  have hD := hD0.self (sz := s.heap.size)
  have hAr := zx_A hX0 hR0
  generalize hAe : va_A [] s.heap.size = A at hD hAr hH ⊢
  have hA : ∀ q : Nat, s.heap.size ≤ q → A q := fun q h => by rw [← hAe]; exact Or.inr h
  have hS : va_S A s.heap s.heap [] := va_S.rf
  have hl := lv_entry ([.ref mr]) (n := 6) (Nat.le_of_ble_eq_true rfl)
  rw [lg_entry_eq]
  generalize (lg_sl ([.ref mr]) ++ List.replicate (6 - (lg_sl ([.ref mr])).length) Slot.unset).toArray = ls at hl ⊢
  have hl : lv_has ls 6 [(0, .ref mr)] := hl
  refine lv_iconst (v := 0) hx hb dX7_stands_0 (by decide) ?_
  refine lv_istore_n (lv' := [(1, .int 0), (0, .ref mr)]) hx hb dX7_stands_1 rfl hl (by decide) rfl (fun ls hl => ?_)
  refine lv_aload_n hx hb dX7_stands_2 rfl (lv_at hl 1 rfl) ?_
  refine lv_aload_n hx hb dX7_stands_3 rfl (lv_at hl 1 rfl) ?_
  have hPr := (hR0).sub (ws' := [(mr, .inr (9, [.ref ll, .ref lt, .ref lp, .int (-1), .int 0, .int 0, .int 0, .int 0, .int 0, .int 0, .int (-1), .int 0, .int 0, .int 0])), (ll, .inr (1, [.int 0, .ref ed, .int 0])), (lt, .inr (1, [.int 0, .ref ed, .int 0])), (lp, .inr (1, [.int 0, .ref ed, .int 0]))]) [0, 1, 2, 3] rfl
  have hPc := hP.sub (ws' := []) [] rfl
  have hDc := hD.sub (ws' := []) [] (by decide) rfl
  have hKc := hK.sub (tys' := []) [] rfl
  have hFc := va_free (wc := []) hD hS hA [] rfl
  refine va_calli (va_runV (As := []) (rest := [.ref mr]) ⟨hx, hb, hml, hown, hts⟩ (cz_opened l dC dI ed s.heap.size mr ll lt lp) (cwV 0 hts gX7_stands_X7_opened rfl rfl rfl (by decide +kernel) ⟨Nat.le_of_ble_eq_true rfl, Nat.le_of_ble_eq_true rfl⟩) ⟨zb_blind, va_recv hK hR0 (ci := 9) (q0 := 0) rfl rfl, fun U hU hW => ⟨rfl, zb_mk hU hW hPr hPc hKc hDc hN hH hS hFc zx_e⟩⟩ rfl rfl hl.1 rfl (lv_room (Nat.le_of_ble_eq_true rfl)) dX7_stands_4 ⟨Nat.le_of_ble_eq_true rfl, Nat.le_of_ble_eq_true rfl⟩) hS (fun q _ h => hFc q h) hFc (fun r2 u t H1 locs ht hvm hw hB hz1 hk1 hS => ?_)
  obtain rfl : r2 = 0 := hw
  have hP := zo_K hP hk1
  refine lv_aload_n hx hb dX7_stands_7 rfl (lv_at hl 1 rfl) ?_
  have hPr := ((zo_R hR0 hS hAr)).sub (ws' := [(mr, .inr (9, [.ref ll, .ref lt, .ref lp, .int (-1), .int 0, .int 0, .int 0, .int 0, .int 0, .int 0, .int (-1), .int 0, .int 0, .int 0])), (ll, .inr (1, [.int 0, .ref ed, .int 0])), (lt, .inr (1, [.int 0, .ref ed, .int 0])), (lp, .inr (1, [.int 0, .ref ed, .int 0]))]) [0, 1, 2, 3] rfl
  have hPc := hP.sub (ws' := []) [] rfl
  have hDc := hD.sub (ws' := []) [] (by decide) rfl
  have hKc := hK.sub (tys' := []) [] rfl
  have hFc := va_free (wc := []) hD hS hA [] rfl
  refine va_calli (va_runV (As := []) (rest := [.int 0, .ref mr]) ⟨hx, hb, hml, hown, hts⟩ (cz_opened l dC dI ed H1.size mr ll lt lp) (cwV 0 hts gX7_stands_X7_opened rfl rfl rfl (by decide +kernel) ⟨Nat.le_of_ble_eq_true rfl, Nat.le_of_ble_eq_true rfl⟩) ⟨zb_blind, va_recv hK (zo_R hR0 hS hAr) (ci := 9) (q0 := 0) rfl rfl, fun U hU hW => ⟨rfl, zb_mk hU hW hPr hPc hKc hDc hN hH hS hFc zx_e⟩⟩ rfl rfl hl.1 rfl (lv_room (Nat.le_of_ble_eq_true rfl)) dX7_stands_8 ⟨Nat.le_of_ble_eq_true rfl, Nat.le_of_ble_eq_true rfl⟩) hS (fun q _ h => hFc q h) hFc (fun r4 u t H3 locs ht hvm hw hB hz1 hk1 hS => ?_)
  obtain rfl : r4 = 0 := hw
  have hP := zo_K hP hk1
  have hPr := ((zo_R hR0 hS hAr)).sub (ws' := [(mr, .inr (9, [.ref ll, .ref lt, .ref lp, .int (-1), .int 0, .int 0, .int 0, .int 0, .int 0, .int 0, .int (-1), .int 0, .int 0, .int 0])), (ll, .inr (1, [.int 0, .ref ed, .int 0])), (lt, .inr (1, [.int 0, .ref ed, .int 0])), (lp, .inr (1, [.int 0, .ref ed, .int 0]))]) [0, 1, 2, 3] rfl
  have hPc := hP.sub (ws' := []) [] rfl
  have hDc := hD.sub (ws' := []) [] (by decide) rfl
  have hKc := hK.sub (tys' := []) [] rfl
  have hFc := va_free (wc := []) hD hS hA [] rfl
  refine va_callr (va_runV (As := [.int 0, .int 0]) (rest := []) ⟨hx, hb, hml, hown, hts⟩ (cz_steps l dC dI ed H3.size mr ll lt lp) (cwV 2 hts gX7_stands_X7_steps rfl rfl rfl (by decide +kernel) ⟨Nat.le_of_ble_eq_true rfl, Nat.le_of_ble_eq_true rfl⟩) ⟨zb_blind, va_recv hK (zo_R hR0 hS hAr) (ci := 9) (q0 := 0) rfl rfl, fun U hU hW => ⟨rfl, zb_mk hU hW hPr hPc hKc hDc hN hH hS hFc zx_e⟩⟩ rfl rfl hl.1 rfl (lv_room (Nat.le_of_ble_eq_true rfl)) dX7_stands_11 ⟨Nat.le_of_ble_eq_true rfl, Nat.le_of_ble_eq_true rfl⟩) hS (fun q _ h => hFc q h) hFc (fun u r6 t H5 locs ht hvm hw hB hz1 hk1 hS => ?_)
  obtain ⟨cS_7, fs_7, hg7, k7_0, hP1, hD1, hK1⟩ := hB
  rw [ht] at hP1
  obtain ⟨hP, hD⟩ := va_join (wr := []) (w1 := [(r6, .inl (cS_7, 1024, .inl fs_7))]) hP hD [] [] rfl rfl (by decide) (by decide) hk1 hFc hP1 hD1
  have hP : va_P (dC, dI) vwCl [(r6, .inl (cS_7, 1024, .inl fs_7))] H5 := hP
  have hD : va_D A [(r6, .inl (cS_7, 1024, .inl fs_7))] := hD
  have hK := hK.app (va_K.moved hvm.symm hK1)
  have hK : va_K (dC, dI) vwCl [(cS_7, .int)] s := hK
  refine lv_astore_n (lv' := [(2, .ref r6), (1, .int 0), (0, .ref mr)]) hx hb dX7_stands_14 rfl hl (by decide) rfl (fun ls hl => ?_)
  refine lv_aload_n hx hb dX7_stands_15 rfl (lv_at hl 0 rfl) ?_
  refine va_alen hx hb hK hP 0 0 rfl rfl (v := 1024) (by exact rfl) dX7_stands_16 ?_
  refine lv_istore_n (lv' := [(3, .int 1024), (2, .ref r6), (1, .int 0), (0, .ref mr)]) hx hb dX7_stands_17 rfl hl (by decide) rfl (fun ls hl => ?_)
  refine lv_iconst (v := 0) hx hb dX7_stands_18 (by decide) ?_
  refine lv_istore (lv' := [(4, .int 0), (3, .int 1024), (2, .ref r6), (1, .int 0), (0, .ref mr)]) hx hb dX7_stands_19 hl (by decide) rfl (fun ls hl => ?_)
  refine lv_iload hx hb dX7_stands_21 (lv_at hl 0 rfl) ?_
  refine lv_iload_n hx hb dX7_stands_23 rfl (lv_at hl 1 rfl) ?_
  refine lv_icmp_ge (tgt := 53) hx hb dX7_stands_24 (by decide) (fun h => absurd h (by decide)) (fun _ => ?_)
  refine lv_aload_n hx hb dX7_stands_27 rfl (lv_at hl 2 rfl) ?_
  refine lv_iload hx hb dX7_stands_28 (lv_at hl 0 rfl) ?_
  refine va_iald hx hb hK hP 0 0 rfl rfl (by unfold vp_in; decide) dX7_stands_30 ?_
  refine zo_i (v := 0) (by rw [show Int32.toNatClampNeg 0 = 0 from by decide]; exact k7_0) ?_
  refine lv_istore (lv' := [(5, .int 0), (4, .int 0), (3, .int 1024), (2, .ref r6), (1, .int 0), (0, .ref mr)]) hx hb dX7_stands_31 hl (by decide) rfl (fun ls hl => ?_)
  refine lv_iload_n hx hb dX7_stands_33 rfl (lv_at hl 4 rfl) ?_
  refine lv_iload hx hb dX7_stands_34 (lv_at hl 0 rfl) ?_
  refine lv_iconst (v := (-1)) hx hb dX7_stands_36 (by decide) ?_
  refine lv_icmp_ne (tgt := 44) hx hb dX7_stands_37 (by decide) (fun _ => ?_) (fun h => absurd h (by decide))
  refine lv_iconst (v := 1) hx hb dX7_stands_44 (by decide) ?_
  refine lv_iadd hx hb dX7_stands_45 ?_
  refine zo_i (v := 1) (by decide) ?_
  refine lv_istore_n (lv' := [(1, .int 1), (5, .int 0), (4, .int 0), (3, .int 1024), (2, .ref r6), (0, .ref mr)]) hx hb dX7_stands_46 rfl hl (by decide) rfl (fun ls hl => ?_)
  refine lv_iinc (v := 1) (lv' := [(4, .int 1), (1, .int 1), (5, .int 0), (3, .int 1024), (2, .ref r6), (0, .ref mr)]) hx hb dX7_stands_47 hl (k := 2) rfl (by decide) (by decide) rfl (fun ls hl => ?_)
  refine lv_goto (tgt := 21) hx hb dX7_stands_50 (by decide) ?_
  refine zo_loop (fun (i : Nat) (H : Heap) (locs : List Loc) (ls : Array Slot) => va_P (dC, dI) vwCl [(r6, .inl (cS_7, 1024, .inl fs_7))] H ∧ va_D A [(r6, .inl (cS_7, 1024, .inl fs_7))] ∧ va_S A s.heap H locs ∧ lv_has ls 6 [(4, .int (nI (i + 1))), (1, .int 1), (3, .int 1024), (2, .ref r6), (0, .ref mr)]) 1023 ⟨hP, hD, hS, lv_sub hl [0, 1, 3, 4, 5] rfl⟩ (fun i hi ih H locs ls hI => ?_) (fun H locs ls hI => ?_)
  · obtain ⟨hP, hD, hS, hl⟩ := hI
    refine lv_iload hx hb dX7_stands_21 (lv_at hl 0 rfl) ?_
    refine lv_iload_n hx hb dX7_stands_23 rfl (lv_at hl 2 rfl) ?_
    refine lv_icmp_ge (tgt := 53) hx hb dX7_stands_24 (by decide) (fun h => absurd h (nI_ge (a := i + 1) (b := 1024) (by omega) (by decide))) (fun _ => ?_)
    refine lv_aload_n hx hb dX7_stands_27 rfl (lv_at hl 3 rfl) ?_
    refine lv_iload hx hb dX7_stands_28 (lv_at hl 0 rfl) ?_
    refine va_iald hx hb hK hP 0 0 rfl rfl (vp_in_nI (by omega) (by decide)) dX7_stands_30 ?_
    refine zo_i (v := (-1)) (by rw [nI_clamp (n := (i + 1)) (by omega)]; exact hg7 ((i + 1)) (by omega) (by omega)) ?_
    refine lv_istore (lv' := [(5, .int (-1)), (4, .int (nI (i + 1))), (1, .int 1), (3, .int 1024), (2, .ref r6), (0, .ref mr)]) hx hb dX7_stands_31 hl (by decide) rfl (fun ls hl => ?_)
    refine lv_iload_n hx hb dX7_stands_33 rfl (lv_at hl 2 rfl) ?_
    refine lv_iload hx hb dX7_stands_34 (lv_at hl 0 rfl) ?_
    refine lv_iconst (v := (-1)) hx hb dX7_stands_36 (by decide) ?_
    refine lv_icmp_ne (tgt := 44) hx hb dX7_stands_37 (by decide) (fun h => absurd h (by decide)) (fun _ => ?_)
    refine lv_iconst (v := 0) hx hb dX7_stands_40 (by decide) ?_
    refine lv_goto (tgt := 45) hx hb dX7_stands_41 (by decide) ?_
    refine lv_iadd hx hb dX7_stands_45 ?_
    refine zo_i (v := 1) (by decide) ?_
    refine lv_istore_n (lv' := [(1, .int 1), (5, .int (-1)), (4, .int (nI (i + 1))), (3, .int 1024), (2, .ref r6), (0, .ref mr)]) hx hb dX7_stands_46 rfl hl (by decide) rfl (fun ls hl => ?_)
    refine lv_iinc (v := (nI ((i + 1) + 1))) (lv' := [(4, .int (nI ((i + 1) + 1))), (1, .int 1), (5, .int (-1)), (3, .int 1024), (2, .ref r6), (0, .ref mr)]) hx hb dX7_stands_47 hl (k := 2) rfl (nI_1 (i + 1)) (by decide) rfl (fun ls hl => ?_)
    refine lv_goto (tgt := 21) hx hb dX7_stands_50 (by decide) ?_
    exact ih _ _ _ ⟨hP, hD, hS, lv_sub hl [0, 1, 3, 4, 5] rfl⟩
  · obtain ⟨hP, hD, hS, hl⟩ := hI
    refine lv_iload hx hb dX7_stands_21 (lv_at hl 0 rfl) ?_
    refine lv_iload_n hx hb dX7_stands_23 rfl (lv_at hl 2 rfl) ?_
    refine lv_icmp_ge (tgt := 53) hx hb dX7_stands_24 (by decide) (fun _ => ?_) (fun h => absurd (nI_le (a := 1024) (b := 1023 + 1) (by omega) (by decide)) h)
    refine lv_iload_n hx hb dX7_stands_53 rfl (lv_at hl 1 rfl) ?_
    refine W.widen (k := 1) (n := 1024) (Nat.le_of_ble_eq_true rfl) (Nat.le_of_ble_eq_true rfl) ?_
    exact W.iret hx hb hr (fun t ht hW => ⟨⟨1, (), rfl, rfl, trivial⟩, hS.F ht⟩) hS.2.2 dX7_stands_54

set_option maxHeartbeats 4000000 in
set_option maxRecDepth 100000 in
theorem cz_deadEnds7 (l : Launch) (dC : Nat → ClassId) (dI : Nat → Nat → Nat) (ed sz : Nat) (mr : Nat) (ll : Nat) (lt : Nat) (lp : Nat) : Met l yX7_deadEnds wsX7_deadEnds ({ frames := 4, cells := 2, slots := 2048, locals := 98 } : Jvm.Room) (va_Pc [.ref mr] (zB dC dI ed sz [(mr, .inr (9, [.ref ll, .ref lt, .ref lp, .int (-1), .int 0, .int 0, .int 0, .int 0, .int 0, .int 0, .int (-1), .int 0, .int 0, .int 0])), (ll, .inr (1, [.int 0, .ref ed, .int 0])), (lt, .inr (1, [.int 0, .ref ed, .int 0])), (lp, .inr (1, [.int 0, .ref ed, .int 0]))] [] [])) (va_Qi (fun (r : Int32) (_ : Unit) => r = 1) (fun (_ : Unit) (_ : State) => True) (va_A [] sz)) 2 2048 (va_A [] sz) := by
  refine Met.ofW (cc := cX7_deadEnds) (maxL := 8) (ret := (some .int)) (by decide) rfl ?_
  intro p e s m args below meth c s₁ B hml hv
  obtain ⟨rfl, hsz, hR0, hP, hK, hD0, hN, hH, hX0⟩ := hv
  have hx := B.exec
  have hb := B.bytes
  have hr := B.returns
  have hts := atoms_spec (ws := wsX7_deadEnds) B.pre
  have hown : s.vm.findClass RX7 = some m.cls := findClass_of_methodNamed B.named
  have hlocks := B.notSynchronized
  subst hsz
  have hD := hD0.self (sz := s.heap.size)
  have hAr := zx_A hX0 hR0
  generalize hAe : va_A [] s.heap.size = A at hD hAr hH ⊢
  have hA : ∀ q : Nat, s.heap.size ≤ q → A q := fun q h => by rw [← hAe]; exact Or.inr h
  have hS : va_S A s.heap s.heap [] := va_S.rf
  have hl := lv_entry ([.ref mr]) (n := 8) (Nat.le_of_ble_eq_true rfl)
  rw [lg_entry_eq]
  generalize (lg_sl ([.ref mr]) ++ List.replicate (8 - (lg_sl ([.ref mr])).length) Slot.unset).toArray = ls at hl ⊢
  have hl : lv_has ls 8 [(0, .ref mr)] := hl
  refine lv_aload_n hx hb dX7_deadEnds_0 rfl (lv_at hl 0 rfl) ?_
  have hPr := (hR0).sub (ws' := [(mr, .inr (9, [.ref ll, .ref lt, .ref lp, .int (-1), .int 0, .int 0, .int 0, .int 0, .int 0, .int 0, .int (-1), .int 0, .int 0, .int 0])), (ll, .inr (1, [.int 0, .ref ed, .int 0])), (lt, .inr (1, [.int 0, .ref ed, .int 0])), (lp, .inr (1, [.int 0, .ref ed, .int 0]))]) [0, 1, 2, 3] rfl
  have hPc := hP.sub (ws' := []) [] rfl
  have hDc := hD.sub (ws' := []) [] (by decide) rfl
  have hKc := hK.sub (tys' := []) [] rfl
  have hFc := va_free (wc := []) hD hS hA [] rfl
  refine va_calli (va_runV (As := []) (rest := []) ⟨hx, hb, hml, hown, hts⟩ (cz_opened l dC dI ed s.heap.size mr ll lt lp) (cwV 0 hts gX7_deadEnds_X7_opened rfl rfl rfl (by decide +kernel) ⟨Nat.le_of_ble_eq_true rfl, Nat.le_of_ble_eq_true rfl⟩) ⟨zb_blind, va_recv hK hR0 (ci := 9) (q0 := 0) rfl rfl, fun U hU hW => ⟨rfl, zb_mk hU hW hPr hPc hKc hDc hN hH hS hFc zx_e⟩⟩ rfl rfl hl.1 rfl (lv_room (Nat.le_of_ble_eq_true rfl)) dX7_deadEnds_1 ⟨Nat.le_of_ble_eq_true rfl, Nat.le_of_ble_eq_true rfl⟩) hS (fun q _ h => hFc q h) hFc (fun r2 u t H1 locs ht hvm hw hB hz1 hk1 hS => ?_)
  obtain rfl : r2 = 0 := hw
  have hP := zo_K hP hk1
  refine lv_istore_n (lv' := [(1, .int 0), (0, .ref mr)]) hx hb dX7_deadEnds_4 rfl hl (by decide) rfl (fun ls hl => ?_)
  refine lv_aload_n hx hb dX7_deadEnds_5 rfl (lv_at hl 1 rfl) ?_
  refine lv_iload_n hx hb dX7_deadEnds_6 rfl (lv_at hl 0 rfl) ?_
  refine lv_iload_n hx hb dX7_deadEnds_7 rfl (lv_at hl 0 rfl) ?_
  have hPr := ((zo_R hR0 hS hAr)).sub (ws' := [(mr, .inr (9, [.ref ll, .ref lt, .ref lp, .int (-1), .int 0, .int 0, .int 0, .int 0, .int 0, .int 0, .int (-1), .int 0, .int 0, .int 0])), (ll, .inr (1, [.int 0, .ref ed, .int 0])), (lt, .inr (1, [.int 0, .ref ed, .int 0])), (lp, .inr (1, [.int 0, .ref ed, .int 0]))]) [0, 1, 2, 3] rfl
  have hPc := hP.sub (ws' := []) [] rfl
  have hDc := hD.sub (ws' := []) [] (by decide) rfl
  have hKc := hK.sub (tys' := []) [] rfl
  have hFc := va_free (wc := []) hD hS hA [] rfl
  refine va_callr (va_runV (As := [.int 0, .int 0]) (rest := []) ⟨hx, hb, hml, hown, hts⟩ (cz_steps l dC dI ed H1.size mr ll lt lp) (cwV 2 hts gX7_deadEnds_X7_steps rfl rfl rfl (by decide +kernel) ⟨Nat.le_of_ble_eq_true rfl, Nat.le_of_ble_eq_true rfl⟩) ⟨zb_blind, va_recv hK (zo_R hR0 hS hAr) (ci := 9) (q0 := 0) rfl rfl, fun U hU hW => ⟨rfl, zb_mk hU hW hPr hPc hKc hDc hN hH hS hFc zx_e⟩⟩ rfl rfl hl.1 rfl (lv_room (Nat.le_of_ble_eq_true rfl)) dX7_deadEnds_8 ⟨Nat.le_of_ble_eq_true rfl, Nat.le_of_ble_eq_true rfl⟩) hS (fun q _ h => hFc q h) hFc (fun u r4 t H3 locs ht hvm hw hB hz1 hk1 hS => ?_)
  obtain ⟨cS_5, fs_5, hg5, k5_0, hP1, hD1, hK1⟩ := hB
  rw [ht] at hP1
  obtain ⟨hP, hD⟩ := va_join (wr := []) (w1 := [(r4, .inl (cS_5, 1024, .inl fs_5))]) hP hD [] [] rfl rfl (by decide) (by decide) hk1 hFc hP1 hD1
  have hP : va_P (dC, dI) vwCl [(r4, .inl (cS_5, 1024, .inl fs_5))] H3 := hP
  have hD : va_D A [(r4, .inl (cS_5, 1024, .inl fs_5))] := hD
  have hK := hK.app (va_K.moved hvm.symm hK1)
  have hK : va_K (dC, dI) vwCl [(cS_5, .int)] s := hK
  refine lv_astore_n (lv' := [(2, .ref r4), (1, .int 0), (0, .ref mr)]) hx hb dX7_deadEnds_11 rfl hl (by decide) rfl (fun ls hl => ?_)
  refine lv_aload_n hx hb dX7_deadEnds_12 rfl (lv_at hl 0 rfl) ?_
  refine va_alen hx hb hK hP 0 0 rfl rfl (v := 1024) (by exact rfl) dX7_deadEnds_13 ?_
  refine va_newa (atype := .boolean) (a0 := (1024, .inl (fun _ => 0))) hx hb (hts (.arrayClass .boolean) (by decide +kernel)) rfl hK hP hD hS hA (fun cA => rfl) (by decide) (N' := 1024) (by decide) (by decide) (Nat.le_of_ble_eq_true rfl) (Nat.le_of_ble_eq_true rfl) dX7_deadEnds_14 (fun q6 cA8 H7 hK hP hD hS => ?_)
  have hP : va_P (dC, dI) vwCl [(r4, .inl (cS_5, 1024, .inl fs_5)), (q6, .inl (cA8, 1024, .inl (fun _ => 0)))] H7 := hP
  have hD : va_D A [(r4, .inl (cS_5, 1024, .inl fs_5)), (q6, .inl (cA8, 1024, .inl (fun _ => 0)))] := hD
  refine lv_astore_n (lv' := [(3, .ref q6), (2, .ref r4), (1, .int 0), (0, .ref mr)]) hx hb dX7_deadEnds_16 rfl hl (by decide) rfl (fun ls hl => ?_)
  refine lv_iconst (v := 0) hx hb dX7_deadEnds_17 (by decide) ?_
  refine lv_istore (lv' := [(4, .int 0), (3, .ref q6), (2, .ref r4), (1, .int 0), (0, .ref mr)]) hx hb dX7_deadEnds_18 hl (by decide) rfl (fun ls hl => ?_)
  refine lv_aload_n hx hb dX7_deadEnds_20 rfl (lv_at hl 2 rfl) ?_
  refine va_alen hx hb hK hP 0 0 rfl rfl (v := 1024) (by exact rfl) dX7_deadEnds_21 ?_
  refine lv_iconst (v := 1) hx hb dX7_deadEnds_22 (by decide) ?_
  refine lv_isub hx hb dX7_deadEnds_23 ?_
  refine zo_i (v := 1023) (by decide) ?_
  refine lv_istore (lv' := [(5, .int 1023), (4, .int 0), (3, .ref q6), (2, .ref r4), (1, .int 0), (0, .ref mr)]) hx hb dX7_deadEnds_24 hl (by decide) rfl (fun ls hl => ?_)
  refine zo_loop (fun (i : Nat) (H : Heap) (locs : List Loc) (ls : Array Slot) => va_P (dC, dI) vwCl [(r4, .inl (cS_5, 1024, .inl fs_5)), (q6, .inl (cA8, 1024, .inl (fun _ => 0)))] H ∧ va_D A [(r4, .inl (cS_5, 1024, .inl fs_5)), (q6, .inl (cA8, 1024, .inl (fun _ => 0)))] ∧ va_S A s.heap H locs ∧ lv_has ls 8 [(5, .int (nI (1023 - i))), (4, .int 0), (3, .ref q6), (2, .ref r4), (1, .int 0), (0, .ref mr)]) 1023 ⟨hP, hD, hS, lv_sub hl [0, 1, 2, 3, 4, 5] rfl⟩ (fun i hi ih H locs ls hI => ?_) (fun H locs ls hI => ?_)
  · obtain ⟨hP, hD, hS, hl⟩ := hI
    refine lv_iload hx hb dX7_deadEnds_26 (lv_at hl 0 rfl) ?_
    refine lv_if_lt (tgt := 128) hx hb dX7_deadEnds_28 (by decide) (fun h => absurd h (nI_pos (n := 1023 - i) (by omega))) (fun _ => ?_)
    refine lv_aload_n hx hb dX7_deadEnds_31 rfl (lv_at hl 3 rfl) ?_
    refine lv_iload hx hb dX7_deadEnds_32 (lv_at hl 0 rfl) ?_
    refine va_iald hx hb hK hP 0 0 rfl rfl (vp_in_nI (by omega) (by decide)) dX7_deadEnds_34 ?_
    refine zo_i (v := (-1)) (by rw [nI_clamp (n := (1023 - i)) (by omega)]; exact hg5 ((1023 - i)) (by omega) (by omega)) ?_
    refine lv_iconst (v := (-1)) hx hb dX7_deadEnds_35 (by decide) ?_
    refine lv_icmp_ne (tgt := 42) hx hb dX7_deadEnds_36 (by decide) (fun h => absurd h (by decide)) (fun _ => ?_)
    refine lv_goto (tgt := 122) hx hb dX7_deadEnds_39 (by decide) ?_
    refine lv_iinc (v := (nI (1023 - (i + 1)))) (lv' := [(5, .int (nI (1023 - (i + 1)))), (4, .int 0), (3, .ref q6), (2, .ref r4), (1, .int 0), (0, .ref mr)]) hx hb dX7_deadEnds_122 hl (k := 0) rfl ((by rw [show 1023 - i = (1023 - (i + 1)) + 1 from by omega]; exact pk_m1 _)) (by decide) rfl (fun ls hl => ?_)
    refine lv_goto (tgt := 26) hx hb dX7_deadEnds_125 (by decide) ?_
    exact ih _ _ _ ⟨hP, hD, hS, lv_sub hl [0, 1, 2, 3, 4, 5] rfl⟩
  · obtain ⟨hP, hD, hS, hl⟩ := hI
    have hl : lv_has ls 8 [(5, .int 0), (4, .int 0), (3, .ref q6), (2, .ref r4), (1, .int 0), (0, .ref mr)] := hl
    refine lv_iload hx hb dX7_deadEnds_26 (lv_at hl 0 rfl) ?_
    refine lv_if_lt (tgt := 128) hx hb dX7_deadEnds_28 (by decide) (fun h => absurd h (by decide)) (fun _ => ?_)
    refine lv_aload_n hx hb dX7_deadEnds_31 rfl (lv_at hl 3 rfl) ?_
    refine lv_iload hx hb dX7_deadEnds_32 (lv_at hl 0 rfl) ?_
    refine va_iald hx hb hK hP 0 0 rfl rfl (by unfold vp_in; decide) dX7_deadEnds_34 ?_
    refine zo_i (v := 0) (by rw [show Int32.toNatClampNeg 0 = 0 from by decide]; exact k5_0) ?_
    refine lv_iconst (v := (-1)) hx hb dX7_deadEnds_35 (by decide) ?_
    refine lv_icmp_ne (tgt := 42) hx hb dX7_deadEnds_36 (by decide) (fun _ => ?_) (fun h => absurd h (by decide))
    refine lv_aload_n hx hb dX7_deadEnds_42 rfl (lv_at hl 2 rfl) ?_
    refine lv_iload hx hb dX7_deadEnds_43 (lv_at hl 0 rfl) ?_
    refine lv_aload_n hx hb dX7_deadEnds_45 rfl (lv_at hl 5 rfl) ?_
    refine lv_iload hx hb dX7_deadEnds_46 (lv_at hl 0 rfl) ?_
    have hPr := ((zo_R hR0 hS hAr)).sub (ws' := [(mr, .inr (9, [.ref ll, .ref lt, .ref lp, .int (-1), .int 0, .int 0, .int 0, .int 0, .int 0, .int 0, .int (-1), .int 0, .int 0, .int 0])), (ll, .inr (1, [.int 0, .ref ed, .int 0])), (lt, .inr (1, [.int 0, .ref ed, .int 0])), (lp, .inr (1, [.int 0, .ref ed, .int 0]))]) [0, 1, 2, 3] rfl
    have hPc := hP.sub (ws' := []) [] rfl
    have hDc := hD.sub (ws' := []) [] (by decide) rfl
    have hKc := hK.sub (tys' := []) [] rfl
    have hFc := va_free (wc := []) hD hS hA [] rfl
    refine va_calli (va_runV (As := [.int 0]) (rest := [.int 0, .ref q6]) ⟨hx, hb, hml, hown, hts⟩ (cz_isEnd l dC dI ed H.size mr ll lt lp) (cwV 1 hts gX7_deadEnds_X7_isEnd rfl rfl rfl (by decide +kernel) ⟨Nat.le_of_ble_eq_true rfl, Nat.le_of_ble_eq_true rfl⟩) ⟨zb_blind, va_recv hK (zo_R hR0 hS hAr) (ci := 9) (q0 := 0) rfl rfl, fun U hU hW => ⟨rfl, zb_mk hU hW hPr hPc hKc hDc hN hH hS hFc zx_e⟩⟩ rfl rfl hl.1 rfl (lv_room (Nat.le_of_ble_eq_true rfl)) dX7_deadEnds_48 ⟨Nat.le_of_ble_eq_true rfl, Nat.le_of_ble_eq_true rfl⟩) hS (fun q _ h => hFc q h) hFc (fun r11 u t H10 locs ht hvm hw hB hz1 hk1 hS => ?_)
    obtain rfl : r11 = 0 := hw
    have hP := zo_K hP hk1
    refine va_zast hx hb hK hP hD hS 1 1 rfl rfl (by unfold vp_in; decide) dX7_deadEnds_51 (fun H12 locs hP hD hS => ?_)
    obtain ⟨f13, ef13⟩ : ∃ z : Nat → Int32, z = upd (fun _ => 0) 0 (vp_nar .boolean 0) := ⟨_, rfl⟩
    have k14 : f13 0 = 0 := by rw [ef13]; exact pk_us.trans (by decide)
    have hP : va_P (dC, dI) vwCl [(r4, .inl (cS_5, 1024, .inl fs_5)), (q6, .inl (cA8, 1024, .inl f13))] H12 := by rw [ef13]; exact hP
    have hD : va_D A [(r4, .inl (cS_5, 1024, .inl fs_5)), (q6, .inl (cA8, 1024, .inl f13))] := by rw [ef13]; exact hD
    refine lv_aload_n hx hb dX7_deadEnds_52 rfl (lv_at hl 5 rfl) ?_
    refine lv_iload hx hb dX7_deadEnds_53 (lv_at hl 0 rfl) ?_
    refine lv_iload_n hx hb dX7_deadEnds_55 rfl (lv_at hl 4 rfl) ?_
    have hPr := ((zo_R hR0 hS hAr)).sub (ws' := [(mr, .inr (9, [.ref ll, .ref lt, .ref lp, .int (-1), .int 0, .int 0, .int 0, .int 0, .int 0, .int 0, .int (-1), .int 0, .int 0, .int 0])), (ll, .inr (1, [.int 0, .ref ed, .int 0])), (lt, .inr (1, [.int 0, .ref ed, .int 0])), (lp, .inr (1, [.int 0, .ref ed, .int 0]))]) [0, 1, 2, 3] rfl
    have hPc := hP.sub (ws' := []) [] rfl
    have hDc := hD.sub (ws' := []) [] (by decide) rfl
    have hKc := hK.sub (tys' := []) [] rfl
    have hFc := va_free (wc := []) hD hS hA [] rfl
    refine va_calli (va_runV (As := [.int 0, .int 0]) (rest := []) ⟨hx, hb, hml, hown, hts⟩ (cz_next l dC dI ed H12.size mr ll lt lp) (cwV 2 hts gX7_deadEnds_X7_next rfl rfl rfl (by decide +kernel) ⟨Nat.le_of_ble_eq_true rfl, Nat.le_of_ble_eq_true rfl⟩) ⟨zb_blind, va_recv hK (zo_R hR0 hS hAr) (ci := 9) (q0 := 0) rfl rfl, fun U hU hW => ⟨rfl, zb_mk hU hW hPr hPc hKc hDc hN hH hS hFc zx_e⟩⟩ rfl rfl hl.1 rfl (lv_room (Nat.le_of_ble_eq_true rfl)) dX7_deadEnds_56 ⟨Nat.le_of_ble_eq_true rfl, Nat.le_of_ble_eq_true rfl⟩) hS (fun q _ h => hFc q h) hFc (fun r16 u t H15 locs ht hvm hw hB hz1 hk1 hS => ?_)
    obtain rfl : r16 = 0 := hw
    have hP := zo_K hP hk1
    refine lv_istore (lv' := [(6, .int 0), (5, .int 0), (4, .int 0), (3, .ref q6), (2, .ref r4), (1, .int 0), (0, .ref mr)]) hx hb dX7_deadEnds_59 hl (by decide) rfl (fun ls hl => ?_)
    refine lv_iconst (v := 0) hx hb dX7_deadEnds_61 (by decide) ?_
    refine lv_istore (lv' := [(7, .int 0), (6, .int 0), (5, .int 0), (4, .int 0), (3, .ref q6), (2, .ref r4), (1, .int 0), (0, .ref mr)]) hx hb dX7_deadEnds_62 hl (by decide) rfl (fun ls hl => ?_)
    refine lv_iload hx hb dX7_deadEnds_64 (lv_at hl 0 rfl) ?_
    refine lv_bipush (v := 10) hx hb dX7_deadEnds_66 (by decide) ?_
    refine lv_icmp_ge (tgt := 105) hx hb dX7_deadEnds_68 (by decide) (fun h => absurd h (by decide)) (fun _ => ?_)
    refine lv_iload hx hb dX7_deadEnds_71 (lv_at hl 1 rfl) ?_
    refine lv_iload hx hb dX7_deadEnds_73 (lv_at hl 0 rfl) ?_
    refine lv_ishr hx hb dX7_deadEnds_75 ?_
    refine zo_i (v := 0) (by decide) ?_
    refine lv_iconst (v := 1) hx hb dX7_deadEnds_76 (by decide) ?_
    refine lv_iand hx hb dX7_deadEnds_77 ?_
    refine zo_i (v := 0) (by decide) ?_
    refine lv_iconst (v := 1) hx hb dX7_deadEnds_78 (by decide) ?_
    refine lv_icmp_ne (tgt := 99) hx hb dX7_deadEnds_79 (by decide) (fun _ => ?_) (fun h => absurd h (by decide))
    refine lv_iinc (v := 1) (lv' := [(7, .int 1), (6, .int 0), (5, .int 0), (4, .int 0), (3, .ref q6), (2, .ref r4), (1, .int 0), (0, .ref mr)]) hx hb dX7_deadEnds_99 hl (k := 0) rfl (by decide) (by decide) rfl (fun ls hl => ?_)
    refine lv_goto (tgt := 64) hx hb dX7_deadEnds_102 (by decide) ?_
    refine lv_iload hx hb dX7_deadEnds_64 (lv_at hl 0 rfl) ?_
    refine lv_bipush (v := 10) hx hb dX7_deadEnds_66 (by decide) ?_
    refine lv_icmp_ge (tgt := 105) hx hb dX7_deadEnds_68 (by decide) (fun h => absurd h (by decide)) (fun _ => ?_)
    refine lv_iload hx hb dX7_deadEnds_71 (lv_at hl 1 rfl) ?_
    refine lv_iload hx hb dX7_deadEnds_73 (lv_at hl 0 rfl) ?_
    refine lv_ishr hx hb dX7_deadEnds_75 ?_
    refine zo_i (v := 0) (by decide) ?_
    refine lv_iconst (v := 1) hx hb dX7_deadEnds_76 (by decide) ?_
    refine lv_iand hx hb dX7_deadEnds_77 ?_
    refine zo_i (v := 0) (by decide) ?_
    refine lv_iconst (v := 1) hx hb dX7_deadEnds_78 (by decide) ?_
    refine lv_icmp_ne (tgt := 99) hx hb dX7_deadEnds_79 (by decide) (fun _ => ?_) (fun h => absurd h (by decide))
    refine lv_iinc (v := 2) (lv' := [(7, .int 2), (6, .int 0), (5, .int 0), (4, .int 0), (3, .ref q6), (2, .ref r4), (1, .int 0), (0, .ref mr)]) hx hb dX7_deadEnds_99 hl (k := 0) rfl (by decide) (by decide) rfl (fun ls hl => ?_)
    refine lv_goto (tgt := 64) hx hb dX7_deadEnds_102 (by decide) ?_
    refine lv_iload hx hb dX7_deadEnds_64 (lv_at hl 0 rfl) ?_
    refine lv_bipush (v := 10) hx hb dX7_deadEnds_66 (by decide) ?_
    refine lv_icmp_ge (tgt := 105) hx hb dX7_deadEnds_68 (by decide) (fun h => absurd h (by decide)) (fun _ => ?_)
    refine lv_iload hx hb dX7_deadEnds_71 (lv_at hl 1 rfl) ?_
    refine lv_iload hx hb dX7_deadEnds_73 (lv_at hl 0 rfl) ?_
    refine lv_ishr hx hb dX7_deadEnds_75 ?_
    refine zo_i (v := 0) (by decide) ?_
    refine lv_iconst (v := 1) hx hb dX7_deadEnds_76 (by decide) ?_
    refine lv_iand hx hb dX7_deadEnds_77 ?_
    refine zo_i (v := 0) (by decide) ?_
    refine lv_iconst (v := 1) hx hb dX7_deadEnds_78 (by decide) ?_
    refine lv_icmp_ne (tgt := 99) hx hb dX7_deadEnds_79 (by decide) (fun _ => ?_) (fun h => absurd h (by decide))
    refine lv_iinc (v := 3) (lv' := [(7, .int 3), (6, .int 0), (5, .int 0), (4, .int 0), (3, .ref q6), (2, .ref r4), (1, .int 0), (0, .ref mr)]) hx hb dX7_deadEnds_99 hl (k := 0) rfl (by decide) (by decide) rfl (fun ls hl => ?_)
    refine lv_goto (tgt := 64) hx hb dX7_deadEnds_102 (by decide) ?_
    refine lv_iload hx hb dX7_deadEnds_64 (lv_at hl 0 rfl) ?_
    refine lv_bipush (v := 10) hx hb dX7_deadEnds_66 (by decide) ?_
    refine lv_icmp_ge (tgt := 105) hx hb dX7_deadEnds_68 (by decide) (fun h => absurd h (by decide)) (fun _ => ?_)
    refine lv_iload hx hb dX7_deadEnds_71 (lv_at hl 1 rfl) ?_
    refine lv_iload hx hb dX7_deadEnds_73 (lv_at hl 0 rfl) ?_
    refine lv_ishr hx hb dX7_deadEnds_75 ?_
    refine zo_i (v := 0) (by decide) ?_
    refine lv_iconst (v := 1) hx hb dX7_deadEnds_76 (by decide) ?_
    refine lv_iand hx hb dX7_deadEnds_77 ?_
    refine zo_i (v := 0) (by decide) ?_
    refine lv_iconst (v := 1) hx hb dX7_deadEnds_78 (by decide) ?_
    refine lv_icmp_ne (tgt := 99) hx hb dX7_deadEnds_79 (by decide) (fun _ => ?_) (fun h => absurd h (by decide))
    refine lv_iinc (v := 4) (lv' := [(7, .int 4), (6, .int 0), (5, .int 0), (4, .int 0), (3, .ref q6), (2, .ref r4), (1, .int 0), (0, .ref mr)]) hx hb dX7_deadEnds_99 hl (k := 0) rfl (by decide) (by decide) rfl (fun ls hl => ?_)
    refine lv_goto (tgt := 64) hx hb dX7_deadEnds_102 (by decide) ?_
    refine lv_iload hx hb dX7_deadEnds_64 (lv_at hl 0 rfl) ?_
    refine lv_bipush (v := 10) hx hb dX7_deadEnds_66 (by decide) ?_
    refine lv_icmp_ge (tgt := 105) hx hb dX7_deadEnds_68 (by decide) (fun h => absurd h (by decide)) (fun _ => ?_)
    refine lv_iload hx hb dX7_deadEnds_71 (lv_at hl 1 rfl) ?_
    refine lv_iload hx hb dX7_deadEnds_73 (lv_at hl 0 rfl) ?_
    refine lv_ishr hx hb dX7_deadEnds_75 ?_
    refine zo_i (v := 0) (by decide) ?_
    refine lv_iconst (v := 1) hx hb dX7_deadEnds_76 (by decide) ?_
    refine lv_iand hx hb dX7_deadEnds_77 ?_
    refine zo_i (v := 0) (by decide) ?_
    refine lv_iconst (v := 1) hx hb dX7_deadEnds_78 (by decide) ?_
    refine lv_icmp_ne (tgt := 99) hx hb dX7_deadEnds_79 (by decide) (fun _ => ?_) (fun h => absurd h (by decide))
    refine lv_iinc (v := 5) (lv' := [(7, .int 5), (6, .int 0), (5, .int 0), (4, .int 0), (3, .ref q6), (2, .ref r4), (1, .int 0), (0, .ref mr)]) hx hb dX7_deadEnds_99 hl (k := 0) rfl (by decide) (by decide) rfl (fun ls hl => ?_)
    refine lv_goto (tgt := 64) hx hb dX7_deadEnds_102 (by decide) ?_
    refine lv_iload hx hb dX7_deadEnds_64 (lv_at hl 0 rfl) ?_
    refine lv_bipush (v := 10) hx hb dX7_deadEnds_66 (by decide) ?_
    refine lv_icmp_ge (tgt := 105) hx hb dX7_deadEnds_68 (by decide) (fun h => absurd h (by decide)) (fun _ => ?_)
    refine lv_iload hx hb dX7_deadEnds_71 (lv_at hl 1 rfl) ?_
    refine lv_iload hx hb dX7_deadEnds_73 (lv_at hl 0 rfl) ?_
    refine lv_ishr hx hb dX7_deadEnds_75 ?_
    refine zo_i (v := 0) (by decide) ?_
    refine lv_iconst (v := 1) hx hb dX7_deadEnds_76 (by decide) ?_
    refine lv_iand hx hb dX7_deadEnds_77 ?_
    refine zo_i (v := 0) (by decide) ?_
    refine lv_iconst (v := 1) hx hb dX7_deadEnds_78 (by decide) ?_
    refine lv_icmp_ne (tgt := 99) hx hb dX7_deadEnds_79 (by decide) (fun _ => ?_) (fun h => absurd h (by decide))
    refine lv_iinc (v := 6) (lv' := [(7, .int 6), (6, .int 0), (5, .int 0), (4, .int 0), (3, .ref q6), (2, .ref r4), (1, .int 0), (0, .ref mr)]) hx hb dX7_deadEnds_99 hl (k := 0) rfl (by decide) (by decide) rfl (fun ls hl => ?_)
    refine lv_goto (tgt := 64) hx hb dX7_deadEnds_102 (by decide) ?_
    refine lv_iload hx hb dX7_deadEnds_64 (lv_at hl 0 rfl) ?_
    refine lv_bipush (v := 10) hx hb dX7_deadEnds_66 (by decide) ?_
    refine lv_icmp_ge (tgt := 105) hx hb dX7_deadEnds_68 (by decide) (fun h => absurd h (by decide)) (fun _ => ?_)
    refine lv_iload hx hb dX7_deadEnds_71 (lv_at hl 1 rfl) ?_
    refine lv_iload hx hb dX7_deadEnds_73 (lv_at hl 0 rfl) ?_
    refine lv_ishr hx hb dX7_deadEnds_75 ?_
    refine zo_i (v := 0) (by decide) ?_
    refine lv_iconst (v := 1) hx hb dX7_deadEnds_76 (by decide) ?_
    refine lv_iand hx hb dX7_deadEnds_77 ?_
    refine zo_i (v := 0) (by decide) ?_
    refine lv_iconst (v := 1) hx hb dX7_deadEnds_78 (by decide) ?_
    refine lv_icmp_ne (tgt := 99) hx hb dX7_deadEnds_79 (by decide) (fun _ => ?_) (fun h => absurd h (by decide))
    refine lv_iinc (v := 7) (lv' := [(7, .int 7), (6, .int 0), (5, .int 0), (4, .int 0), (3, .ref q6), (2, .ref r4), (1, .int 0), (0, .ref mr)]) hx hb dX7_deadEnds_99 hl (k := 0) rfl (by decide) (by decide) rfl (fun ls hl => ?_)
    refine lv_goto (tgt := 64) hx hb dX7_deadEnds_102 (by decide) ?_
    refine lv_iload hx hb dX7_deadEnds_64 (lv_at hl 0 rfl) ?_
    refine lv_bipush (v := 10) hx hb dX7_deadEnds_66 (by decide) ?_
    refine lv_icmp_ge (tgt := 105) hx hb dX7_deadEnds_68 (by decide) (fun h => absurd h (by decide)) (fun _ => ?_)
    refine lv_iload hx hb dX7_deadEnds_71 (lv_at hl 1 rfl) ?_
    refine lv_iload hx hb dX7_deadEnds_73 (lv_at hl 0 rfl) ?_
    refine lv_ishr hx hb dX7_deadEnds_75 ?_
    refine zo_i (v := 0) (by decide) ?_
    refine lv_iconst (v := 1) hx hb dX7_deadEnds_76 (by decide) ?_
    refine lv_iand hx hb dX7_deadEnds_77 ?_
    refine zo_i (v := 0) (by decide) ?_
    refine lv_iconst (v := 1) hx hb dX7_deadEnds_78 (by decide) ?_
    refine lv_icmp_ne (tgt := 99) hx hb dX7_deadEnds_79 (by decide) (fun _ => ?_) (fun h => absurd h (by decide))
    refine lv_iinc (v := 8) (lv' := [(7, .int 8), (6, .int 0), (5, .int 0), (4, .int 0), (3, .ref q6), (2, .ref r4), (1, .int 0), (0, .ref mr)]) hx hb dX7_deadEnds_99 hl (k := 0) rfl (by decide) (by decide) rfl (fun ls hl => ?_)
    refine lv_goto (tgt := 64) hx hb dX7_deadEnds_102 (by decide) ?_
    refine lv_iload hx hb dX7_deadEnds_64 (lv_at hl 0 rfl) ?_
    refine lv_bipush (v := 10) hx hb dX7_deadEnds_66 (by decide) ?_
    refine lv_icmp_ge (tgt := 105) hx hb dX7_deadEnds_68 (by decide) (fun h => absurd h (by decide)) (fun _ => ?_)
    refine lv_iload hx hb dX7_deadEnds_71 (lv_at hl 1 rfl) ?_
    refine lv_iload hx hb dX7_deadEnds_73 (lv_at hl 0 rfl) ?_
    refine lv_ishr hx hb dX7_deadEnds_75 ?_
    refine zo_i (v := 0) (by decide) ?_
    refine lv_iconst (v := 1) hx hb dX7_deadEnds_76 (by decide) ?_
    refine lv_iand hx hb dX7_deadEnds_77 ?_
    refine zo_i (v := 0) (by decide) ?_
    refine lv_iconst (v := 1) hx hb dX7_deadEnds_78 (by decide) ?_
    refine lv_icmp_ne (tgt := 99) hx hb dX7_deadEnds_79 (by decide) (fun _ => ?_) (fun h => absurd h (by decide))
    refine lv_iinc (v := 9) (lv' := [(7, .int 9), (6, .int 0), (5, .int 0), (4, .int 0), (3, .ref q6), (2, .ref r4), (1, .int 0), (0, .ref mr)]) hx hb dX7_deadEnds_99 hl (k := 0) rfl (by decide) (by decide) rfl (fun ls hl => ?_)
    refine lv_goto (tgt := 64) hx hb dX7_deadEnds_102 (by decide) ?_
    refine lv_iload hx hb dX7_deadEnds_64 (lv_at hl 0 rfl) ?_
    refine lv_bipush (v := 10) hx hb dX7_deadEnds_66 (by decide) ?_
    refine lv_icmp_ge (tgt := 105) hx hb dX7_deadEnds_68 (by decide) (fun h => absurd h (by decide)) (fun _ => ?_)
    refine lv_iload hx hb dX7_deadEnds_71 (lv_at hl 1 rfl) ?_
    refine lv_iload hx hb dX7_deadEnds_73 (lv_at hl 0 rfl) ?_
    refine lv_ishr hx hb dX7_deadEnds_75 ?_
    refine zo_i (v := 0) (by decide) ?_
    refine lv_iconst (v := 1) hx hb dX7_deadEnds_76 (by decide) ?_
    refine lv_iand hx hb dX7_deadEnds_77 ?_
    refine zo_i (v := 0) (by decide) ?_
    refine lv_iconst (v := 1) hx hb dX7_deadEnds_78 (by decide) ?_
    refine lv_icmp_ne (tgt := 99) hx hb dX7_deadEnds_79 (by decide) (fun _ => ?_) (fun h => absurd h (by decide))
    refine lv_iinc (v := 10) (lv' := [(7, .int 10), (6, .int 0), (5, .int 0), (4, .int 0), (3, .ref q6), (2, .ref r4), (1, .int 0), (0, .ref mr)]) hx hb dX7_deadEnds_99 hl (k := 0) rfl (by decide) (by decide) rfl (fun ls hl => ?_)
    refine lv_goto (tgt := 64) hx hb dX7_deadEnds_102 (by decide) ?_
    refine lv_iload hx hb dX7_deadEnds_64 (lv_at hl 0 rfl) ?_
    refine lv_bipush (v := 10) hx hb dX7_deadEnds_66 (by decide) ?_
    refine lv_icmp_ge (tgt := 105) hx hb dX7_deadEnds_68 (by decide) (fun _ => ?_) (fun h => absurd h (by decide))
    refine lv_iload hx hb dX7_deadEnds_105 (lv_at hl 3 rfl) ?_
    refine lv_aload_n hx hb dX7_deadEnds_107 rfl (lv_at hl 4 rfl) ?_
    refine lv_iload hx hb dX7_deadEnds_108 (lv_at hl 2 rfl) ?_
    refine va_zald hx hb hK hP 1 1 rfl rfl (by unfold vp_in; decide) dX7_deadEnds_110 ?_
    refine zo_i (v := 0) (by rw [show Int32.toNatClampNeg 0 = 0 from by decide]; exact k14) ?_
    refine lv_if_eq (tgt := 118) hx hb dX7_deadEnds_111 (by decide) (fun _ => ?_) (fun h => absurd h (by decide))
    refine lv_iconst (v := 1) hx hb dX7_deadEnds_118 (by decide) ?_
    refine lv_iadd hx hb dX7_deadEnds_119 ?_
    refine zo_i (v := 1) (by decide) ?_
    refine lv_istore (lv' := [(4, .int 1), (7, .int 10), (6, .int 0), (5, .int 0), (3, .ref q6), (2, .ref r4), (1, .int 0), (0, .ref mr)]) hx hb dX7_deadEnds_120 hl (by decide) rfl (fun ls hl => ?_)
    refine lv_iinc (v := (-1)) (lv' := [(5, .int (-1)), (4, .int 1), (7, .int 10), (6, .int 0), (3, .ref q6), (2, .ref r4), (1, .int 0), (0, .ref mr)]) hx hb dX7_deadEnds_122 hl (k := 3) rfl (by decide) (by decide) rfl (fun ls hl => ?_)
    refine lv_goto (tgt := 26) hx hb dX7_deadEnds_125 (by decide) ?_
    refine lv_iload hx hb dX7_deadEnds_26 (lv_at hl 0 rfl) ?_
    refine lv_if_lt (tgt := 128) hx hb dX7_deadEnds_28 (by decide) (fun _ => ?_) (fun h => absurd h (by decide))
    refine lv_iload hx hb dX7_deadEnds_128 (lv_at hl 1 rfl) ?_
    refine W.widen (k := 2) (n := 2048) (Nat.le_of_ble_eq_true rfl) (Nat.le_of_ble_eq_true rfl) ?_
    exact W.iret hx hb hr (fun t ht hW => ⟨⟨1, (), rfl, rfl, trivial⟩, hS.F ht⟩) hS.2.2 dX7_deadEnds_130

set_option maxRecDepth 20000 in
theorem zi_X7_bestHint_X7 : ∀ w ∈ u_ws RX7 TX7 14, w ∈ wsX7_bestHint := by decide +kernel
set_option maxHeartbeats 4000000 in
set_option maxRecDepth 100000 in
theorem cz_bestHint7 (l : Launch) (dC : Nat → ClassId) (dI : Nat → Nat → Nat) (ed sz : Nat) (mr : Nat) (ll : Nat) (lt : Nat) (lp : Nat) : Met l yX7_bestHint wsX7_bestHint ({ frames := 1, cells := 0, slots := 0, locals := 20 } : Jvm.Room) (va_Pc [.ref mr] (zB dC dI ed sz [(mr, .inr (9, [.ref ll, .ref lt, .ref lp, .int (-1), .int 0, .int 0, .int 0, .int 0, .int 0, .int 0, .int (-1), .int 0, .int 0, .int 0])), (ll, .inr (1, [.int 0, .ref ed, .int 0])), (lt, .inr (1, [.int 0, .ref ed, .int 0])), (lp, .inr (1, [.int 0, .ref ed, .int 0]))] [] [])) (va_Qi (fun (r : Int32) (_ : Unit) => r = (-1)) (fun (_ : Unit) (_ : State) => True) (va_A [] sz)) 0 0 (va_A [] sz) := by
  refine Met.ofW (cc := cX7_bestHint) (maxL := 5) (ret := (some .int)) (by decide) rfl ?_
  intro p e s m args below meth c s₁ B hml hv
  obtain ⟨rfl, hsz, hR0, hP, hK, hD0, hN, hH, hX0⟩ := hv
  have hx := B.exec
  have hb := B.bytes
  have hr := B.returns
  have hts := atoms_spec (ws := wsX7_bestHint) B.pre
  have hown : s.vm.findClass RX7 = some m.cls := findClass_of_methodNamed B.named
  have hlocks := B.notSynchronized
  subst hsz
  have hD := hD0.self (sz := s.heap.size)
  have hAr := zx_A hX0 hR0
  generalize hAe : va_A [] s.heap.size = A at hD hAr hH ⊢
  have hA : ∀ q : Nat, s.heap.size ≤ q → A q := fun q h => by rw [← hAe]; exact Or.inr h
  have hS : va_S A s.heap s.heap [] := va_S.rf
  have hl := lv_entry ([.ref mr]) (n := 5) (Nat.le_of_ble_eq_true rfl)
  rw [lg_entry_eq]
  generalize (lg_sl ([.ref mr]) ++ List.replicate (5 - (lg_sl ([.ref mr])).length) Slot.unset).toArray = ls at hl ⊢
  have hl : lv_has ls 5 [(0, .ref mr)] := hl
  refine lv_iconst (v := (-1)) hx hb dX7_bestHint_0 (by decide) ?_
  refine lv_istore_n (lv' := [(1, .int (-1)), (0, .ref mr)]) hx hb dX7_bestHint_1 rfl hl (by decide) rfl (fun ls hl => ?_)
  refine lv_iconst (v := 0) hx hb dX7_bestHint_2 (by decide) ?_
  refine lv_istore_n (lv' := [(2, .int 0), (1, .int (-1)), (0, .ref mr)]) hx hb dX7_bestHint_3 rfl hl (by decide) rfl (fun ls hl => ?_)
  refine lv_iconst (v := 0) hx hb dX7_bestHint_4 (by decide) ?_
  refine lv_istore_n (lv' := [(3, .int 0), (2, .int 0), (1, .int (-1)), (0, .ref mr)]) hx hb dX7_bestHint_5 rfl hl (by decide) rfl (fun ls hl => ?_)
  refine lv_iload_n hx hb dX7_bestHint_6 rfl (lv_at hl 0 rfl) ?_
  refine lv_aload_n hx hb dX7_bestHint_7 rfl (lv_at hl 3 rfl) ?_
  refine va_get (D := (dC, dI)) (ci := 9) (v := .ref ll) (C := RX7) (T := TX7) (N := 14) hx hb hts zi_X7_bestHint_X7 hown hK hR0 0 rfl rfl 0 (by decide) (hts (.fieldLink RX7 12 "LockRoomsModel$Room" "locks" "Ljava/util/ArrayList;") (by decide +kernel)) (fun _ h9 => h9) rfl dX7_bestHint_8 ?_
  have hPr := (hR0).sub (ws' := [(ll, .inr (1, [.int 0, .ref ed, .int 0]))]) [1] rfl
  have hPc := hP.sub (ws' := []) [] rfl
  have hDc := hD.sub (ws' := []) [] (by decide) rfl
  have hKc := hK.sub (tys' := []) [] rfl
  have hFc := va_free (wc := []) hD hS hA [] rfl
  refine va_calli (va_runV (As := []) (rest := [.int 0]) ⟨hx, hb, hml, hown, hts⟩ (cz_size0 l dC dI ed s.heap.size ll) (cwV 0 hts gX7_bestHint_Jx4a65c_size_8abf5 rfl rfl rfl (by decide +kernel) ⟨Nat.le_of_ble_eq_true rfl, Nat.le_of_ble_eq_true rfl⟩) ⟨zb_blind, va_recv hK hR0 (ci := 1) (q0 := 1) rfl rfl, fun U hU hW => ⟨rfl, zb_mk hU hW hPr hPc hKc hDc hN hH hS hFc zx_e⟩⟩ rfl rfl hl.1 rfl (lv_room (Nat.le_of_ble_eq_true rfl)) dX7_bestHint_11 ⟨Nat.le_of_ble_eq_true rfl, Nat.le_of_ble_eq_true rfl⟩) hS (fun q _ h => hFc q h) hFc (fun r2 u t H1 locs ht hvm hw hB hz1 hk1 hS => ?_)
  obtain rfl : r2 = 0 := hw
  have hP := zo_K hP hk1
  refine lv_icmp_ge (tgt := 78) hx hb dX7_bestHint_14 (by decide) (fun _ => ?_) (fun h => absurd h (by decide))
  refine lv_iload_n hx hb dX7_bestHint_78 rfl (lv_at hl 2 rfl) ?_
  refine W.widen (k := 0) (n := 0) (Nat.le_of_ble_eq_true rfl) (Nat.le_of_ble_eq_true rfl) ?_
  exact W.iret hx hb hr (fun t ht hW => ⟨⟨(-1), (), rfl, rfl, trivial⟩, hS.F ht⟩) hS.2.2 dX7_bestHint_79


theorem zggL_law_L_thing : GoodIn wsL_law zwsL_thing := goodIn_app ggL_law_L_thing (goodIn_of _ (by decide +kernel))
theorem zgL_law_L_thing : GoodIn wsL_law (va_wsS RL 83 yL_thing zwsL_thing) := goodIn_app (goodIn_of _ (by decide +kernel)) zggL_law_L_thing
theorem zo_lc (x : Int64) : lg_cmp x x = 0 := by unfold lg_cmp; simp
set_option maxHeartbeats 40000000 in
set_option maxRecDepth 100000 in
theorem whole_start {p : Program} {e : Env} {s : State} {m : MethodId} {below : List Frame} {meth : Method} {c : Code} (l : Launch) (hflags : l.flags = flags0) {b L : Nat} {xs : Nat → Int32} (hL : L ≤ 6) (C0 : lw_At p s m meth c b L xs) : W p l e room_1 s m #[Value.ref b] below meth c s.heap [] 0 0 (lw_Z below #[Value.ref b] s) (entryFrame m ([Value.ref b] : List Value).toArray 9) := by
  obtain ⟨hx, hb, hr, hml, hown, hts0, hX, hbl, hlocks, hgv⟩ := id C0
  have htr : l.stackTraces = false := by unfold Launch.stackTraces; rw [hflags]; decide
  obtain ⟨A, hAe⟩ : ∃ A : Nat → Prop, A = fun q : Nat => s.heap.size ≤ q := ⟨_, rfl⟩
  have hA : ∀ q : Nat, s.heap.size ≤ q → A q := fun q h => by rw [hAe]; exact h
  have hbA : ¬ A b := by rw [hAe]; exact Nat.not_le.mpr hbl
  have hgv0 := flat_of_before _ hgv
  have hN0 := zv_N hts0 hgv0
  obtain ⟨ed, hH0⟩ := zv_H (A := A) hts0 hgv0 (fun a h => by rw [hAe]; exact Nat.not_le.mpr h)
  obtain ⟨c0, iS0, hKn0⟩ := u_known (C := RJx35411) (T := TJx35411) (N := 4) (n := 4) hts0 inJx35411 (hts0 (.instantiable RJx35411 4) (by decide +kernel))
  obtain ⟨c1, iS1, hKn1⟩ := u_known (C := RJx4a65c) (T := TJx4a65c) (N := 3) (n := 3) hts0 inJx4a65c (hts0 (.instantiable RJx4a65c 3) (by decide +kernel))
  obtain ⟨c2, iS2, hKn2⟩ := u_known (C := RX0) (T := TX0) (N := 7) (n := 7) hts0 inX0 (hts0 (.instantiable RX0 7) (by decide +kernel))
  obtain ⟨c3, iS3, hKn3⟩ := u_known (C := RX1) (T := TX1) (N := 10) (n := 10) hts0 inX1 (hts0 (.instantiable RX1 10) (by decide +kernel))
  obtain ⟨c4, iS4, hKn4⟩ := u_known (C := RX2) (T := TX2) (N := 4) (n := 4) hts0 inX2 (hts0 (.instantiable RX2 4) (by decide +kernel))
  obtain ⟨c5, iS5, hKn5⟩ := u_known (C := RX3) (T := TX3) (N := 12) (n := 12) hts0 inX3 (hts0 (.instantiable RX3 12) (by decide +kernel))
  obtain ⟨c6, iS6, hKn6⟩ := u_known (C := RX4) (T := TX4) (N := 3) (n := 3) hts0 inX4 (hts0 (.instantiable RX4 3) (by decide +kernel))
  obtain ⟨c7, iS7, hKn7⟩ := u_known (C := RX5) (T := TX5) (N := 5) (n := 5) hts0 inX5 (hts0 (.instantiable RX5 5) (by decide +kernel))
  obtain ⟨c8, iS8, hKn8⟩ := u_known (C := RX6) (T := TX6) (N := 3) (n := 3) hts0 inX6 (hts0 (.instantiable RX6 3) (by decide +kernel))
  obtain ⟨c9, iS9, hKn9⟩ := u_known (C := RX7) (T := TX7) (N := 14) (n := 14) hts0 inX7 (hts0 (.instantiable RX7 14) (by decide +kernel))
  obtain ⟨c10, iS10, hKn10⟩ := u_known (C := RX8) (T := TX8) (N := 4) (n := 4) hts0 inX8 (hts0 (.instantiable RX8 4) (by decide +kernel))
  obtain ⟨dC, dI, hKc⟩ : ∃ (dC : Nat → ClassId) (dI : Nat → Nat → Nat), ∀ (k : Nat) (q : vw_C), vwCl[k]? = some q → u_Kn s q.1 q.2.1 q.2.2 (dC k) (dI k) := by
    refine ⟨fun k => if k = 0 then c0 else if k = 1 then c1 else if k = 2 then c2 else if k = 3 then c3 else if k = 4 then c4 else if k = 5 then c5 else if k = 6 then c6 else if k = 7 then c7 else if k = 8 then c8 else if k = 9 then c9 else c10, fun k => if k = 0 then iS0 else if k = 1 then iS1 else if k = 2 then iS2 else if k = 3 then iS3 else if k = 4 then iS4 else if k = 5 then iS5 else if k = 6 then iS6 else if k = 7 then iS7 else if k = 8 then iS8 else if k = 9 then iS9 else iS10, ?_⟩
    intro k q hq
    match k, hq with
    | 0, hq => cases hq; exact hKn0
    | 1, hq => cases hq; exact hKn1
    | 2, hq => cases hq; exact hKn2
    | 3, hq => cases hq; exact hKn3
    | 4, hq => cases hq; exact hKn4
    | 5, hq => cases hq; exact hKn5
    | 6, hq => cases hq; exact hKn6
    | 7, hq => cases hq; exact hKn7
    | 8, hq => cases hq; exact hKn8
    | 9, hq => cases hq; exact hKn9
    | 10, hq => cases hq; exact hKn10
    | k + 11, hq => simp [vwCl] at hq
  refine W.base ?_
  have hd0 := Drawn.sameBut.refl s.drawn lw_cs
  have hts : ∀ w ∈ wsL_law, w.before #[Value.ref b] (s.setDrawn s.drawn) = true := dr_words (fun w h => hts0 w (wsL_law_in w h)) _
  have hN : zN (s.setDrawn s.drawn) := hN0.same rfl
  have hH : zH ed A (s.setDrawn s.drawn) s.heap := zH.moved (Vm.Alike.refl _) hH0
  have hX : va_X b L xs (s.setDrawn s.drawn) s.heap := va_X.moved (Vm.Alike.refl _) hX
  have hS : va_S A s.heap s.heap [] := va_S.rf
  have hK : va_K (dC, dI) vwCl [] (s.setDrawn s.drawn) := va_K.moved (Vm.Alike.refl _) (show va_K (dC, dI) vwCl [] s from ⟨hKc, fun k q h => by simp at h⟩)
  have hP : va_P (dC, dI) vwCl [] s.heap := fun k q h => by simp at h
  have hD : va_D A [] := zo_Dnil
  have hl := lv_entry ([.ref b]) (n := 9) (Nat.le_of_ble_eq_true rfl)
  rw [lg_entry_eq]
  generalize (lg_sl ([.ref b]) ++ List.replicate (9 - (lg_sl ([.ref b])).length) Slot.unset).toArray = ls at hl ⊢
  have hl : lv_has ls 9 [(0, .ref b)] := hl
  refine va_new (ci := 8) (fs := [.null, .null, .null]) (C := RX6) (T := TX6) (N := 3) hx hb hts inlX6 tyX6 tyX6_ok hown (hts (.classLink RL 8 RX6) (by decide +kernel)) (hts (.instantiable RX6 3) (by decide +kernel)) (hts (.initialized RX6) (by decide +kernel)) hK hP hD hS hA rfl (fun j hj => by rcases (show j = 0 ∨ j = 1 ∨ j = 2 by omega) with rfl | rfl | rfl <;> rfl) (Nat.le_of_ble_eq_true rfl) (Nat.le_of_ble_eq_true rfl) dL_law_0 (fun q1 H2 hP hD hS => ?_)
  have hP : va_P (dC, dI) vwCl [(q1, .inr (8, [.null, .null, .null]))] H2 := hP
  have hD : va_D A [(q1, .inr (8, [.null, .null, .null]))] := hD
  refine lv_dup hx hb dL_law_3 rfl ?_
  have hPr := (zo_nil : va_P (dC, dI) vwCl [] H2)
  have hPc := hP.sub (ws' := [(q1, .inr (8, [.null, .null, .null]))]) [0] rfl
  have hDc := hD.sub (ws' := [(q1, .inr (8, [.null, .null, .null]))]) [0] (by decide) rfl
  have hKc := hK.sub (tys' := []) [] rfl
  have hFc := va_free (wc := [(q1, .inr (8, [.null, .null, .null]))]) hD hS hA [0] rfl
  refine va_callv (va_runI (As := []) (rest := [.ref q1]) ⟨hx, hb, hml, hown, hts⟩ (cz_X6_init l dC dI ed H2.size q1) (cwI 0 hts gL_law_X6_init rfl rfl rfl (hts (.initialized RX6) (by decide +kernel)) (hts (.methodLink RL 70 yX6_init) (by decide +kernel)) (hts (.instanceMethod yX6_init) (by decide +kernel)) rfl (by decide +kernel) ⟨Nat.le_of_ble_eq_true rfl, Nat.le_of_ble_eq_true rfl⟩) ⟨zb_blind, fun U hU hW => ⟨rfl, zb_mk hU hW hPr hPc hKc hDc hN hH hS hFc zx_nil⟩⟩ rfl rfl hl.1 rfl (lv_room (Nat.le_of_ble_eq_true rfl)) dL_law_4 ⟨Nat.le_of_ble_eq_true rfl, Nat.le_of_ble_eq_true rfl⟩) hS (fun q _ h => hFc q h) hFc (fun u t H3 locs ht hvm hw hB hz1 hk1 hS => ?_)
  obtain ⟨rm_5, tr_5, st_5, lk_5, th_5, pl_5, gm_5, cL_5, cT_5, cP_5, fl_5, ft_5, fp_5, l0_5, t0_5, p0_5, a1_5, a2_5, a3_5, cZ_5, cI_5, cJ_5, f1_5, f2_5, f3_5, ⟨k5_0, k5_1, k5_2⟩, hP1, hD1, hK1⟩ := hB
  rw [ht] at hP1
  obtain ⟨hP, hD⟩ := va_join (wr := []) (w1 := [(q1, .inr (8, [.ref rm_5, .ref tr_5, .ref st_5])), (rm_5, .inr (5, [.ref lk_5, .ref th_5, .ref pl_5, .ref gm_5, .int 0, .int 0, .int 0, .int (-1), .int 1, .int 0, .int 0, .int 0])), (lk_5, .inl (cL_5, 10, .inr (.inr (.inr (.inr fl_5))))), (th_5, .inl (cT_5, 12, .inr (.inr (.inr (.inr ft_5))))), (pl_5, .inl (cP_5, 6, .inr (.inr (.inr (.inr fp_5))))), (gm_5, .inr (2, [.int 0, .int 0, .int 0, .int 0, .int 0, .int (-1), .long 0])), (l0_5, .inr (3, [.int 0, .int 0, .int 0, .int 0, .int 0, .int 0, .int 0, .int 0, .int 0, .int 0])), (t0_5, .inr (7, [.int 0, .int 0, .int 0, .int 0, .int 0])), (p0_5, .inr (4, [.int 0, .int 0, .int 0, .int 0])), (st_5, .inr (6, [.ref a1_5, .ref a2_5, .ref a3_5])), (a1_5, .inl (cZ_5, 1024, .inl f1_5)), (a2_5, .inl (cI_5, 1024, .inl f2_5)), (a3_5, .inl (cJ_5, 1024, .inl f3_5))]) hP hD [0] [] rfl rfl (by decide) (by decide) hk1 hFc hP1 hD1
  have hP : va_P (dC, dI) vwCl [(q1, .inr (8, [.ref rm_5, .ref tr_5, .ref st_5])), (rm_5, .inr (5, [.ref lk_5, .ref th_5, .ref pl_5, .ref gm_5, .int 0, .int 0, .int 0, .int (-1), .int 1, .int 0, .int 0, .int 0])), (lk_5, .inl (cL_5, 10, .inr (.inr (.inr (.inr fl_5))))), (th_5, .inl (cT_5, 12, .inr (.inr (.inr (.inr ft_5))))), (pl_5, .inl (cP_5, 6, .inr (.inr (.inr (.inr fp_5))))), (gm_5, .inr (2, [.int 0, .int 0, .int 0, .int 0, .int 0, .int (-1), .long 0])), (l0_5, .inr (3, [.int 0, .int 0, .int 0, .int 0, .int 0, .int 0, .int 0, .int 0, .int 0, .int 0])), (t0_5, .inr (7, [.int 0, .int 0, .int 0, .int 0, .int 0])), (p0_5, .inr (4, [.int 0, .int 0, .int 0, .int 0])), (st_5, .inr (6, [.ref a1_5, .ref a2_5, .ref a3_5])), (a1_5, .inl (cZ_5, 1024, .inl f1_5)), (a2_5, .inl (cI_5, 1024, .inl f2_5)), (a3_5, .inl (cJ_5, 1024, .inl f3_5))] H3 := hP
  have hD : va_D A [(q1, .inr (8, [.ref rm_5, .ref tr_5, .ref st_5])), (rm_5, .inr (5, [.ref lk_5, .ref th_5, .ref pl_5, .ref gm_5, .int 0, .int 0, .int 0, .int (-1), .int 1, .int 0, .int 0, .int 0])), (lk_5, .inl (cL_5, 10, .inr (.inr (.inr (.inr fl_5))))), (th_5, .inl (cT_5, 12, .inr (.inr (.inr (.inr ft_5))))), (pl_5, .inl (cP_5, 6, .inr (.inr (.inr (.inr fp_5))))), (gm_5, .inr (2, [.int 0, .int 0, .int 0, .int 0, .int 0, .int (-1), .long 0])), (l0_5, .inr (3, [.int 0, .int 0, .int 0, .int 0, .int 0, .int 0, .int 0, .int 0, .int 0, .int 0])), (t0_5, .inr (7, [.int 0, .int 0, .int 0, .int 0, .int 0])), (p0_5, .inr (4, [.int 0, .int 0, .int 0, .int 0])), (st_5, .inr (6, [.ref a1_5, .ref a2_5, .ref a3_5])), (a1_5, .inl (cZ_5, 1024, .inl f1_5)), (a2_5, .inl (cI_5, 1024, .inl f2_5)), (a3_5, .inl (cJ_5, 1024, .inl f3_5))] := hD
  have hK := hK.app (va_K.moved hvm.symm hK1)
  have hK : va_K (dC, dI) vwCl [(cL_5, .object "LockRooms$Lock"), (cT_5, .object "LockRooms$Thing"), (cP_5, .object "LockRooms$Player"), (cZ_5, .boolean), (cI_5, .int), (cJ_5, .int)] (s.setDrawn s.drawn) := hK
  refine lv_astore_n (lv' := [(1, .ref q1), (0, .ref b)]) hx hb dL_law_7 rfl hl (by decide) rfl (fun ls hl => ?_)
  refine va_new (ci := 10) (fs := [.int 0, .null, .int 0, .long 0]) (C := RX8) (T := TX8) (N := 4) hx hb hts inlX8 tyX8 tyX8_ok hown (hts (.classLink RL 71 RX8) (by decide +kernel)) (hts (.instantiable RX8 4) (by decide +kernel)) (hts (.initialized RX8) (by decide +kernel)) hK hP hD hS hA rfl (fun j hj => by rcases (show j = 0 ∨ j = 1 ∨ j = 2 ∨ j = 3 by omega) with rfl | rfl | rfl | rfl <;> rfl) (Nat.le_of_ble_eq_true rfl) (Nat.le_of_ble_eq_true rfl) dL_law_8 (fun q6 H7 hP hD hS => ?_)
  have hP : va_P (dC, dI) vwCl [(q1, .inr (8, [.ref rm_5, .ref tr_5, .ref st_5])), (rm_5, .inr (5, [.ref lk_5, .ref th_5, .ref pl_5, .ref gm_5, .int 0, .int 0, .int 0, .int (-1), .int 1, .int 0, .int 0, .int 0])), (lk_5, .inl (cL_5, 10, .inr (.inr (.inr (.inr fl_5))))), (th_5, .inl (cT_5, 12, .inr (.inr (.inr (.inr ft_5))))), (pl_5, .inl (cP_5, 6, .inr (.inr (.inr (.inr fp_5))))), (gm_5, .inr (2, [.int 0, .int 0, .int 0, .int 0, .int 0, .int (-1), .long 0])), (l0_5, .inr (3, [.int 0, .int 0, .int 0, .int 0, .int 0, .int 0, .int 0, .int 0, .int 0, .int 0])), (t0_5, .inr (7, [.int 0, .int 0, .int 0, .int 0, .int 0])), (p0_5, .inr (4, [.int 0, .int 0, .int 0, .int 0])), (st_5, .inr (6, [.ref a1_5, .ref a2_5, .ref a3_5])), (a1_5, .inl (cZ_5, 1024, .inl f1_5)), (a2_5, .inl (cI_5, 1024, .inl f2_5)), (a3_5, .inl (cJ_5, 1024, .inl f3_5)), (q6, .inr (10, [.int 0, .null, .int 0, .long 0]))] H7 := hP
  have hD : va_D A [(q1, .inr (8, [.ref rm_5, .ref tr_5, .ref st_5])), (rm_5, .inr (5, [.ref lk_5, .ref th_5, .ref pl_5, .ref gm_5, .int 0, .int 0, .int 0, .int (-1), .int 1, .int 0, .int 0, .int 0])), (lk_5, .inl (cL_5, 10, .inr (.inr (.inr (.inr fl_5))))), (th_5, .inl (cT_5, 12, .inr (.inr (.inr (.inr ft_5))))), (pl_5, .inl (cP_5, 6, .inr (.inr (.inr (.inr fp_5))))), (gm_5, .inr (2, [.int 0, .int 0, .int 0, .int 0, .int 0, .int (-1), .long 0])), (l0_5, .inr (3, [.int 0, .int 0, .int 0, .int 0, .int 0, .int 0, .int 0, .int 0, .int 0, .int 0])), (t0_5, .inr (7, [.int 0, .int 0, .int 0, .int 0, .int 0])), (p0_5, .inr (4, [.int 0, .int 0, .int 0, .int 0])), (st_5, .inr (6, [.ref a1_5, .ref a2_5, .ref a3_5])), (a1_5, .inl (cZ_5, 1024, .inl f1_5)), (a2_5, .inl (cI_5, 1024, .inl f2_5)), (a3_5, .inl (cJ_5, 1024, .inl f3_5)), (q6, .inr (10, [.int 0, .null, .int 0, .long 0]))] := hD
  refine lv_dup hx hb dL_law_11 rfl ?_
  have hPr := (zo_nil : va_P (dC, dI) vwCl [] H7)
  have hPc := hP.sub (ws' := [(q6, .inr (10, [.int 0, .null, .int 0, .long 0]))]) [13] rfl
  have hDc := hD.sub (ws' := [(q6, .inr (10, [.int 0, .null, .int 0, .long 0]))]) [13] (by decide) rfl
  have hKc := hK.sub (tys' := []) [] rfl
  have hFc := va_free (wc := [(q6, .inr (10, [.int 0, .null, .int 0, .long 0]))]) hD hS hA [13] rfl
  refine va_callv (va_runI (As := []) (rest := [.ref q6]) ⟨hx, hb, hml, hown, hts⟩ (cz_X8_init l dC dI ed H7.size q6) (cwI 0 hts gL_law_X8_init rfl rfl rfl (hts (.initialized RX8) (by decide +kernel)) (hts (.methodLink RL 73 yX8_init) (by decide +kernel)) (hts (.instanceMethod yX8_init) (by decide +kernel)) rfl (by decide +kernel) ⟨Nat.le_of_ble_eq_true rfl, Nat.le_of_ble_eq_true rfl⟩) ⟨zb_blind, fun U hU hW => ⟨rfl, zb_mk hU hW hPr hPc hKc hDc hN hH hS hFc zx_nil⟩⟩ rfl rfl hl.1 rfl (lv_room (Nat.le_of_ble_eq_true rfl)) dL_law_12 ⟨Nat.le_of_ble_eq_true rfl, Nat.le_of_ble_eq_true rfl⟩) hS (fun q _ h => hFc q h) hFc (fun u t H8 locs ht hvm hw hB hz1 hk1 hS => ?_)
  obtain ⟨mr_10, ll_10, lt_10, lp_10, hP1, hD1, hK1⟩ := hB
  rw [ht] at hP1
  obtain ⟨hP, hD⟩ := va_join (wr := [(q1, .inr (8, [.ref rm_5, .ref tr_5, .ref st_5])), (rm_5, .inr (5, [.ref lk_5, .ref th_5, .ref pl_5, .ref gm_5, .int 0, .int 0, .int 0, .int (-1), .int 1, .int 0, .int 0, .int 0])), (lk_5, .inl (cL_5, 10, .inr (.inr (.inr (.inr fl_5))))), (th_5, .inl (cT_5, 12, .inr (.inr (.inr (.inr ft_5))))), (pl_5, .inl (cP_5, 6, .inr (.inr (.inr (.inr fp_5))))), (gm_5, .inr (2, [.int 0, .int 0, .int 0, .int 0, .int 0, .int (-1), .long 0])), (l0_5, .inr (3, [.int 0, .int 0, .int 0, .int 0, .int 0, .int 0, .int 0, .int 0, .int 0, .int 0])), (t0_5, .inr (7, [.int 0, .int 0, .int 0, .int 0, .int 0])), (p0_5, .inr (4, [.int 0, .int 0, .int 0, .int 0])), (st_5, .inr (6, [.ref a1_5, .ref a2_5, .ref a3_5])), (a1_5, .inl (cZ_5, 1024, .inl f1_5)), (a2_5, .inl (cI_5, 1024, .inl f2_5)), (a3_5, .inl (cJ_5, 1024, .inl f3_5))]) (w1 := [(q6, .inr (10, [.int 0, .ref mr_10, .int 1, .long 0])), (mr_10, .inr (9, [.ref ll_10, .ref lt_10, .ref lp_10, .int (-1), .int 0, .int 0, .int 0, .int 0, .int 0, .int 0, .int (-1), .int 0, .int 0, .int 0])), (ll_10, .inr (1, [.int 0, .ref ed, .int 0])), (lt_10, .inr (1, [.int 0, .ref ed, .int 0])), (lp_10, .inr (1, [.int 0, .ref ed, .int 0]))]) hP hD [13] [0, 1, 2, 3, 4, 5, 6, 7, 8, 9, 10, 11, 12] rfl rfl (by decide) (by decide) hk1 hFc hP1 hD1
  have hP : va_P (dC, dI) vwCl [(q1, .inr (8, [.ref rm_5, .ref tr_5, .ref st_5])), (rm_5, .inr (5, [.ref lk_5, .ref th_5, .ref pl_5, .ref gm_5, .int 0, .int 0, .int 0, .int (-1), .int 1, .int 0, .int 0, .int 0])), (lk_5, .inl (cL_5, 10, .inr (.inr (.inr (.inr fl_5))))), (th_5, .inl (cT_5, 12, .inr (.inr (.inr (.inr ft_5))))), (pl_5, .inl (cP_5, 6, .inr (.inr (.inr (.inr fp_5))))), (gm_5, .inr (2, [.int 0, .int 0, .int 0, .int 0, .int 0, .int (-1), .long 0])), (l0_5, .inr (3, [.int 0, .int 0, .int 0, .int 0, .int 0, .int 0, .int 0, .int 0, .int 0, .int 0])), (t0_5, .inr (7, [.int 0, .int 0, .int 0, .int 0, .int 0])), (p0_5, .inr (4, [.int 0, .int 0, .int 0, .int 0])), (st_5, .inr (6, [.ref a1_5, .ref a2_5, .ref a3_5])), (a1_5, .inl (cZ_5, 1024, .inl f1_5)), (a2_5, .inl (cI_5, 1024, .inl f2_5)), (a3_5, .inl (cJ_5, 1024, .inl f3_5)), (q6, .inr (10, [.int 0, .ref mr_10, .int 1, .long 0])), (mr_10, .inr (9, [.ref ll_10, .ref lt_10, .ref lp_10, .int (-1), .int 0, .int 0, .int 0, .int 0, .int 0, .int 0, .int (-1), .int 0, .int 0, .int 0])), (ll_10, .inr (1, [.int 0, .ref ed, .int 0])), (lt_10, .inr (1, [.int 0, .ref ed, .int 0])), (lp_10, .inr (1, [.int 0, .ref ed, .int 0]))] H8 := hP
  have hD : va_D A [(q1, .inr (8, [.ref rm_5, .ref tr_5, .ref st_5])), (rm_5, .inr (5, [.ref lk_5, .ref th_5, .ref pl_5, .ref gm_5, .int 0, .int 0, .int 0, .int (-1), .int 1, .int 0, .int 0, .int 0])), (lk_5, .inl (cL_5, 10, .inr (.inr (.inr (.inr fl_5))))), (th_5, .inl (cT_5, 12, .inr (.inr (.inr (.inr ft_5))))), (pl_5, .inl (cP_5, 6, .inr (.inr (.inr (.inr fp_5))))), (gm_5, .inr (2, [.int 0, .int 0, .int 0, .int 0, .int 0, .int (-1), .long 0])), (l0_5, .inr (3, [.int 0, .int 0, .int 0, .int 0, .int 0, .int 0, .int 0, .int 0, .int 0, .int 0])), (t0_5, .inr (7, [.int 0, .int 0, .int 0, .int 0, .int 0])), (p0_5, .inr (4, [.int 0, .int 0, .int 0, .int 0])), (st_5, .inr (6, [.ref a1_5, .ref a2_5, .ref a3_5])), (a1_5, .inl (cZ_5, 1024, .inl f1_5)), (a2_5, .inl (cI_5, 1024, .inl f2_5)), (a3_5, .inl (cJ_5, 1024, .inl f3_5)), (q6, .inr (10, [.int 0, .ref mr_10, .int 1, .long 0])), (mr_10, .inr (9, [.ref ll_10, .ref lt_10, .ref lp_10, .int (-1), .int 0, .int 0, .int 0, .int 0, .int 0, .int 0, .int (-1), .int 0, .int 0, .int 0])), (ll_10, .inr (1, [.int 0, .ref ed, .int 0])), (lt_10, .inr (1, [.int 0, .ref ed, .int 0])), (lp_10, .inr (1, [.int 0, .ref ed, .int 0]))] := hD
  refine lv_astore_n (lv' := [(2, .ref q6), (1, .ref q1), (0, .ref b)]) hx hb dL_law_15 rfl hl (by decide) rfl (fun ls hl => ?_)
  refine lv_iconst (v := 1) hx hb dL_law_16 (by decide) ?_
  refine va_newa (atype := .long) (a0 := (1, .inr (.inl (fun _ => 0)))) hx hb (hts (.arrayClass .long) (by decide +kernel)) rfl hK hP hD hS hA (fun cA => rfl) (by decide) (N' := 1) (by decide) (by decide) (Nat.le_of_ble_eq_true rfl) (Nat.le_of_ble_eq_true rfl) dL_law_17 (fun q11 cA13 H12 hK hP hD hS => ?_)
  have hP : va_P (dC, dI) vwCl [(q1, .inr (8, [.ref rm_5, .ref tr_5, .ref st_5])), (rm_5, .inr (5, [.ref lk_5, .ref th_5, .ref pl_5, .ref gm_5, .int 0, .int 0, .int 0, .int (-1), .int 1, .int 0, .int 0, .int 0])), (lk_5, .inl (cL_5, 10, .inr (.inr (.inr (.inr fl_5))))), (th_5, .inl (cT_5, 12, .inr (.inr (.inr (.inr ft_5))))), (pl_5, .inl (cP_5, 6, .inr (.inr (.inr (.inr fp_5))))), (gm_5, .inr (2, [.int 0, .int 0, .int 0, .int 0, .int 0, .int (-1), .long 0])), (l0_5, .inr (3, [.int 0, .int 0, .int 0, .int 0, .int 0, .int 0, .int 0, .int 0, .int 0, .int 0])), (t0_5, .inr (7, [.int 0, .int 0, .int 0, .int 0, .int 0])), (p0_5, .inr (4, [.int 0, .int 0, .int 0, .int 0])), (st_5, .inr (6, [.ref a1_5, .ref a2_5, .ref a3_5])), (a1_5, .inl (cZ_5, 1024, .inl f1_5)), (a2_5, .inl (cI_5, 1024, .inl f2_5)), (a3_5, .inl (cJ_5, 1024, .inl f3_5)), (q6, .inr (10, [.int 0, .ref mr_10, .int 1, .long 0])), (mr_10, .inr (9, [.ref ll_10, .ref lt_10, .ref lp_10, .int (-1), .int 0, .int 0, .int 0, .int 0, .int 0, .int 0, .int (-1), .int 0, .int 0, .int 0])), (ll_10, .inr (1, [.int 0, .ref ed, .int 0])), (lt_10, .inr (1, [.int 0, .ref ed, .int 0])), (lp_10, .inr (1, [.int 0, .ref ed, .int 0])), (q11, .inl (cA13, 1, .inr (.inl (fun _ => 0))))] H12 := hP
  have hD : va_D A [(q1, .inr (8, [.ref rm_5, .ref tr_5, .ref st_5])), (rm_5, .inr (5, [.ref lk_5, .ref th_5, .ref pl_5, .ref gm_5, .int 0, .int 0, .int 0, .int (-1), .int 1, .int 0, .int 0, .int 0])), (lk_5, .inl (cL_5, 10, .inr (.inr (.inr (.inr fl_5))))), (th_5, .inl (cT_5, 12, .inr (.inr (.inr (.inr ft_5))))), (pl_5, .inl (cP_5, 6, .inr (.inr (.inr (.inr fp_5))))), (gm_5, .inr (2, [.int 0, .int 0, .int 0, .int 0, .int 0, .int (-1), .long 0])), (l0_5, .inr (3, [.int 0, .int 0, .int 0, .int 0, .int 0, .int 0, .int 0, .int 0, .int 0, .int 0])), (t0_5, .inr (7, [.int 0, .int 0, .int 0, .int 0, .int 0])), (p0_5, .inr (4, [.int 0, .int 0, .int 0, .int 0])), (st_5, .inr (6, [.ref a1_5, .ref a2_5, .ref a3_5])), (a1_5, .inl (cZ_5, 1024, .inl f1_5)), (a2_5, .inl (cI_5, 1024, .inl f2_5)), (a3_5, .inl (cJ_5, 1024, .inl f3_5)), (q6, .inr (10, [.int 0, .ref mr_10, .int 1, .long 0])), (mr_10, .inr (9, [.ref ll_10, .ref lt_10, .ref lp_10, .int (-1), .int 0, .int 0, .int 0, .int 0, .int 0, .int 0, .int (-1), .int 0, .int 0, .int 0])), (ll_10, .inr (1, [.int 0, .ref ed, .int 0])), (lt_10, .inr (1, [.int 0, .ref ed, .int 0])), (lp_10, .inr (1, [.int 0, .ref ed, .int 0])), (q11, .inl (cA13, 1, .inr (.inl (fun _ => 0))))] := hD
  refine lv_astore_n (lv' := [(3, .ref q11), (2, .ref q6), (1, .ref q1), (0, .ref b)]) hx hb dL_law_19 rfl hl (by decide) rfl (fun ls hl => ?_)
  refine lv_iconst (v := 0) hx hb dL_law_20 (by decide) ?_
  refine lv_istore (lv' := [(4, .int 0), (3, .ref q11), (2, .ref q6), (1, .ref q1), (0, .ref b)]) hx hb dL_law_21 hl (by decide) rfl (fun ls hl => ?_)
  refine lv_iload hx hb dL_law_23 (lv_at hl 0 rfl) ?_
  refine lv_aload_n hx hb dL_law_25 rfl (lv_at hl 4 rfl) ?_
  rcases (show L = 0 ∨ L = 1 ∨ L = 2 ∨ L = 3 ∨ L = 4 ∨ L = 5 ∨ L = 6 by omega) with rfl | rfl | rfl | rfl | rfl | rfl | rfl
  · skip
    refine va_slen hx hb hX hbl hbA hS dL_law_26 ?_
    refine zo_i (v := 0) (by decide) ?_
    refine lv_bipush (v := 6) hx hb dL_law_27 (by decide) ?_
    refine lv_isub hx hb dL_law_29 ?_
    refine zo_i (v := (-6)) (by decide) ?_
    refine lv_icmp_gt (tgt := 1413) hx hb dL_law_30 (by decide) (fun _ => ?_) (fun h => absurd h (by decide))
    refine lv_iconst (v := 1) hx hb dL_law_1413 (by decide) ?_
    refine W.widen (k := 600002) (n := 7302232) (Nat.le_of_ble_eq_true rfl) (Nat.le_of_ble_eq_true rfl) ?_
    refine va_forget (fun q hq => by have h9 := hS.2.2 q hq; rw [hAe] at h9; exact h9) ?_
    exact lw_ret hd0 hx hb hr hlocks dL_law_1414
  · skip
    refine va_slen hx hb hX hbl hbA hS dL_law_26 ?_
    refine zo_i (v := 1) (by decide) ?_
    refine lv_bipush (v := 6) hx hb dL_law_27 (by decide) ?_
    refine lv_isub hx hb dL_law_29 ?_
    refine zo_i (v := (-5)) (by decide) ?_
    refine lv_icmp_gt (tgt := 1413) hx hb dL_law_30 (by decide) (fun _ => ?_) (fun h => absurd h (by decide))
    refine lv_iconst (v := 1) hx hb dL_law_1413 (by decide) ?_
    refine W.widen (k := 600002) (n := 7302232) (Nat.le_of_ble_eq_true rfl) (Nat.le_of_ble_eq_true rfl) ?_
    refine va_forget (fun q hq => by have h9 := hS.2.2 q hq; rw [hAe] at h9; exact h9) ?_
    exact lw_ret hd0 hx hb hr hlocks dL_law_1414
  · skip
    refine va_slen hx hb hX hbl hbA hS dL_law_26 ?_
    refine zo_i (v := 2) (by decide) ?_
    refine lv_bipush (v := 6) hx hb dL_law_27 (by decide) ?_
    refine lv_isub hx hb dL_law_29 ?_
    refine zo_i (v := (-4)) (by decide) ?_
    refine lv_icmp_gt (tgt := 1413) hx hb dL_law_30 (by decide) (fun _ => ?_) (fun h => absurd h (by decide))
    refine lv_iconst (v := 1) hx hb dL_law_1413 (by decide) ?_
    refine W.widen (k := 600002) (n := 7302232) (Nat.le_of_ble_eq_true rfl) (Nat.le_of_ble_eq_true rfl) ?_
    refine va_forget (fun q hq => by have h9 := hS.2.2 q hq; rw [hAe] at h9; exact h9) ?_
    exact lw_ret hd0 hx hb hr hlocks dL_law_1414
  · skip
    refine va_slen hx hb hX hbl hbA hS dL_law_26 ?_
    refine zo_i (v := 3) (by decide) ?_
    refine lv_bipush (v := 6) hx hb dL_law_27 (by decide) ?_
    refine lv_isub hx hb dL_law_29 ?_
    refine zo_i (v := (-3)) (by decide) ?_
    refine lv_icmp_gt (tgt := 1413) hx hb dL_law_30 (by decide) (fun _ => ?_) (fun h => absurd h (by decide))
    refine lv_iconst (v := 1) hx hb dL_law_1413 (by decide) ?_
    refine W.widen (k := 600002) (n := 7302232) (Nat.le_of_ble_eq_true rfl) (Nat.le_of_ble_eq_true rfl) ?_
    refine va_forget (fun q hq => by have h9 := hS.2.2 q hq; rw [hAe] at h9; exact h9) ?_
    exact lw_ret hd0 hx hb hr hlocks dL_law_1414
  · skip
    refine va_slen hx hb hX hbl hbA hS dL_law_26 ?_
    refine zo_i (v := 4) (by decide) ?_
    refine lv_bipush (v := 6) hx hb dL_law_27 (by decide) ?_
    refine lv_isub hx hb dL_law_29 ?_
    refine zo_i (v := (-2)) (by decide) ?_
    refine lv_icmp_gt (tgt := 1413) hx hb dL_law_30 (by decide) (fun _ => ?_) (fun h => absurd h (by decide))
    refine lv_iconst (v := 1) hx hb dL_law_1413 (by decide) ?_
    refine W.widen (k := 600002) (n := 7302232) (Nat.le_of_ble_eq_true rfl) (Nat.le_of_ble_eq_true rfl) ?_
    refine va_forget (fun q hq => by have h9 := hS.2.2 q hq; rw [hAe] at h9; exact h9) ?_
    exact lw_ret hd0 hx hb hr hlocks dL_law_1414
  · skip
    refine va_slen hx hb hX hbl hbA hS dL_law_26 ?_
    refine zo_i (v := 5) (by decide) ?_
    refine lv_bipush (v := 6) hx hb dL_law_27 (by decide) ?_
    refine lv_isub hx hb dL_law_29 ?_
    refine zo_i (v := (-1)) (by decide) ?_
    refine lv_icmp_gt (tgt := 1413) hx hb dL_law_30 (by decide) (fun _ => ?_) (fun h => absurd h (by decide))
    refine lv_iconst (v := 1) hx hb dL_law_1413 (by decide) ?_
    refine W.widen (k := 600002) (n := 7302232) (Nat.le_of_ble_eq_true rfl) (Nat.le_of_ble_eq_true rfl) ?_
    refine va_forget (fun q hq => by have h9 := hS.2.2 q hq; rw [hAe] at h9; exact h9) ?_
    exact lw_ret hd0 hx hb hr hlocks dL_law_1414
  · skip
    refine va_slen hx hb hX hbl hbA hS dL_law_26 ?_
    refine zo_i (v := 6) (by decide) ?_
    refine lv_bipush (v := 6) hx hb dL_law_27 (by decide) ?_
    refine lv_isub hx hb dL_law_29 ?_
    refine zo_i (v := 0) (by decide) ?_
    refine lv_icmp_gt (tgt := 1413) hx hb dL_law_30 (by decide) (fun h => absurd h (by decide)) (fun _ => ?_)
    refine lv_aload_n hx hb dL_law_33 rfl (lv_at hl 4 rfl) ?_
    refine lv_iload hx hb dL_law_34 (lv_at hl 0 rfl) ?_
    refine va_sld hx hb hX hbl hbA hS (by unfold vp_in; decide) dL_law_36 ?_
    refine zo_i (v := xs 0) (by rw [show Int32.toNatClampNeg 0 = 0 from by decide]) ?_
    refine lv_bipush (v := 31) hx hb dL_law_37 (by decide) ?_
    refine lv_iand hx hb dL_law_39 ?_
    obtain ⟨j, hj, ej⟩ := pk_andE (xs 0) (m := 31) 5 (by decide)
    refine zo_i (v := nI j) ej ?_
    rcases (show j = 0 ∨ j = 1 ∨ j = 2 ∨ j = 3 ∨ j = 4 ∨ j = 5 ∨ j = 6 ∨ j = 7 ∨ j = 8 ∨ j = 9 ∨ j = 10 ∨ j = 11 ∨ j = 12 ∨ j = 13 ∨ j = 14 ∨ j = 15 ∨ j = 16 ∨ j = 17 ∨ j = 18 ∨ j = 19 ∨ j = 20 ∨ j = 21 ∨ j = 22 ∨ j = 23 ∨ j = 24 ∨ j = 25 ∨ j = 26 ∨ j = 27 ∨ j = 28 ∨ j = 29 ∨ j = 30 ∨ j = 31 by omega) with rfl | rfl | rfl | rfl | rfl | rfl | rfl | rfl | rfl | rfl | rfl | rfl | rfl | rfl | rfl | rfl | rfl | rfl | rfl | rfl | rfl | rfl | rfl | rfl | rfl | rfl | rfl | rfl | rfl | rfl | rfl | rfl
    · refine zo_i (v := 0) (by decide) ?_
      refine lv_tableIn (off := 124) (tgt := 164) hx hb dL_law_40 (by decide) (by decide) rfl (by decide) ?_
      refine lv_aload_n hx hb dL_law_164 rfl (lv_at hl 3 rfl) ?_
      refine lv_aload_n hx hb dL_law_165 rfl (lv_at hl 4 rfl) ?_
      refine lv_iload hx hb dL_law_166 (lv_at hl 0 rfl) ?_
      refine lv_iconst (v := 1) hx hb dL_law_168 (by decide) ?_
      refine lv_iadd hx hb dL_law_169 ?_
      refine zo_i (v := 1) (by decide) ?_
      refine va_sld hx hb hX hbl hbA hS (by unfold vp_in; decide) dL_law_170 ?_
      refine zo_i (v := xs 1) (by rw [show Int32.toNatClampNeg 1 = 1 from by decide]) ?_
      refine lv_aload_n hx hb dL_law_171 rfl (lv_at hl 4 rfl) ?_
      refine lv_iload hx hb dL_law_172 (lv_at hl 0 rfl) ?_
      refine lv_iconst (v := 2) hx hb dL_law_174 (by decide) ?_
      refine lv_iadd hx hb dL_law_175 ?_
      refine zo_i (v := 2) (by decide) ?_
      refine va_sld hx hb hX hbl hbA hS (by unfold vp_in; decide) dL_law_176 ?_
      refine zo_i (v := xs 2) (by rw [show Int32.toNatClampNeg 2 = 2 from by decide]) ?_
      refine lv_aload_n hx hb dL_law_177 rfl (lv_at hl 4 rfl) ?_
      refine lv_iload hx hb dL_law_178 (lv_at hl 0 rfl) ?_
      refine lv_iconst (v := 3) hx hb dL_law_180 (by decide) ?_
      refine lv_iadd hx hb dL_law_181 ?_
      refine zo_i (v := 3) (by decide) ?_
      refine va_sld hx hb hX hbl hbA hS (by unfold vp_in; decide) dL_law_182 ?_
      refine zo_i (v := xs 3) (by rw [show Int32.toNatClampNeg 3 = 3 from by decide]) ?_
      refine lv_aload_n hx hb dL_law_183 rfl (lv_at hl 4 rfl) ?_
      refine lv_iload hx hb dL_law_184 (lv_at hl 0 rfl) ?_
      refine lv_iconst (v := 4) hx hb dL_law_186 (by decide) ?_
      refine lv_iadd hx hb dL_law_187 ?_
      refine zo_i (v := 4) (by decide) ?_
      refine va_sld hx hb hX hbl hbA hS (by unfold vp_in; decide) dL_law_188 ?_
      refine zo_i (v := xs 4) (by rw [show Int32.toNatClampNeg 4 = 4 from by decide]) ?_
      refine lv_if_eq (tgt := 196) hx hb dL_law_189 (by decide) (fun c15 => ?_) (fun c15 => ?_)
      · skip
        refine lv_iconst (v := 0) hx hb dL_law_196 (by decide) ?_
        refine lv_aload_n hx hb dL_law_197 rfl (lv_at hl 4 rfl) ?_
        refine lv_iload hx hb dL_law_198 (lv_at hl 0 rfl) ?_
        refine lv_iconst (v := 5) hx hb dL_law_200 (by decide) ?_
        refine lv_iadd hx hb dL_law_201 ?_
        refine zo_i (v := 5) (by decide) ?_
        refine va_sld hx hb hX hbl hbA hS (by unfold vp_in; decide) dL_law_202 ?_
        refine zo_i (v := xs 5) (by rw [show Int32.toNatClampNeg 5 = 5 from by decide]) ?_
        refine lv_if_eq (tgt := 210) hx hb dL_law_203 (by decide) (fun c16 => ?_) (fun c16 => ?_)
        · skip
          refine lv_iconst (v := 0) hx hb dL_law_210 (by decide) ?_
          refine lv_aload_n hx hb dL_law_211 rfl (lv_at hl 1 rfl) ?_
          have hPr := (hP).sub (ws' := [(q1, .inr (8, [.ref rm_5, .ref tr_5, .ref st_5])), (gm_5, .inr (2, [.int 0, .int 0, .int 0, .int 0, .int 0, .int (-1), .long 0])), (lk_5, .inl (cL_5, 10, .inr (.inr (.inr (.inr fl_5)))))]) [0, 5, 2] rfl
          have hPc := hP.sub (ws' := [(rm_5, .inr (5, [.ref lk_5, .ref th_5, .ref pl_5, .ref gm_5, .int 0, .int 0, .int 0, .int (-1), .int 1, .int 0, .int 0, .int 0])), (l0_5, .inr (3, [.int 0, .int 0, .int 0, .int 0, .int 0, .int 0, .int 0, .int 0, .int 0, .int 0])), (q11, .inl (cA13, 1, .inr (.inl (fun _ => 0))))]) [1, 6, 18] rfl
          have hDc := hD.sub (ws' := [(rm_5, .inr (5, [.ref lk_5, .ref th_5, .ref pl_5, .ref gm_5, .int 0, .int 0, .int 0, .int (-1), .int 1, .int 0, .int 0, .int 0])), (l0_5, .inr (3, [.int 0, .int 0, .int 0, .int 0, .int 0, .int 0, .int 0, .int 0, .int 0, .int 0])), (q11, .inl (cA13, 1, .inr (.inl (fun _ => 0))))]) [1, 6, 18] (by decide) rfl
          have hKc := hK.sub (tys' := [(cL_5, .object "LockRooms$Lock"), (cA13, .long)]) [0, 6] rfl
          have hFc := va_free (wc := [(rm_5, .inr (5, [.ref lk_5, .ref th_5, .ref pl_5, .ref gm_5, .int 0, .int 0, .int 0, .int (-1), .int 1, .int 0, .int 0, .int 0])), (l0_5, .inr (3, [.int 0, .int 0, .int 0, .int 0, .int 0, .int 0, .int 0, .int 0, .int 0, .int 0])), (q11, .inl (cA13, 1, .inr (.inl (fun _ => 0))))]) hD hS hA [1, 6, 18] rfl
          refine vx_calli (vx_runSX (As := [.ref q1, .int (xs 1), .int (xs 2), .int (xs 3), .int 0, .int 0, .ref q11]) (rest := []) ⟨hx, hb, hml, hown, hts⟩ (cz_L_lock l dC dI ed H12.size q1 rm_5 tr_5 st_5 lk_5 th_5 pl_5 gm_5 cL_5 fl_5 l0_5 (xs 1) (xs 2) (xs 3) 0 0 q11 cA13 (fun _ => 0) htr k5_0 (by decide)) (vx_cwSW 7 hts gL_law_L_lock rfl rfl rfl (by decide +kernel) ⟨Nat.le_of_ble_eq_true rfl, Nat.le_of_ble_eq_true rfl⟩) ⟨zb_blind, fun U hU hW => ⟨rfl, zb_mk hU hW hPr hPc hKc hDc hN hH hS hFc (zx_cons (zx_o hD 0 [1, 6, 18] rfl rfl (by decide)) (zx_cons (zx_o hD 5 [1, 6, 18] rfl rfl (by decide)) (zx_cons (zx_o hD 2 [1, 6, 18] rfl rfl (by decide)) zx_nil)))⟩⟩ rfl rfl hl.1 rfl (lv_room (Nat.le_of_ble_eq_true rfl)) dL_law_212 ⟨Nat.le_of_ble_eq_true rfl, Nat.le_of_ble_eq_true rfl⟩) hS (fun q _ h => hFc q h) hFc (fun q _ h => hFc q h) (fun E ce q9 u t H17 locs ht hvm hpx hBX hz1 hk1 hS hce hcv hcl => hpx.elim) (fun r18 u t H17 locs ht hvm hw hB hz1 hk1 hS => ?_)
          obtain rfl : r18 = (zLk (xs 1) (xs 2) (xs 3)) := hw
          obtain ⟨fo9_19, hq19_0, hP1, hD1, hK1⟩ := hB
          rw [ht] at hP1
          obtain ⟨hP, hD⟩ := va_join (wr := [(q1, .inr (8, [.ref rm_5, .ref tr_5, .ref st_5])), (lk_5, .inl (cL_5, 10, .inr (.inr (.inr (.inr fl_5))))), (th_5, .inl (cT_5, 12, .inr (.inr (.inr (.inr ft_5))))), (pl_5, .inl (cP_5, 6, .inr (.inr (.inr (.inr fp_5))))), (gm_5, .inr (2, [.int 0, .int 0, .int 0, .int 0, .int 0, .int (-1), .long 0])), (t0_5, .inr (7, [.int 0, .int 0, .int 0, .int 0, .int 0])), (p0_5, .inr (4, [.int 0, .int 0, .int 0, .int 0])), (st_5, .inr (6, [.ref a1_5, .ref a2_5, .ref a3_5])), (a1_5, .inl (cZ_5, 1024, .inl f1_5)), (a2_5, .inl (cI_5, 1024, .inl f2_5)), (a3_5, .inl (cJ_5, 1024, .inl f3_5)), (q6, .inr (10, [.int 0, .ref mr_10, .int 1, .long 0])), (mr_10, .inr (9, [.ref ll_10, .ref lt_10, .ref lp_10, .int (-1), .int 0, .int 0, .int 0, .int 0, .int 0, .int 0, .int (-1), .int 0, .int 0, .int 0])), (ll_10, .inr (1, [.int 0, .ref ed, .int 0])), (lt_10, .inr (1, [.int 0, .ref ed, .int 0])), (lp_10, .inr (1, [.int 0, .ref ed, .int 0]))]) (w1 := [(q11, .inl (cA13, 1, .inr (.inl fo9_19)))]) hP hD [1, 6, 18] [0, 2, 3, 4, 5, 7, 8, 9, 10, 11, 12, 13, 14, 15, 16, 17] rfl rfl (by decide) (by decide) hk1 hFc hP1 hD1
          have hP : va_P (dC, dI) vwCl [(q1, .inr (8, [.ref rm_5, .ref tr_5, .ref st_5])), (lk_5, .inl (cL_5, 10, .inr (.inr (.inr (.inr fl_5))))), (th_5, .inl (cT_5, 12, .inr (.inr (.inr (.inr ft_5))))), (pl_5, .inl (cP_5, 6, .inr (.inr (.inr (.inr fp_5))))), (gm_5, .inr (2, [.int 0, .int 0, .int 0, .int 0, .int 0, .int (-1), .long 0])), (t0_5, .inr (7, [.int 0, .int 0, .int 0, .int 0, .int 0])), (p0_5, .inr (4, [.int 0, .int 0, .int 0, .int 0])), (st_5, .inr (6, [.ref a1_5, .ref a2_5, .ref a3_5])), (a1_5, .inl (cZ_5, 1024, .inl f1_5)), (a2_5, .inl (cI_5, 1024, .inl f2_5)), (a3_5, .inl (cJ_5, 1024, .inl f3_5)), (q6, .inr (10, [.int 0, .ref mr_10, .int 1, .long 0])), (mr_10, .inr (9, [.ref ll_10, .ref lt_10, .ref lp_10, .int (-1), .int 0, .int 0, .int 0, .int 0, .int 0, .int 0, .int (-1), .int 0, .int 0, .int 0])), (ll_10, .inr (1, [.int 0, .ref ed, .int 0])), (lt_10, .inr (1, [.int 0, .ref ed, .int 0])), (lp_10, .inr (1, [.int 0, .ref ed, .int 0])), (q11, .inl (cA13, 1, .inr (.inl fo9_19)))] H17 := hP
          have hD : va_D A [(q1, .inr (8, [.ref rm_5, .ref tr_5, .ref st_5])), (lk_5, .inl (cL_5, 10, .inr (.inr (.inr (.inr fl_5))))), (th_5, .inl (cT_5, 12, .inr (.inr (.inr (.inr ft_5))))), (pl_5, .inl (cP_5, 6, .inr (.inr (.inr (.inr fp_5))))), (gm_5, .inr (2, [.int 0, .int 0, .int 0, .int 0, .int 0, .int (-1), .long 0])), (t0_5, .inr (7, [.int 0, .int 0, .int 0, .int 0, .int 0])), (p0_5, .inr (4, [.int 0, .int 0, .int 0, .int 0])), (st_5, .inr (6, [.ref a1_5, .ref a2_5, .ref a3_5])), (a1_5, .inl (cZ_5, 1024, .inl f1_5)), (a2_5, .inl (cI_5, 1024, .inl f2_5)), (a3_5, .inl (cJ_5, 1024, .inl f3_5)), (q6, .inr (10, [.int 0, .ref mr_10, .int 1, .long 0])), (mr_10, .inr (9, [.ref ll_10, .ref lt_10, .ref lp_10, .int (-1), .int 0, .int 0, .int 0, .int 0, .int 0, .int 0, .int (-1), .int 0, .int 0, .int 0])), (ll_10, .inr (1, [.int 0, .ref ed, .int 0])), (lt_10, .inr (1, [.int 0, .ref ed, .int 0])), (lp_10, .inr (1, [.int 0, .ref ed, .int 0])), (q11, .inl (cA13, 1, .inr (.inl fo9_19)))] := hD
          refine lv_istore (lv' := [(5, .int (zLk (xs 1) (xs 2) (xs 3))), (4, .int 0), (3, .ref q11), (2, .ref q6), (1, .ref q1), (0, .ref b)]) hx hb dL_law_215 hl (by decide) rfl (fun ls hl => ?_)
          refine lv_aload_n hx hb dL_law_217 rfl (lv_at hl 3 rfl) ?_
          refine lv_aload_n hx hb dL_law_218 rfl (lv_at hl 5 rfl) ?_
          refine lv_iload hx hb dL_law_219 (lv_at hl 1 rfl) ?_
          refine lv_iconst (v := 1) hx hb dL_law_221 (by decide) ?_
          refine lv_iadd hx hb dL_law_222 ?_
          refine zo_i (v := 1) (by decide) ?_
          refine va_sld hx hb hX hbl hbA hS (by unfold vp_in; decide) dL_law_223 ?_
          refine zo_i (v := xs 1) (by rw [show Int32.toNatClampNeg 1 = 1 from by decide]) ?_
          refine lv_aload_n hx hb dL_law_224 rfl (lv_at hl 5 rfl) ?_
          refine lv_iload hx hb dL_law_225 (lv_at hl 1 rfl) ?_
          refine lv_iconst (v := 2) hx hb dL_law_227 (by decide) ?_
          refine lv_iadd hx hb dL_law_228 ?_
          refine zo_i (v := 2) (by decide) ?_
          refine va_sld hx hb hX hbl hbA hS (by unfold vp_in; decide) dL_law_229 ?_
          refine zo_i (v := xs 2) (by rw [show Int32.toNatClampNeg 2 = 2 from by decide]) ?_
          refine lv_aload_n hx hb dL_law_230 rfl (lv_at hl 5 rfl) ?_
          refine lv_iload hx hb dL_law_231 (lv_at hl 1 rfl) ?_
          refine lv_iconst (v := 3) hx hb dL_law_233 (by decide) ?_
          refine lv_iadd hx hb dL_law_234 ?_
          refine zo_i (v := 3) (by decide) ?_
          refine va_sld hx hb hX hbl hbA hS (by unfold vp_in; decide) dL_law_235 ?_
          refine zo_i (v := xs 3) (by rw [show Int32.toNatClampNeg 3 = 3 from by decide]) ?_
          refine lv_aload_n hx hb dL_law_236 rfl (lv_at hl 5 rfl) ?_
          refine lv_iload hx hb dL_law_237 (lv_at hl 1 rfl) ?_
          refine lv_iconst (v := 4) hx hb dL_law_239 (by decide) ?_
          refine lv_iadd hx hb dL_law_240 ?_
          refine zo_i (v := 4) (by decide) ?_
          refine va_sld hx hb hX hbl hbA hS (by unfold vp_in; decide) dL_law_241 ?_
          refine zo_i (v := xs 4) (by rw [show Int32.toNatClampNeg 4 = 4 from by decide]) ?_
          refine lv_if_eq (tgt := 249) hx hb dL_law_242 (by decide) (fun _ => ?_) (fun h => absurd c15 h)
          refine lv_iconst (v := 0) hx hb dL_law_249 (by decide) ?_
          refine lv_aload_n hx hb dL_law_250 rfl (lv_at hl 5 rfl) ?_
          refine lv_iload hx hb dL_law_251 (lv_at hl 1 rfl) ?_
          refine lv_iconst (v := 5) hx hb dL_law_253 (by decide) ?_
          refine lv_iadd hx hb dL_law_254 ?_
          refine zo_i (v := 5) (by decide) ?_
          refine va_sld hx hb hX hbl hbA hS (by unfold vp_in; decide) dL_law_255 ?_
          refine zo_i (v := xs 5) (by rw [show Int32.toNatClampNeg 5 = 5 from by decide]) ?_
          refine lv_if_eq (tgt := 263) hx hb dL_law_256 (by decide) (fun _ => ?_) (fun h => absurd c16 h)
          refine lv_iconst (v := 0) hx hb dL_law_263 (by decide) ?_
          have hPr := (hP).sub (ws' := [(lt_10, .inr (1, [.int 0, .ref ed, .int 0])), (lp_10, .inr (1, [.int 0, .ref ed, .int 0]))]) [14, 15] rfl
          have hPc := hP.sub (ws' := [(q6, .inr (10, [.int 0, .ref mr_10, .int 1, .long 0])), (mr_10, .inr (9, [.ref ll_10, .ref lt_10, .ref lp_10, .int (-1), .int 0, .int 0, .int 0, .int 0, .int 0, .int 0, .int (-1), .int 0, .int 0, .int 0])), (ll_10, .inr (1, [.int 0, .ref ed, .int 0]))]) [11, 12, 13] rfl
          have hDc := hD.sub (ws' := [(q6, .inr (10, [.int 0, .ref mr_10, .int 1, .long 0])), (mr_10, .inr (9, [.ref ll_10, .ref lt_10, .ref lp_10, .int (-1), .int 0, .int 0, .int 0, .int 0, .int 0, .int 0, .int (-1), .int 0, .int 0, .int 0])), (ll_10, .inr (1, [.int 0, .ref ed, .int 0]))]) [11, 12, 13] (by decide) rfl
          have hKc := hK.sub (tys' := []) [] rfl
          have hFc := va_free (wc := [(q6, .inr (10, [.int 0, .ref mr_10, .int 1, .long 0])), (mr_10, .inr (9, [.ref ll_10, .ref lt_10, .ref lp_10, .int (-1), .int 0, .int 0, .int 0, .int 0, .int 0, .int 0, .int (-1), .int 0, .int 0, .int 0])), (ll_10, .inr (1, [.int 0, .ref ed, .int 0]))]) hD hS hA [11, 12, 13] rfl
          refine va_calli (va_runV (As := [.int (xs 1), .int (xs 2), .int (xs 3), .int 0, .int 0]) (rest := []) ⟨hx, hb, hml, hown, hts⟩ (cz_X8_lock l dC dI ed H17.size q6 mr_10 ll_10 lt_10 lp_10 0 0 (xs 1) (xs 2) (xs 3) 0 0) (cwV 5 hts gL_law_X8_lock rfl rfl rfl (by decide +kernel) ⟨Nat.le_of_ble_eq_true rfl, Nat.le_of_ble_eq_true rfl⟩) ⟨zb_blind, va_recv hK hP (ci := 10) (q0 := 11) rfl rfl, fun U hU hW => ⟨rfl, zb_mk hU hW hPr hPc hKc hDc hN hH hS hFc (zx_cons (zx_o hD 14 [11, 12, 13] rfl rfl (by decide)) (zx_cons (zx_o hD 15 [11, 12, 13] rfl rfl (by decide)) zx_nil))⟩⟩ rfl rfl hl.1 rfl (lv_room (Nat.le_of_ble_eq_true rfl)) dL_law_264 ⟨Nat.le_of_ble_eq_true rfl, Nat.le_of_ble_eq_true rfl⟩) hS (fun q _ h => hFc q h) hFc (fun r21 u t H20 locs ht hvm hw hB hz1 hk1 hS => ?_)
          obtain rfl : r21 = 0 := hw
          obtain ⟨hP1, hD1, hK1⟩ := hB
          rw [ht] at hP1
          obtain ⟨hP, hD⟩ := va_join (wr := [(q1, .inr (8, [.ref rm_5, .ref tr_5, .ref st_5])), (lk_5, .inl (cL_5, 10, .inr (.inr (.inr (.inr fl_5))))), (th_5, .inl (cT_5, 12, .inr (.inr (.inr (.inr ft_5))))), (pl_5, .inl (cP_5, 6, .inr (.inr (.inr (.inr fp_5))))), (gm_5, .inr (2, [.int 0, .int 0, .int 0, .int 0, .int 0, .int (-1), .long 0])), (t0_5, .inr (7, [.int 0, .int 0, .int 0, .int 0, .int 0])), (p0_5, .inr (4, [.int 0, .int 0, .int 0, .int 0])), (st_5, .inr (6, [.ref a1_5, .ref a2_5, .ref a3_5])), (a1_5, .inl (cZ_5, 1024, .inl f1_5)), (a2_5, .inl (cI_5, 1024, .inl f2_5)), (a3_5, .inl (cJ_5, 1024, .inl f3_5)), (lt_10, .inr (1, [.int 0, .ref ed, .int 0])), (lp_10, .inr (1, [.int 0, .ref ed, .int 0])), (q11, .inl (cA13, 1, .inr (.inl fo9_19)))]) (w1 := [(q6, .inr (10, [.int (zLk (xs 1) (xs 2) (xs 3)), .ref mr_10, .int 1, .long 0]))]) hP hD [11, 12, 13] [0, 1, 2, 3, 4, 5, 6, 7, 8, 9, 10, 14, 15, 16] rfl rfl (by decide) (by decide) hk1 hFc hP1 hD1
          have hP : va_P (dC, dI) vwCl [(q1, .inr (8, [.ref rm_5, .ref tr_5, .ref st_5])), (lk_5, .inl (cL_5, 10, .inr (.inr (.inr (.inr fl_5))))), (th_5, .inl (cT_5, 12, .inr (.inr (.inr (.inr ft_5))))), (pl_5, .inl (cP_5, 6, .inr (.inr (.inr (.inr fp_5))))), (gm_5, .inr (2, [.int 0, .int 0, .int 0, .int 0, .int 0, .int (-1), .long 0])), (t0_5, .inr (7, [.int 0, .int 0, .int 0, .int 0, .int 0])), (p0_5, .inr (4, [.int 0, .int 0, .int 0, .int 0])), (st_5, .inr (6, [.ref a1_5, .ref a2_5, .ref a3_5])), (a1_5, .inl (cZ_5, 1024, .inl f1_5)), (a2_5, .inl (cI_5, 1024, .inl f2_5)), (a3_5, .inl (cJ_5, 1024, .inl f3_5)), (lt_10, .inr (1, [.int 0, .ref ed, .int 0])), (lp_10, .inr (1, [.int 0, .ref ed, .int 0])), (q11, .inl (cA13, 1, .inr (.inl fo9_19))), (q6, .inr (10, [.int (zLk (xs 1) (xs 2) (xs 3)), .ref mr_10, .int 1, .long 0]))] H20 := hP
          have hD : va_D A [(q1, .inr (8, [.ref rm_5, .ref tr_5, .ref st_5])), (lk_5, .inl (cL_5, 10, .inr (.inr (.inr (.inr fl_5))))), (th_5, .inl (cT_5, 12, .inr (.inr (.inr (.inr ft_5))))), (pl_5, .inl (cP_5, 6, .inr (.inr (.inr (.inr fp_5))))), (gm_5, .inr (2, [.int 0, .int 0, .int 0, .int 0, .int 0, .int (-1), .long 0])), (t0_5, .inr (7, [.int 0, .int 0, .int 0, .int 0, .int 0])), (p0_5, .inr (4, [.int 0, .int 0, .int 0, .int 0])), (st_5, .inr (6, [.ref a1_5, .ref a2_5, .ref a3_5])), (a1_5, .inl (cZ_5, 1024, .inl f1_5)), (a2_5, .inl (cI_5, 1024, .inl f2_5)), (a3_5, .inl (cJ_5, 1024, .inl f3_5)), (lt_10, .inr (1, [.int 0, .ref ed, .int 0])), (lp_10, .inr (1, [.int 0, .ref ed, .int 0])), (q11, .inl (cA13, 1, .inr (.inl fo9_19))), (q6, .inr (10, [.int (zLk (xs 1) (xs 2) (xs 3)), .ref mr_10, .int 1, .long 0]))] := hD
          refine lv_istore (lv' := [(6, .int 0), (5, .int (zLk (xs 1) (xs 2) (xs 3))), (4, .int 0), (3, .ref q11), (2, .ref q6), (1, .ref q1), (0, .ref b)]) hx hb dL_law_267 hl (by decide) rfl (fun ls hl => ?_)
          refine lv_aload_n hx hb dL_law_269 rfl (lv_at hl 4 rfl) ?_
          have hPr := (hP).sub (ws' := [(q6, .inr (10, [.int (zLk (xs 1) (xs 2) (xs 3)), .ref mr_10, .int 1, .long 0]))]) [14] rfl
          have hPc := hP.sub (ws' := []) [] rfl
          have hDc := hD.sub (ws' := []) [] (by decide) rfl
          have hKc := hK.sub (tys' := []) [] rfl
          have hFc := va_free (wc := []) hD hS hA [] rfl
          refine va_calli (va_runV (As := []) (rest := []) ⟨hx, hb, hml, hown, hts⟩ (cz_thrown l dC dI ed H20.size q6 mr_10 (zLk (xs 1) (xs 2) (xs 3)) 0) (cwV 0 hts gL_law_X8_thrown rfl rfl rfl (by decide +kernel) ⟨Nat.le_of_ble_eq_true rfl, Nat.le_of_ble_eq_true rfl⟩) ⟨zb_blind, va_recv hK hP (ci := 10) (q0 := 14) rfl rfl, fun U hU hW => ⟨rfl, zb_mk hU hW hPr hPc hKc hDc hN hH hS hFc zx_e⟩⟩ rfl rfl hl.1 rfl (lv_room (Nat.le_of_ble_eq_true rfl)) dL_law_270 ⟨Nat.le_of_ble_eq_true rfl, Nat.le_of_ble_eq_true rfl⟩) hS (fun q _ h => hFc q h) hFc (fun r24 u t H23 locs ht hvm hw hB hz1 hk1 hS => ?_)
          obtain rfl : r24 = (zLk (xs 1) (xs 2) (xs 3)) := hw
          have hP := zo_K hP hk1
          refine lv_iload hx hb dL_law_273 (lv_at hl 1 rfl) ?_
          refine lv_icmp_eq (tgt := 280) hx hb dL_law_275 (by decide) (fun _ => ?_) (fun h => absurd rfl h)
          refine lv_iload hx hb dL_law_280 (lv_at hl 1 rfl) ?_
          refine lv_if_ne (tgt := 297) hx hb dL_law_282 (by decide) (fun c25 => ?_) (fun c25 => ?_)
          · skip
            refine lv_goto (tgt := 1407) hx hb dL_law_297 (by decide) ?_
            refine lv_iinc (v := 6) (lv' := [(4, .int 6), (6, .int 0), (5, .int (zLk (xs 1) (xs 2) (xs 3))), (3, .ref q11), (2, .ref q6), (1, .ref q1), (0, .ref b)]) hx hb dL_law_1407 hl (k := 2) rfl (by decide) (by decide) rfl (fun ls hl => ?_)
            refine lv_goto (tgt := 23) hx hb dL_law_1410 (by decide) ?_
            refine lv_iload hx hb dL_law_23 (lv_at hl 0 rfl) ?_
            refine lv_aload_n hx hb dL_law_25 rfl (lv_at hl 6 rfl) ?_
            refine va_slen hx hb hX hbl hbA hS dL_law_26 ?_
            refine zo_i (v := 6) (by decide) ?_
            refine lv_bipush (v := 6) hx hb dL_law_27 (by decide) ?_
            refine lv_isub hx hb dL_law_29 ?_
            refine zo_i (v := 0) (by decide) ?_
            refine lv_icmp_gt (tgt := 1413) hx hb dL_law_30 (by decide) (fun _ => ?_) (fun h => absurd h (by decide))
            refine lv_iconst (v := 1) hx hb dL_law_1413 (by decide) ?_
            refine W.widen (k := 600002) (n := 7302232) (Nat.le_of_ble_eq_true rfl) (Nat.le_of_ble_eq_true rfl) ?_
            refine va_forget (fun q hq => by have h9 := hS.2.2 q hq; rw [hAe] at h9; exact h9) ?_
            exact lw_ret hd0 hx hb hr hlocks dL_law_1414
          · skip
            refine lv_aload_n hx hb dL_law_285 rfl (lv_at hl 3 rfl) ?_
            refine lv_iconst (v := 0) hx hb dL_law_286 (by decide) ?_
            refine va_lald hx hb hK hP 13 6 rfl rfl (by unfold vp_in; decide) dL_law_287 ?_
            refine zo_l (v := 0) (by rw [show Int32.toNatClampNeg 0 = 0 from by decide]; exact hq19_0 c25) ?_
            refine lv_iload hx hb dL_law_288 (lv_at hl 0 rfl) ?_
            refine lv_i2l (v := 0) hx hb dL_law_290 (by decide) ?_
            refine W.lcmp hx hb dL_law_291 ?_
            refine zo_i (v := 0) (zo_lc _) ?_
            refine lv_if_eq (tgt := 297) hx hb dL_law_292 (by decide) (fun _ => ?_) (fun h => absurd h (by decide))
            refine lv_goto (tgt := 1407) hx hb dL_law_297 (by decide) ?_
            refine lv_iinc (v := 6) (lv' := [(4, .int 6), (6, .int 0), (5, .int (zLk (xs 1) (xs 2) (xs 3))), (3, .ref q11), (2, .ref q6), (1, .ref q1), (0, .ref b)]) hx hb dL_law_1407 hl (k := 2) rfl (by decide) (by decide) rfl (fun ls hl => ?_)
            refine lv_goto (tgt := 23) hx hb dL_law_1410 (by decide) ?_
            refine lv_iload hx hb dL_law_23 (lv_at hl 0 rfl) ?_
            refine lv_aload_n hx hb dL_law_25 rfl (lv_at hl 6 rfl) ?_
            refine va_slen hx hb hX hbl hbA hS dL_law_26 ?_
            refine zo_i (v := 6) (by decide) ?_
            refine lv_bipush (v := 6) hx hb dL_law_27 (by decide) ?_
            refine lv_isub hx hb dL_law_29 ?_
            refine zo_i (v := 0) (by decide) ?_
            refine lv_icmp_gt (tgt := 1413) hx hb dL_law_30 (by decide) (fun _ => ?_) (fun h => absurd h (by decide))
            refine lv_iconst (v := 1) hx hb dL_law_1413 (by decide) ?_
            refine W.widen (k := 600002) (n := 7302232) (Nat.le_of_ble_eq_true rfl) (Nat.le_of_ble_eq_true rfl) ?_
            refine va_forget (fun q hq => by have h9 := hS.2.2 q hq; rw [hAe] at h9; exact h9) ?_
            exact lw_ret hd0 hx hb hr hlocks dL_law_1414
        · skip
          refine lv_iconst (v := 1) hx hb dL_law_206 (by decide) ?_
          refine lv_goto (tgt := 211) hx hb dL_law_207 (by decide) ?_
          refine lv_aload_n hx hb dL_law_211 rfl (lv_at hl 1 rfl) ?_
          have hPr := (hP).sub (ws' := [(q1, .inr (8, [.ref rm_5, .ref tr_5, .ref st_5])), (gm_5, .inr (2, [.int 0, .int 0, .int 0, .int 0, .int 0, .int (-1), .long 0])), (lk_5, .inl (cL_5, 10, .inr (.inr (.inr (.inr fl_5)))))]) [0, 5, 2] rfl
          have hPc := hP.sub (ws' := [(rm_5, .inr (5, [.ref lk_5, .ref th_5, .ref pl_5, .ref gm_5, .int 0, .int 0, .int 0, .int (-1), .int 1, .int 0, .int 0, .int 0])), (l0_5, .inr (3, [.int 0, .int 0, .int 0, .int 0, .int 0, .int 0, .int 0, .int 0, .int 0, .int 0])), (q11, .inl (cA13, 1, .inr (.inl (fun _ => 0))))]) [1, 6, 18] rfl
          have hDc := hD.sub (ws' := [(rm_5, .inr (5, [.ref lk_5, .ref th_5, .ref pl_5, .ref gm_5, .int 0, .int 0, .int 0, .int (-1), .int 1, .int 0, .int 0, .int 0])), (l0_5, .inr (3, [.int 0, .int 0, .int 0, .int 0, .int 0, .int 0, .int 0, .int 0, .int 0, .int 0])), (q11, .inl (cA13, 1, .inr (.inl (fun _ => 0))))]) [1, 6, 18] (by decide) rfl
          have hKc := hK.sub (tys' := [(cL_5, .object "LockRooms$Lock"), (cA13, .long)]) [0, 6] rfl
          have hFc := va_free (wc := [(rm_5, .inr (5, [.ref lk_5, .ref th_5, .ref pl_5, .ref gm_5, .int 0, .int 0, .int 0, .int (-1), .int 1, .int 0, .int 0, .int 0])), (l0_5, .inr (3, [.int 0, .int 0, .int 0, .int 0, .int 0, .int 0, .int 0, .int 0, .int 0, .int 0])), (q11, .inl (cA13, 1, .inr (.inl (fun _ => 0))))]) hD hS hA [1, 6, 18] rfl
          refine vx_calli (vx_runSX (As := [.ref q1, .int (xs 1), .int (xs 2), .int (xs 3), .int 0, .int 1, .ref q11]) (rest := []) ⟨hx, hb, hml, hown, hts⟩ (cz_L_lock l dC dI ed H12.size q1 rm_5 tr_5 st_5 lk_5 th_5 pl_5 gm_5 cL_5 fl_5 l0_5 (xs 1) (xs 2) (xs 3) 0 1 q11 cA13 (fun _ => 0) htr k5_0 (by decide)) (vx_cwSW 7 hts gL_law_L_lock rfl rfl rfl (by decide +kernel) ⟨Nat.le_of_ble_eq_true rfl, Nat.le_of_ble_eq_true rfl⟩) ⟨zb_blind, fun U hU hW => ⟨rfl, zb_mk hU hW hPr hPc hKc hDc hN hH hS hFc (zx_cons (zx_o hD 0 [1, 6, 18] rfl rfl (by decide)) (zx_cons (zx_o hD 5 [1, 6, 18] rfl rfl (by decide)) (zx_cons (zx_o hD 2 [1, 6, 18] rfl rfl (by decide)) zx_nil)))⟩⟩ rfl rfl hl.1 rfl (lv_room (Nat.le_of_ble_eq_true rfl)) dL_law_212 ⟨Nat.le_of_ble_eq_true rfl, Nat.le_of_ble_eq_true rfl⟩) hS (fun q _ h => hFc q h) hFc (fun q _ h => hFc q h) (fun E ce q9 u t H26 locs ht hvm hpx hBX hz1 hk1 hS hce hcv hcl => hpx.elim) (fun r27 u t H26 locs ht hvm hw hB hz1 hk1 hS => ?_)
          obtain rfl : r27 = (zLk (xs 1) (xs 2) (xs 3)) := hw
          obtain ⟨fo9_28, hq28_0, hP1, hD1, hK1⟩ := hB
          rw [ht] at hP1
          obtain ⟨hP, hD⟩ := va_join (wr := [(q1, .inr (8, [.ref rm_5, .ref tr_5, .ref st_5])), (lk_5, .inl (cL_5, 10, .inr (.inr (.inr (.inr fl_5))))), (th_5, .inl (cT_5, 12, .inr (.inr (.inr (.inr ft_5))))), (pl_5, .inl (cP_5, 6, .inr (.inr (.inr (.inr fp_5))))), (gm_5, .inr (2, [.int 0, .int 0, .int 0, .int 0, .int 0, .int (-1), .long 0])), (t0_5, .inr (7, [.int 0, .int 0, .int 0, .int 0, .int 0])), (p0_5, .inr (4, [.int 0, .int 0, .int 0, .int 0])), (st_5, .inr (6, [.ref a1_5, .ref a2_5, .ref a3_5])), (a1_5, .inl (cZ_5, 1024, .inl f1_5)), (a2_5, .inl (cI_5, 1024, .inl f2_5)), (a3_5, .inl (cJ_5, 1024, .inl f3_5)), (q6, .inr (10, [.int 0, .ref mr_10, .int 1, .long 0])), (mr_10, .inr (9, [.ref ll_10, .ref lt_10, .ref lp_10, .int (-1), .int 0, .int 0, .int 0, .int 0, .int 0, .int 0, .int (-1), .int 0, .int 0, .int 0])), (ll_10, .inr (1, [.int 0, .ref ed, .int 0])), (lt_10, .inr (1, [.int 0, .ref ed, .int 0])), (lp_10, .inr (1, [.int 0, .ref ed, .int 0]))]) (w1 := [(q11, .inl (cA13, 1, .inr (.inl fo9_28)))]) hP hD [1, 6, 18] [0, 2, 3, 4, 5, 7, 8, 9, 10, 11, 12, 13, 14, 15, 16, 17] rfl rfl (by decide) (by decide) hk1 hFc hP1 hD1
          have hP : va_P (dC, dI) vwCl [(q1, .inr (8, [.ref rm_5, .ref tr_5, .ref st_5])), (lk_5, .inl (cL_5, 10, .inr (.inr (.inr (.inr fl_5))))), (th_5, .inl (cT_5, 12, .inr (.inr (.inr (.inr ft_5))))), (pl_5, .inl (cP_5, 6, .inr (.inr (.inr (.inr fp_5))))), (gm_5, .inr (2, [.int 0, .int 0, .int 0, .int 0, .int 0, .int (-1), .long 0])), (t0_5, .inr (7, [.int 0, .int 0, .int 0, .int 0, .int 0])), (p0_5, .inr (4, [.int 0, .int 0, .int 0, .int 0])), (st_5, .inr (6, [.ref a1_5, .ref a2_5, .ref a3_5])), (a1_5, .inl (cZ_5, 1024, .inl f1_5)), (a2_5, .inl (cI_5, 1024, .inl f2_5)), (a3_5, .inl (cJ_5, 1024, .inl f3_5)), (q6, .inr (10, [.int 0, .ref mr_10, .int 1, .long 0])), (mr_10, .inr (9, [.ref ll_10, .ref lt_10, .ref lp_10, .int (-1), .int 0, .int 0, .int 0, .int 0, .int 0, .int 0, .int (-1), .int 0, .int 0, .int 0])), (ll_10, .inr (1, [.int 0, .ref ed, .int 0])), (lt_10, .inr (1, [.int 0, .ref ed, .int 0])), (lp_10, .inr (1, [.int 0, .ref ed, .int 0])), (q11, .inl (cA13, 1, .inr (.inl fo9_28)))] H26 := hP
          have hD : va_D A [(q1, .inr (8, [.ref rm_5, .ref tr_5, .ref st_5])), (lk_5, .inl (cL_5, 10, .inr (.inr (.inr (.inr fl_5))))), (th_5, .inl (cT_5, 12, .inr (.inr (.inr (.inr ft_5))))), (pl_5, .inl (cP_5, 6, .inr (.inr (.inr (.inr fp_5))))), (gm_5, .inr (2, [.int 0, .int 0, .int 0, .int 0, .int 0, .int (-1), .long 0])), (t0_5, .inr (7, [.int 0, .int 0, .int 0, .int 0, .int 0])), (p0_5, .inr (4, [.int 0, .int 0, .int 0, .int 0])), (st_5, .inr (6, [.ref a1_5, .ref a2_5, .ref a3_5])), (a1_5, .inl (cZ_5, 1024, .inl f1_5)), (a2_5, .inl (cI_5, 1024, .inl f2_5)), (a3_5, .inl (cJ_5, 1024, .inl f3_5)), (q6, .inr (10, [.int 0, .ref mr_10, .int 1, .long 0])), (mr_10, .inr (9, [.ref ll_10, .ref lt_10, .ref lp_10, .int (-1), .int 0, .int 0, .int 0, .int 0, .int 0, .int 0, .int (-1), .int 0, .int 0, .int 0])), (ll_10, .inr (1, [.int 0, .ref ed, .int 0])), (lt_10, .inr (1, [.int 0, .ref ed, .int 0])), (lp_10, .inr (1, [.int 0, .ref ed, .int 0])), (q11, .inl (cA13, 1, .inr (.inl fo9_28)))] := hD
          refine lv_istore (lv' := [(5, .int (zLk (xs 1) (xs 2) (xs 3))), (4, .int 0), (3, .ref q11), (2, .ref q6), (1, .ref q1), (0, .ref b)]) hx hb dL_law_215 hl (by decide) rfl (fun ls hl => ?_)
          refine lv_aload_n hx hb dL_law_217 rfl (lv_at hl 3 rfl) ?_
          refine lv_aload_n hx hb dL_law_218 rfl (lv_at hl 5 rfl) ?_
          refine lv_iload hx hb dL_law_219 (lv_at hl 1 rfl) ?_
          refine lv_iconst (v := 1) hx hb dL_law_221 (by decide) ?_
          refine lv_iadd hx hb dL_law_222 ?_
          refine zo_i (v := 1) (by decide) ?_
          refine va_sld hx hb hX hbl hbA hS (by unfold vp_in; decide) dL_law_223 ?_
          refine zo_i (v := xs 1) (by rw [show Int32.toNatClampNeg 1 = 1 from by decide]) ?_
          refine lv_aload_n hx hb dL_law_224 rfl (lv_at hl 5 rfl) ?_
          refine lv_iload hx hb dL_law_225 (lv_at hl 1 rfl) ?_
          refine lv_iconst (v := 2) hx hb dL_law_227 (by decide) ?_
          refine lv_iadd hx hb dL_law_228 ?_
          refine zo_i (v := 2) (by decide) ?_
          refine va_sld hx hb hX hbl hbA hS (by unfold vp_in; decide) dL_law_229 ?_
          refine zo_i (v := xs 2) (by rw [show Int32.toNatClampNeg 2 = 2 from by decide]) ?_
          refine lv_aload_n hx hb dL_law_230 rfl (lv_at hl 5 rfl) ?_
          refine lv_iload hx hb dL_law_231 (lv_at hl 1 rfl) ?_
          refine lv_iconst (v := 3) hx hb dL_law_233 (by decide) ?_
          refine lv_iadd hx hb dL_law_234 ?_
          refine zo_i (v := 3) (by decide) ?_
          refine va_sld hx hb hX hbl hbA hS (by unfold vp_in; decide) dL_law_235 ?_
          refine zo_i (v := xs 3) (by rw [show Int32.toNatClampNeg 3 = 3 from by decide]) ?_
          refine lv_aload_n hx hb dL_law_236 rfl (lv_at hl 5 rfl) ?_
          refine lv_iload hx hb dL_law_237 (lv_at hl 1 rfl) ?_
          refine lv_iconst (v := 4) hx hb dL_law_239 (by decide) ?_
          refine lv_iadd hx hb dL_law_240 ?_
          refine zo_i (v := 4) (by decide) ?_
          refine va_sld hx hb hX hbl hbA hS (by unfold vp_in; decide) dL_law_241 ?_
          refine zo_i (v := xs 4) (by rw [show Int32.toNatClampNeg 4 = 4 from by decide]) ?_
          refine lv_if_eq (tgt := 249) hx hb dL_law_242 (by decide) (fun _ => ?_) (fun h => absurd c15 h)
          refine lv_iconst (v := 0) hx hb dL_law_249 (by decide) ?_
          refine lv_aload_n hx hb dL_law_250 rfl (lv_at hl 5 rfl) ?_
          refine lv_iload hx hb dL_law_251 (lv_at hl 1 rfl) ?_
          refine lv_iconst (v := 5) hx hb dL_law_253 (by decide) ?_
          refine lv_iadd hx hb dL_law_254 ?_
          refine zo_i (v := 5) (by decide) ?_
          refine va_sld hx hb hX hbl hbA hS (by unfold vp_in; decide) dL_law_255 ?_
          refine zo_i (v := xs 5) (by rw [show Int32.toNatClampNeg 5 = 5 from by decide]) ?_
          refine lv_if_eq (tgt := 263) hx hb dL_law_256 (by decide) (fun h => absurd h c16) (fun _ => ?_)
          refine lv_iconst (v := 1) hx hb dL_law_259 (by decide) ?_
          refine lv_goto (tgt := 264) hx hb dL_law_260 (by decide) ?_
          have hPr := (hP).sub (ws' := [(lt_10, .inr (1, [.int 0, .ref ed, .int 0])), (lp_10, .inr (1, [.int 0, .ref ed, .int 0]))]) [14, 15] rfl
          have hPc := hP.sub (ws' := [(q6, .inr (10, [.int 0, .ref mr_10, .int 1, .long 0])), (mr_10, .inr (9, [.ref ll_10, .ref lt_10, .ref lp_10, .int (-1), .int 0, .int 0, .int 0, .int 0, .int 0, .int 0, .int (-1), .int 0, .int 0, .int 0])), (ll_10, .inr (1, [.int 0, .ref ed, .int 0]))]) [11, 12, 13] rfl
          have hDc := hD.sub (ws' := [(q6, .inr (10, [.int 0, .ref mr_10, .int 1, .long 0])), (mr_10, .inr (9, [.ref ll_10, .ref lt_10, .ref lp_10, .int (-1), .int 0, .int 0, .int 0, .int 0, .int 0, .int 0, .int (-1), .int 0, .int 0, .int 0])), (ll_10, .inr (1, [.int 0, .ref ed, .int 0]))]) [11, 12, 13] (by decide) rfl
          have hKc := hK.sub (tys' := []) [] rfl
          have hFc := va_free (wc := [(q6, .inr (10, [.int 0, .ref mr_10, .int 1, .long 0])), (mr_10, .inr (9, [.ref ll_10, .ref lt_10, .ref lp_10, .int (-1), .int 0, .int 0, .int 0, .int 0, .int 0, .int 0, .int (-1), .int 0, .int 0, .int 0])), (ll_10, .inr (1, [.int 0, .ref ed, .int 0]))]) hD hS hA [11, 12, 13] rfl
          refine va_calli (va_runV (As := [.int (xs 1), .int (xs 2), .int (xs 3), .int 0, .int 1]) (rest := []) ⟨hx, hb, hml, hown, hts⟩ (cz_X8_lock l dC dI ed H26.size q6 mr_10 ll_10 lt_10 lp_10 0 0 (xs 1) (xs 2) (xs 3) 0 1) (cwV 5 hts gL_law_X8_lock rfl rfl rfl (by decide +kernel) ⟨Nat.le_of_ble_eq_true rfl, Nat.le_of_ble_eq_true rfl⟩) ⟨zb_blind, va_recv hK hP (ci := 10) (q0 := 11) rfl rfl, fun U hU hW => ⟨rfl, zb_mk hU hW hPr hPc hKc hDc hN hH hS hFc (zx_cons (zx_o hD 14 [11, 12, 13] rfl rfl (by decide)) (zx_cons (zx_o hD 15 [11, 12, 13] rfl rfl (by decide)) zx_nil))⟩⟩ rfl rfl hl.1 rfl (lv_room (Nat.le_of_ble_eq_true rfl)) dL_law_264 ⟨Nat.le_of_ble_eq_true rfl, Nat.le_of_ble_eq_true rfl⟩) hS (fun q _ h => hFc q h) hFc (fun r30 u t H29 locs ht hvm hw hB hz1 hk1 hS => ?_)
          obtain rfl : r30 = 0 := hw
          obtain ⟨hP1, hD1, hK1⟩ := hB
          rw [ht] at hP1
          obtain ⟨hP, hD⟩ := va_join (wr := [(q1, .inr (8, [.ref rm_5, .ref tr_5, .ref st_5])), (lk_5, .inl (cL_5, 10, .inr (.inr (.inr (.inr fl_5))))), (th_5, .inl (cT_5, 12, .inr (.inr (.inr (.inr ft_5))))), (pl_5, .inl (cP_5, 6, .inr (.inr (.inr (.inr fp_5))))), (gm_5, .inr (2, [.int 0, .int 0, .int 0, .int 0, .int 0, .int (-1), .long 0])), (t0_5, .inr (7, [.int 0, .int 0, .int 0, .int 0, .int 0])), (p0_5, .inr (4, [.int 0, .int 0, .int 0, .int 0])), (st_5, .inr (6, [.ref a1_5, .ref a2_5, .ref a3_5])), (a1_5, .inl (cZ_5, 1024, .inl f1_5)), (a2_5, .inl (cI_5, 1024, .inl f2_5)), (a3_5, .inl (cJ_5, 1024, .inl f3_5)), (lt_10, .inr (1, [.int 0, .ref ed, .int 0])), (lp_10, .inr (1, [.int 0, .ref ed, .int 0])), (q11, .inl (cA13, 1, .inr (.inl fo9_28)))]) (w1 := [(q6, .inr (10, [.int (zLk (xs 1) (xs 2) (xs 3)), .ref mr_10, .int 1, .long 0]))]) hP hD [11, 12, 13] [0, 1, 2, 3, 4, 5, 6, 7, 8, 9, 10, 14, 15, 16] rfl rfl (by decide) (by decide) hk1 hFc hP1 hD1
          have hP : va_P (dC, dI) vwCl [(q1, .inr (8, [.ref rm_5, .ref tr_5, .ref st_5])), (lk_5, .inl (cL_5, 10, .inr (.inr (.inr (.inr fl_5))))), (th_5, .inl (cT_5, 12, .inr (.inr (.inr (.inr ft_5))))), (pl_5, .inl (cP_5, 6, .inr (.inr (.inr (.inr fp_5))))), (gm_5, .inr (2, [.int 0, .int 0, .int 0, .int 0, .int 0, .int (-1), .long 0])), (t0_5, .inr (7, [.int 0, .int 0, .int 0, .int 0, .int 0])), (p0_5, .inr (4, [.int 0, .int 0, .int 0, .int 0])), (st_5, .inr (6, [.ref a1_5, .ref a2_5, .ref a3_5])), (a1_5, .inl (cZ_5, 1024, .inl f1_5)), (a2_5, .inl (cI_5, 1024, .inl f2_5)), (a3_5, .inl (cJ_5, 1024, .inl f3_5)), (lt_10, .inr (1, [.int 0, .ref ed, .int 0])), (lp_10, .inr (1, [.int 0, .ref ed, .int 0])), (q11, .inl (cA13, 1, .inr (.inl fo9_28))), (q6, .inr (10, [.int (zLk (xs 1) (xs 2) (xs 3)), .ref mr_10, .int 1, .long 0]))] H29 := hP
          have hD : va_D A [(q1, .inr (8, [.ref rm_5, .ref tr_5, .ref st_5])), (lk_5, .inl (cL_5, 10, .inr (.inr (.inr (.inr fl_5))))), (th_5, .inl (cT_5, 12, .inr (.inr (.inr (.inr ft_5))))), (pl_5, .inl (cP_5, 6, .inr (.inr (.inr (.inr fp_5))))), (gm_5, .inr (2, [.int 0, .int 0, .int 0, .int 0, .int 0, .int (-1), .long 0])), (t0_5, .inr (7, [.int 0, .int 0, .int 0, .int 0, .int 0])), (p0_5, .inr (4, [.int 0, .int 0, .int 0, .int 0])), (st_5, .inr (6, [.ref a1_5, .ref a2_5, .ref a3_5])), (a1_5, .inl (cZ_5, 1024, .inl f1_5)), (a2_5, .inl (cI_5, 1024, .inl f2_5)), (a3_5, .inl (cJ_5, 1024, .inl f3_5)), (lt_10, .inr (1, [.int 0, .ref ed, .int 0])), (lp_10, .inr (1, [.int 0, .ref ed, .int 0])), (q11, .inl (cA13, 1, .inr (.inl fo9_28))), (q6, .inr (10, [.int (zLk (xs 1) (xs 2) (xs 3)), .ref mr_10, .int 1, .long 0]))] := hD
          refine lv_istore (lv' := [(6, .int 0), (5, .int (zLk (xs 1) (xs 2) (xs 3))), (4, .int 0), (3, .ref q11), (2, .ref q6), (1, .ref q1), (0, .ref b)]) hx hb dL_law_267 hl (by decide) rfl (fun ls hl => ?_)
          refine lv_aload_n hx hb dL_law_269 rfl (lv_at hl 4 rfl) ?_
          have hPr := (hP).sub (ws' := [(q6, .inr (10, [.int (zLk (xs 1) (xs 2) (xs 3)), .ref mr_10, .int 1, .long 0]))]) [14] rfl
          have hPc := hP.sub (ws' := []) [] rfl
          have hDc := hD.sub (ws' := []) [] (by decide) rfl
          have hKc := hK.sub (tys' := []) [] rfl
          have hFc := va_free (wc := []) hD hS hA [] rfl
          refine va_calli (va_runV (As := []) (rest := []) ⟨hx, hb, hml, hown, hts⟩ (cz_thrown l dC dI ed H29.size q6 mr_10 (zLk (xs 1) (xs 2) (xs 3)) 0) (cwV 0 hts gL_law_X8_thrown rfl rfl rfl (by decide +kernel) ⟨Nat.le_of_ble_eq_true rfl, Nat.le_of_ble_eq_true rfl⟩) ⟨zb_blind, va_recv hK hP (ci := 10) (q0 := 14) rfl rfl, fun U hU hW => ⟨rfl, zb_mk hU hW hPr hPc hKc hDc hN hH hS hFc zx_e⟩⟩ rfl rfl hl.1 rfl (lv_room (Nat.le_of_ble_eq_true rfl)) dL_law_270 ⟨Nat.le_of_ble_eq_true rfl, Nat.le_of_ble_eq_true rfl⟩) hS (fun q _ h => hFc q h) hFc (fun r33 u t H32 locs ht hvm hw hB hz1 hk1 hS => ?_)
          obtain rfl : r33 = (zLk (xs 1) (xs 2) (xs 3)) := hw
          have hP := zo_K hP hk1
          refine lv_iload hx hb dL_law_273 (lv_at hl 1 rfl) ?_
          refine lv_icmp_eq (tgt := 280) hx hb dL_law_275 (by decide) (fun _ => ?_) (fun h => absurd rfl h)
          refine lv_iload hx hb dL_law_280 (lv_at hl 1 rfl) ?_
          refine lv_if_ne (tgt := 297) hx hb dL_law_282 (by decide) (fun c34 => ?_) (fun c34 => ?_)
          · skip
            refine lv_goto (tgt := 1407) hx hb dL_law_297 (by decide) ?_
            refine lv_iinc (v := 6) (lv' := [(4, .int 6), (6, .int 0), (5, .int (zLk (xs 1) (xs 2) (xs 3))), (3, .ref q11), (2, .ref q6), (1, .ref q1), (0, .ref b)]) hx hb dL_law_1407 hl (k := 2) rfl (by decide) (by decide) rfl (fun ls hl => ?_)
            refine lv_goto (tgt := 23) hx hb dL_law_1410 (by decide) ?_
            refine lv_iload hx hb dL_law_23 (lv_at hl 0 rfl) ?_
            refine lv_aload_n hx hb dL_law_25 rfl (lv_at hl 6 rfl) ?_
            refine va_slen hx hb hX hbl hbA hS dL_law_26 ?_
            refine zo_i (v := 6) (by decide) ?_
            refine lv_bipush (v := 6) hx hb dL_law_27 (by decide) ?_
            refine lv_isub hx hb dL_law_29 ?_
            refine zo_i (v := 0) (by decide) ?_
            refine lv_icmp_gt (tgt := 1413) hx hb dL_law_30 (by decide) (fun _ => ?_) (fun h => absurd h (by decide))
            refine lv_iconst (v := 1) hx hb dL_law_1413 (by decide) ?_
            refine W.widen (k := 600002) (n := 7302232) (Nat.le_of_ble_eq_true rfl) (Nat.le_of_ble_eq_true rfl) ?_
            refine va_forget (fun q hq => by have h9 := hS.2.2 q hq; rw [hAe] at h9; exact h9) ?_
            exact lw_ret hd0 hx hb hr hlocks dL_law_1414
          · skip
            refine lv_aload_n hx hb dL_law_285 rfl (lv_at hl 3 rfl) ?_
            refine lv_iconst (v := 0) hx hb dL_law_286 (by decide) ?_
            refine va_lald hx hb hK hP 13 6 rfl rfl (by unfold vp_in; decide) dL_law_287 ?_
            refine zo_l (v := 0) (by rw [show Int32.toNatClampNeg 0 = 0 from by decide]; exact hq28_0 c34) ?_
            refine lv_iload hx hb dL_law_288 (lv_at hl 0 rfl) ?_
            refine lv_i2l (v := 0) hx hb dL_law_290 (by decide) ?_
            refine W.lcmp hx hb dL_law_291 ?_
            refine zo_i (v := 0) (zo_lc _) ?_
            refine lv_if_eq (tgt := 297) hx hb dL_law_292 (by decide) (fun _ => ?_) (fun h => absurd h (by decide))
            refine lv_goto (tgt := 1407) hx hb dL_law_297 (by decide) ?_
            refine lv_iinc (v := 6) (lv' := [(4, .int 6), (6, .int 0), (5, .int (zLk (xs 1) (xs 2) (xs 3))), (3, .ref q11), (2, .ref q6), (1, .ref q1), (0, .ref b)]) hx hb dL_law_1407 hl (k := 2) rfl (by decide) (by decide) rfl (fun ls hl => ?_)
            refine lv_goto (tgt := 23) hx hb dL_law_1410 (by decide) ?_
            refine lv_iload hx hb dL_law_23 (lv_at hl 0 rfl) ?_
            refine lv_aload_n hx hb dL_law_25 rfl (lv_at hl 6 rfl) ?_
            refine va_slen hx hb hX hbl hbA hS dL_law_26 ?_
            refine zo_i (v := 6) (by decide) ?_
            refine lv_bipush (v := 6) hx hb dL_law_27 (by decide) ?_
            refine lv_isub hx hb dL_law_29 ?_
            refine zo_i (v := 0) (by decide) ?_
            refine lv_icmp_gt (tgt := 1413) hx hb dL_law_30 (by decide) (fun _ => ?_) (fun h => absurd h (by decide))
            refine lv_iconst (v := 1) hx hb dL_law_1413 (by decide) ?_
            refine W.widen (k := 600002) (n := 7302232) (Nat.le_of_ble_eq_true rfl) (Nat.le_of_ble_eq_true rfl) ?_
            refine va_forget (fun q hq => by have h9 := hS.2.2 q hq; rw [hAe] at h9; exact h9) ?_
            exact lw_ret hd0 hx hb hr hlocks dL_law_1414
      · skip
        refine lv_iconst (v := 1) hx hb dL_law_192 (by decide) ?_
        refine lv_goto (tgt := 197) hx hb dL_law_193 (by decide) ?_
        refine lv_aload_n hx hb dL_law_197 rfl (lv_at hl 4 rfl) ?_
        refine lv_iload hx hb dL_law_198 (lv_at hl 0 rfl) ?_
        refine lv_iconst (v := 5) hx hb dL_law_200 (by decide) ?_
        refine lv_iadd hx hb dL_law_201 ?_
        refine zo_i (v := 5) (by decide) ?_
        refine va_sld hx hb hX hbl hbA hS (by unfold vp_in; decide) dL_law_202 ?_
        refine zo_i (v := xs 5) (by rw [show Int32.toNatClampNeg 5 = 5 from by decide]) ?_
        refine lv_if_eq (tgt := 210) hx hb dL_law_203 (by decide) (fun c35 => ?_) (fun c35 => ?_)
        · skip
          refine lv_iconst (v := 0) hx hb dL_law_210 (by decide) ?_
          refine lv_aload_n hx hb dL_law_211 rfl (lv_at hl 1 rfl) ?_
          have hPr := (hP).sub (ws' := [(q1, .inr (8, [.ref rm_5, .ref tr_5, .ref st_5])), (gm_5, .inr (2, [.int 0, .int 0, .int 0, .int 0, .int 0, .int (-1), .long 0])), (lk_5, .inl (cL_5, 10, .inr (.inr (.inr (.inr fl_5)))))]) [0, 5, 2] rfl
          have hPc := hP.sub (ws' := [(rm_5, .inr (5, [.ref lk_5, .ref th_5, .ref pl_5, .ref gm_5, .int 0, .int 0, .int 0, .int (-1), .int 1, .int 0, .int 0, .int 0])), (l0_5, .inr (3, [.int 0, .int 0, .int 0, .int 0, .int 0, .int 0, .int 0, .int 0, .int 0, .int 0])), (q11, .inl (cA13, 1, .inr (.inl (fun _ => 0))))]) [1, 6, 18] rfl
          have hDc := hD.sub (ws' := [(rm_5, .inr (5, [.ref lk_5, .ref th_5, .ref pl_5, .ref gm_5, .int 0, .int 0, .int 0, .int (-1), .int 1, .int 0, .int 0, .int 0])), (l0_5, .inr (3, [.int 0, .int 0, .int 0, .int 0, .int 0, .int 0, .int 0, .int 0, .int 0, .int 0])), (q11, .inl (cA13, 1, .inr (.inl (fun _ => 0))))]) [1, 6, 18] (by decide) rfl
          have hKc := hK.sub (tys' := [(cL_5, .object "LockRooms$Lock"), (cA13, .long)]) [0, 6] rfl
          have hFc := va_free (wc := [(rm_5, .inr (5, [.ref lk_5, .ref th_5, .ref pl_5, .ref gm_5, .int 0, .int 0, .int 0, .int (-1), .int 1, .int 0, .int 0, .int 0])), (l0_5, .inr (3, [.int 0, .int 0, .int 0, .int 0, .int 0, .int 0, .int 0, .int 0, .int 0, .int 0])), (q11, .inl (cA13, 1, .inr (.inl (fun _ => 0))))]) hD hS hA [1, 6, 18] rfl
          refine vx_calli (vx_runSX (As := [.ref q1, .int (xs 1), .int (xs 2), .int (xs 3), .int 1, .int 0, .ref q11]) (rest := []) ⟨hx, hb, hml, hown, hts⟩ (cz_L_lock l dC dI ed H12.size q1 rm_5 tr_5 st_5 lk_5 th_5 pl_5 gm_5 cL_5 fl_5 l0_5 (xs 1) (xs 2) (xs 3) 1 0 q11 cA13 (fun _ => 0) htr k5_0 (by decide)) (vx_cwSW 7 hts gL_law_L_lock rfl rfl rfl (by decide +kernel) ⟨Nat.le_of_ble_eq_true rfl, Nat.le_of_ble_eq_true rfl⟩) ⟨zb_blind, fun U hU hW => ⟨rfl, zb_mk hU hW hPr hPc hKc hDc hN hH hS hFc (zx_cons (zx_o hD 0 [1, 6, 18] rfl rfl (by decide)) (zx_cons (zx_o hD 5 [1, 6, 18] rfl rfl (by decide)) (zx_cons (zx_o hD 2 [1, 6, 18] rfl rfl (by decide)) zx_nil)))⟩⟩ rfl rfl hl.1 rfl (lv_room (Nat.le_of_ble_eq_true rfl)) dL_law_212 ⟨Nat.le_of_ble_eq_true rfl, Nat.le_of_ble_eq_true rfl⟩) hS (fun q _ h => hFc q h) hFc (fun q _ h => hFc q h) (fun E ce q9 u t H36 locs ht hvm hpx hBX hz1 hk1 hS hce hcv hcl => hpx.elim) (fun r37 u t H36 locs ht hvm hw hB hz1 hk1 hS => ?_)
          obtain rfl : r37 = (zLk (xs 1) (xs 2) (xs 3)) := hw
          obtain ⟨fo9_38, hq38_0, hP1, hD1, hK1⟩ := hB
          rw [ht] at hP1
          obtain ⟨hP, hD⟩ := va_join (wr := [(q1, .inr (8, [.ref rm_5, .ref tr_5, .ref st_5])), (lk_5, .inl (cL_5, 10, .inr (.inr (.inr (.inr fl_5))))), (th_5, .inl (cT_5, 12, .inr (.inr (.inr (.inr ft_5))))), (pl_5, .inl (cP_5, 6, .inr (.inr (.inr (.inr fp_5))))), (gm_5, .inr (2, [.int 0, .int 0, .int 0, .int 0, .int 0, .int (-1), .long 0])), (t0_5, .inr (7, [.int 0, .int 0, .int 0, .int 0, .int 0])), (p0_5, .inr (4, [.int 0, .int 0, .int 0, .int 0])), (st_5, .inr (6, [.ref a1_5, .ref a2_5, .ref a3_5])), (a1_5, .inl (cZ_5, 1024, .inl f1_5)), (a2_5, .inl (cI_5, 1024, .inl f2_5)), (a3_5, .inl (cJ_5, 1024, .inl f3_5)), (q6, .inr (10, [.int 0, .ref mr_10, .int 1, .long 0])), (mr_10, .inr (9, [.ref ll_10, .ref lt_10, .ref lp_10, .int (-1), .int 0, .int 0, .int 0, .int 0, .int 0, .int 0, .int (-1), .int 0, .int 0, .int 0])), (ll_10, .inr (1, [.int 0, .ref ed, .int 0])), (lt_10, .inr (1, [.int 0, .ref ed, .int 0])), (lp_10, .inr (1, [.int 0, .ref ed, .int 0]))]) (w1 := [(q11, .inl (cA13, 1, .inr (.inl fo9_38)))]) hP hD [1, 6, 18] [0, 2, 3, 4, 5, 7, 8, 9, 10, 11, 12, 13, 14, 15, 16, 17] rfl rfl (by decide) (by decide) hk1 hFc hP1 hD1
          have hP : va_P (dC, dI) vwCl [(q1, .inr (8, [.ref rm_5, .ref tr_5, .ref st_5])), (lk_5, .inl (cL_5, 10, .inr (.inr (.inr (.inr fl_5))))), (th_5, .inl (cT_5, 12, .inr (.inr (.inr (.inr ft_5))))), (pl_5, .inl (cP_5, 6, .inr (.inr (.inr (.inr fp_5))))), (gm_5, .inr (2, [.int 0, .int 0, .int 0, .int 0, .int 0, .int (-1), .long 0])), (t0_5, .inr (7, [.int 0, .int 0, .int 0, .int 0, .int 0])), (p0_5, .inr (4, [.int 0, .int 0, .int 0, .int 0])), (st_5, .inr (6, [.ref a1_5, .ref a2_5, .ref a3_5])), (a1_5, .inl (cZ_5, 1024, .inl f1_5)), (a2_5, .inl (cI_5, 1024, .inl f2_5)), (a3_5, .inl (cJ_5, 1024, .inl f3_5)), (q6, .inr (10, [.int 0, .ref mr_10, .int 1, .long 0])), (mr_10, .inr (9, [.ref ll_10, .ref lt_10, .ref lp_10, .int (-1), .int 0, .int 0, .int 0, .int 0, .int 0, .int 0, .int (-1), .int 0, .int 0, .int 0])), (ll_10, .inr (1, [.int 0, .ref ed, .int 0])), (lt_10, .inr (1, [.int 0, .ref ed, .int 0])), (lp_10, .inr (1, [.int 0, .ref ed, .int 0])), (q11, .inl (cA13, 1, .inr (.inl fo9_38)))] H36 := hP
          have hD : va_D A [(q1, .inr (8, [.ref rm_5, .ref tr_5, .ref st_5])), (lk_5, .inl (cL_5, 10, .inr (.inr (.inr (.inr fl_5))))), (th_5, .inl (cT_5, 12, .inr (.inr (.inr (.inr ft_5))))), (pl_5, .inl (cP_5, 6, .inr (.inr (.inr (.inr fp_5))))), (gm_5, .inr (2, [.int 0, .int 0, .int 0, .int 0, .int 0, .int (-1), .long 0])), (t0_5, .inr (7, [.int 0, .int 0, .int 0, .int 0, .int 0])), (p0_5, .inr (4, [.int 0, .int 0, .int 0, .int 0])), (st_5, .inr (6, [.ref a1_5, .ref a2_5, .ref a3_5])), (a1_5, .inl (cZ_5, 1024, .inl f1_5)), (a2_5, .inl (cI_5, 1024, .inl f2_5)), (a3_5, .inl (cJ_5, 1024, .inl f3_5)), (q6, .inr (10, [.int 0, .ref mr_10, .int 1, .long 0])), (mr_10, .inr (9, [.ref ll_10, .ref lt_10, .ref lp_10, .int (-1), .int 0, .int 0, .int 0, .int 0, .int 0, .int 0, .int (-1), .int 0, .int 0, .int 0])), (ll_10, .inr (1, [.int 0, .ref ed, .int 0])), (lt_10, .inr (1, [.int 0, .ref ed, .int 0])), (lp_10, .inr (1, [.int 0, .ref ed, .int 0])), (q11, .inl (cA13, 1, .inr (.inl fo9_38)))] := hD
          refine lv_istore (lv' := [(5, .int (zLk (xs 1) (xs 2) (xs 3))), (4, .int 0), (3, .ref q11), (2, .ref q6), (1, .ref q1), (0, .ref b)]) hx hb dL_law_215 hl (by decide) rfl (fun ls hl => ?_)
          refine lv_aload_n hx hb dL_law_217 rfl (lv_at hl 3 rfl) ?_
          refine lv_aload_n hx hb dL_law_218 rfl (lv_at hl 5 rfl) ?_
          refine lv_iload hx hb dL_law_219 (lv_at hl 1 rfl) ?_
          refine lv_iconst (v := 1) hx hb dL_law_221 (by decide) ?_
          refine lv_iadd hx hb dL_law_222 ?_
          refine zo_i (v := 1) (by decide) ?_
          refine va_sld hx hb hX hbl hbA hS (by unfold vp_in; decide) dL_law_223 ?_
          refine zo_i (v := xs 1) (by rw [show Int32.toNatClampNeg 1 = 1 from by decide]) ?_
          refine lv_aload_n hx hb dL_law_224 rfl (lv_at hl 5 rfl) ?_
          refine lv_iload hx hb dL_law_225 (lv_at hl 1 rfl) ?_
          refine lv_iconst (v := 2) hx hb dL_law_227 (by decide) ?_
          refine lv_iadd hx hb dL_law_228 ?_
          refine zo_i (v := 2) (by decide) ?_
          refine va_sld hx hb hX hbl hbA hS (by unfold vp_in; decide) dL_law_229 ?_
          refine zo_i (v := xs 2) (by rw [show Int32.toNatClampNeg 2 = 2 from by decide]) ?_
          refine lv_aload_n hx hb dL_law_230 rfl (lv_at hl 5 rfl) ?_
          refine lv_iload hx hb dL_law_231 (lv_at hl 1 rfl) ?_
          refine lv_iconst (v := 3) hx hb dL_law_233 (by decide) ?_
          refine lv_iadd hx hb dL_law_234 ?_
          refine zo_i (v := 3) (by decide) ?_
          refine va_sld hx hb hX hbl hbA hS (by unfold vp_in; decide) dL_law_235 ?_
          refine zo_i (v := xs 3) (by rw [show Int32.toNatClampNeg 3 = 3 from by decide]) ?_
          refine lv_aload_n hx hb dL_law_236 rfl (lv_at hl 5 rfl) ?_
          refine lv_iload hx hb dL_law_237 (lv_at hl 1 rfl) ?_
          refine lv_iconst (v := 4) hx hb dL_law_239 (by decide) ?_
          refine lv_iadd hx hb dL_law_240 ?_
          refine zo_i (v := 4) (by decide) ?_
          refine va_sld hx hb hX hbl hbA hS (by unfold vp_in; decide) dL_law_241 ?_
          refine zo_i (v := xs 4) (by rw [show Int32.toNatClampNeg 4 = 4 from by decide]) ?_
          refine lv_if_eq (tgt := 249) hx hb dL_law_242 (by decide) (fun h => absurd h c15) (fun _ => ?_)
          refine lv_iconst (v := 1) hx hb dL_law_245 (by decide) ?_
          refine lv_goto (tgt := 250) hx hb dL_law_246 (by decide) ?_
          refine lv_aload_n hx hb dL_law_250 rfl (lv_at hl 5 rfl) ?_
          refine lv_iload hx hb dL_law_251 (lv_at hl 1 rfl) ?_
          refine lv_iconst (v := 5) hx hb dL_law_253 (by decide) ?_
          refine lv_iadd hx hb dL_law_254 ?_
          refine zo_i (v := 5) (by decide) ?_
          refine va_sld hx hb hX hbl hbA hS (by unfold vp_in; decide) dL_law_255 ?_
          refine zo_i (v := xs 5) (by rw [show Int32.toNatClampNeg 5 = 5 from by decide]) ?_
          refine lv_if_eq (tgt := 263) hx hb dL_law_256 (by decide) (fun _ => ?_) (fun h => absurd c35 h)
          refine lv_iconst (v := 0) hx hb dL_law_263 (by decide) ?_
          have hPr := (hP).sub (ws' := [(lt_10, .inr (1, [.int 0, .ref ed, .int 0])), (lp_10, .inr (1, [.int 0, .ref ed, .int 0]))]) [14, 15] rfl
          have hPc := hP.sub (ws' := [(q6, .inr (10, [.int 0, .ref mr_10, .int 1, .long 0])), (mr_10, .inr (9, [.ref ll_10, .ref lt_10, .ref lp_10, .int (-1), .int 0, .int 0, .int 0, .int 0, .int 0, .int 0, .int (-1), .int 0, .int 0, .int 0])), (ll_10, .inr (1, [.int 0, .ref ed, .int 0]))]) [11, 12, 13] rfl
          have hDc := hD.sub (ws' := [(q6, .inr (10, [.int 0, .ref mr_10, .int 1, .long 0])), (mr_10, .inr (9, [.ref ll_10, .ref lt_10, .ref lp_10, .int (-1), .int 0, .int 0, .int 0, .int 0, .int 0, .int 0, .int (-1), .int 0, .int 0, .int 0])), (ll_10, .inr (1, [.int 0, .ref ed, .int 0]))]) [11, 12, 13] (by decide) rfl
          have hKc := hK.sub (tys' := []) [] rfl
          have hFc := va_free (wc := [(q6, .inr (10, [.int 0, .ref mr_10, .int 1, .long 0])), (mr_10, .inr (9, [.ref ll_10, .ref lt_10, .ref lp_10, .int (-1), .int 0, .int 0, .int 0, .int 0, .int 0, .int 0, .int (-1), .int 0, .int 0, .int 0])), (ll_10, .inr (1, [.int 0, .ref ed, .int 0]))]) hD hS hA [11, 12, 13] rfl
          refine va_calli (va_runV (As := [.int (xs 1), .int (xs 2), .int (xs 3), .int 1, .int 0]) (rest := []) ⟨hx, hb, hml, hown, hts⟩ (cz_X8_lock l dC dI ed H36.size q6 mr_10 ll_10 lt_10 lp_10 0 0 (xs 1) (xs 2) (xs 3) 1 0) (cwV 5 hts gL_law_X8_lock rfl rfl rfl (by decide +kernel) ⟨Nat.le_of_ble_eq_true rfl, Nat.le_of_ble_eq_true rfl⟩) ⟨zb_blind, va_recv hK hP (ci := 10) (q0 := 11) rfl rfl, fun U hU hW => ⟨rfl, zb_mk hU hW hPr hPc hKc hDc hN hH hS hFc (zx_cons (zx_o hD 14 [11, 12, 13] rfl rfl (by decide)) (zx_cons (zx_o hD 15 [11, 12, 13] rfl rfl (by decide)) zx_nil))⟩⟩ rfl rfl hl.1 rfl (lv_room (Nat.le_of_ble_eq_true rfl)) dL_law_264 ⟨Nat.le_of_ble_eq_true rfl, Nat.le_of_ble_eq_true rfl⟩) hS (fun q _ h => hFc q h) hFc (fun r40 u t H39 locs ht hvm hw hB hz1 hk1 hS => ?_)
          obtain rfl : r40 = 0 := hw
          obtain ⟨hP1, hD1, hK1⟩ := hB
          rw [ht] at hP1
          obtain ⟨hP, hD⟩ := va_join (wr := [(q1, .inr (8, [.ref rm_5, .ref tr_5, .ref st_5])), (lk_5, .inl (cL_5, 10, .inr (.inr (.inr (.inr fl_5))))), (th_5, .inl (cT_5, 12, .inr (.inr (.inr (.inr ft_5))))), (pl_5, .inl (cP_5, 6, .inr (.inr (.inr (.inr fp_5))))), (gm_5, .inr (2, [.int 0, .int 0, .int 0, .int 0, .int 0, .int (-1), .long 0])), (t0_5, .inr (7, [.int 0, .int 0, .int 0, .int 0, .int 0])), (p0_5, .inr (4, [.int 0, .int 0, .int 0, .int 0])), (st_5, .inr (6, [.ref a1_5, .ref a2_5, .ref a3_5])), (a1_5, .inl (cZ_5, 1024, .inl f1_5)), (a2_5, .inl (cI_5, 1024, .inl f2_5)), (a3_5, .inl (cJ_5, 1024, .inl f3_5)), (lt_10, .inr (1, [.int 0, .ref ed, .int 0])), (lp_10, .inr (1, [.int 0, .ref ed, .int 0])), (q11, .inl (cA13, 1, .inr (.inl fo9_38)))]) (w1 := [(q6, .inr (10, [.int (zLk (xs 1) (xs 2) (xs 3)), .ref mr_10, .int 1, .long 0]))]) hP hD [11, 12, 13] [0, 1, 2, 3, 4, 5, 6, 7, 8, 9, 10, 14, 15, 16] rfl rfl (by decide) (by decide) hk1 hFc hP1 hD1
          have hP : va_P (dC, dI) vwCl [(q1, .inr (8, [.ref rm_5, .ref tr_5, .ref st_5])), (lk_5, .inl (cL_5, 10, .inr (.inr (.inr (.inr fl_5))))), (th_5, .inl (cT_5, 12, .inr (.inr (.inr (.inr ft_5))))), (pl_5, .inl (cP_5, 6, .inr (.inr (.inr (.inr fp_5))))), (gm_5, .inr (2, [.int 0, .int 0, .int 0, .int 0, .int 0, .int (-1), .long 0])), (t0_5, .inr (7, [.int 0, .int 0, .int 0, .int 0, .int 0])), (p0_5, .inr (4, [.int 0, .int 0, .int 0, .int 0])), (st_5, .inr (6, [.ref a1_5, .ref a2_5, .ref a3_5])), (a1_5, .inl (cZ_5, 1024, .inl f1_5)), (a2_5, .inl (cI_5, 1024, .inl f2_5)), (a3_5, .inl (cJ_5, 1024, .inl f3_5)), (lt_10, .inr (1, [.int 0, .ref ed, .int 0])), (lp_10, .inr (1, [.int 0, .ref ed, .int 0])), (q11, .inl (cA13, 1, .inr (.inl fo9_38))), (q6, .inr (10, [.int (zLk (xs 1) (xs 2) (xs 3)), .ref mr_10, .int 1, .long 0]))] H39 := hP
          have hD : va_D A [(q1, .inr (8, [.ref rm_5, .ref tr_5, .ref st_5])), (lk_5, .inl (cL_5, 10, .inr (.inr (.inr (.inr fl_5))))), (th_5, .inl (cT_5, 12, .inr (.inr (.inr (.inr ft_5))))), (pl_5, .inl (cP_5, 6, .inr (.inr (.inr (.inr fp_5))))), (gm_5, .inr (2, [.int 0, .int 0, .int 0, .int 0, .int 0, .int (-1), .long 0])), (t0_5, .inr (7, [.int 0, .int 0, .int 0, .int 0, .int 0])), (p0_5, .inr (4, [.int 0, .int 0, .int 0, .int 0])), (st_5, .inr (6, [.ref a1_5, .ref a2_5, .ref a3_5])), (a1_5, .inl (cZ_5, 1024, .inl f1_5)), (a2_5, .inl (cI_5, 1024, .inl f2_5)), (a3_5, .inl (cJ_5, 1024, .inl f3_5)), (lt_10, .inr (1, [.int 0, .ref ed, .int 0])), (lp_10, .inr (1, [.int 0, .ref ed, .int 0])), (q11, .inl (cA13, 1, .inr (.inl fo9_38))), (q6, .inr (10, [.int (zLk (xs 1) (xs 2) (xs 3)), .ref mr_10, .int 1, .long 0]))] := hD
          refine lv_istore (lv' := [(6, .int 0), (5, .int (zLk (xs 1) (xs 2) (xs 3))), (4, .int 0), (3, .ref q11), (2, .ref q6), (1, .ref q1), (0, .ref b)]) hx hb dL_law_267 hl (by decide) rfl (fun ls hl => ?_)
          refine lv_aload_n hx hb dL_law_269 rfl (lv_at hl 4 rfl) ?_
          have hPr := (hP).sub (ws' := [(q6, .inr (10, [.int (zLk (xs 1) (xs 2) (xs 3)), .ref mr_10, .int 1, .long 0]))]) [14] rfl
          have hPc := hP.sub (ws' := []) [] rfl
          have hDc := hD.sub (ws' := []) [] (by decide) rfl
          have hKc := hK.sub (tys' := []) [] rfl
          have hFc := va_free (wc := []) hD hS hA [] rfl
          refine va_calli (va_runV (As := []) (rest := []) ⟨hx, hb, hml, hown, hts⟩ (cz_thrown l dC dI ed H39.size q6 mr_10 (zLk (xs 1) (xs 2) (xs 3)) 0) (cwV 0 hts gL_law_X8_thrown rfl rfl rfl (by decide +kernel) ⟨Nat.le_of_ble_eq_true rfl, Nat.le_of_ble_eq_true rfl⟩) ⟨zb_blind, va_recv hK hP (ci := 10) (q0 := 14) rfl rfl, fun U hU hW => ⟨rfl, zb_mk hU hW hPr hPc hKc hDc hN hH hS hFc zx_e⟩⟩ rfl rfl hl.1 rfl (lv_room (Nat.le_of_ble_eq_true rfl)) dL_law_270 ⟨Nat.le_of_ble_eq_true rfl, Nat.le_of_ble_eq_true rfl⟩) hS (fun q _ h => hFc q h) hFc (fun r43 u t H42 locs ht hvm hw hB hz1 hk1 hS => ?_)
          obtain rfl : r43 = (zLk (xs 1) (xs 2) (xs 3)) := hw
          have hP := zo_K hP hk1
          refine lv_iload hx hb dL_law_273 (lv_at hl 1 rfl) ?_
          refine lv_icmp_eq (tgt := 280) hx hb dL_law_275 (by decide) (fun _ => ?_) (fun h => absurd rfl h)
          refine lv_iload hx hb dL_law_280 (lv_at hl 1 rfl) ?_
          refine lv_if_ne (tgt := 297) hx hb dL_law_282 (by decide) (fun c44 => ?_) (fun c44 => ?_)
          · skip
            refine lv_goto (tgt := 1407) hx hb dL_law_297 (by decide) ?_
            refine lv_iinc (v := 6) (lv' := [(4, .int 6), (6, .int 0), (5, .int (zLk (xs 1) (xs 2) (xs 3))), (3, .ref q11), (2, .ref q6), (1, .ref q1), (0, .ref b)]) hx hb dL_law_1407 hl (k := 2) rfl (by decide) (by decide) rfl (fun ls hl => ?_)
            refine lv_goto (tgt := 23) hx hb dL_law_1410 (by decide) ?_
            refine lv_iload hx hb dL_law_23 (lv_at hl 0 rfl) ?_
            refine lv_aload_n hx hb dL_law_25 rfl (lv_at hl 6 rfl) ?_
            refine va_slen hx hb hX hbl hbA hS dL_law_26 ?_
            refine zo_i (v := 6) (by decide) ?_
            refine lv_bipush (v := 6) hx hb dL_law_27 (by decide) ?_
            refine lv_isub hx hb dL_law_29 ?_
            refine zo_i (v := 0) (by decide) ?_
            refine lv_icmp_gt (tgt := 1413) hx hb dL_law_30 (by decide) (fun _ => ?_) (fun h => absurd h (by decide))
            refine lv_iconst (v := 1) hx hb dL_law_1413 (by decide) ?_
            refine W.widen (k := 600002) (n := 7302232) (Nat.le_of_ble_eq_true rfl) (Nat.le_of_ble_eq_true rfl) ?_
            refine va_forget (fun q hq => by have h9 := hS.2.2 q hq; rw [hAe] at h9; exact h9) ?_
            exact lw_ret hd0 hx hb hr hlocks dL_law_1414
          · skip
            refine lv_aload_n hx hb dL_law_285 rfl (lv_at hl 3 rfl) ?_
            refine lv_iconst (v := 0) hx hb dL_law_286 (by decide) ?_
            refine va_lald hx hb hK hP 13 6 rfl rfl (by unfold vp_in; decide) dL_law_287 ?_
            refine zo_l (v := 0) (by rw [show Int32.toNatClampNeg 0 = 0 from by decide]; exact hq38_0 c44) ?_
            refine lv_iload hx hb dL_law_288 (lv_at hl 0 rfl) ?_
            refine lv_i2l (v := 0) hx hb dL_law_290 (by decide) ?_
            refine W.lcmp hx hb dL_law_291 ?_
            refine zo_i (v := 0) (zo_lc _) ?_
            refine lv_if_eq (tgt := 297) hx hb dL_law_292 (by decide) (fun _ => ?_) (fun h => absurd h (by decide))
            refine lv_goto (tgt := 1407) hx hb dL_law_297 (by decide) ?_
            refine lv_iinc (v := 6) (lv' := [(4, .int 6), (6, .int 0), (5, .int (zLk (xs 1) (xs 2) (xs 3))), (3, .ref q11), (2, .ref q6), (1, .ref q1), (0, .ref b)]) hx hb dL_law_1407 hl (k := 2) rfl (by decide) (by decide) rfl (fun ls hl => ?_)
            refine lv_goto (tgt := 23) hx hb dL_law_1410 (by decide) ?_
            refine lv_iload hx hb dL_law_23 (lv_at hl 0 rfl) ?_
            refine lv_aload_n hx hb dL_law_25 rfl (lv_at hl 6 rfl) ?_
            refine va_slen hx hb hX hbl hbA hS dL_law_26 ?_
            refine zo_i (v := 6) (by decide) ?_
            refine lv_bipush (v := 6) hx hb dL_law_27 (by decide) ?_
            refine lv_isub hx hb dL_law_29 ?_
            refine zo_i (v := 0) (by decide) ?_
            refine lv_icmp_gt (tgt := 1413) hx hb dL_law_30 (by decide) (fun _ => ?_) (fun h => absurd h (by decide))
            refine lv_iconst (v := 1) hx hb dL_law_1413 (by decide) ?_
            refine W.widen (k := 600002) (n := 7302232) (Nat.le_of_ble_eq_true rfl) (Nat.le_of_ble_eq_true rfl) ?_
            refine va_forget (fun q hq => by have h9 := hS.2.2 q hq; rw [hAe] at h9; exact h9) ?_
            exact lw_ret hd0 hx hb hr hlocks dL_law_1414
        · skip
          refine lv_iconst (v := 1) hx hb dL_law_206 (by decide) ?_
          refine lv_goto (tgt := 211) hx hb dL_law_207 (by decide) ?_
          refine lv_aload_n hx hb dL_law_211 rfl (lv_at hl 1 rfl) ?_
          have hPr := (hP).sub (ws' := [(q1, .inr (8, [.ref rm_5, .ref tr_5, .ref st_5])), (gm_5, .inr (2, [.int 0, .int 0, .int 0, .int 0, .int 0, .int (-1), .long 0])), (lk_5, .inl (cL_5, 10, .inr (.inr (.inr (.inr fl_5)))))]) [0, 5, 2] rfl
          have hPc := hP.sub (ws' := [(rm_5, .inr (5, [.ref lk_5, .ref th_5, .ref pl_5, .ref gm_5, .int 0, .int 0, .int 0, .int (-1), .int 1, .int 0, .int 0, .int 0])), (l0_5, .inr (3, [.int 0, .int 0, .int 0, .int 0, .int 0, .int 0, .int 0, .int 0, .int 0, .int 0])), (q11, .inl (cA13, 1, .inr (.inl (fun _ => 0))))]) [1, 6, 18] rfl
          have hDc := hD.sub (ws' := [(rm_5, .inr (5, [.ref lk_5, .ref th_5, .ref pl_5, .ref gm_5, .int 0, .int 0, .int 0, .int (-1), .int 1, .int 0, .int 0, .int 0])), (l0_5, .inr (3, [.int 0, .int 0, .int 0, .int 0, .int 0, .int 0, .int 0, .int 0, .int 0, .int 0])), (q11, .inl (cA13, 1, .inr (.inl (fun _ => 0))))]) [1, 6, 18] (by decide) rfl
          have hKc := hK.sub (tys' := [(cL_5, .object "LockRooms$Lock"), (cA13, .long)]) [0, 6] rfl
          have hFc := va_free (wc := [(rm_5, .inr (5, [.ref lk_5, .ref th_5, .ref pl_5, .ref gm_5, .int 0, .int 0, .int 0, .int (-1), .int 1, .int 0, .int 0, .int 0])), (l0_5, .inr (3, [.int 0, .int 0, .int 0, .int 0, .int 0, .int 0, .int 0, .int 0, .int 0, .int 0])), (q11, .inl (cA13, 1, .inr (.inl (fun _ => 0))))]) hD hS hA [1, 6, 18] rfl
          refine vx_calli (vx_runSX (As := [.ref q1, .int (xs 1), .int (xs 2), .int (xs 3), .int 1, .int 1, .ref q11]) (rest := []) ⟨hx, hb, hml, hown, hts⟩ (cz_L_lock l dC dI ed H12.size q1 rm_5 tr_5 st_5 lk_5 th_5 pl_5 gm_5 cL_5 fl_5 l0_5 (xs 1) (xs 2) (xs 3) 1 1 q11 cA13 (fun _ => 0) htr k5_0 (by decide)) (vx_cwSW 7 hts gL_law_L_lock rfl rfl rfl (by decide +kernel) ⟨Nat.le_of_ble_eq_true rfl, Nat.le_of_ble_eq_true rfl⟩) ⟨zb_blind, fun U hU hW => ⟨rfl, zb_mk hU hW hPr hPc hKc hDc hN hH hS hFc (zx_cons (zx_o hD 0 [1, 6, 18] rfl rfl (by decide)) (zx_cons (zx_o hD 5 [1, 6, 18] rfl rfl (by decide)) (zx_cons (zx_o hD 2 [1, 6, 18] rfl rfl (by decide)) zx_nil)))⟩⟩ rfl rfl hl.1 rfl (lv_room (Nat.le_of_ble_eq_true rfl)) dL_law_212 ⟨Nat.le_of_ble_eq_true rfl, Nat.le_of_ble_eq_true rfl⟩) hS (fun q _ h => hFc q h) hFc (fun q _ h => hFc q h) (fun E ce q9 u t H45 locs ht hvm hpx hBX hz1 hk1 hS hce hcv hcl => hpx.elim) (fun r46 u t H45 locs ht hvm hw hB hz1 hk1 hS => ?_)
          obtain rfl : r46 = (zLk (xs 1) (xs 2) (xs 3)) := hw
          obtain ⟨fo9_47, hq47_0, hP1, hD1, hK1⟩ := hB
          rw [ht] at hP1
          obtain ⟨hP, hD⟩ := va_join (wr := [(q1, .inr (8, [.ref rm_5, .ref tr_5, .ref st_5])), (lk_5, .inl (cL_5, 10, .inr (.inr (.inr (.inr fl_5))))), (th_5, .inl (cT_5, 12, .inr (.inr (.inr (.inr ft_5))))), (pl_5, .inl (cP_5, 6, .inr (.inr (.inr (.inr fp_5))))), (gm_5, .inr (2, [.int 0, .int 0, .int 0, .int 0, .int 0, .int (-1), .long 0])), (t0_5, .inr (7, [.int 0, .int 0, .int 0, .int 0, .int 0])), (p0_5, .inr (4, [.int 0, .int 0, .int 0, .int 0])), (st_5, .inr (6, [.ref a1_5, .ref a2_5, .ref a3_5])), (a1_5, .inl (cZ_5, 1024, .inl f1_5)), (a2_5, .inl (cI_5, 1024, .inl f2_5)), (a3_5, .inl (cJ_5, 1024, .inl f3_5)), (q6, .inr (10, [.int 0, .ref mr_10, .int 1, .long 0])), (mr_10, .inr (9, [.ref ll_10, .ref lt_10, .ref lp_10, .int (-1), .int 0, .int 0, .int 0, .int 0, .int 0, .int 0, .int (-1), .int 0, .int 0, .int 0])), (ll_10, .inr (1, [.int 0, .ref ed, .int 0])), (lt_10, .inr (1, [.int 0, .ref ed, .int 0])), (lp_10, .inr (1, [.int 0, .ref ed, .int 0]))]) (w1 := [(q11, .inl (cA13, 1, .inr (.inl fo9_47)))]) hP hD [1, 6, 18] [0, 2, 3, 4, 5, 7, 8, 9, 10, 11, 12, 13, 14, 15, 16, 17] rfl rfl (by decide) (by decide) hk1 hFc hP1 hD1
          have hP : va_P (dC, dI) vwCl [(q1, .inr (8, [.ref rm_5, .ref tr_5, .ref st_5])), (lk_5, .inl (cL_5, 10, .inr (.inr (.inr (.inr fl_5))))), (th_5, .inl (cT_5, 12, .inr (.inr (.inr (.inr ft_5))))), (pl_5, .inl (cP_5, 6, .inr (.inr (.inr (.inr fp_5))))), (gm_5, .inr (2, [.int 0, .int 0, .int 0, .int 0, .int 0, .int (-1), .long 0])), (t0_5, .inr (7, [.int 0, .int 0, .int 0, .int 0, .int 0])), (p0_5, .inr (4, [.int 0, .int 0, .int 0, .int 0])), (st_5, .inr (6, [.ref a1_5, .ref a2_5, .ref a3_5])), (a1_5, .inl (cZ_5, 1024, .inl f1_5)), (a2_5, .inl (cI_5, 1024, .inl f2_5)), (a3_5, .inl (cJ_5, 1024, .inl f3_5)), (q6, .inr (10, [.int 0, .ref mr_10, .int 1, .long 0])), (mr_10, .inr (9, [.ref ll_10, .ref lt_10, .ref lp_10, .int (-1), .int 0, .int 0, .int 0, .int 0, .int 0, .int 0, .int (-1), .int 0, .int 0, .int 0])), (ll_10, .inr (1, [.int 0, .ref ed, .int 0])), (lt_10, .inr (1, [.int 0, .ref ed, .int 0])), (lp_10, .inr (1, [.int 0, .ref ed, .int 0])), (q11, .inl (cA13, 1, .inr (.inl fo9_47)))] H45 := hP
          have hD : va_D A [(q1, .inr (8, [.ref rm_5, .ref tr_5, .ref st_5])), (lk_5, .inl (cL_5, 10, .inr (.inr (.inr (.inr fl_5))))), (th_5, .inl (cT_5, 12, .inr (.inr (.inr (.inr ft_5))))), (pl_5, .inl (cP_5, 6, .inr (.inr (.inr (.inr fp_5))))), (gm_5, .inr (2, [.int 0, .int 0, .int 0, .int 0, .int 0, .int (-1), .long 0])), (t0_5, .inr (7, [.int 0, .int 0, .int 0, .int 0, .int 0])), (p0_5, .inr (4, [.int 0, .int 0, .int 0, .int 0])), (st_5, .inr (6, [.ref a1_5, .ref a2_5, .ref a3_5])), (a1_5, .inl (cZ_5, 1024, .inl f1_5)), (a2_5, .inl (cI_5, 1024, .inl f2_5)), (a3_5, .inl (cJ_5, 1024, .inl f3_5)), (q6, .inr (10, [.int 0, .ref mr_10, .int 1, .long 0])), (mr_10, .inr (9, [.ref ll_10, .ref lt_10, .ref lp_10, .int (-1), .int 0, .int 0, .int 0, .int 0, .int 0, .int 0, .int (-1), .int 0, .int 0, .int 0])), (ll_10, .inr (1, [.int 0, .ref ed, .int 0])), (lt_10, .inr (1, [.int 0, .ref ed, .int 0])), (lp_10, .inr (1, [.int 0, .ref ed, .int 0])), (q11, .inl (cA13, 1, .inr (.inl fo9_47)))] := hD
          refine lv_istore (lv' := [(5, .int (zLk (xs 1) (xs 2) (xs 3))), (4, .int 0), (3, .ref q11), (2, .ref q6), (1, .ref q1), (0, .ref b)]) hx hb dL_law_215 hl (by decide) rfl (fun ls hl => ?_)
          refine lv_aload_n hx hb dL_law_217 rfl (lv_at hl 3 rfl) ?_
          refine lv_aload_n hx hb dL_law_218 rfl (lv_at hl 5 rfl) ?_
          refine lv_iload hx hb dL_law_219 (lv_at hl 1 rfl) ?_
          refine lv_iconst (v := 1) hx hb dL_law_221 (by decide) ?_
          refine lv_iadd hx hb dL_law_222 ?_
          refine zo_i (v := 1) (by decide) ?_
          refine va_sld hx hb hX hbl hbA hS (by unfold vp_in; decide) dL_law_223 ?_
          refine zo_i (v := xs 1) (by rw [show Int32.toNatClampNeg 1 = 1 from by decide]) ?_
          refine lv_aload_n hx hb dL_law_224 rfl (lv_at hl 5 rfl) ?_
          refine lv_iload hx hb dL_law_225 (lv_at hl 1 rfl) ?_
          refine lv_iconst (v := 2) hx hb dL_law_227 (by decide) ?_
          refine lv_iadd hx hb dL_law_228 ?_
          refine zo_i (v := 2) (by decide) ?_
          refine va_sld hx hb hX hbl hbA hS (by unfold vp_in; decide) dL_law_229 ?_
          refine zo_i (v := xs 2) (by rw [show Int32.toNatClampNeg 2 = 2 from by decide]) ?_
          refine lv_aload_n hx hb dL_law_230 rfl (lv_at hl 5 rfl) ?_
          refine lv_iload hx hb dL_law_231 (lv_at hl 1 rfl) ?_
          refine lv_iconst (v := 3) hx hb dL_law_233 (by decide) ?_
          refine lv_iadd hx hb dL_law_234 ?_
          refine zo_i (v := 3) (by decide) ?_
          refine va_sld hx hb hX hbl hbA hS (by unfold vp_in; decide) dL_law_235 ?_
          refine zo_i (v := xs 3) (by rw [show Int32.toNatClampNeg 3 = 3 from by decide]) ?_
          refine lv_aload_n hx hb dL_law_236 rfl (lv_at hl 5 rfl) ?_
          refine lv_iload hx hb dL_law_237 (lv_at hl 1 rfl) ?_
          refine lv_iconst (v := 4) hx hb dL_law_239 (by decide) ?_
          refine lv_iadd hx hb dL_law_240 ?_
          refine zo_i (v := 4) (by decide) ?_
          refine va_sld hx hb hX hbl hbA hS (by unfold vp_in; decide) dL_law_241 ?_
          refine zo_i (v := xs 4) (by rw [show Int32.toNatClampNeg 4 = 4 from by decide]) ?_
          refine lv_if_eq (tgt := 249) hx hb dL_law_242 (by decide) (fun h => absurd h c15) (fun _ => ?_)
          refine lv_iconst (v := 1) hx hb dL_law_245 (by decide) ?_
          refine lv_goto (tgt := 250) hx hb dL_law_246 (by decide) ?_
          refine lv_aload_n hx hb dL_law_250 rfl (lv_at hl 5 rfl) ?_
          refine lv_iload hx hb dL_law_251 (lv_at hl 1 rfl) ?_
          refine lv_iconst (v := 5) hx hb dL_law_253 (by decide) ?_
          refine lv_iadd hx hb dL_law_254 ?_
          refine zo_i (v := 5) (by decide) ?_
          refine va_sld hx hb hX hbl hbA hS (by unfold vp_in; decide) dL_law_255 ?_
          refine zo_i (v := xs 5) (by rw [show Int32.toNatClampNeg 5 = 5 from by decide]) ?_
          refine lv_if_eq (tgt := 263) hx hb dL_law_256 (by decide) (fun h => absurd h c35) (fun _ => ?_)
          refine lv_iconst (v := 1) hx hb dL_law_259 (by decide) ?_
          refine lv_goto (tgt := 264) hx hb dL_law_260 (by decide) ?_
          have hPr := (hP).sub (ws' := [(lt_10, .inr (1, [.int 0, .ref ed, .int 0])), (lp_10, .inr (1, [.int 0, .ref ed, .int 0]))]) [14, 15] rfl
          have hPc := hP.sub (ws' := [(q6, .inr (10, [.int 0, .ref mr_10, .int 1, .long 0])), (mr_10, .inr (9, [.ref ll_10, .ref lt_10, .ref lp_10, .int (-1), .int 0, .int 0, .int 0, .int 0, .int 0, .int 0, .int (-1), .int 0, .int 0, .int 0])), (ll_10, .inr (1, [.int 0, .ref ed, .int 0]))]) [11, 12, 13] rfl
          have hDc := hD.sub (ws' := [(q6, .inr (10, [.int 0, .ref mr_10, .int 1, .long 0])), (mr_10, .inr (9, [.ref ll_10, .ref lt_10, .ref lp_10, .int (-1), .int 0, .int 0, .int 0, .int 0, .int 0, .int 0, .int (-1), .int 0, .int 0, .int 0])), (ll_10, .inr (1, [.int 0, .ref ed, .int 0]))]) [11, 12, 13] (by decide) rfl
          have hKc := hK.sub (tys' := []) [] rfl
          have hFc := va_free (wc := [(q6, .inr (10, [.int 0, .ref mr_10, .int 1, .long 0])), (mr_10, .inr (9, [.ref ll_10, .ref lt_10, .ref lp_10, .int (-1), .int 0, .int 0, .int 0, .int 0, .int 0, .int 0, .int (-1), .int 0, .int 0, .int 0])), (ll_10, .inr (1, [.int 0, .ref ed, .int 0]))]) hD hS hA [11, 12, 13] rfl
          refine va_calli (va_runV (As := [.int (xs 1), .int (xs 2), .int (xs 3), .int 1, .int 1]) (rest := []) ⟨hx, hb, hml, hown, hts⟩ (cz_X8_lock l dC dI ed H45.size q6 mr_10 ll_10 lt_10 lp_10 0 0 (xs 1) (xs 2) (xs 3) 1 1) (cwV 5 hts gL_law_X8_lock rfl rfl rfl (by decide +kernel) ⟨Nat.le_of_ble_eq_true rfl, Nat.le_of_ble_eq_true rfl⟩) ⟨zb_blind, va_recv hK hP (ci := 10) (q0 := 11) rfl rfl, fun U hU hW => ⟨rfl, zb_mk hU hW hPr hPc hKc hDc hN hH hS hFc (zx_cons (zx_o hD 14 [11, 12, 13] rfl rfl (by decide)) (zx_cons (zx_o hD 15 [11, 12, 13] rfl rfl (by decide)) zx_nil))⟩⟩ rfl rfl hl.1 rfl (lv_room (Nat.le_of_ble_eq_true rfl)) dL_law_264 ⟨Nat.le_of_ble_eq_true rfl, Nat.le_of_ble_eq_true rfl⟩) hS (fun q _ h => hFc q h) hFc (fun r49 u t H48 locs ht hvm hw hB hz1 hk1 hS => ?_)
          obtain rfl : r49 = 0 := hw
          obtain ⟨hP1, hD1, hK1⟩ := hB
          rw [ht] at hP1
          obtain ⟨hP, hD⟩ := va_join (wr := [(q1, .inr (8, [.ref rm_5, .ref tr_5, .ref st_5])), (lk_5, .inl (cL_5, 10, .inr (.inr (.inr (.inr fl_5))))), (th_5, .inl (cT_5, 12, .inr (.inr (.inr (.inr ft_5))))), (pl_5, .inl (cP_5, 6, .inr (.inr (.inr (.inr fp_5))))), (gm_5, .inr (2, [.int 0, .int 0, .int 0, .int 0, .int 0, .int (-1), .long 0])), (t0_5, .inr (7, [.int 0, .int 0, .int 0, .int 0, .int 0])), (p0_5, .inr (4, [.int 0, .int 0, .int 0, .int 0])), (st_5, .inr (6, [.ref a1_5, .ref a2_5, .ref a3_5])), (a1_5, .inl (cZ_5, 1024, .inl f1_5)), (a2_5, .inl (cI_5, 1024, .inl f2_5)), (a3_5, .inl (cJ_5, 1024, .inl f3_5)), (lt_10, .inr (1, [.int 0, .ref ed, .int 0])), (lp_10, .inr (1, [.int 0, .ref ed, .int 0])), (q11, .inl (cA13, 1, .inr (.inl fo9_47)))]) (w1 := [(q6, .inr (10, [.int (zLk (xs 1) (xs 2) (xs 3)), .ref mr_10, .int 1, .long 0]))]) hP hD [11, 12, 13] [0, 1, 2, 3, 4, 5, 6, 7, 8, 9, 10, 14, 15, 16] rfl rfl (by decide) (by decide) hk1 hFc hP1 hD1
          have hP : va_P (dC, dI) vwCl [(q1, .inr (8, [.ref rm_5, .ref tr_5, .ref st_5])), (lk_5, .inl (cL_5, 10, .inr (.inr (.inr (.inr fl_5))))), (th_5, .inl (cT_5, 12, .inr (.inr (.inr (.inr ft_5))))), (pl_5, .inl (cP_5, 6, .inr (.inr (.inr (.inr fp_5))))), (gm_5, .inr (2, [.int 0, .int 0, .int 0, .int 0, .int 0, .int (-1), .long 0])), (t0_5, .inr (7, [.int 0, .int 0, .int 0, .int 0, .int 0])), (p0_5, .inr (4, [.int 0, .int 0, .int 0, .int 0])), (st_5, .inr (6, [.ref a1_5, .ref a2_5, .ref a3_5])), (a1_5, .inl (cZ_5, 1024, .inl f1_5)), (a2_5, .inl (cI_5, 1024, .inl f2_5)), (a3_5, .inl (cJ_5, 1024, .inl f3_5)), (lt_10, .inr (1, [.int 0, .ref ed, .int 0])), (lp_10, .inr (1, [.int 0, .ref ed, .int 0])), (q11, .inl (cA13, 1, .inr (.inl fo9_47))), (q6, .inr (10, [.int (zLk (xs 1) (xs 2) (xs 3)), .ref mr_10, .int 1, .long 0]))] H48 := hP
          have hD : va_D A [(q1, .inr (8, [.ref rm_5, .ref tr_5, .ref st_5])), (lk_5, .inl (cL_5, 10, .inr (.inr (.inr (.inr fl_5))))), (th_5, .inl (cT_5, 12, .inr (.inr (.inr (.inr ft_5))))), (pl_5, .inl (cP_5, 6, .inr (.inr (.inr (.inr fp_5))))), (gm_5, .inr (2, [.int 0, .int 0, .int 0, .int 0, .int 0, .int (-1), .long 0])), (t0_5, .inr (7, [.int 0, .int 0, .int 0, .int 0, .int 0])), (p0_5, .inr (4, [.int 0, .int 0, .int 0, .int 0])), (st_5, .inr (6, [.ref a1_5, .ref a2_5, .ref a3_5])), (a1_5, .inl (cZ_5, 1024, .inl f1_5)), (a2_5, .inl (cI_5, 1024, .inl f2_5)), (a3_5, .inl (cJ_5, 1024, .inl f3_5)), (lt_10, .inr (1, [.int 0, .ref ed, .int 0])), (lp_10, .inr (1, [.int 0, .ref ed, .int 0])), (q11, .inl (cA13, 1, .inr (.inl fo9_47))), (q6, .inr (10, [.int (zLk (xs 1) (xs 2) (xs 3)), .ref mr_10, .int 1, .long 0]))] := hD
          refine lv_istore (lv' := [(6, .int 0), (5, .int (zLk (xs 1) (xs 2) (xs 3))), (4, .int 0), (3, .ref q11), (2, .ref q6), (1, .ref q1), (0, .ref b)]) hx hb dL_law_267 hl (by decide) rfl (fun ls hl => ?_)
          refine lv_aload_n hx hb dL_law_269 rfl (lv_at hl 4 rfl) ?_
          have hPr := (hP).sub (ws' := [(q6, .inr (10, [.int (zLk (xs 1) (xs 2) (xs 3)), .ref mr_10, .int 1, .long 0]))]) [14] rfl
          have hPc := hP.sub (ws' := []) [] rfl
          have hDc := hD.sub (ws' := []) [] (by decide) rfl
          have hKc := hK.sub (tys' := []) [] rfl
          have hFc := va_free (wc := []) hD hS hA [] rfl
          refine va_calli (va_runV (As := []) (rest := []) ⟨hx, hb, hml, hown, hts⟩ (cz_thrown l dC dI ed H48.size q6 mr_10 (zLk (xs 1) (xs 2) (xs 3)) 0) (cwV 0 hts gL_law_X8_thrown rfl rfl rfl (by decide +kernel) ⟨Nat.le_of_ble_eq_true rfl, Nat.le_of_ble_eq_true rfl⟩) ⟨zb_blind, va_recv hK hP (ci := 10) (q0 := 14) rfl rfl, fun U hU hW => ⟨rfl, zb_mk hU hW hPr hPc hKc hDc hN hH hS hFc zx_e⟩⟩ rfl rfl hl.1 rfl (lv_room (Nat.le_of_ble_eq_true rfl)) dL_law_270 ⟨Nat.le_of_ble_eq_true rfl, Nat.le_of_ble_eq_true rfl⟩) hS (fun q _ h => hFc q h) hFc (fun r52 u t H51 locs ht hvm hw hB hz1 hk1 hS => ?_)
          obtain rfl : r52 = (zLk (xs 1) (xs 2) (xs 3)) := hw
          have hP := zo_K hP hk1
          refine lv_iload hx hb dL_law_273 (lv_at hl 1 rfl) ?_
          refine lv_icmp_eq (tgt := 280) hx hb dL_law_275 (by decide) (fun _ => ?_) (fun h => absurd rfl h)
          refine lv_iload hx hb dL_law_280 (lv_at hl 1 rfl) ?_
          refine lv_if_ne (tgt := 297) hx hb dL_law_282 (by decide) (fun c53 => ?_) (fun c53 => ?_)
          · skip
            refine lv_goto (tgt := 1407) hx hb dL_law_297 (by decide) ?_
            refine lv_iinc (v := 6) (lv' := [(4, .int 6), (6, .int 0), (5, .int (zLk (xs 1) (xs 2) (xs 3))), (3, .ref q11), (2, .ref q6), (1, .ref q1), (0, .ref b)]) hx hb dL_law_1407 hl (k := 2) rfl (by decide) (by decide) rfl (fun ls hl => ?_)
            refine lv_goto (tgt := 23) hx hb dL_law_1410 (by decide) ?_
            refine lv_iload hx hb dL_law_23 (lv_at hl 0 rfl) ?_
            refine lv_aload_n hx hb dL_law_25 rfl (lv_at hl 6 rfl) ?_
            refine va_slen hx hb hX hbl hbA hS dL_law_26 ?_
            refine zo_i (v := 6) (by decide) ?_
            refine lv_bipush (v := 6) hx hb dL_law_27 (by decide) ?_
            refine lv_isub hx hb dL_law_29 ?_
            refine zo_i (v := 0) (by decide) ?_
            refine lv_icmp_gt (tgt := 1413) hx hb dL_law_30 (by decide) (fun _ => ?_) (fun h => absurd h (by decide))
            refine lv_iconst (v := 1) hx hb dL_law_1413 (by decide) ?_
            refine W.widen (k := 600002) (n := 7302232) (Nat.le_of_ble_eq_true rfl) (Nat.le_of_ble_eq_true rfl) ?_
            refine va_forget (fun q hq => by have h9 := hS.2.2 q hq; rw [hAe] at h9; exact h9) ?_
            exact lw_ret hd0 hx hb hr hlocks dL_law_1414
          · skip
            refine lv_aload_n hx hb dL_law_285 rfl (lv_at hl 3 rfl) ?_
            refine lv_iconst (v := 0) hx hb dL_law_286 (by decide) ?_
            refine va_lald hx hb hK hP 13 6 rfl rfl (by unfold vp_in; decide) dL_law_287 ?_
            refine zo_l (v := 0) (by rw [show Int32.toNatClampNeg 0 = 0 from by decide]; exact hq47_0 c53) ?_
            refine lv_iload hx hb dL_law_288 (lv_at hl 0 rfl) ?_
            refine lv_i2l (v := 0) hx hb dL_law_290 (by decide) ?_
            refine W.lcmp hx hb dL_law_291 ?_
            refine zo_i (v := 0) (zo_lc _) ?_
            refine lv_if_eq (tgt := 297) hx hb dL_law_292 (by decide) (fun _ => ?_) (fun h => absurd h (by decide))
            refine lv_goto (tgt := 1407) hx hb dL_law_297 (by decide) ?_
            refine lv_iinc (v := 6) (lv' := [(4, .int 6), (6, .int 0), (5, .int (zLk (xs 1) (xs 2) (xs 3))), (3, .ref q11), (2, .ref q6), (1, .ref q1), (0, .ref b)]) hx hb dL_law_1407 hl (k := 2) rfl (by decide) (by decide) rfl (fun ls hl => ?_)
            refine lv_goto (tgt := 23) hx hb dL_law_1410 (by decide) ?_
            refine lv_iload hx hb dL_law_23 (lv_at hl 0 rfl) ?_
            refine lv_aload_n hx hb dL_law_25 rfl (lv_at hl 6 rfl) ?_
            refine va_slen hx hb hX hbl hbA hS dL_law_26 ?_
            refine zo_i (v := 6) (by decide) ?_
            refine lv_bipush (v := 6) hx hb dL_law_27 (by decide) ?_
            refine lv_isub hx hb dL_law_29 ?_
            refine zo_i (v := 0) (by decide) ?_
            refine lv_icmp_gt (tgt := 1413) hx hb dL_law_30 (by decide) (fun _ => ?_) (fun h => absurd h (by decide))
            refine lv_iconst (v := 1) hx hb dL_law_1413 (by decide) ?_
            refine W.widen (k := 600002) (n := 7302232) (Nat.le_of_ble_eq_true rfl) (Nat.le_of_ble_eq_true rfl) ?_
            refine va_forget (fun q hq => by have h9 := hS.2.2 q hq; rw [hAe] at h9; exact h9) ?_
            exact lw_ret hd0 hx hb hr hlocks dL_law_1414
    · refine zo_i (v := 1) (by decide) ?_
      refine lv_tableIn (off := 260) (tgt := 300) hx hb dL_law_40 (by decide) (by decide) rfl (by decide) ?_
      refine lv_aload_n hx hb dL_law_300 rfl (lv_at hl 3 rfl) ?_
      refine lv_aload_n hx hb dL_law_301 rfl (lv_at hl 4 rfl) ?_
      refine lv_iload hx hb dL_law_302 (lv_at hl 0 rfl) ?_
      refine lv_iconst (v := 1) hx hb dL_law_304 (by decide) ?_
      refine lv_iadd hx hb dL_law_305 ?_
      refine zo_i (v := 1) (by decide) ?_
      refine va_sld hx hb hX hbl hbA hS (by unfold vp_in; decide) dL_law_306 ?_
      refine zo_i (v := xs 1) (by rw [show Int32.toNatClampNeg 1 = 1 from by decide]) ?_
      refine lv_aload_n hx hb dL_law_307 rfl (lv_at hl 4 rfl) ?_
      refine lv_iload hx hb dL_law_308 (lv_at hl 0 rfl) ?_
      refine lv_iconst (v := 2) hx hb dL_law_310 (by decide) ?_
      refine lv_iadd hx hb dL_law_311 ?_
      refine zo_i (v := 2) (by decide) ?_
      refine va_sld hx hb hX hbl hbA hS (by unfold vp_in; decide) dL_law_312 ?_
      refine zo_i (v := xs 2) (by rw [show Int32.toNatClampNeg 2 = 2 from by decide]) ?_
      refine lv_aload_n hx hb dL_law_313 rfl (lv_at hl 1 rfl) ?_
      have hPr := (hP).sub (ws' := [(q1, .inr (8, [.ref rm_5, .ref tr_5, .ref st_5])), (gm_5, .inr (2, [.int 0, .int 0, .int 0, .int 0, .int 0, .int (-1), .long 0])), (th_5, .inl (cT_5, 12, .inr (.inr (.inr (.inr ft_5)))))]) [0, 5, 3] rfl
      have hPc := hP.sub (ws' := [(rm_5, .inr (5, [.ref lk_5, .ref th_5, .ref pl_5, .ref gm_5, .int 0, .int 0, .int 0, .int (-1), .int 1, .int 0, .int 0, .int 0])), (t0_5, .inr (7, [.int 0, .int 0, .int 0, .int 0, .int 0])), (q11, .inl (cA13, 1, .inr (.inl (fun _ => 0))))]) [1, 7, 18] rfl
      have hDc := hD.sub (ws' := [(rm_5, .inr (5, [.ref lk_5, .ref th_5, .ref pl_5, .ref gm_5, .int 0, .int 0, .int 0, .int (-1), .int 1, .int 0, .int 0, .int 0])), (t0_5, .inr (7, [.int 0, .int 0, .int 0, .int 0, .int 0])), (q11, .inl (cA13, 1, .inr (.inl (fun _ => 0))))]) [1, 7, 18] (by decide) rfl
      have hKc := hK.sub (tys' := [(cT_5, .object "LockRooms$Thing"), (cA13, .long)]) [1, 6] rfl
      have hFc := va_free (wc := [(rm_5, .inr (5, [.ref lk_5, .ref th_5, .ref pl_5, .ref gm_5, .int 0, .int 0, .int 0, .int (-1), .int 1, .int 0, .int 0, .int 0])), (t0_5, .inr (7, [.int 0, .int 0, .int 0, .int 0, .int 0])), (q11, .inl (cA13, 1, .inr (.inl (fun _ => 0))))]) hD hS hA [1, 7, 18] rfl
      refine vx_calli (vx_runSX (As := [.ref q1, .int (xs 1), .int (xs 2), .ref q11]) (rest := []) ⟨hx, hb, hml, hown, hts⟩ (cz_L_thing l dC dI ed H12.size q1 rm_5 tr_5 st_5 lk_5 th_5 pl_5 gm_5 cT_5 ft_5 t0_5 (xs 1) (xs 2) q11 cA13 (fun _ => 0) htr k5_1) (vx_cwSW 4 hts zgL_law_L_thing rfl rfl rfl (by decide +kernel) ⟨Nat.le_of_ble_eq_true rfl, Nat.le_of_ble_eq_true rfl⟩) ⟨zb_blind, fun U hU hW => ⟨rfl, zb_mk hU hW hPr hPc hKc hDc hN hH hS hFc (zx_cons (zx_o hD 0 [1, 7, 18] rfl rfl (by decide)) (zx_cons (zx_o hD 5 [1, 7, 18] rfl rfl (by decide)) (zx_cons (zx_o hD 3 [1, 7, 18] rfl rfl (by decide)) zx_nil)))⟩⟩ rfl rfl hl.1 rfl (lv_room (Nat.le_of_ble_eq_true rfl)) dL_law_314 ⟨Nat.le_of_ble_eq_true rfl, Nat.le_of_ble_eq_true rfl⟩) hS (fun q _ h => hFc q h) hFc (fun q _ h => hFc q h) (fun E ce q9 u t H54 locs ht hvm hpx hBX hz1 hk1 hS hce hcv hcl => hpx.elim) (fun r55 u t H54 locs ht hvm hw hB hz1 hk1 hS => ?_)
      obtain rfl : r55 = (zTk (xs 1) (xs 2)) := hw
      obtain ⟨fo9_56, hq56_0, hP1, hD1, hK1⟩ := hB
      rw [ht] at hP1
      obtain ⟨hP, hD⟩ := va_join (wr := [(q1, .inr (8, [.ref rm_5, .ref tr_5, .ref st_5])), (lk_5, .inl (cL_5, 10, .inr (.inr (.inr (.inr fl_5))))), (th_5, .inl (cT_5, 12, .inr (.inr (.inr (.inr ft_5))))), (pl_5, .inl (cP_5, 6, .inr (.inr (.inr (.inr fp_5))))), (gm_5, .inr (2, [.int 0, .int 0, .int 0, .int 0, .int 0, .int (-1), .long 0])), (l0_5, .inr (3, [.int 0, .int 0, .int 0, .int 0, .int 0, .int 0, .int 0, .int 0, .int 0, .int 0])), (p0_5, .inr (4, [.int 0, .int 0, .int 0, .int 0])), (st_5, .inr (6, [.ref a1_5, .ref a2_5, .ref a3_5])), (a1_5, .inl (cZ_5, 1024, .inl f1_5)), (a2_5, .inl (cI_5, 1024, .inl f2_5)), (a3_5, .inl (cJ_5, 1024, .inl f3_5)), (q6, .inr (10, [.int 0, .ref mr_10, .int 1, .long 0])), (mr_10, .inr (9, [.ref ll_10, .ref lt_10, .ref lp_10, .int (-1), .int 0, .int 0, .int 0, .int 0, .int 0, .int 0, .int (-1), .int 0, .int 0, .int 0])), (ll_10, .inr (1, [.int 0, .ref ed, .int 0])), (lt_10, .inr (1, [.int 0, .ref ed, .int 0])), (lp_10, .inr (1, [.int 0, .ref ed, .int 0]))]) (w1 := [(q11, .inl (cA13, 1, .inr (.inl fo9_56)))]) hP hD [1, 7, 18] [0, 2, 3, 4, 5, 6, 8, 9, 10, 11, 12, 13, 14, 15, 16, 17] rfl rfl (by decide) (by decide) hk1 hFc hP1 hD1
      have hP : va_P (dC, dI) vwCl [(q1, .inr (8, [.ref rm_5, .ref tr_5, .ref st_5])), (lk_5, .inl (cL_5, 10, .inr (.inr (.inr (.inr fl_5))))), (th_5, .inl (cT_5, 12, .inr (.inr (.inr (.inr ft_5))))), (pl_5, .inl (cP_5, 6, .inr (.inr (.inr (.inr fp_5))))), (gm_5, .inr (2, [.int 0, .int 0, .int 0, .int 0, .int 0, .int (-1), .long 0])), (l0_5, .inr (3, [.int 0, .int 0, .int 0, .int 0, .int 0, .int 0, .int 0, .int 0, .int 0, .int 0])), (p0_5, .inr (4, [.int 0, .int 0, .int 0, .int 0])), (st_5, .inr (6, [.ref a1_5, .ref a2_5, .ref a3_5])), (a1_5, .inl (cZ_5, 1024, .inl f1_5)), (a2_5, .inl (cI_5, 1024, .inl f2_5)), (a3_5, .inl (cJ_5, 1024, .inl f3_5)), (q6, .inr (10, [.int 0, .ref mr_10, .int 1, .long 0])), (mr_10, .inr (9, [.ref ll_10, .ref lt_10, .ref lp_10, .int (-1), .int 0, .int 0, .int 0, .int 0, .int 0, .int 0, .int (-1), .int 0, .int 0, .int 0])), (ll_10, .inr (1, [.int 0, .ref ed, .int 0])), (lt_10, .inr (1, [.int 0, .ref ed, .int 0])), (lp_10, .inr (1, [.int 0, .ref ed, .int 0])), (q11, .inl (cA13, 1, .inr (.inl fo9_56)))] H54 := hP
      have hD : va_D A [(q1, .inr (8, [.ref rm_5, .ref tr_5, .ref st_5])), (lk_5, .inl (cL_5, 10, .inr (.inr (.inr (.inr fl_5))))), (th_5, .inl (cT_5, 12, .inr (.inr (.inr (.inr ft_5))))), (pl_5, .inl (cP_5, 6, .inr (.inr (.inr (.inr fp_5))))), (gm_5, .inr (2, [.int 0, .int 0, .int 0, .int 0, .int 0, .int (-1), .long 0])), (l0_5, .inr (3, [.int 0, .int 0, .int 0, .int 0, .int 0, .int 0, .int 0, .int 0, .int 0, .int 0])), (p0_5, .inr (4, [.int 0, .int 0, .int 0, .int 0])), (st_5, .inr (6, [.ref a1_5, .ref a2_5, .ref a3_5])), (a1_5, .inl (cZ_5, 1024, .inl f1_5)), (a2_5, .inl (cI_5, 1024, .inl f2_5)), (a3_5, .inl (cJ_5, 1024, .inl f3_5)), (q6, .inr (10, [.int 0, .ref mr_10, .int 1, .long 0])), (mr_10, .inr (9, [.ref ll_10, .ref lt_10, .ref lp_10, .int (-1), .int 0, .int 0, .int 0, .int 0, .int 0, .int 0, .int (-1), .int 0, .int 0, .int 0])), (ll_10, .inr (1, [.int 0, .ref ed, .int 0])), (lt_10, .inr (1, [.int 0, .ref ed, .int 0])), (lp_10, .inr (1, [.int 0, .ref ed, .int 0])), (q11, .inl (cA13, 1, .inr (.inl fo9_56)))] := hD
      refine lv_istore (lv' := [(5, .int (zTk (xs 1) (xs 2))), (4, .int 0), (3, .ref q11), (2, .ref q6), (1, .ref q1), (0, .ref b)]) hx hb dL_law_317 hl (by decide) rfl (fun ls hl => ?_)
      refine lv_aload_n hx hb dL_law_319 rfl (lv_at hl 3 rfl) ?_
      refine lv_aload_n hx hb dL_law_320 rfl (lv_at hl 5 rfl) ?_
      refine lv_iload hx hb dL_law_321 (lv_at hl 1 rfl) ?_
      refine lv_iconst (v := 1) hx hb dL_law_323 (by decide) ?_
      refine lv_iadd hx hb dL_law_324 ?_
      refine zo_i (v := 1) (by decide) ?_
      refine va_sld hx hb hX hbl hbA hS (by unfold vp_in; decide) dL_law_325 ?_
      refine zo_i (v := xs 1) (by rw [show Int32.toNatClampNeg 1 = 1 from by decide]) ?_
      refine lv_aload_n hx hb dL_law_326 rfl (lv_at hl 5 rfl) ?_
      refine lv_iload hx hb dL_law_327 (lv_at hl 1 rfl) ?_
      refine lv_iconst (v := 2) hx hb dL_law_329 (by decide) ?_
      refine lv_iadd hx hb dL_law_330 ?_
      refine zo_i (v := 2) (by decide) ?_
      refine va_sld hx hb hX hbl hbA hS (by unfold vp_in; decide) dL_law_331 ?_
      refine zo_i (v := xs 2) (by rw [show Int32.toNatClampNeg 2 = 2 from by decide]) ?_
      have hPr := (hP).sub (ws' := [(ll_10, .inr (1, [.int 0, .ref ed, .int 0])), (lp_10, .inr (1, [.int 0, .ref ed, .int 0]))]) [13, 15] rfl
      have hPc := hP.sub (ws' := [(q6, .inr (10, [.int 0, .ref mr_10, .int 1, .long 0])), (mr_10, .inr (9, [.ref ll_10, .ref lt_10, .ref lp_10, .int (-1), .int 0, .int 0, .int 0, .int 0, .int 0, .int 0, .int (-1), .int 0, .int 0, .int 0])), (lt_10, .inr (1, [.int 0, .ref ed, .int 0]))]) [11, 12, 14] rfl
      have hDc := hD.sub (ws' := [(q6, .inr (10, [.int 0, .ref mr_10, .int 1, .long 0])), (mr_10, .inr (9, [.ref ll_10, .ref lt_10, .ref lp_10, .int (-1), .int 0, .int 0, .int 0, .int 0, .int 0, .int 0, .int (-1), .int 0, .int 0, .int 0])), (lt_10, .inr (1, [.int 0, .ref ed, .int 0]))]) [11, 12, 14] (by decide) rfl
      have hKc := hK.sub (tys' := []) [] rfl
      have hFc := va_free (wc := [(q6, .inr (10, [.int 0, .ref mr_10, .int 1, .long 0])), (mr_10, .inr (9, [.ref ll_10, .ref lt_10, .ref lp_10, .int (-1), .int 0, .int 0, .int 0, .int 0, .int 0, .int 0, .int (-1), .int 0, .int 0, .int 0])), (lt_10, .inr (1, [.int 0, .ref ed, .int 0]))]) hD hS hA [11, 12, 14] rfl
      refine va_calli (va_runV (As := [.int (xs 1), .int (xs 2)]) (rest := []) ⟨hx, hb, hml, hown, hts⟩ (cz_X8_thing l dC dI ed H54.size q6 mr_10 ll_10 lt_10 lp_10 0 0 (xs 1) (xs 2)) (cwV 2 hts gL_law_X8_thing rfl rfl rfl (by decide +kernel) ⟨Nat.le_of_ble_eq_true rfl, Nat.le_of_ble_eq_true rfl⟩) ⟨zb_blind, va_recv hK hP (ci := 10) (q0 := 11) rfl rfl, fun U hU hW => ⟨rfl, zb_mk hU hW hPr hPc hKc hDc hN hH hS hFc (zx_cons (zx_o hD 13 [11, 12, 14] rfl rfl (by decide)) (zx_cons (zx_o hD 15 [11, 12, 14] rfl rfl (by decide)) zx_nil))⟩⟩ rfl rfl hl.1 rfl (lv_room (Nat.le_of_ble_eq_true rfl)) dL_law_332 ⟨Nat.le_of_ble_eq_true rfl, Nat.le_of_ble_eq_true rfl⟩) hS (fun q _ h => hFc q h) hFc (fun r58 u t H57 locs ht hvm hw hB hz1 hk1 hS => ?_)
      obtain rfl : r58 = 0 := hw
      obtain ⟨hP1, hD1, hK1⟩ := hB
      rw [ht] at hP1
      obtain ⟨hP, hD⟩ := va_join (wr := [(q1, .inr (8, [.ref rm_5, .ref tr_5, .ref st_5])), (lk_5, .inl (cL_5, 10, .inr (.inr (.inr (.inr fl_5))))), (th_5, .inl (cT_5, 12, .inr (.inr (.inr (.inr ft_5))))), (pl_5, .inl (cP_5, 6, .inr (.inr (.inr (.inr fp_5))))), (gm_5, .inr (2, [.int 0, .int 0, .int 0, .int 0, .int 0, .int (-1), .long 0])), (l0_5, .inr (3, [.int 0, .int 0, .int 0, .int 0, .int 0, .int 0, .int 0, .int 0, .int 0, .int 0])), (p0_5, .inr (4, [.int 0, .int 0, .int 0, .int 0])), (st_5, .inr (6, [.ref a1_5, .ref a2_5, .ref a3_5])), (a1_5, .inl (cZ_5, 1024, .inl f1_5)), (a2_5, .inl (cI_5, 1024, .inl f2_5)), (a3_5, .inl (cJ_5, 1024, .inl f3_5)), (ll_10, .inr (1, [.int 0, .ref ed, .int 0])), (lp_10, .inr (1, [.int 0, .ref ed, .int 0])), (q11, .inl (cA13, 1, .inr (.inl fo9_56)))]) (w1 := [(q6, .inr (10, [.int (zTk (xs 1) (xs 2)), .ref mr_10, .int 1, .long 0]))]) hP hD [11, 12, 14] [0, 1, 2, 3, 4, 5, 6, 7, 8, 9, 10, 13, 15, 16] rfl rfl (by decide) (by decide) hk1 hFc hP1 hD1
      have hP : va_P (dC, dI) vwCl [(q1, .inr (8, [.ref rm_5, .ref tr_5, .ref st_5])), (lk_5, .inl (cL_5, 10, .inr (.inr (.inr (.inr fl_5))))), (th_5, .inl (cT_5, 12, .inr (.inr (.inr (.inr ft_5))))), (pl_5, .inl (cP_5, 6, .inr (.inr (.inr (.inr fp_5))))), (gm_5, .inr (2, [.int 0, .int 0, .int 0, .int 0, .int 0, .int (-1), .long 0])), (l0_5, .inr (3, [.int 0, .int 0, .int 0, .int 0, .int 0, .int 0, .int 0, .int 0, .int 0, .int 0])), (p0_5, .inr (4, [.int 0, .int 0, .int 0, .int 0])), (st_5, .inr (6, [.ref a1_5, .ref a2_5, .ref a3_5])), (a1_5, .inl (cZ_5, 1024, .inl f1_5)), (a2_5, .inl (cI_5, 1024, .inl f2_5)), (a3_5, .inl (cJ_5, 1024, .inl f3_5)), (ll_10, .inr (1, [.int 0, .ref ed, .int 0])), (lp_10, .inr (1, [.int 0, .ref ed, .int 0])), (q11, .inl (cA13, 1, .inr (.inl fo9_56))), (q6, .inr (10, [.int (zTk (xs 1) (xs 2)), .ref mr_10, .int 1, .long 0]))] H57 := hP
      have hD : va_D A [(q1, .inr (8, [.ref rm_5, .ref tr_5, .ref st_5])), (lk_5, .inl (cL_5, 10, .inr (.inr (.inr (.inr fl_5))))), (th_5, .inl (cT_5, 12, .inr (.inr (.inr (.inr ft_5))))), (pl_5, .inl (cP_5, 6, .inr (.inr (.inr (.inr fp_5))))), (gm_5, .inr (2, [.int 0, .int 0, .int 0, .int 0, .int 0, .int (-1), .long 0])), (l0_5, .inr (3, [.int 0, .int 0, .int 0, .int 0, .int 0, .int 0, .int 0, .int 0, .int 0, .int 0])), (p0_5, .inr (4, [.int 0, .int 0, .int 0, .int 0])), (st_5, .inr (6, [.ref a1_5, .ref a2_5, .ref a3_5])), (a1_5, .inl (cZ_5, 1024, .inl f1_5)), (a2_5, .inl (cI_5, 1024, .inl f2_5)), (a3_5, .inl (cJ_5, 1024, .inl f3_5)), (ll_10, .inr (1, [.int 0, .ref ed, .int 0])), (lp_10, .inr (1, [.int 0, .ref ed, .int 0])), (q11, .inl (cA13, 1, .inr (.inl fo9_56))), (q6, .inr (10, [.int (zTk (xs 1) (xs 2)), .ref mr_10, .int 1, .long 0]))] := hD
      refine lv_istore (lv' := [(6, .int 0), (5, .int (zTk (xs 1) (xs 2))), (4, .int 0), (3, .ref q11), (2, .ref q6), (1, .ref q1), (0, .ref b)]) hx hb dL_law_335 hl (by decide) rfl (fun ls hl => ?_)
      refine lv_aload_n hx hb dL_law_337 rfl (lv_at hl 4 rfl) ?_
      have hPr := (hP).sub (ws' := [(q6, .inr (10, [.int (zTk (xs 1) (xs 2)), .ref mr_10, .int 1, .long 0]))]) [14] rfl
      have hPc := hP.sub (ws' := []) [] rfl
      have hDc := hD.sub (ws' := []) [] (by decide) rfl
      have hKc := hK.sub (tys' := []) [] rfl
      have hFc := va_free (wc := []) hD hS hA [] rfl
      refine va_calli (va_runV (As := []) (rest := []) ⟨hx, hb, hml, hown, hts⟩ (cz_thrown l dC dI ed H57.size q6 mr_10 (zTk (xs 1) (xs 2)) 0) (cwV 0 hts gL_law_X8_thrown rfl rfl rfl (by decide +kernel) ⟨Nat.le_of_ble_eq_true rfl, Nat.le_of_ble_eq_true rfl⟩) ⟨zb_blind, va_recv hK hP (ci := 10) (q0 := 14) rfl rfl, fun U hU hW => ⟨rfl, zb_mk hU hW hPr hPc hKc hDc hN hH hS hFc zx_e⟩⟩ rfl rfl hl.1 rfl (lv_room (Nat.le_of_ble_eq_true rfl)) dL_law_338 ⟨Nat.le_of_ble_eq_true rfl, Nat.le_of_ble_eq_true rfl⟩) hS (fun q _ h => hFc q h) hFc (fun r61 u t H60 locs ht hvm hw hB hz1 hk1 hS => ?_)
      obtain rfl : r61 = (zTk (xs 1) (xs 2)) := hw
      have hP := zo_K hP hk1
      refine lv_iload hx hb dL_law_341 (lv_at hl 1 rfl) ?_
      refine lv_icmp_eq (tgt := 348) hx hb dL_law_343 (by decide) (fun _ => ?_) (fun h => absurd rfl h)
      refine lv_iload hx hb dL_law_348 (lv_at hl 1 rfl) ?_
      refine lv_if_ne (tgt := 365) hx hb dL_law_350 (by decide) (fun c62 => ?_) (fun c62 => ?_)
      · skip
        refine lv_goto (tgt := 1407) hx hb dL_law_365 (by decide) ?_
        refine lv_iinc (v := 6) (lv' := [(4, .int 6), (6, .int 0), (5, .int (zTk (xs 1) (xs 2))), (3, .ref q11), (2, .ref q6), (1, .ref q1), (0, .ref b)]) hx hb dL_law_1407 hl (k := 2) rfl (by decide) (by decide) rfl (fun ls hl => ?_)
        refine lv_goto (tgt := 23) hx hb dL_law_1410 (by decide) ?_
        refine lv_iload hx hb dL_law_23 (lv_at hl 0 rfl) ?_
        refine lv_aload_n hx hb dL_law_25 rfl (lv_at hl 6 rfl) ?_
        refine va_slen hx hb hX hbl hbA hS dL_law_26 ?_
        refine zo_i (v := 6) (by decide) ?_
        refine lv_bipush (v := 6) hx hb dL_law_27 (by decide) ?_
        refine lv_isub hx hb dL_law_29 ?_
        refine zo_i (v := 0) (by decide) ?_
        refine lv_icmp_gt (tgt := 1413) hx hb dL_law_30 (by decide) (fun _ => ?_) (fun h => absurd h (by decide))
        refine lv_iconst (v := 1) hx hb dL_law_1413 (by decide) ?_
        refine W.widen (k := 600002) (n := 7302232) (Nat.le_of_ble_eq_true rfl) (Nat.le_of_ble_eq_true rfl) ?_
        refine va_forget (fun q hq => by have h9 := hS.2.2 q hq; rw [hAe] at h9; exact h9) ?_
        exact lw_ret hd0 hx hb hr hlocks dL_law_1414
      · skip
        refine lv_aload_n hx hb dL_law_353 rfl (lv_at hl 3 rfl) ?_
        refine lv_iconst (v := 0) hx hb dL_law_354 (by decide) ?_
        refine va_lald hx hb hK hP 13 6 rfl rfl (by unfold vp_in; decide) dL_law_355 ?_
        refine zo_l (v := 0) (by rw [show Int32.toNatClampNeg 0 = 0 from by decide]; exact hq56_0 c62) ?_
        refine lv_iload hx hb dL_law_356 (lv_at hl 0 rfl) ?_
        refine lv_i2l (v := 0) hx hb dL_law_358 (by decide) ?_
        refine W.lcmp hx hb dL_law_359 ?_
        refine zo_i (v := 0) (zo_lc _) ?_
        refine lv_if_eq (tgt := 365) hx hb dL_law_360 (by decide) (fun _ => ?_) (fun h => absurd h (by decide))
        refine lv_goto (tgt := 1407) hx hb dL_law_365 (by decide) ?_
        refine lv_iinc (v := 6) (lv' := [(4, .int 6), (6, .int 0), (5, .int (zTk (xs 1) (xs 2))), (3, .ref q11), (2, .ref q6), (1, .ref q1), (0, .ref b)]) hx hb dL_law_1407 hl (k := 2) rfl (by decide) (by decide) rfl (fun ls hl => ?_)
        refine lv_goto (tgt := 23) hx hb dL_law_1410 (by decide) ?_
        refine lv_iload hx hb dL_law_23 (lv_at hl 0 rfl) ?_
        refine lv_aload_n hx hb dL_law_25 rfl (lv_at hl 6 rfl) ?_
        refine va_slen hx hb hX hbl hbA hS dL_law_26 ?_
        refine zo_i (v := 6) (by decide) ?_
        refine lv_bipush (v := 6) hx hb dL_law_27 (by decide) ?_
        refine lv_isub hx hb dL_law_29 ?_
        refine zo_i (v := 0) (by decide) ?_
        refine lv_icmp_gt (tgt := 1413) hx hb dL_law_30 (by decide) (fun _ => ?_) (fun h => absurd h (by decide))
        refine lv_iconst (v := 1) hx hb dL_law_1413 (by decide) ?_
        refine W.widen (k := 600002) (n := 7302232) (Nat.le_of_ble_eq_true rfl) (Nat.le_of_ble_eq_true rfl) ?_
        refine va_forget (fun q hq => by have h9 := hS.2.2 q hq; rw [hAe] at h9; exact h9) ?_
        exact lw_ret hd0 hx hb hr hlocks dL_law_1414
    · refine zo_i (v := 2) (by decide) ?_
      refine lv_tableIn (off := 328) (tgt := 368) hx hb dL_law_40 (by decide) (by decide) rfl (by decide) ?_
      refine lv_aload_n hx hb dL_law_368 rfl (lv_at hl 3 rfl) ?_
      refine lv_aload_n hx hb dL_law_369 rfl (lv_at hl 4 rfl) ?_
      refine lv_iload hx hb dL_law_370 (lv_at hl 0 rfl) ?_
      refine lv_iconst (v := 1) hx hb dL_law_372 (by decide) ?_
      refine lv_iadd hx hb dL_law_373 ?_
      refine zo_i (v := 1) (by decide) ?_
      refine va_sld hx hb hX hbl hbA hS (by unfold vp_in; decide) dL_law_374 ?_
      refine zo_i (v := xs 1) (by rw [show Int32.toNatClampNeg 1 = 1 from by decide]) ?_
      refine lv_aload_n hx hb dL_law_375 rfl (lv_at hl 1 rfl) ?_
      have hPr := (hP).sub (ws' := [(q1, .inr (8, [.ref rm_5, .ref tr_5, .ref st_5])), (gm_5, .inr (2, [.int 0, .int 0, .int 0, .int 0, .int 0, .int (-1), .long 0])), (pl_5, .inl (cP_5, 6, .inr (.inr (.inr (.inr fp_5)))))]) [0, 5, 4] rfl
      have hPc := hP.sub (ws' := [(rm_5, .inr (5, [.ref lk_5, .ref th_5, .ref pl_5, .ref gm_5, .int 0, .int 0, .int 0, .int (-1), .int 1, .int 0, .int 0, .int 0])), (p0_5, .inr (4, [.int 0, .int 0, .int 0, .int 0])), (q11, .inl (cA13, 1, .inr (.inl (fun _ => 0))))]) [1, 8, 18] rfl
      have hDc := hD.sub (ws' := [(rm_5, .inr (5, [.ref lk_5, .ref th_5, .ref pl_5, .ref gm_5, .int 0, .int 0, .int 0, .int (-1), .int 1, .int 0, .int 0, .int 0])), (p0_5, .inr (4, [.int 0, .int 0, .int 0, .int 0])), (q11, .inl (cA13, 1, .inr (.inl (fun _ => 0))))]) [1, 8, 18] (by decide) rfl
      have hKc := hK.sub (tys' := [(cP_5, .object "LockRooms$Player"), (cA13, .long)]) [2, 6] rfl
      have hFc := va_free (wc := [(rm_5, .inr (5, [.ref lk_5, .ref th_5, .ref pl_5, .ref gm_5, .int 0, .int 0, .int 0, .int (-1), .int 1, .int 0, .int 0, .int 0])), (p0_5, .inr (4, [.int 0, .int 0, .int 0, .int 0])), (q11, .inl (cA13, 1, .inr (.inl (fun _ => 0))))]) hD hS hA [1, 8, 18] rfl
      refine vx_calli (vx_runSX (As := [.ref q1, .int (xs 1), .ref q11]) (rest := []) ⟨hx, hb, hml, hown, hts⟩ (cz_L_player l dC dI ed H12.size q1 rm_5 tr_5 st_5 lk_5 th_5 pl_5 gm_5 cP_5 fp_5 p0_5 (xs 1) q11 cA13 (fun _ => 0) htr k5_2) (vx_cwSW 3 hts gL_law_L_player rfl rfl rfl (by decide +kernel) ⟨Nat.le_of_ble_eq_true rfl, Nat.le_of_ble_eq_true rfl⟩) ⟨zb_blind, fun U hU hW => ⟨rfl, zb_mk hU hW hPr hPc hKc hDc hN hH hS hFc (zx_cons (zx_o hD 0 [1, 8, 18] rfl rfl (by decide)) (zx_cons (zx_o hD 5 [1, 8, 18] rfl rfl (by decide)) (zx_cons (zx_o hD 4 [1, 8, 18] rfl rfl (by decide)) zx_nil)))⟩⟩ rfl rfl hl.1 rfl (lv_room (Nat.le_of_ble_eq_true rfl)) dL_law_376 ⟨Nat.le_of_ble_eq_true rfl, Nat.le_of_ble_eq_true rfl⟩) hS (fun q _ h => hFc q h) hFc (fun q _ h => hFc q h) (fun E ce q9 u t H63 locs ht hvm hpx hBX hz1 hk1 hS hce hcv hcl => hpx.elim) (fun r64 u t H63 locs ht hvm hw hB hz1 hk1 hS => ?_)
      obtain rfl : r64 = (zPk (xs 1)) := hw
      obtain ⟨fo9_65, hq65_0, hP1, hD1, hK1⟩ := hB
      rw [ht] at hP1
      obtain ⟨hP, hD⟩ := va_join (wr := [(q1, .inr (8, [.ref rm_5, .ref tr_5, .ref st_5])), (lk_5, .inl (cL_5, 10, .inr (.inr (.inr (.inr fl_5))))), (th_5, .inl (cT_5, 12, .inr (.inr (.inr (.inr ft_5))))), (pl_5, .inl (cP_5, 6, .inr (.inr (.inr (.inr fp_5))))), (gm_5, .inr (2, [.int 0, .int 0, .int 0, .int 0, .int 0, .int (-1), .long 0])), (l0_5, .inr (3, [.int 0, .int 0, .int 0, .int 0, .int 0, .int 0, .int 0, .int 0, .int 0, .int 0])), (t0_5, .inr (7, [.int 0, .int 0, .int 0, .int 0, .int 0])), (st_5, .inr (6, [.ref a1_5, .ref a2_5, .ref a3_5])), (a1_5, .inl (cZ_5, 1024, .inl f1_5)), (a2_5, .inl (cI_5, 1024, .inl f2_5)), (a3_5, .inl (cJ_5, 1024, .inl f3_5)), (q6, .inr (10, [.int 0, .ref mr_10, .int 1, .long 0])), (mr_10, .inr (9, [.ref ll_10, .ref lt_10, .ref lp_10, .int (-1), .int 0, .int 0, .int 0, .int 0, .int 0, .int 0, .int (-1), .int 0, .int 0, .int 0])), (ll_10, .inr (1, [.int 0, .ref ed, .int 0])), (lt_10, .inr (1, [.int 0, .ref ed, .int 0])), (lp_10, .inr (1, [.int 0, .ref ed, .int 0]))]) (w1 := [(q11, .inl (cA13, 1, .inr (.inl fo9_65)))]) hP hD [1, 8, 18] [0, 2, 3, 4, 5, 6, 7, 9, 10, 11, 12, 13, 14, 15, 16, 17] rfl rfl (by decide) (by decide) hk1 hFc hP1 hD1
      have hP : va_P (dC, dI) vwCl [(q1, .inr (8, [.ref rm_5, .ref tr_5, .ref st_5])), (lk_5, .inl (cL_5, 10, .inr (.inr (.inr (.inr fl_5))))), (th_5, .inl (cT_5, 12, .inr (.inr (.inr (.inr ft_5))))), (pl_5, .inl (cP_5, 6, .inr (.inr (.inr (.inr fp_5))))), (gm_5, .inr (2, [.int 0, .int 0, .int 0, .int 0, .int 0, .int (-1), .long 0])), (l0_5, .inr (3, [.int 0, .int 0, .int 0, .int 0, .int 0, .int 0, .int 0, .int 0, .int 0, .int 0])), (t0_5, .inr (7, [.int 0, .int 0, .int 0, .int 0, .int 0])), (st_5, .inr (6, [.ref a1_5, .ref a2_5, .ref a3_5])), (a1_5, .inl (cZ_5, 1024, .inl f1_5)), (a2_5, .inl (cI_5, 1024, .inl f2_5)), (a3_5, .inl (cJ_5, 1024, .inl f3_5)), (q6, .inr (10, [.int 0, .ref mr_10, .int 1, .long 0])), (mr_10, .inr (9, [.ref ll_10, .ref lt_10, .ref lp_10, .int (-1), .int 0, .int 0, .int 0, .int 0, .int 0, .int 0, .int (-1), .int 0, .int 0, .int 0])), (ll_10, .inr (1, [.int 0, .ref ed, .int 0])), (lt_10, .inr (1, [.int 0, .ref ed, .int 0])), (lp_10, .inr (1, [.int 0, .ref ed, .int 0])), (q11, .inl (cA13, 1, .inr (.inl fo9_65)))] H63 := hP
      have hD : va_D A [(q1, .inr (8, [.ref rm_5, .ref tr_5, .ref st_5])), (lk_5, .inl (cL_5, 10, .inr (.inr (.inr (.inr fl_5))))), (th_5, .inl (cT_5, 12, .inr (.inr (.inr (.inr ft_5))))), (pl_5, .inl (cP_5, 6, .inr (.inr (.inr (.inr fp_5))))), (gm_5, .inr (2, [.int 0, .int 0, .int 0, .int 0, .int 0, .int (-1), .long 0])), (l0_5, .inr (3, [.int 0, .int 0, .int 0, .int 0, .int 0, .int 0, .int 0, .int 0, .int 0, .int 0])), (t0_5, .inr (7, [.int 0, .int 0, .int 0, .int 0, .int 0])), (st_5, .inr (6, [.ref a1_5, .ref a2_5, .ref a3_5])), (a1_5, .inl (cZ_5, 1024, .inl f1_5)), (a2_5, .inl (cI_5, 1024, .inl f2_5)), (a3_5, .inl (cJ_5, 1024, .inl f3_5)), (q6, .inr (10, [.int 0, .ref mr_10, .int 1, .long 0])), (mr_10, .inr (9, [.ref ll_10, .ref lt_10, .ref lp_10, .int (-1), .int 0, .int 0, .int 0, .int 0, .int 0, .int 0, .int (-1), .int 0, .int 0, .int 0])), (ll_10, .inr (1, [.int 0, .ref ed, .int 0])), (lt_10, .inr (1, [.int 0, .ref ed, .int 0])), (lp_10, .inr (1, [.int 0, .ref ed, .int 0])), (q11, .inl (cA13, 1, .inr (.inl fo9_65)))] := hD
      refine lv_istore (lv' := [(5, .int (zPk (xs 1))), (4, .int 0), (3, .ref q11), (2, .ref q6), (1, .ref q1), (0, .ref b)]) hx hb dL_law_379 hl (by decide) rfl (fun ls hl => ?_)
      refine lv_aload_n hx hb dL_law_381 rfl (lv_at hl 3 rfl) ?_
      refine lv_aload_n hx hb dL_law_382 rfl (lv_at hl 5 rfl) ?_
      refine lv_iload hx hb dL_law_383 (lv_at hl 1 rfl) ?_
      refine lv_iconst (v := 1) hx hb dL_law_385 (by decide) ?_
      refine lv_iadd hx hb dL_law_386 ?_
      refine zo_i (v := 1) (by decide) ?_
      refine va_sld hx hb hX hbl hbA hS (by unfold vp_in; decide) dL_law_387 ?_
      refine zo_i (v := xs 1) (by rw [show Int32.toNatClampNeg 1 = 1 from by decide]) ?_
      have hPr := (hP).sub (ws' := [(ll_10, .inr (1, [.int 0, .ref ed, .int 0])), (lt_10, .inr (1, [.int 0, .ref ed, .int 0]))]) [13, 14] rfl
      have hPc := hP.sub (ws' := [(q6, .inr (10, [.int 0, .ref mr_10, .int 1, .long 0])), (mr_10, .inr (9, [.ref ll_10, .ref lt_10, .ref lp_10, .int (-1), .int 0, .int 0, .int 0, .int 0, .int 0, .int 0, .int (-1), .int 0, .int 0, .int 0])), (lp_10, .inr (1, [.int 0, .ref ed, .int 0]))]) [11, 12, 15] rfl
      have hDc := hD.sub (ws' := [(q6, .inr (10, [.int 0, .ref mr_10, .int 1, .long 0])), (mr_10, .inr (9, [.ref ll_10, .ref lt_10, .ref lp_10, .int (-1), .int 0, .int 0, .int 0, .int 0, .int 0, .int 0, .int (-1), .int 0, .int 0, .int 0])), (lp_10, .inr (1, [.int 0, .ref ed, .int 0]))]) [11, 12, 15] (by decide) rfl
      have hKc := hK.sub (tys' := []) [] rfl
      have hFc := va_free (wc := [(q6, .inr (10, [.int 0, .ref mr_10, .int 1, .long 0])), (mr_10, .inr (9, [.ref ll_10, .ref lt_10, .ref lp_10, .int (-1), .int 0, .int 0, .int 0, .int 0, .int 0, .int 0, .int (-1), .int 0, .int 0, .int 0])), (lp_10, .inr (1, [.int 0, .ref ed, .int 0]))]) hD hS hA [11, 12, 15] rfl
      refine va_calli (va_runV (As := [.int (xs 1)]) (rest := []) ⟨hx, hb, hml, hown, hts⟩ (cz_X8_player l dC dI ed H63.size q6 mr_10 ll_10 lt_10 lp_10 0 0 (xs 1)) (cwV 1 hts gL_law_X8_player rfl rfl rfl (by decide +kernel) ⟨Nat.le_of_ble_eq_true rfl, Nat.le_of_ble_eq_true rfl⟩) ⟨zb_blind, va_recv hK hP (ci := 10) (q0 := 11) rfl rfl, fun U hU hW => ⟨rfl, zb_mk hU hW hPr hPc hKc hDc hN hH hS hFc (zx_cons (zx_o hD 13 [11, 12, 15] rfl rfl (by decide)) (zx_cons (zx_o hD 14 [11, 12, 15] rfl rfl (by decide)) zx_nil))⟩⟩ rfl rfl hl.1 rfl (lv_room (Nat.le_of_ble_eq_true rfl)) dL_law_388 ⟨Nat.le_of_ble_eq_true rfl, Nat.le_of_ble_eq_true rfl⟩) hS (fun q _ h => hFc q h) hFc (fun r67 u t H66 locs ht hvm hw hB hz1 hk1 hS => ?_)
      obtain rfl : r67 = 0 := hw
      obtain ⟨hP1, hD1, hK1⟩ := hB
      rw [ht] at hP1
      obtain ⟨hP, hD⟩ := va_join (wr := [(q1, .inr (8, [.ref rm_5, .ref tr_5, .ref st_5])), (lk_5, .inl (cL_5, 10, .inr (.inr (.inr (.inr fl_5))))), (th_5, .inl (cT_5, 12, .inr (.inr (.inr (.inr ft_5))))), (pl_5, .inl (cP_5, 6, .inr (.inr (.inr (.inr fp_5))))), (gm_5, .inr (2, [.int 0, .int 0, .int 0, .int 0, .int 0, .int (-1), .long 0])), (l0_5, .inr (3, [.int 0, .int 0, .int 0, .int 0, .int 0, .int 0, .int 0, .int 0, .int 0, .int 0])), (t0_5, .inr (7, [.int 0, .int 0, .int 0, .int 0, .int 0])), (st_5, .inr (6, [.ref a1_5, .ref a2_5, .ref a3_5])), (a1_5, .inl (cZ_5, 1024, .inl f1_5)), (a2_5, .inl (cI_5, 1024, .inl f2_5)), (a3_5, .inl (cJ_5, 1024, .inl f3_5)), (ll_10, .inr (1, [.int 0, .ref ed, .int 0])), (lt_10, .inr (1, [.int 0, .ref ed, .int 0])), (q11, .inl (cA13, 1, .inr (.inl fo9_65)))]) (w1 := [(q6, .inr (10, [.int (zPk (xs 1)), .ref mr_10, .int 1, .long 0]))]) hP hD [11, 12, 15] [0, 1, 2, 3, 4, 5, 6, 7, 8, 9, 10, 13, 14, 16] rfl rfl (by decide) (by decide) hk1 hFc hP1 hD1
      have hP : va_P (dC, dI) vwCl [(q1, .inr (8, [.ref rm_5, .ref tr_5, .ref st_5])), (lk_5, .inl (cL_5, 10, .inr (.inr (.inr (.inr fl_5))))), (th_5, .inl (cT_5, 12, .inr (.inr (.inr (.inr ft_5))))), (pl_5, .inl (cP_5, 6, .inr (.inr (.inr (.inr fp_5))))), (gm_5, .inr (2, [.int 0, .int 0, .int 0, .int 0, .int 0, .int (-1), .long 0])), (l0_5, .inr (3, [.int 0, .int 0, .int 0, .int 0, .int 0, .int 0, .int 0, .int 0, .int 0, .int 0])), (t0_5, .inr (7, [.int 0, .int 0, .int 0, .int 0, .int 0])), (st_5, .inr (6, [.ref a1_5, .ref a2_5, .ref a3_5])), (a1_5, .inl (cZ_5, 1024, .inl f1_5)), (a2_5, .inl (cI_5, 1024, .inl f2_5)), (a3_5, .inl (cJ_5, 1024, .inl f3_5)), (ll_10, .inr (1, [.int 0, .ref ed, .int 0])), (lt_10, .inr (1, [.int 0, .ref ed, .int 0])), (q11, .inl (cA13, 1, .inr (.inl fo9_65))), (q6, .inr (10, [.int (zPk (xs 1)), .ref mr_10, .int 1, .long 0]))] H66 := hP
      have hD : va_D A [(q1, .inr (8, [.ref rm_5, .ref tr_5, .ref st_5])), (lk_5, .inl (cL_5, 10, .inr (.inr (.inr (.inr fl_5))))), (th_5, .inl (cT_5, 12, .inr (.inr (.inr (.inr ft_5))))), (pl_5, .inl (cP_5, 6, .inr (.inr (.inr (.inr fp_5))))), (gm_5, .inr (2, [.int 0, .int 0, .int 0, .int 0, .int 0, .int (-1), .long 0])), (l0_5, .inr (3, [.int 0, .int 0, .int 0, .int 0, .int 0, .int 0, .int 0, .int 0, .int 0, .int 0])), (t0_5, .inr (7, [.int 0, .int 0, .int 0, .int 0, .int 0])), (st_5, .inr (6, [.ref a1_5, .ref a2_5, .ref a3_5])), (a1_5, .inl (cZ_5, 1024, .inl f1_5)), (a2_5, .inl (cI_5, 1024, .inl f2_5)), (a3_5, .inl (cJ_5, 1024, .inl f3_5)), (ll_10, .inr (1, [.int 0, .ref ed, .int 0])), (lt_10, .inr (1, [.int 0, .ref ed, .int 0])), (q11, .inl (cA13, 1, .inr (.inl fo9_65))), (q6, .inr (10, [.int (zPk (xs 1)), .ref mr_10, .int 1, .long 0]))] := hD
      refine lv_istore (lv' := [(6, .int 0), (5, .int (zPk (xs 1))), (4, .int 0), (3, .ref q11), (2, .ref q6), (1, .ref q1), (0, .ref b)]) hx hb dL_law_391 hl (by decide) rfl (fun ls hl => ?_)
      refine lv_aload_n hx hb dL_law_393 rfl (lv_at hl 4 rfl) ?_
      have hPr := (hP).sub (ws' := [(q6, .inr (10, [.int (zPk (xs 1)), .ref mr_10, .int 1, .long 0]))]) [14] rfl
      have hPc := hP.sub (ws' := []) [] rfl
      have hDc := hD.sub (ws' := []) [] (by decide) rfl
      have hKc := hK.sub (tys' := []) [] rfl
      have hFc := va_free (wc := []) hD hS hA [] rfl
      refine va_calli (va_runV (As := []) (rest := []) ⟨hx, hb, hml, hown, hts⟩ (cz_thrown l dC dI ed H66.size q6 mr_10 (zPk (xs 1)) 0) (cwV 0 hts gL_law_X8_thrown rfl rfl rfl (by decide +kernel) ⟨Nat.le_of_ble_eq_true rfl, Nat.le_of_ble_eq_true rfl⟩) ⟨zb_blind, va_recv hK hP (ci := 10) (q0 := 14) rfl rfl, fun U hU hW => ⟨rfl, zb_mk hU hW hPr hPc hKc hDc hN hH hS hFc zx_e⟩⟩ rfl rfl hl.1 rfl (lv_room (Nat.le_of_ble_eq_true rfl)) dL_law_394 ⟨Nat.le_of_ble_eq_true rfl, Nat.le_of_ble_eq_true rfl⟩) hS (fun q _ h => hFc q h) hFc (fun r70 u t H69 locs ht hvm hw hB hz1 hk1 hS => ?_)
      obtain rfl : r70 = (zPk (xs 1)) := hw
      have hP := zo_K hP hk1
      refine lv_iload hx hb dL_law_397 (lv_at hl 1 rfl) ?_
      refine lv_icmp_eq (tgt := 404) hx hb dL_law_399 (by decide) (fun _ => ?_) (fun h => absurd rfl h)
      refine lv_iload hx hb dL_law_404 (lv_at hl 1 rfl) ?_
      refine lv_if_ne (tgt := 421) hx hb dL_law_406 (by decide) (fun c71 => ?_) (fun c71 => ?_)
      · skip
        refine lv_goto (tgt := 1407) hx hb dL_law_421 (by decide) ?_
        refine lv_iinc (v := 6) (lv' := [(4, .int 6), (6, .int 0), (5, .int (zPk (xs 1))), (3, .ref q11), (2, .ref q6), (1, .ref q1), (0, .ref b)]) hx hb dL_law_1407 hl (k := 2) rfl (by decide) (by decide) rfl (fun ls hl => ?_)
        refine lv_goto (tgt := 23) hx hb dL_law_1410 (by decide) ?_
        refine lv_iload hx hb dL_law_23 (lv_at hl 0 rfl) ?_
        refine lv_aload_n hx hb dL_law_25 rfl (lv_at hl 6 rfl) ?_
        refine va_slen hx hb hX hbl hbA hS dL_law_26 ?_
        refine zo_i (v := 6) (by decide) ?_
        refine lv_bipush (v := 6) hx hb dL_law_27 (by decide) ?_
        refine lv_isub hx hb dL_law_29 ?_
        refine zo_i (v := 0) (by decide) ?_
        refine lv_icmp_gt (tgt := 1413) hx hb dL_law_30 (by decide) (fun _ => ?_) (fun h => absurd h (by decide))
        refine lv_iconst (v := 1) hx hb dL_law_1413 (by decide) ?_
        refine W.widen (k := 600002) (n := 7302232) (Nat.le_of_ble_eq_true rfl) (Nat.le_of_ble_eq_true rfl) ?_
        refine va_forget (fun q hq => by have h9 := hS.2.2 q hq; rw [hAe] at h9; exact h9) ?_
        exact lw_ret hd0 hx hb hr hlocks dL_law_1414
      · skip
        refine lv_aload_n hx hb dL_law_409 rfl (lv_at hl 3 rfl) ?_
        refine lv_iconst (v := 0) hx hb dL_law_410 (by decide) ?_
        refine va_lald hx hb hK hP 13 6 rfl rfl (by unfold vp_in; decide) dL_law_411 ?_
        refine zo_l (v := 0) (by rw [show Int32.toNatClampNeg 0 = 0 from by decide]; exact hq65_0 c71) ?_
        refine lv_iload hx hb dL_law_412 (lv_at hl 0 rfl) ?_
        refine lv_i2l (v := 0) hx hb dL_law_414 (by decide) ?_
        refine W.lcmp hx hb dL_law_415 ?_
        refine zo_i (v := 0) (zo_lc _) ?_
        refine lv_if_eq (tgt := 421) hx hb dL_law_416 (by decide) (fun _ => ?_) (fun h => absurd h (by decide))
        refine lv_goto (tgt := 1407) hx hb dL_law_421 (by decide) ?_
        refine lv_iinc (v := 6) (lv' := [(4, .int 6), (6, .int 0), (5, .int (zPk (xs 1))), (3, .ref q11), (2, .ref q6), (1, .ref q1), (0, .ref b)]) hx hb dL_law_1407 hl (k := 2) rfl (by decide) (by decide) rfl (fun ls hl => ?_)
        refine lv_goto (tgt := 23) hx hb dL_law_1410 (by decide) ?_
        refine lv_iload hx hb dL_law_23 (lv_at hl 0 rfl) ?_
        refine lv_aload_n hx hb dL_law_25 rfl (lv_at hl 6 rfl) ?_
        refine va_slen hx hb hX hbl hbA hS dL_law_26 ?_
        refine zo_i (v := 6) (by decide) ?_
        refine lv_bipush (v := 6) hx hb dL_law_27 (by decide) ?_
        refine lv_isub hx hb dL_law_29 ?_
        refine zo_i (v := 0) (by decide) ?_
        refine lv_icmp_gt (tgt := 1413) hx hb dL_law_30 (by decide) (fun _ => ?_) (fun h => absurd h (by decide))
        refine lv_iconst (v := 1) hx hb dL_law_1413 (by decide) ?_
        refine W.widen (k := 600002) (n := 7302232) (Nat.le_of_ble_eq_true rfl) (Nat.le_of_ble_eq_true rfl) ?_
        refine va_forget (fun q hq => by have h9 := hS.2.2 q hq; rw [hAe] at h9; exact h9) ?_
        exact lw_ret hd0 hx hb hr hlocks dL_law_1414
    · refine zo_i (v := 3) (by decide) ?_
      refine lv_tableIn (off := 384) (tgt := 424) hx hb dL_law_40 (by decide) (by decide) rfl (by decide) ?_
      refine lv_aload_n hx hb dL_law_424 rfl (lv_at hl 3 rfl) ?_
      refine lv_aload_n hx hb dL_law_425 rfl (lv_at hl 1 rfl) ?_
      have hPr := (hP).sub (ws' := [(q1, .inr (8, [.ref rm_5, .ref tr_5, .ref st_5])), (rm_5, .inr (5, [.ref lk_5, .ref th_5, .ref pl_5, .ref gm_5, .int 0, .int 0, .int 0, .int (-1), .int 1, .int 0, .int 0, .int 0])), (gm_5, .inr (2, [.int 0, .int 0, .int 0, .int 0, .int 0, .int (-1), .long 0]))]) [0, 1, 5] rfl
      have hPc := hP.sub (ws' := [(q11, .inl (cA13, 1, .inr (.inl (fun _ => 0))))]) [18] rfl
      have hDc := hD.sub (ws' := [(q11, .inl (cA13, 1, .inr (.inl (fun _ => 0))))]) [18] (by decide) rfl
      have hKc := hK.sub (tys' := [(cA13, .long)]) [6] rfl
      have hFc := va_free (wc := [(q11, .inl (cA13, 1, .inr (.inl (fun _ => 0))))]) hD hS hA [18] rfl
      refine vx_calli (vx_runSX (As := [.ref q1, .ref q11]) (rest := []) ⟨hx, hb, hml, hown, hts⟩ (cz_L_begin l dC dI ed H12.size q1 rm_5 tr_5 st_5 lk_5 th_5 pl_5 gm_5 q11 cA13 (fun _ => 0) htr) (vx_cwSW 2 hts gL_law_L_begin rfl rfl rfl (by decide +kernel) ⟨Nat.le_of_ble_eq_true rfl, Nat.le_of_ble_eq_true rfl⟩) ⟨zb_blind, fun U hU hW => ⟨rfl, zb_mk hU hW hPr hPc hKc hDc hN hH hS hFc (zx_cons (zx_o hD 0 [18] rfl rfl (by decide)) (zx_cons (zx_o hD 1 [18] rfl rfl (by decide)) (zx_cons (zx_o hD 5 [18] rfl rfl (by decide)) zx_nil)))⟩⟩ rfl rfl hl.1 rfl (lv_room (Nat.le_of_ble_eq_true rfl)) dL_law_426 ⟨Nat.le_of_ble_eq_true rfl, Nat.le_of_ble_eq_true rfl⟩) hS (fun q _ h => hFc q h) hFc (fun q _ h => hFc q h) (fun E ce q9 u t H72 locs ht hvm hpx hBX hz1 hk1 hS hce hcv hcl => hpx.elim) (fun r73 u t H72 locs ht hvm hw hB hz1 hk1 hS => ?_)
      obtain rfl : r73 = 1 := hw
      obtain ⟨fo9_74, hP1, hD1, hK1⟩ := hB
      rw [ht] at hP1
      obtain ⟨hP, hD⟩ := va_join (wr := [(q1, .inr (8, [.ref rm_5, .ref tr_5, .ref st_5])), (rm_5, .inr (5, [.ref lk_5, .ref th_5, .ref pl_5, .ref gm_5, .int 0, .int 0, .int 0, .int (-1), .int 1, .int 0, .int 0, .int 0])), (lk_5, .inl (cL_5, 10, .inr (.inr (.inr (.inr fl_5))))), (th_5, .inl (cT_5, 12, .inr (.inr (.inr (.inr ft_5))))), (pl_5, .inl (cP_5, 6, .inr (.inr (.inr (.inr fp_5))))), (gm_5, .inr (2, [.int 0, .int 0, .int 0, .int 0, .int 0, .int (-1), .long 0])), (l0_5, .inr (3, [.int 0, .int 0, .int 0, .int 0, .int 0, .int 0, .int 0, .int 0, .int 0, .int 0])), (t0_5, .inr (7, [.int 0, .int 0, .int 0, .int 0, .int 0])), (p0_5, .inr (4, [.int 0, .int 0, .int 0, .int 0])), (st_5, .inr (6, [.ref a1_5, .ref a2_5, .ref a3_5])), (a1_5, .inl (cZ_5, 1024, .inl f1_5)), (a2_5, .inl (cI_5, 1024, .inl f2_5)), (a3_5, .inl (cJ_5, 1024, .inl f3_5)), (q6, .inr (10, [.int 0, .ref mr_10, .int 1, .long 0])), (mr_10, .inr (9, [.ref ll_10, .ref lt_10, .ref lp_10, .int (-1), .int 0, .int 0, .int 0, .int 0, .int 0, .int 0, .int (-1), .int 0, .int 0, .int 0])), (ll_10, .inr (1, [.int 0, .ref ed, .int 0])), (lt_10, .inr (1, [.int 0, .ref ed, .int 0])), (lp_10, .inr (1, [.int 0, .ref ed, .int 0]))]) (w1 := [(q11, .inl (cA13, 1, .inr (.inl fo9_74)))]) hP hD [18] [0, 1, 2, 3, 4, 5, 6, 7, 8, 9, 10, 11, 12, 13, 14, 15, 16, 17] rfl rfl (by decide) (by decide) hk1 hFc hP1 hD1
      have hP : va_P (dC, dI) vwCl [(q1, .inr (8, [.ref rm_5, .ref tr_5, .ref st_5])), (rm_5, .inr (5, [.ref lk_5, .ref th_5, .ref pl_5, .ref gm_5, .int 0, .int 0, .int 0, .int (-1), .int 1, .int 0, .int 0, .int 0])), (lk_5, .inl (cL_5, 10, .inr (.inr (.inr (.inr fl_5))))), (th_5, .inl (cT_5, 12, .inr (.inr (.inr (.inr ft_5))))), (pl_5, .inl (cP_5, 6, .inr (.inr (.inr (.inr fp_5))))), (gm_5, .inr (2, [.int 0, .int 0, .int 0, .int 0, .int 0, .int (-1), .long 0])), (l0_5, .inr (3, [.int 0, .int 0, .int 0, .int 0, .int 0, .int 0, .int 0, .int 0, .int 0, .int 0])), (t0_5, .inr (7, [.int 0, .int 0, .int 0, .int 0, .int 0])), (p0_5, .inr (4, [.int 0, .int 0, .int 0, .int 0])), (st_5, .inr (6, [.ref a1_5, .ref a2_5, .ref a3_5])), (a1_5, .inl (cZ_5, 1024, .inl f1_5)), (a2_5, .inl (cI_5, 1024, .inl f2_5)), (a3_5, .inl (cJ_5, 1024, .inl f3_5)), (q6, .inr (10, [.int 0, .ref mr_10, .int 1, .long 0])), (mr_10, .inr (9, [.ref ll_10, .ref lt_10, .ref lp_10, .int (-1), .int 0, .int 0, .int 0, .int 0, .int 0, .int 0, .int (-1), .int 0, .int 0, .int 0])), (ll_10, .inr (1, [.int 0, .ref ed, .int 0])), (lt_10, .inr (1, [.int 0, .ref ed, .int 0])), (lp_10, .inr (1, [.int 0, .ref ed, .int 0])), (q11, .inl (cA13, 1, .inr (.inl fo9_74)))] H72 := hP
      have hD : va_D A [(q1, .inr (8, [.ref rm_5, .ref tr_5, .ref st_5])), (rm_5, .inr (5, [.ref lk_5, .ref th_5, .ref pl_5, .ref gm_5, .int 0, .int 0, .int 0, .int (-1), .int 1, .int 0, .int 0, .int 0])), (lk_5, .inl (cL_5, 10, .inr (.inr (.inr (.inr fl_5))))), (th_5, .inl (cT_5, 12, .inr (.inr (.inr (.inr ft_5))))), (pl_5, .inl (cP_5, 6, .inr (.inr (.inr (.inr fp_5))))), (gm_5, .inr (2, [.int 0, .int 0, .int 0, .int 0, .int 0, .int (-1), .long 0])), (l0_5, .inr (3, [.int 0, .int 0, .int 0, .int 0, .int 0, .int 0, .int 0, .int 0, .int 0, .int 0])), (t0_5, .inr (7, [.int 0, .int 0, .int 0, .int 0, .int 0])), (p0_5, .inr (4, [.int 0, .int 0, .int 0, .int 0])), (st_5, .inr (6, [.ref a1_5, .ref a2_5, .ref a3_5])), (a1_5, .inl (cZ_5, 1024, .inl f1_5)), (a2_5, .inl (cI_5, 1024, .inl f2_5)), (a3_5, .inl (cJ_5, 1024, .inl f3_5)), (q6, .inr (10, [.int 0, .ref mr_10, .int 1, .long 0])), (mr_10, .inr (9, [.ref ll_10, .ref lt_10, .ref lp_10, .int (-1), .int 0, .int 0, .int 0, .int 0, .int 0, .int 0, .int (-1), .int 0, .int 0, .int 0])), (ll_10, .inr (1, [.int 0, .ref ed, .int 0])), (lt_10, .inr (1, [.int 0, .ref ed, .int 0])), (lp_10, .inr (1, [.int 0, .ref ed, .int 0])), (q11, .inl (cA13, 1, .inr (.inl fo9_74)))] := hD
      refine lv_istore (lv' := [(5, .int 1), (4, .int 0), (3, .ref q11), (2, .ref q6), (1, .ref q1), (0, .ref b)]) hx hb dL_law_429 hl (by decide) rfl (fun ls hl => ?_)
      refine lv_aload_n hx hb dL_law_431 rfl (lv_at hl 3 rfl) ?_
      have hPr := (hP).sub (ws' := [(mr_10, .inr (9, [.ref ll_10, .ref lt_10, .ref lp_10, .int (-1), .int 0, .int 0, .int 0, .int 0, .int 0, .int 0, .int (-1), .int 0, .int 0, .int 0])), (ll_10, .inr (1, [.int 0, .ref ed, .int 0])), (lt_10, .inr (1, [.int 0, .ref ed, .int 0])), (lp_10, .inr (1, [.int 0, .ref ed, .int 0]))]) [14, 15, 16, 17] rfl
      have hPc := hP.sub (ws' := [(q6, .inr (10, [.int 0, .ref mr_10, .int 1, .long 0]))]) [13] rfl
      have hDc := hD.sub (ws' := [(q6, .inr (10, [.int 0, .ref mr_10, .int 1, .long 0]))]) [13] (by decide) rfl
      have hKc := hK.sub (tys' := []) [] rfl
      have hFc := va_free (wc := [(q6, .inr (10, [.int 0, .ref mr_10, .int 1, .long 0]))]) hD hS hA [13] rfl
      refine va_calli (va_runV (As := []) (rest := []) ⟨hx, hb, hml, hown, hts⟩ (cz_X8_begin l dC dI ed H72.size q6 mr_10 ll_10 lt_10 lp_10 0 0) (cwV 0 hts gL_law_X8_begin rfl rfl rfl (by decide +kernel) ⟨Nat.le_of_ble_eq_true rfl, Nat.le_of_ble_eq_true rfl⟩) ⟨zb_blind, va_recv hK hP (ci := 10) (q0 := 13) rfl rfl, fun U hU hW => ⟨rfl, zb_mk hU hW hPr hPc hKc hDc hN hH hS hFc (zx_cons (zx_o hD 14 [13] rfl rfl (by decide)) (zx_cons (zx_o hD 15 [13] rfl rfl (by decide)) (zx_cons (zx_o hD 16 [13] rfl rfl (by decide)) (zx_cons (zx_o hD 17 [13] rfl rfl (by decide)) zx_nil))))⟩⟩ rfl rfl hl.1 rfl (lv_room (Nat.le_of_ble_eq_true rfl)) dL_law_432 ⟨Nat.le_of_ble_eq_true rfl, Nat.le_of_ble_eq_true rfl⟩) hS (fun q _ h => hFc q h) hFc (fun r76 u t H75 locs ht hvm hw hB hz1 hk1 hS => ?_)
      obtain rfl : r76 = 0 := hw
      obtain ⟨hP1, hD1, hK1⟩ := hB
      rw [ht] at hP1
      obtain ⟨hP, hD⟩ := va_join (wr := [(q1, .inr (8, [.ref rm_5, .ref tr_5, .ref st_5])), (rm_5, .inr (5, [.ref lk_5, .ref th_5, .ref pl_5, .ref gm_5, .int 0, .int 0, .int 0, .int (-1), .int 1, .int 0, .int 0, .int 0])), (lk_5, .inl (cL_5, 10, .inr (.inr (.inr (.inr fl_5))))), (th_5, .inl (cT_5, 12, .inr (.inr (.inr (.inr ft_5))))), (pl_5, .inl (cP_5, 6, .inr (.inr (.inr (.inr fp_5))))), (gm_5, .inr (2, [.int 0, .int 0, .int 0, .int 0, .int 0, .int (-1), .long 0])), (l0_5, .inr (3, [.int 0, .int 0, .int 0, .int 0, .int 0, .int 0, .int 0, .int 0, .int 0, .int 0])), (t0_5, .inr (7, [.int 0, .int 0, .int 0, .int 0, .int 0])), (p0_5, .inr (4, [.int 0, .int 0, .int 0, .int 0])), (st_5, .inr (6, [.ref a1_5, .ref a2_5, .ref a3_5])), (a1_5, .inl (cZ_5, 1024, .inl f1_5)), (a2_5, .inl (cI_5, 1024, .inl f2_5)), (a3_5, .inl (cJ_5, 1024, .inl f3_5)), (mr_10, .inr (9, [.ref ll_10, .ref lt_10, .ref lp_10, .int (-1), .int 0, .int 0, .int 0, .int 0, .int 0, .int 0, .int (-1), .int 0, .int 0, .int 0])), (ll_10, .inr (1, [.int 0, .ref ed, .int 0])), (lt_10, .inr (1, [.int 0, .ref ed, .int 0])), (lp_10, .inr (1, [.int 0, .ref ed, .int 0])), (q11, .inl (cA13, 1, .inr (.inl fo9_74)))]) (w1 := [(q6, .inr (10, [.int 1, .ref mr_10, .int 1, .long 0]))]) hP hD [13] [0, 1, 2, 3, 4, 5, 6, 7, 8, 9, 10, 11, 12, 14, 15, 16, 17, 18] rfl rfl (by decide) (by decide) hk1 hFc hP1 hD1
      have hP : va_P (dC, dI) vwCl [(q1, .inr (8, [.ref rm_5, .ref tr_5, .ref st_5])), (rm_5, .inr (5, [.ref lk_5, .ref th_5, .ref pl_5, .ref gm_5, .int 0, .int 0, .int 0, .int (-1), .int 1, .int 0, .int 0, .int 0])), (lk_5, .inl (cL_5, 10, .inr (.inr (.inr (.inr fl_5))))), (th_5, .inl (cT_5, 12, .inr (.inr (.inr (.inr ft_5))))), (pl_5, .inl (cP_5, 6, .inr (.inr (.inr (.inr fp_5))))), (gm_5, .inr (2, [.int 0, .int 0, .int 0, .int 0, .int 0, .int (-1), .long 0])), (l0_5, .inr (3, [.int 0, .int 0, .int 0, .int 0, .int 0, .int 0, .int 0, .int 0, .int 0, .int 0])), (t0_5, .inr (7, [.int 0, .int 0, .int 0, .int 0, .int 0])), (p0_5, .inr (4, [.int 0, .int 0, .int 0, .int 0])), (st_5, .inr (6, [.ref a1_5, .ref a2_5, .ref a3_5])), (a1_5, .inl (cZ_5, 1024, .inl f1_5)), (a2_5, .inl (cI_5, 1024, .inl f2_5)), (a3_5, .inl (cJ_5, 1024, .inl f3_5)), (mr_10, .inr (9, [.ref ll_10, .ref lt_10, .ref lp_10, .int (-1), .int 0, .int 0, .int 0, .int 0, .int 0, .int 0, .int (-1), .int 0, .int 0, .int 0])), (ll_10, .inr (1, [.int 0, .ref ed, .int 0])), (lt_10, .inr (1, [.int 0, .ref ed, .int 0])), (lp_10, .inr (1, [.int 0, .ref ed, .int 0])), (q11, .inl (cA13, 1, .inr (.inl fo9_74))), (q6, .inr (10, [.int 1, .ref mr_10, .int 1, .long 0]))] H75 := hP
      have hD : va_D A [(q1, .inr (8, [.ref rm_5, .ref tr_5, .ref st_5])), (rm_5, .inr (5, [.ref lk_5, .ref th_5, .ref pl_5, .ref gm_5, .int 0, .int 0, .int 0, .int (-1), .int 1, .int 0, .int 0, .int 0])), (lk_5, .inl (cL_5, 10, .inr (.inr (.inr (.inr fl_5))))), (th_5, .inl (cT_5, 12, .inr (.inr (.inr (.inr ft_5))))), (pl_5, .inl (cP_5, 6, .inr (.inr (.inr (.inr fp_5))))), (gm_5, .inr (2, [.int 0, .int 0, .int 0, .int 0, .int 0, .int (-1), .long 0])), (l0_5, .inr (3, [.int 0, .int 0, .int 0, .int 0, .int 0, .int 0, .int 0, .int 0, .int 0, .int 0])), (t0_5, .inr (7, [.int 0, .int 0, .int 0, .int 0, .int 0])), (p0_5, .inr (4, [.int 0, .int 0, .int 0, .int 0])), (st_5, .inr (6, [.ref a1_5, .ref a2_5, .ref a3_5])), (a1_5, .inl (cZ_5, 1024, .inl f1_5)), (a2_5, .inl (cI_5, 1024, .inl f2_5)), (a3_5, .inl (cJ_5, 1024, .inl f3_5)), (mr_10, .inr (9, [.ref ll_10, .ref lt_10, .ref lp_10, .int (-1), .int 0, .int 0, .int 0, .int 0, .int 0, .int 0, .int (-1), .int 0, .int 0, .int 0])), (ll_10, .inr (1, [.int 0, .ref ed, .int 0])), (lt_10, .inr (1, [.int 0, .ref ed, .int 0])), (lp_10, .inr (1, [.int 0, .ref ed, .int 0])), (q11, .inl (cA13, 1, .inr (.inl fo9_74))), (q6, .inr (10, [.int 1, .ref mr_10, .int 1, .long 0]))] := hD
      refine lv_istore (lv' := [(6, .int 0), (5, .int 1), (4, .int 0), (3, .ref q11), (2, .ref q6), (1, .ref q1), (0, .ref b)]) hx hb dL_law_435 hl (by decide) rfl (fun ls hl => ?_)
      refine lv_aload_n hx hb dL_law_437 rfl (lv_at hl 4 rfl) ?_
      have hPr := (hP).sub (ws' := [(q6, .inr (10, [.int 1, .ref mr_10, .int 1, .long 0]))]) [18] rfl
      have hPc := hP.sub (ws' := []) [] rfl
      have hDc := hD.sub (ws' := []) [] (by decide) rfl
      have hKc := hK.sub (tys' := []) [] rfl
      have hFc := va_free (wc := []) hD hS hA [] rfl
      refine va_calli (va_runV (As := []) (rest := []) ⟨hx, hb, hml, hown, hts⟩ (cz_thrown l dC dI ed H75.size q6 mr_10 1 0) (cwV 0 hts gL_law_X8_thrown rfl rfl rfl (by decide +kernel) ⟨Nat.le_of_ble_eq_true rfl, Nat.le_of_ble_eq_true rfl⟩) ⟨zb_blind, va_recv hK hP (ci := 10) (q0 := 18) rfl rfl, fun U hU hW => ⟨rfl, zb_mk hU hW hPr hPc hKc hDc hN hH hS hFc zx_e⟩⟩ rfl rfl hl.1 rfl (lv_room (Nat.le_of_ble_eq_true rfl)) dL_law_438 ⟨Nat.le_of_ble_eq_true rfl, Nat.le_of_ble_eq_true rfl⟩) hS (fun q _ h => hFc q h) hFc (fun r79 u t H78 locs ht hvm hw hB hz1 hk1 hS => ?_)
      obtain rfl : r79 = 1 := hw
      have hP := zo_K hP hk1
      refine lv_iload hx hb dL_law_441 (lv_at hl 1 rfl) ?_
      refine lv_icmp_eq (tgt := 448) hx hb dL_law_443 (by decide) (fun _ => ?_) (fun h => absurd rfl h)
      refine lv_iload hx hb dL_law_448 (lv_at hl 1 rfl) ?_
      refine lv_if_ne (tgt := 465) hx hb dL_law_450 (by decide) (fun _ => ?_) (fun h => absurd h (by decide))
      refine lv_goto (tgt := 1407) hx hb dL_law_465 (by decide) ?_
      refine lv_iinc (v := 6) (lv' := [(4, .int 6), (6, .int 0), (5, .int 1), (3, .ref q11), (2, .ref q6), (1, .ref q1), (0, .ref b)]) hx hb dL_law_1407 hl (k := 2) rfl (by decide) (by decide) rfl (fun ls hl => ?_)
      refine lv_goto (tgt := 23) hx hb dL_law_1410 (by decide) ?_
      refine lv_iload hx hb dL_law_23 (lv_at hl 0 rfl) ?_
      refine lv_aload_n hx hb dL_law_25 rfl (lv_at hl 6 rfl) ?_
      refine va_slen hx hb hX hbl hbA hS dL_law_26 ?_
      refine zo_i (v := 6) (by decide) ?_
      refine lv_bipush (v := 6) hx hb dL_law_27 (by decide) ?_
      refine lv_isub hx hb dL_law_29 ?_
      refine zo_i (v := 0) (by decide) ?_
      refine lv_icmp_gt (tgt := 1413) hx hb dL_law_30 (by decide) (fun _ => ?_) (fun h => absurd h (by decide))
      refine lv_iconst (v := 1) hx hb dL_law_1413 (by decide) ?_
      refine W.widen (k := 600002) (n := 7302232) (Nat.le_of_ble_eq_true rfl) (Nat.le_of_ble_eq_true rfl) ?_
      refine va_forget (fun q hq => by have h9 := hS.2.2 q hq; rw [hAe] at h9; exact h9) ?_
      exact lw_ret hd0 hx hb hr hlocks dL_law_1414
    · refine zo_i (v := 4) (by decide) ?_
      refine lv_tableIn (off := 428) (tgt := 468) hx hb dL_law_40 (by decide) (by decide) rfl (by decide) ?_
      refine lv_aload_n hx hb dL_law_468 rfl (lv_at hl 3 rfl) ?_
      refine lv_aload_n hx hb dL_law_469 rfl (lv_at hl 4 rfl) ?_
      refine lv_iload hx hb dL_law_470 (lv_at hl 0 rfl) ?_
      refine lv_iconst (v := 1) hx hb dL_law_472 (by decide) ?_
      refine lv_iadd hx hb dL_law_473 ?_
      refine zo_i (v := 1) (by decide) ?_
      refine va_sld hx hb hX hbl hbA hS (by unfold vp_in; decide) dL_law_474 ?_
      refine zo_i (v := xs 1) (by rw [show Int32.toNatClampNeg 1 = 1 from by decide]) ?_
      refine lv_aload_n hx hb dL_law_475 rfl (lv_at hl 1 rfl) ?_
      have hPr := (hP).sub (ws' := [(q1, .inr (8, [.ref rm_5, .ref tr_5, .ref st_5])), (gm_5, .inr (2, [.int 0, .int 0, .int 0, .int 0, .int 0, .int (-1), .long 0]))]) [0, 5] rfl
      have hPc := hP.sub (ws' := [(rm_5, .inr (5, [.ref lk_5, .ref th_5, .ref pl_5, .ref gm_5, .int 0, .int 0, .int 0, .int (-1), .int 1, .int 0, .int 0, .int 0])), (q11, .inl (cA13, 1, .inr (.inl (fun _ => 0))))]) [1, 18] rfl
      have hDc := hD.sub (ws' := [(rm_5, .inr (5, [.ref lk_5, .ref th_5, .ref pl_5, .ref gm_5, .int 0, .int 0, .int 0, .int (-1), .int 1, .int 0, .int 0, .int 0])), (q11, .inl (cA13, 1, .inr (.inl (fun _ => 0))))]) [1, 18] (by decide) rfl
      have hKc := hK.sub (tys' := [(cA13, .long)]) [6] rfl
      have hFc := va_free (wc := [(rm_5, .inr (5, [.ref lk_5, .ref th_5, .ref pl_5, .ref gm_5, .int 0, .int 0, .int 0, .int (-1), .int 1, .int 0, .int 0, .int 0])), (q11, .inl (cA13, 1, .inr (.inl (fun _ => 0))))]) hD hS hA [1, 18] rfl
      refine vx_calli (vx_runSX (As := [.ref q1, .int (xs 1), .ref q11]) (rest := []) ⟨hx, hb, hml, hown, hts⟩ (cz_L_pass l dC dI ed H12.size q1 rm_5 tr_5 st_5 lk_5 th_5 pl_5 gm_5 (xs 1) q11 cA13 (fun _ => 0) htr) (vx_cwSW 3 hts gL_law_L_pass rfl rfl rfl (by decide +kernel) ⟨Nat.le_of_ble_eq_true rfl, Nat.le_of_ble_eq_true rfl⟩) ⟨zb_blind, fun U hU hW => ⟨rfl, zb_mk hU hW hPr hPc hKc hDc hN hH hS hFc (zx_cons (zx_o hD 0 [1, 18] rfl rfl (by decide)) (zx_cons (zx_o hD 5 [1, 18] rfl rfl (by decide)) zx_nil))⟩⟩ rfl rfl hl.1 rfl (lv_room (Nat.le_of_ble_eq_true rfl)) dL_law_476 ⟨Nat.le_of_ble_eq_true rfl, Nat.le_of_ble_eq_true rfl⟩) hS (fun q _ h => hFc q h) hFc (fun q _ h => hFc q h) (fun E ce q9 u t H80 locs ht hvm hpx hBX hz1 hk1 hS hce hcv hcl => hpx.elim) (fun r81 u t H80 locs ht hvm hw hB hz1 hk1 hS => ?_)
      obtain rfl : r81 = (zQk (xs 1)) := hw
      obtain ⟨fo9_82, hq82_0, hP1, hD1, hK1⟩ := hB
      rw [ht] at hP1
      obtain ⟨hP, hD⟩ := va_join (wr := [(q1, .inr (8, [.ref rm_5, .ref tr_5, .ref st_5])), (lk_5, .inl (cL_5, 10, .inr (.inr (.inr (.inr fl_5))))), (th_5, .inl (cT_5, 12, .inr (.inr (.inr (.inr ft_5))))), (pl_5, .inl (cP_5, 6, .inr (.inr (.inr (.inr fp_5))))), (gm_5, .inr (2, [.int 0, .int 0, .int 0, .int 0, .int 0, .int (-1), .long 0])), (l0_5, .inr (3, [.int 0, .int 0, .int 0, .int 0, .int 0, .int 0, .int 0, .int 0, .int 0, .int 0])), (t0_5, .inr (7, [.int 0, .int 0, .int 0, .int 0, .int 0])), (p0_5, .inr (4, [.int 0, .int 0, .int 0, .int 0])), (st_5, .inr (6, [.ref a1_5, .ref a2_5, .ref a3_5])), (a1_5, .inl (cZ_5, 1024, .inl f1_5)), (a2_5, .inl (cI_5, 1024, .inl f2_5)), (a3_5, .inl (cJ_5, 1024, .inl f3_5)), (q6, .inr (10, [.int 0, .ref mr_10, .int 1, .long 0])), (mr_10, .inr (9, [.ref ll_10, .ref lt_10, .ref lp_10, .int (-1), .int 0, .int 0, .int 0, .int 0, .int 0, .int 0, .int (-1), .int 0, .int 0, .int 0])), (ll_10, .inr (1, [.int 0, .ref ed, .int 0])), (lt_10, .inr (1, [.int 0, .ref ed, .int 0])), (lp_10, .inr (1, [.int 0, .ref ed, .int 0]))]) (w1 := [(q11, .inl (cA13, 1, .inr (.inl fo9_82)))]) hP hD [1, 18] [0, 2, 3, 4, 5, 6, 7, 8, 9, 10, 11, 12, 13, 14, 15, 16, 17] rfl rfl (by decide) (by decide) hk1 hFc hP1 hD1
      have hP : va_P (dC, dI) vwCl [(q1, .inr (8, [.ref rm_5, .ref tr_5, .ref st_5])), (lk_5, .inl (cL_5, 10, .inr (.inr (.inr (.inr fl_5))))), (th_5, .inl (cT_5, 12, .inr (.inr (.inr (.inr ft_5))))), (pl_5, .inl (cP_5, 6, .inr (.inr (.inr (.inr fp_5))))), (gm_5, .inr (2, [.int 0, .int 0, .int 0, .int 0, .int 0, .int (-1), .long 0])), (l0_5, .inr (3, [.int 0, .int 0, .int 0, .int 0, .int 0, .int 0, .int 0, .int 0, .int 0, .int 0])), (t0_5, .inr (7, [.int 0, .int 0, .int 0, .int 0, .int 0])), (p0_5, .inr (4, [.int 0, .int 0, .int 0, .int 0])), (st_5, .inr (6, [.ref a1_5, .ref a2_5, .ref a3_5])), (a1_5, .inl (cZ_5, 1024, .inl f1_5)), (a2_5, .inl (cI_5, 1024, .inl f2_5)), (a3_5, .inl (cJ_5, 1024, .inl f3_5)), (q6, .inr (10, [.int 0, .ref mr_10, .int 1, .long 0])), (mr_10, .inr (9, [.ref ll_10, .ref lt_10, .ref lp_10, .int (-1), .int 0, .int 0, .int 0, .int 0, .int 0, .int 0, .int (-1), .int 0, .int 0, .int 0])), (ll_10, .inr (1, [.int 0, .ref ed, .int 0])), (lt_10, .inr (1, [.int 0, .ref ed, .int 0])), (lp_10, .inr (1, [.int 0, .ref ed, .int 0])), (q11, .inl (cA13, 1, .inr (.inl fo9_82)))] H80 := hP
      have hD : va_D A [(q1, .inr (8, [.ref rm_5, .ref tr_5, .ref st_5])), (lk_5, .inl (cL_5, 10, .inr (.inr (.inr (.inr fl_5))))), (th_5, .inl (cT_5, 12, .inr (.inr (.inr (.inr ft_5))))), (pl_5, .inl (cP_5, 6, .inr (.inr (.inr (.inr fp_5))))), (gm_5, .inr (2, [.int 0, .int 0, .int 0, .int 0, .int 0, .int (-1), .long 0])), (l0_5, .inr (3, [.int 0, .int 0, .int 0, .int 0, .int 0, .int 0, .int 0, .int 0, .int 0, .int 0])), (t0_5, .inr (7, [.int 0, .int 0, .int 0, .int 0, .int 0])), (p0_5, .inr (4, [.int 0, .int 0, .int 0, .int 0])), (st_5, .inr (6, [.ref a1_5, .ref a2_5, .ref a3_5])), (a1_5, .inl (cZ_5, 1024, .inl f1_5)), (a2_5, .inl (cI_5, 1024, .inl f2_5)), (a3_5, .inl (cJ_5, 1024, .inl f3_5)), (q6, .inr (10, [.int 0, .ref mr_10, .int 1, .long 0])), (mr_10, .inr (9, [.ref ll_10, .ref lt_10, .ref lp_10, .int (-1), .int 0, .int 0, .int 0, .int 0, .int 0, .int 0, .int (-1), .int 0, .int 0, .int 0])), (ll_10, .inr (1, [.int 0, .ref ed, .int 0])), (lt_10, .inr (1, [.int 0, .ref ed, .int 0])), (lp_10, .inr (1, [.int 0, .ref ed, .int 0])), (q11, .inl (cA13, 1, .inr (.inl fo9_82)))] := hD
      refine lv_istore (lv' := [(5, .int (zQk (xs 1))), (4, .int 0), (3, .ref q11), (2, .ref q6), (1, .ref q1), (0, .ref b)]) hx hb dL_law_479 hl (by decide) rfl (fun ls hl => ?_)
      refine lv_aload_n hx hb dL_law_481 rfl (lv_at hl 3 rfl) ?_
      refine lv_aload_n hx hb dL_law_482 rfl (lv_at hl 5 rfl) ?_
      refine lv_iload hx hb dL_law_483 (lv_at hl 1 rfl) ?_
      refine lv_iconst (v := 1) hx hb dL_law_485 (by decide) ?_
      refine lv_iadd hx hb dL_law_486 ?_
      refine zo_i (v := 1) (by decide) ?_
      refine va_sld hx hb hX hbl hbA hS (by unfold vp_in; decide) dL_law_487 ?_
      refine zo_i (v := xs 1) (by rw [show Int32.toNatClampNeg 1 = 1 from by decide]) ?_
      have hPr := (hP).sub (ws' := [(ll_10, .inr (1, [.int 0, .ref ed, .int 0])), (lt_10, .inr (1, [.int 0, .ref ed, .int 0])), (lp_10, .inr (1, [.int 0, .ref ed, .int 0]))]) [14, 15, 16] rfl
      have hPc := hP.sub (ws' := [(q6, .inr (10, [.int 0, .ref mr_10, .int 1, .long 0])), (mr_10, .inr (9, [.ref ll_10, .ref lt_10, .ref lp_10, .int (-1), .int 0, .int 0, .int 0, .int 0, .int 0, .int 0, .int (-1), .int 0, .int 0, .int 0]))]) [12, 13] rfl
      have hDc := hD.sub (ws' := [(q6, .inr (10, [.int 0, .ref mr_10, .int 1, .long 0])), (mr_10, .inr (9, [.ref ll_10, .ref lt_10, .ref lp_10, .int (-1), .int 0, .int 0, .int 0, .int 0, .int 0, .int 0, .int (-1), .int 0, .int 0, .int 0]))]) [12, 13] (by decide) rfl
      have hKc := hK.sub (tys' := []) [] rfl
      have hFc := va_free (wc := [(q6, .inr (10, [.int 0, .ref mr_10, .int 1, .long 0])), (mr_10, .inr (9, [.ref ll_10, .ref lt_10, .ref lp_10, .int (-1), .int 0, .int 0, .int 0, .int 0, .int 0, .int 0, .int (-1), .int 0, .int 0, .int 0]))]) hD hS hA [12, 13] rfl
      refine va_calli (va_runV (As := [.int (xs 1)]) (rest := []) ⟨hx, hb, hml, hown, hts⟩ (cz_X8_pass l dC dI ed H80.size q6 mr_10 ll_10 lt_10 lp_10 0 0 (xs 1)) (cwV 1 hts gL_law_X8_pass rfl rfl rfl (by decide +kernel) ⟨Nat.le_of_ble_eq_true rfl, Nat.le_of_ble_eq_true rfl⟩) ⟨zb_blind, va_recv hK hP (ci := 10) (q0 := 12) rfl rfl, fun U hU hW => ⟨rfl, zb_mk hU hW hPr hPc hKc hDc hN hH hS hFc (zx_cons (zx_o hD 14 [12, 13] rfl rfl (by decide)) (zx_cons (zx_o hD 15 [12, 13] rfl rfl (by decide)) (zx_cons (zx_o hD 16 [12, 13] rfl rfl (by decide)) zx_nil)))⟩⟩ rfl rfl hl.1 rfl (lv_room (Nat.le_of_ble_eq_true rfl)) dL_law_488 ⟨Nat.le_of_ble_eq_true rfl, Nat.le_of_ble_eq_true rfl⟩) hS (fun q _ h => hFc q h) hFc (fun r84 u t H83 locs ht hvm hw hB hz1 hk1 hS => ?_)
      obtain rfl : r84 = 0 := hw
      obtain ⟨hP1, hD1, hK1⟩ := hB
      rw [ht] at hP1
      obtain ⟨hP, hD⟩ := va_join (wr := [(q1, .inr (8, [.ref rm_5, .ref tr_5, .ref st_5])), (lk_5, .inl (cL_5, 10, .inr (.inr (.inr (.inr fl_5))))), (th_5, .inl (cT_5, 12, .inr (.inr (.inr (.inr ft_5))))), (pl_5, .inl (cP_5, 6, .inr (.inr (.inr (.inr fp_5))))), (gm_5, .inr (2, [.int 0, .int 0, .int 0, .int 0, .int 0, .int (-1), .long 0])), (l0_5, .inr (3, [.int 0, .int 0, .int 0, .int 0, .int 0, .int 0, .int 0, .int 0, .int 0, .int 0])), (t0_5, .inr (7, [.int 0, .int 0, .int 0, .int 0, .int 0])), (p0_5, .inr (4, [.int 0, .int 0, .int 0, .int 0])), (st_5, .inr (6, [.ref a1_5, .ref a2_5, .ref a3_5])), (a1_5, .inl (cZ_5, 1024, .inl f1_5)), (a2_5, .inl (cI_5, 1024, .inl f2_5)), (a3_5, .inl (cJ_5, 1024, .inl f3_5)), (ll_10, .inr (1, [.int 0, .ref ed, .int 0])), (lt_10, .inr (1, [.int 0, .ref ed, .int 0])), (lp_10, .inr (1, [.int 0, .ref ed, .int 0])), (q11, .inl (cA13, 1, .inr (.inl fo9_82)))]) (w1 := [(q6, .inr (10, [.int (zQk (xs 1)), .ref mr_10, .int 1, .long 0]))]) hP hD [12, 13] [0, 1, 2, 3, 4, 5, 6, 7, 8, 9, 10, 11, 14, 15, 16, 17] rfl rfl (by decide) (by decide) hk1 hFc hP1 hD1
      have hP : va_P (dC, dI) vwCl [(q1, .inr (8, [.ref rm_5, .ref tr_5, .ref st_5])), (lk_5, .inl (cL_5, 10, .inr (.inr (.inr (.inr fl_5))))), (th_5, .inl (cT_5, 12, .inr (.inr (.inr (.inr ft_5))))), (pl_5, .inl (cP_5, 6, .inr (.inr (.inr (.inr fp_5))))), (gm_5, .inr (2, [.int 0, .int 0, .int 0, .int 0, .int 0, .int (-1), .long 0])), (l0_5, .inr (3, [.int 0, .int 0, .int 0, .int 0, .int 0, .int 0, .int 0, .int 0, .int 0, .int 0])), (t0_5, .inr (7, [.int 0, .int 0, .int 0, .int 0, .int 0])), (p0_5, .inr (4, [.int 0, .int 0, .int 0, .int 0])), (st_5, .inr (6, [.ref a1_5, .ref a2_5, .ref a3_5])), (a1_5, .inl (cZ_5, 1024, .inl f1_5)), (a2_5, .inl (cI_5, 1024, .inl f2_5)), (a3_5, .inl (cJ_5, 1024, .inl f3_5)), (ll_10, .inr (1, [.int 0, .ref ed, .int 0])), (lt_10, .inr (1, [.int 0, .ref ed, .int 0])), (lp_10, .inr (1, [.int 0, .ref ed, .int 0])), (q11, .inl (cA13, 1, .inr (.inl fo9_82))), (q6, .inr (10, [.int (zQk (xs 1)), .ref mr_10, .int 1, .long 0]))] H83 := hP
      have hD : va_D A [(q1, .inr (8, [.ref rm_5, .ref tr_5, .ref st_5])), (lk_5, .inl (cL_5, 10, .inr (.inr (.inr (.inr fl_5))))), (th_5, .inl (cT_5, 12, .inr (.inr (.inr (.inr ft_5))))), (pl_5, .inl (cP_5, 6, .inr (.inr (.inr (.inr fp_5))))), (gm_5, .inr (2, [.int 0, .int 0, .int 0, .int 0, .int 0, .int (-1), .long 0])), (l0_5, .inr (3, [.int 0, .int 0, .int 0, .int 0, .int 0, .int 0, .int 0, .int 0, .int 0, .int 0])), (t0_5, .inr (7, [.int 0, .int 0, .int 0, .int 0, .int 0])), (p0_5, .inr (4, [.int 0, .int 0, .int 0, .int 0])), (st_5, .inr (6, [.ref a1_5, .ref a2_5, .ref a3_5])), (a1_5, .inl (cZ_5, 1024, .inl f1_5)), (a2_5, .inl (cI_5, 1024, .inl f2_5)), (a3_5, .inl (cJ_5, 1024, .inl f3_5)), (ll_10, .inr (1, [.int 0, .ref ed, .int 0])), (lt_10, .inr (1, [.int 0, .ref ed, .int 0])), (lp_10, .inr (1, [.int 0, .ref ed, .int 0])), (q11, .inl (cA13, 1, .inr (.inl fo9_82))), (q6, .inr (10, [.int (zQk (xs 1)), .ref mr_10, .int 1, .long 0]))] := hD
      refine lv_istore (lv' := [(6, .int 0), (5, .int (zQk (xs 1))), (4, .int 0), (3, .ref q11), (2, .ref q6), (1, .ref q1), (0, .ref b)]) hx hb dL_law_491 hl (by decide) rfl (fun ls hl => ?_)
      refine lv_aload_n hx hb dL_law_493 rfl (lv_at hl 4 rfl) ?_
      have hPr := (hP).sub (ws' := [(q6, .inr (10, [.int (zQk (xs 1)), .ref mr_10, .int 1, .long 0]))]) [16] rfl
      have hPc := hP.sub (ws' := []) [] rfl
      have hDc := hD.sub (ws' := []) [] (by decide) rfl
      have hKc := hK.sub (tys' := []) [] rfl
      have hFc := va_free (wc := []) hD hS hA [] rfl
      refine va_calli (va_runV (As := []) (rest := []) ⟨hx, hb, hml, hown, hts⟩ (cz_thrown l dC dI ed H83.size q6 mr_10 (zQk (xs 1)) 0) (cwV 0 hts gL_law_X8_thrown rfl rfl rfl (by decide +kernel) ⟨Nat.le_of_ble_eq_true rfl, Nat.le_of_ble_eq_true rfl⟩) ⟨zb_blind, va_recv hK hP (ci := 10) (q0 := 16) rfl rfl, fun U hU hW => ⟨rfl, zb_mk hU hW hPr hPc hKc hDc hN hH hS hFc zx_e⟩⟩ rfl rfl hl.1 rfl (lv_room (Nat.le_of_ble_eq_true rfl)) dL_law_494 ⟨Nat.le_of_ble_eq_true rfl, Nat.le_of_ble_eq_true rfl⟩) hS (fun q _ h => hFc q h) hFc (fun r87 u t H86 locs ht hvm hw hB hz1 hk1 hS => ?_)
      obtain rfl : r87 = (zQk (xs 1)) := hw
      have hP := zo_K hP hk1
      refine lv_iload hx hb dL_law_497 (lv_at hl 1 rfl) ?_
      refine lv_icmp_eq (tgt := 504) hx hb dL_law_499 (by decide) (fun _ => ?_) (fun h => absurd rfl h)
      refine lv_iload hx hb dL_law_504 (lv_at hl 1 rfl) ?_
      refine lv_if_ne (tgt := 521) hx hb dL_law_506 (by decide) (fun c88 => ?_) (fun c88 => ?_)
      · skip
        refine lv_goto (tgt := 1407) hx hb dL_law_521 (by decide) ?_
        refine lv_iinc (v := 6) (lv' := [(4, .int 6), (6, .int 0), (5, .int (zQk (xs 1))), (3, .ref q11), (2, .ref q6), (1, .ref q1), (0, .ref b)]) hx hb dL_law_1407 hl (k := 2) rfl (by decide) (by decide) rfl (fun ls hl => ?_)
        refine lv_goto (tgt := 23) hx hb dL_law_1410 (by decide) ?_
        refine lv_iload hx hb dL_law_23 (lv_at hl 0 rfl) ?_
        refine lv_aload_n hx hb dL_law_25 rfl (lv_at hl 6 rfl) ?_
        refine va_slen hx hb hX hbl hbA hS dL_law_26 ?_
        refine zo_i (v := 6) (by decide) ?_
        refine lv_bipush (v := 6) hx hb dL_law_27 (by decide) ?_
        refine lv_isub hx hb dL_law_29 ?_
        refine zo_i (v := 0) (by decide) ?_
        refine lv_icmp_gt (tgt := 1413) hx hb dL_law_30 (by decide) (fun _ => ?_) (fun h => absurd h (by decide))
        refine lv_iconst (v := 1) hx hb dL_law_1413 (by decide) ?_
        refine W.widen (k := 600002) (n := 7302232) (Nat.le_of_ble_eq_true rfl) (Nat.le_of_ble_eq_true rfl) ?_
        refine va_forget (fun q hq => by have h9 := hS.2.2 q hq; rw [hAe] at h9; exact h9) ?_
        exact lw_ret hd0 hx hb hr hlocks dL_law_1414
      · skip
        refine lv_aload_n hx hb dL_law_509 rfl (lv_at hl 3 rfl) ?_
        refine lv_iconst (v := 0) hx hb dL_law_510 (by decide) ?_
        refine va_lald hx hb hK hP 15 6 rfl rfl (by unfold vp_in; decide) dL_law_511 ?_
        refine zo_l (v := 0) (by rw [show Int32.toNatClampNeg 0 = 0 from by decide]; exact hq82_0 c88) ?_
        refine lv_iload hx hb dL_law_512 (lv_at hl 0 rfl) ?_
        refine lv_i2l (v := 0) hx hb dL_law_514 (by decide) ?_
        refine W.lcmp hx hb dL_law_515 ?_
        refine zo_i (v := 0) (zo_lc _) ?_
        refine lv_if_eq (tgt := 521) hx hb dL_law_516 (by decide) (fun _ => ?_) (fun h => absurd h (by decide))
        refine lv_goto (tgt := 1407) hx hb dL_law_521 (by decide) ?_
        refine lv_iinc (v := 6) (lv' := [(4, .int 6), (6, .int 0), (5, .int (zQk (xs 1))), (3, .ref q11), (2, .ref q6), (1, .ref q1), (0, .ref b)]) hx hb dL_law_1407 hl (k := 2) rfl (by decide) (by decide) rfl (fun ls hl => ?_)
        refine lv_goto (tgt := 23) hx hb dL_law_1410 (by decide) ?_
        refine lv_iload hx hb dL_law_23 (lv_at hl 0 rfl) ?_
        refine lv_aload_n hx hb dL_law_25 rfl (lv_at hl 6 rfl) ?_
        refine va_slen hx hb hX hbl hbA hS dL_law_26 ?_
        refine zo_i (v := 6) (by decide) ?_
        refine lv_bipush (v := 6) hx hb dL_law_27 (by decide) ?_
        refine lv_isub hx hb dL_law_29 ?_
        refine zo_i (v := 0) (by decide) ?_
        refine lv_icmp_gt (tgt := 1413) hx hb dL_law_30 (by decide) (fun _ => ?_) (fun h => absurd h (by decide))
        refine lv_iconst (v := 1) hx hb dL_law_1413 (by decide) ?_
        refine W.widen (k := 600002) (n := 7302232) (Nat.le_of_ble_eq_true rfl) (Nat.le_of_ble_eq_true rfl) ?_
        refine va_forget (fun q hq => by have h9 := hS.2.2 q hq; rw [hAe] at h9; exact h9) ?_
        exact lw_ret hd0 hx hb hr hlocks dL_law_1414
    · refine zo_i (v := 5) (by decide) ?_
      refine lv_tableIn (off := 484) (tgt := 524) hx hb dL_law_40 (by decide) (by decide) rfl (by decide) ?_
      refine lv_aload_n hx hb dL_law_524 rfl (lv_at hl 3 rfl) ?_
      refine lv_aload_n hx hb dL_law_525 rfl (lv_at hl 4 rfl) ?_
      refine lv_iload hx hb dL_law_526 (lv_at hl 0 rfl) ?_
      refine lv_iconst (v := 1) hx hb dL_law_528 (by decide) ?_
      refine lv_iadd hx hb dL_law_529 ?_
      refine zo_i (v := 1) (by decide) ?_
      refine va_sld hx hb hX hbl hbA hS (by unfold vp_in; decide) dL_law_530 ?_
      refine zo_i (v := xs 1) (by rw [show Int32.toNatClampNeg 1 = 1 from by decide]) ?_
      refine lv_aload_n hx hb dL_law_531 rfl (lv_at hl 1 rfl) ?_
      have hPr := (hP).sub (ws' := [(q1, .inr (8, [.ref rm_5, .ref tr_5, .ref st_5])), (rm_5, .inr (5, [.ref lk_5, .ref th_5, .ref pl_5, .ref gm_5, .int 0, .int 0, .int 0, .int (-1), .int 1, .int 0, .int 0, .int 0]))]) [0, 1] rfl
      have hPc := hP.sub (ws' := [(q11, .inl (cA13, 1, .inr (.inl (fun _ => 0))))]) [18] rfl
      have hDc := hD.sub (ws' := [(q11, .inl (cA13, 1, .inr (.inl (fun _ => 0))))]) [18] (by decide) rfl
      have hKc := hK.sub (tys' := [(cA13, .long)]) [6] rfl
      have hFc := va_free (wc := [(q11, .inl (cA13, 1, .inr (.inl (fun _ => 0))))]) hD hS hA [18] rfl
      refine vx_calli (vx_runSX (As := [.ref q1, .int (xs 1), .ref q11]) (rest := []) ⟨hx, hb, hml, hown, hts⟩ (cz_L_hint l dC dI ed H12.size q1 rm_5 tr_5 st_5 lk_5 th_5 pl_5 gm_5 (xs 1) q11 cA13 (fun _ => 0) htr) (vx_cwSW 3 hts gL_law_L_hint rfl rfl rfl (by decide +kernel) ⟨Nat.le_of_ble_eq_true rfl, Nat.le_of_ble_eq_true rfl⟩) ⟨zb_blind, fun U hU hW => ⟨rfl, zb_mk hU hW hPr hPc hKc hDc hN hH hS hFc (zx_cons (zx_o hD 0 [18] rfl rfl (by decide)) (zx_cons (zx_o hD 1 [18] rfl rfl (by decide)) zx_nil))⟩⟩ rfl rfl hl.1 rfl (lv_room (Nat.le_of_ble_eq_true rfl)) dL_law_532 ⟨Nat.le_of_ble_eq_true rfl, Nat.le_of_ble_eq_true rfl⟩) hS (fun q _ h => hFc q h) hFc (fun q _ h => hFc q h) (fun E ce q9 u t H89 locs ht hvm hpx hBX hz1 hk1 hS hce hcv hcl => hpx.elim) (fun r90 u t H89 locs ht hvm hw hB hz1 hk1 hS => ?_)
      obtain rfl : r90 = 1 := hw
      obtain ⟨fo9_91, hP1, hD1, hK1⟩ := hB
      rw [ht] at hP1
      obtain ⟨hP, hD⟩ := va_join (wr := [(q1, .inr (8, [.ref rm_5, .ref tr_5, .ref st_5])), (rm_5, .inr (5, [.ref lk_5, .ref th_5, .ref pl_5, .ref gm_5, .int 0, .int 0, .int 0, .int (-1), .int 1, .int 0, .int 0, .int 0])), (lk_5, .inl (cL_5, 10, .inr (.inr (.inr (.inr fl_5))))), (th_5, .inl (cT_5, 12, .inr (.inr (.inr (.inr ft_5))))), (pl_5, .inl (cP_5, 6, .inr (.inr (.inr (.inr fp_5))))), (gm_5, .inr (2, [.int 0, .int 0, .int 0, .int 0, .int 0, .int (-1), .long 0])), (l0_5, .inr (3, [.int 0, .int 0, .int 0, .int 0, .int 0, .int 0, .int 0, .int 0, .int 0, .int 0])), (t0_5, .inr (7, [.int 0, .int 0, .int 0, .int 0, .int 0])), (p0_5, .inr (4, [.int 0, .int 0, .int 0, .int 0])), (st_5, .inr (6, [.ref a1_5, .ref a2_5, .ref a3_5])), (a1_5, .inl (cZ_5, 1024, .inl f1_5)), (a2_5, .inl (cI_5, 1024, .inl f2_5)), (a3_5, .inl (cJ_5, 1024, .inl f3_5)), (q6, .inr (10, [.int 0, .ref mr_10, .int 1, .long 0])), (mr_10, .inr (9, [.ref ll_10, .ref lt_10, .ref lp_10, .int (-1), .int 0, .int 0, .int 0, .int 0, .int 0, .int 0, .int (-1), .int 0, .int 0, .int 0])), (ll_10, .inr (1, [.int 0, .ref ed, .int 0])), (lt_10, .inr (1, [.int 0, .ref ed, .int 0])), (lp_10, .inr (1, [.int 0, .ref ed, .int 0]))]) (w1 := [(q11, .inl (cA13, 1, .inr (.inl fo9_91)))]) hP hD [18] [0, 1, 2, 3, 4, 5, 6, 7, 8, 9, 10, 11, 12, 13, 14, 15, 16, 17] rfl rfl (by decide) (by decide) hk1 hFc hP1 hD1
      have hP : va_P (dC, dI) vwCl [(q1, .inr (8, [.ref rm_5, .ref tr_5, .ref st_5])), (rm_5, .inr (5, [.ref lk_5, .ref th_5, .ref pl_5, .ref gm_5, .int 0, .int 0, .int 0, .int (-1), .int 1, .int 0, .int 0, .int 0])), (lk_5, .inl (cL_5, 10, .inr (.inr (.inr (.inr fl_5))))), (th_5, .inl (cT_5, 12, .inr (.inr (.inr (.inr ft_5))))), (pl_5, .inl (cP_5, 6, .inr (.inr (.inr (.inr fp_5))))), (gm_5, .inr (2, [.int 0, .int 0, .int 0, .int 0, .int 0, .int (-1), .long 0])), (l0_5, .inr (3, [.int 0, .int 0, .int 0, .int 0, .int 0, .int 0, .int 0, .int 0, .int 0, .int 0])), (t0_5, .inr (7, [.int 0, .int 0, .int 0, .int 0, .int 0])), (p0_5, .inr (4, [.int 0, .int 0, .int 0, .int 0])), (st_5, .inr (6, [.ref a1_5, .ref a2_5, .ref a3_5])), (a1_5, .inl (cZ_5, 1024, .inl f1_5)), (a2_5, .inl (cI_5, 1024, .inl f2_5)), (a3_5, .inl (cJ_5, 1024, .inl f3_5)), (q6, .inr (10, [.int 0, .ref mr_10, .int 1, .long 0])), (mr_10, .inr (9, [.ref ll_10, .ref lt_10, .ref lp_10, .int (-1), .int 0, .int 0, .int 0, .int 0, .int 0, .int 0, .int (-1), .int 0, .int 0, .int 0])), (ll_10, .inr (1, [.int 0, .ref ed, .int 0])), (lt_10, .inr (1, [.int 0, .ref ed, .int 0])), (lp_10, .inr (1, [.int 0, .ref ed, .int 0])), (q11, .inl (cA13, 1, .inr (.inl fo9_91)))] H89 := hP
      have hD : va_D A [(q1, .inr (8, [.ref rm_5, .ref tr_5, .ref st_5])), (rm_5, .inr (5, [.ref lk_5, .ref th_5, .ref pl_5, .ref gm_5, .int 0, .int 0, .int 0, .int (-1), .int 1, .int 0, .int 0, .int 0])), (lk_5, .inl (cL_5, 10, .inr (.inr (.inr (.inr fl_5))))), (th_5, .inl (cT_5, 12, .inr (.inr (.inr (.inr ft_5))))), (pl_5, .inl (cP_5, 6, .inr (.inr (.inr (.inr fp_5))))), (gm_5, .inr (2, [.int 0, .int 0, .int 0, .int 0, .int 0, .int (-1), .long 0])), (l0_5, .inr (3, [.int 0, .int 0, .int 0, .int 0, .int 0, .int 0, .int 0, .int 0, .int 0, .int 0])), (t0_5, .inr (7, [.int 0, .int 0, .int 0, .int 0, .int 0])), (p0_5, .inr (4, [.int 0, .int 0, .int 0, .int 0])), (st_5, .inr (6, [.ref a1_5, .ref a2_5, .ref a3_5])), (a1_5, .inl (cZ_5, 1024, .inl f1_5)), (a2_5, .inl (cI_5, 1024, .inl f2_5)), (a3_5, .inl (cJ_5, 1024, .inl f3_5)), (q6, .inr (10, [.int 0, .ref mr_10, .int 1, .long 0])), (mr_10, .inr (9, [.ref ll_10, .ref lt_10, .ref lp_10, .int (-1), .int 0, .int 0, .int 0, .int 0, .int 0, .int 0, .int (-1), .int 0, .int 0, .int 0])), (ll_10, .inr (1, [.int 0, .ref ed, .int 0])), (lt_10, .inr (1, [.int 0, .ref ed, .int 0])), (lp_10, .inr (1, [.int 0, .ref ed, .int 0])), (q11, .inl (cA13, 1, .inr (.inl fo9_91)))] := hD
      refine lv_istore (lv' := [(5, .int 1), (4, .int 0), (3, .ref q11), (2, .ref q6), (1, .ref q1), (0, .ref b)]) hx hb dL_law_535 hl (by decide) rfl (fun ls hl => ?_)
      refine lv_aload_n hx hb dL_law_537 rfl (lv_at hl 3 rfl) ?_
      refine lv_aload_n hx hb dL_law_538 rfl (lv_at hl 5 rfl) ?_
      refine lv_iload hx hb dL_law_539 (lv_at hl 1 rfl) ?_
      refine lv_iconst (v := 1) hx hb dL_law_541 (by decide) ?_
      refine lv_iadd hx hb dL_law_542 ?_
      refine zo_i (v := 1) (by decide) ?_
      refine va_sld hx hb hX hbl hbA hS (by unfold vp_in; decide) dL_law_543 ?_
      refine zo_i (v := xs 1) (by rw [show Int32.toNatClampNeg 1 = 1 from by decide]) ?_
      have hPr := (hP).sub (ws' := [(mr_10, .inr (9, [.ref ll_10, .ref lt_10, .ref lp_10, .int (-1), .int 0, .int 0, .int 0, .int 0, .int 0, .int 0, .int (-1), .int 0, .int 0, .int 0])), (ll_10, .inr (1, [.int 0, .ref ed, .int 0])), (lt_10, .inr (1, [.int 0, .ref ed, .int 0])), (lp_10, .inr (1, [.int 0, .ref ed, .int 0]))]) [14, 15, 16, 17] rfl
      have hPc := hP.sub (ws' := [(q6, .inr (10, [.int 0, .ref mr_10, .int 1, .long 0]))]) [13] rfl
      have hDc := hD.sub (ws' := [(q6, .inr (10, [.int 0, .ref mr_10, .int 1, .long 0]))]) [13] (by decide) rfl
      have hKc := hK.sub (tys' := []) [] rfl
      have hFc := va_free (wc := [(q6, .inr (10, [.int 0, .ref mr_10, .int 1, .long 0]))]) hD hS hA [13] rfl
      refine va_calli (va_runV (As := [.int (xs 1)]) (rest := []) ⟨hx, hb, hml, hown, hts⟩ (cz_X8_hint l dC dI ed H89.size q6 mr_10 ll_10 lt_10 lp_10 0 0 (xs 1)) (cwV 1 hts gL_law_X8_hint rfl rfl rfl (by decide +kernel) ⟨Nat.le_of_ble_eq_true rfl, Nat.le_of_ble_eq_true rfl⟩) ⟨zb_blind, va_recv hK hP (ci := 10) (q0 := 13) rfl rfl, fun U hU hW => ⟨rfl, zb_mk hU hW hPr hPc hKc hDc hN hH hS hFc (zx_cons (zx_o hD 14 [13] rfl rfl (by decide)) (zx_cons (zx_o hD 15 [13] rfl rfl (by decide)) (zx_cons (zx_o hD 16 [13] rfl rfl (by decide)) (zx_cons (zx_o hD 17 [13] rfl rfl (by decide)) zx_nil))))⟩⟩ rfl rfl hl.1 rfl (lv_room (Nat.le_of_ble_eq_true rfl)) dL_law_544 ⟨Nat.le_of_ble_eq_true rfl, Nat.le_of_ble_eq_true rfl⟩) hS (fun q _ h => hFc q h) hFc (fun r93 u t H92 locs ht hvm hw hB hz1 hk1 hS => ?_)
      obtain rfl : r93 = 0 := hw
      obtain ⟨hP1, hD1, hK1⟩ := hB
      rw [ht] at hP1
      obtain ⟨hP, hD⟩ := va_join (wr := [(q1, .inr (8, [.ref rm_5, .ref tr_5, .ref st_5])), (rm_5, .inr (5, [.ref lk_5, .ref th_5, .ref pl_5, .ref gm_5, .int 0, .int 0, .int 0, .int (-1), .int 1, .int 0, .int 0, .int 0])), (lk_5, .inl (cL_5, 10, .inr (.inr (.inr (.inr fl_5))))), (th_5, .inl (cT_5, 12, .inr (.inr (.inr (.inr ft_5))))), (pl_5, .inl (cP_5, 6, .inr (.inr (.inr (.inr fp_5))))), (gm_5, .inr (2, [.int 0, .int 0, .int 0, .int 0, .int 0, .int (-1), .long 0])), (l0_5, .inr (3, [.int 0, .int 0, .int 0, .int 0, .int 0, .int 0, .int 0, .int 0, .int 0, .int 0])), (t0_5, .inr (7, [.int 0, .int 0, .int 0, .int 0, .int 0])), (p0_5, .inr (4, [.int 0, .int 0, .int 0, .int 0])), (st_5, .inr (6, [.ref a1_5, .ref a2_5, .ref a3_5])), (a1_5, .inl (cZ_5, 1024, .inl f1_5)), (a2_5, .inl (cI_5, 1024, .inl f2_5)), (a3_5, .inl (cJ_5, 1024, .inl f3_5)), (mr_10, .inr (9, [.ref ll_10, .ref lt_10, .ref lp_10, .int (-1), .int 0, .int 0, .int 0, .int 0, .int 0, .int 0, .int (-1), .int 0, .int 0, .int 0])), (ll_10, .inr (1, [.int 0, .ref ed, .int 0])), (lt_10, .inr (1, [.int 0, .ref ed, .int 0])), (lp_10, .inr (1, [.int 0, .ref ed, .int 0])), (q11, .inl (cA13, 1, .inr (.inl fo9_91)))]) (w1 := [(q6, .inr (10, [.int 1, .ref mr_10, .int 1, .long 0]))]) hP hD [13] [0, 1, 2, 3, 4, 5, 6, 7, 8, 9, 10, 11, 12, 14, 15, 16, 17, 18] rfl rfl (by decide) (by decide) hk1 hFc hP1 hD1
      have hP : va_P (dC, dI) vwCl [(q1, .inr (8, [.ref rm_5, .ref tr_5, .ref st_5])), (rm_5, .inr (5, [.ref lk_5, .ref th_5, .ref pl_5, .ref gm_5, .int 0, .int 0, .int 0, .int (-1), .int 1, .int 0, .int 0, .int 0])), (lk_5, .inl (cL_5, 10, .inr (.inr (.inr (.inr fl_5))))), (th_5, .inl (cT_5, 12, .inr (.inr (.inr (.inr ft_5))))), (pl_5, .inl (cP_5, 6, .inr (.inr (.inr (.inr fp_5))))), (gm_5, .inr (2, [.int 0, .int 0, .int 0, .int 0, .int 0, .int (-1), .long 0])), (l0_5, .inr (3, [.int 0, .int 0, .int 0, .int 0, .int 0, .int 0, .int 0, .int 0, .int 0, .int 0])), (t0_5, .inr (7, [.int 0, .int 0, .int 0, .int 0, .int 0])), (p0_5, .inr (4, [.int 0, .int 0, .int 0, .int 0])), (st_5, .inr (6, [.ref a1_5, .ref a2_5, .ref a3_5])), (a1_5, .inl (cZ_5, 1024, .inl f1_5)), (a2_5, .inl (cI_5, 1024, .inl f2_5)), (a3_5, .inl (cJ_5, 1024, .inl f3_5)), (mr_10, .inr (9, [.ref ll_10, .ref lt_10, .ref lp_10, .int (-1), .int 0, .int 0, .int 0, .int 0, .int 0, .int 0, .int (-1), .int 0, .int 0, .int 0])), (ll_10, .inr (1, [.int 0, .ref ed, .int 0])), (lt_10, .inr (1, [.int 0, .ref ed, .int 0])), (lp_10, .inr (1, [.int 0, .ref ed, .int 0])), (q11, .inl (cA13, 1, .inr (.inl fo9_91))), (q6, .inr (10, [.int 1, .ref mr_10, .int 1, .long 0]))] H92 := hP
      have hD : va_D A [(q1, .inr (8, [.ref rm_5, .ref tr_5, .ref st_5])), (rm_5, .inr (5, [.ref lk_5, .ref th_5, .ref pl_5, .ref gm_5, .int 0, .int 0, .int 0, .int (-1), .int 1, .int 0, .int 0, .int 0])), (lk_5, .inl (cL_5, 10, .inr (.inr (.inr (.inr fl_5))))), (th_5, .inl (cT_5, 12, .inr (.inr (.inr (.inr ft_5))))), (pl_5, .inl (cP_5, 6, .inr (.inr (.inr (.inr fp_5))))), (gm_5, .inr (2, [.int 0, .int 0, .int 0, .int 0, .int 0, .int (-1), .long 0])), (l0_5, .inr (3, [.int 0, .int 0, .int 0, .int 0, .int 0, .int 0, .int 0, .int 0, .int 0, .int 0])), (t0_5, .inr (7, [.int 0, .int 0, .int 0, .int 0, .int 0])), (p0_5, .inr (4, [.int 0, .int 0, .int 0, .int 0])), (st_5, .inr (6, [.ref a1_5, .ref a2_5, .ref a3_5])), (a1_5, .inl (cZ_5, 1024, .inl f1_5)), (a2_5, .inl (cI_5, 1024, .inl f2_5)), (a3_5, .inl (cJ_5, 1024, .inl f3_5)), (mr_10, .inr (9, [.ref ll_10, .ref lt_10, .ref lp_10, .int (-1), .int 0, .int 0, .int 0, .int 0, .int 0, .int 0, .int (-1), .int 0, .int 0, .int 0])), (ll_10, .inr (1, [.int 0, .ref ed, .int 0])), (lt_10, .inr (1, [.int 0, .ref ed, .int 0])), (lp_10, .inr (1, [.int 0, .ref ed, .int 0])), (q11, .inl (cA13, 1, .inr (.inl fo9_91))), (q6, .inr (10, [.int 1, .ref mr_10, .int 1, .long 0]))] := hD
      refine lv_istore (lv' := [(6, .int 0), (5, .int 1), (4, .int 0), (3, .ref q11), (2, .ref q6), (1, .ref q1), (0, .ref b)]) hx hb dL_law_547 hl (by decide) rfl (fun ls hl => ?_)
      refine lv_aload_n hx hb dL_law_549 rfl (lv_at hl 4 rfl) ?_
      have hPr := (hP).sub (ws' := [(q6, .inr (10, [.int 1, .ref mr_10, .int 1, .long 0]))]) [18] rfl
      have hPc := hP.sub (ws' := []) [] rfl
      have hDc := hD.sub (ws' := []) [] (by decide) rfl
      have hKc := hK.sub (tys' := []) [] rfl
      have hFc := va_free (wc := []) hD hS hA [] rfl
      refine va_calli (va_runV (As := []) (rest := []) ⟨hx, hb, hml, hown, hts⟩ (cz_thrown l dC dI ed H92.size q6 mr_10 1 0) (cwV 0 hts gL_law_X8_thrown rfl rfl rfl (by decide +kernel) ⟨Nat.le_of_ble_eq_true rfl, Nat.le_of_ble_eq_true rfl⟩) ⟨zb_blind, va_recv hK hP (ci := 10) (q0 := 18) rfl rfl, fun U hU hW => ⟨rfl, zb_mk hU hW hPr hPc hKc hDc hN hH hS hFc zx_e⟩⟩ rfl rfl hl.1 rfl (lv_room (Nat.le_of_ble_eq_true rfl)) dL_law_550 ⟨Nat.le_of_ble_eq_true rfl, Nat.le_of_ble_eq_true rfl⟩) hS (fun q _ h => hFc q h) hFc (fun r96 u t H95 locs ht hvm hw hB hz1 hk1 hS => ?_)
      obtain rfl : r96 = 1 := hw
      have hP := zo_K hP hk1
      refine lv_iload hx hb dL_law_553 (lv_at hl 1 rfl) ?_
      refine lv_icmp_eq (tgt := 560) hx hb dL_law_555 (by decide) (fun _ => ?_) (fun h => absurd rfl h)
      refine lv_iload hx hb dL_law_560 (lv_at hl 1 rfl) ?_
      refine lv_if_ne (tgt := 577) hx hb dL_law_562 (by decide) (fun _ => ?_) (fun h => absurd h (by decide))
      refine lv_goto (tgt := 1407) hx hb dL_law_577 (by decide) ?_
      refine lv_iinc (v := 6) (lv' := [(4, .int 6), (6, .int 0), (5, .int 1), (3, .ref q11), (2, .ref q6), (1, .ref q1), (0, .ref b)]) hx hb dL_law_1407 hl (k := 2) rfl (by decide) (by decide) rfl (fun ls hl => ?_)
      refine lv_goto (tgt := 23) hx hb dL_law_1410 (by decide) ?_
      refine lv_iload hx hb dL_law_23 (lv_at hl 0 rfl) ?_
      refine lv_aload_n hx hb dL_law_25 rfl (lv_at hl 6 rfl) ?_
      refine va_slen hx hb hX hbl hbA hS dL_law_26 ?_
      refine zo_i (v := 6) (by decide) ?_
      refine lv_bipush (v := 6) hx hb dL_law_27 (by decide) ?_
      refine lv_isub hx hb dL_law_29 ?_
      refine zo_i (v := 0) (by decide) ?_
      refine lv_icmp_gt (tgt := 1413) hx hb dL_law_30 (by decide) (fun _ => ?_) (fun h => absurd h (by decide))
      refine lv_iconst (v := 1) hx hb dL_law_1413 (by decide) ?_
      refine W.widen (k := 600002) (n := 7302232) (Nat.le_of_ble_eq_true rfl) (Nat.le_of_ble_eq_true rfl) ?_
      refine va_forget (fun q hq => by have h9 := hS.2.2 q hq; rw [hAe] at h9; exact h9) ?_
      exact lw_ret hd0 hx hb hr hlocks dL_law_1414
    · refine zo_i (v := 6) (by decide) ?_
      refine lv_tableIn (off := 540) (tgt := 580) hx hb dL_law_40 (by decide) (by decide) rfl (by decide) ?_
      refine lv_aload_n hx hb dL_law_580 rfl (lv_at hl 3 rfl) ?_
      refine lv_aload_n hx hb dL_law_581 rfl (lv_at hl 1 rfl) ?_
      have hPr := (hP).sub (ws' := [(q1, .inr (8, [.ref rm_5, .ref tr_5, .ref st_5])), (rm_5, .inr (5, [.ref lk_5, .ref th_5, .ref pl_5, .ref gm_5, .int 0, .int 0, .int 0, .int (-1), .int 1, .int 0, .int 0, .int 0])), (gm_5, .inr (2, [.int 0, .int 0, .int 0, .int 0, .int 0, .int (-1), .long 0]))]) [0, 1, 5] rfl
      have hPc := hP.sub (ws' := [(q11, .inl (cA13, 1, .inr (.inl (fun _ => 0))))]) [18] rfl
      have hDc := hD.sub (ws' := [(q11, .inl (cA13, 1, .inr (.inl (fun _ => 0))))]) [18] (by decide) rfl
      have hKc := hK.sub (tys' := [(cA13, .long)]) [6] rfl
      have hFc := va_free (wc := [(q11, .inl (cA13, 1, .inr (.inl (fun _ => 0))))]) hD hS hA [18] rfl
      refine vx_calli (vx_runSX (As := [.ref q1, .ref q11]) (rest := []) ⟨hx, hb, hml, hown, hts⟩ (cz_L_stop l dC dI ed H12.size q1 rm_5 tr_5 st_5 lk_5 th_5 pl_5 gm_5 q11 cA13 (fun _ => 0) htr) (vx_cwSW 2 hts gL_law_L_stop rfl rfl rfl (by decide +kernel) ⟨Nat.le_of_ble_eq_true rfl, Nat.le_of_ble_eq_true rfl⟩) ⟨zb_blind, fun U hU hW => ⟨rfl, zb_mk hU hW hPr hPc hKc hDc hN hH hS hFc (zx_cons (zx_o hD 0 [18] rfl rfl (by decide)) (zx_cons (zx_o hD 1 [18] rfl rfl (by decide)) (zx_cons (zx_o hD 5 [18] rfl rfl (by decide)) zx_nil)))⟩⟩ rfl rfl hl.1 rfl (lv_room (Nat.le_of_ble_eq_true rfl)) dL_law_582 ⟨Nat.le_of_ble_eq_true rfl, Nat.le_of_ble_eq_true rfl⟩) hS (fun q _ h => hFc q h) hFc (fun q _ h => hFc q h) (fun E ce q9 u t H97 locs ht hvm hpx hBX hz1 hk1 hS hce hcv hcl => hpx.elim) (fun r98 u t H97 locs ht hvm hw hB hz1 hk1 hS => ?_)
      obtain rfl : r98 = 1 := hw
      obtain ⟨fo9_99, hP1, hD1, hK1⟩ := hB
      rw [ht] at hP1
      obtain ⟨hP, hD⟩ := va_join (wr := [(q1, .inr (8, [.ref rm_5, .ref tr_5, .ref st_5])), (rm_5, .inr (5, [.ref lk_5, .ref th_5, .ref pl_5, .ref gm_5, .int 0, .int 0, .int 0, .int (-1), .int 1, .int 0, .int 0, .int 0])), (lk_5, .inl (cL_5, 10, .inr (.inr (.inr (.inr fl_5))))), (th_5, .inl (cT_5, 12, .inr (.inr (.inr (.inr ft_5))))), (pl_5, .inl (cP_5, 6, .inr (.inr (.inr (.inr fp_5))))), (gm_5, .inr (2, [.int 0, .int 0, .int 0, .int 0, .int 0, .int (-1), .long 0])), (l0_5, .inr (3, [.int 0, .int 0, .int 0, .int 0, .int 0, .int 0, .int 0, .int 0, .int 0, .int 0])), (t0_5, .inr (7, [.int 0, .int 0, .int 0, .int 0, .int 0])), (p0_5, .inr (4, [.int 0, .int 0, .int 0, .int 0])), (st_5, .inr (6, [.ref a1_5, .ref a2_5, .ref a3_5])), (a1_5, .inl (cZ_5, 1024, .inl f1_5)), (a2_5, .inl (cI_5, 1024, .inl f2_5)), (a3_5, .inl (cJ_5, 1024, .inl f3_5)), (q6, .inr (10, [.int 0, .ref mr_10, .int 1, .long 0])), (mr_10, .inr (9, [.ref ll_10, .ref lt_10, .ref lp_10, .int (-1), .int 0, .int 0, .int 0, .int 0, .int 0, .int 0, .int (-1), .int 0, .int 0, .int 0])), (ll_10, .inr (1, [.int 0, .ref ed, .int 0])), (lt_10, .inr (1, [.int 0, .ref ed, .int 0])), (lp_10, .inr (1, [.int 0, .ref ed, .int 0]))]) (w1 := [(q11, .inl (cA13, 1, .inr (.inl fo9_99)))]) hP hD [18] [0, 1, 2, 3, 4, 5, 6, 7, 8, 9, 10, 11, 12, 13, 14, 15, 16, 17] rfl rfl (by decide) (by decide) hk1 hFc hP1 hD1
      have hP : va_P (dC, dI) vwCl [(q1, .inr (8, [.ref rm_5, .ref tr_5, .ref st_5])), (rm_5, .inr (5, [.ref lk_5, .ref th_5, .ref pl_5, .ref gm_5, .int 0, .int 0, .int 0, .int (-1), .int 1, .int 0, .int 0, .int 0])), (lk_5, .inl (cL_5, 10, .inr (.inr (.inr (.inr fl_5))))), (th_5, .inl (cT_5, 12, .inr (.inr (.inr (.inr ft_5))))), (pl_5, .inl (cP_5, 6, .inr (.inr (.inr (.inr fp_5))))), (gm_5, .inr (2, [.int 0, .int 0, .int 0, .int 0, .int 0, .int (-1), .long 0])), (l0_5, .inr (3, [.int 0, .int 0, .int 0, .int 0, .int 0, .int 0, .int 0, .int 0, .int 0, .int 0])), (t0_5, .inr (7, [.int 0, .int 0, .int 0, .int 0, .int 0])), (p0_5, .inr (4, [.int 0, .int 0, .int 0, .int 0])), (st_5, .inr (6, [.ref a1_5, .ref a2_5, .ref a3_5])), (a1_5, .inl (cZ_5, 1024, .inl f1_5)), (a2_5, .inl (cI_5, 1024, .inl f2_5)), (a3_5, .inl (cJ_5, 1024, .inl f3_5)), (q6, .inr (10, [.int 0, .ref mr_10, .int 1, .long 0])), (mr_10, .inr (9, [.ref ll_10, .ref lt_10, .ref lp_10, .int (-1), .int 0, .int 0, .int 0, .int 0, .int 0, .int 0, .int (-1), .int 0, .int 0, .int 0])), (ll_10, .inr (1, [.int 0, .ref ed, .int 0])), (lt_10, .inr (1, [.int 0, .ref ed, .int 0])), (lp_10, .inr (1, [.int 0, .ref ed, .int 0])), (q11, .inl (cA13, 1, .inr (.inl fo9_99)))] H97 := hP
      have hD : va_D A [(q1, .inr (8, [.ref rm_5, .ref tr_5, .ref st_5])), (rm_5, .inr (5, [.ref lk_5, .ref th_5, .ref pl_5, .ref gm_5, .int 0, .int 0, .int 0, .int (-1), .int 1, .int 0, .int 0, .int 0])), (lk_5, .inl (cL_5, 10, .inr (.inr (.inr (.inr fl_5))))), (th_5, .inl (cT_5, 12, .inr (.inr (.inr (.inr ft_5))))), (pl_5, .inl (cP_5, 6, .inr (.inr (.inr (.inr fp_5))))), (gm_5, .inr (2, [.int 0, .int 0, .int 0, .int 0, .int 0, .int (-1), .long 0])), (l0_5, .inr (3, [.int 0, .int 0, .int 0, .int 0, .int 0, .int 0, .int 0, .int 0, .int 0, .int 0])), (t0_5, .inr (7, [.int 0, .int 0, .int 0, .int 0, .int 0])), (p0_5, .inr (4, [.int 0, .int 0, .int 0, .int 0])), (st_5, .inr (6, [.ref a1_5, .ref a2_5, .ref a3_5])), (a1_5, .inl (cZ_5, 1024, .inl f1_5)), (a2_5, .inl (cI_5, 1024, .inl f2_5)), (a3_5, .inl (cJ_5, 1024, .inl f3_5)), (q6, .inr (10, [.int 0, .ref mr_10, .int 1, .long 0])), (mr_10, .inr (9, [.ref ll_10, .ref lt_10, .ref lp_10, .int (-1), .int 0, .int 0, .int 0, .int 0, .int 0, .int 0, .int (-1), .int 0, .int 0, .int 0])), (ll_10, .inr (1, [.int 0, .ref ed, .int 0])), (lt_10, .inr (1, [.int 0, .ref ed, .int 0])), (lp_10, .inr (1, [.int 0, .ref ed, .int 0])), (q11, .inl (cA13, 1, .inr (.inl fo9_99)))] := hD
      refine lv_istore (lv' := [(5, .int 1), (4, .int 0), (3, .ref q11), (2, .ref q6), (1, .ref q1), (0, .ref b)]) hx hb dL_law_585 hl (by decide) rfl (fun ls hl => ?_)
      refine lv_aload_n hx hb dL_law_587 rfl (lv_at hl 3 rfl) ?_
      have hPr := (hP).sub (ws' := [(mr_10, .inr (9, [.ref ll_10, .ref lt_10, .ref lp_10, .int (-1), .int 0, .int 0, .int 0, .int 0, .int 0, .int 0, .int (-1), .int 0, .int 0, .int 0])), (ll_10, .inr (1, [.int 0, .ref ed, .int 0])), (lt_10, .inr (1, [.int 0, .ref ed, .int 0])), (lp_10, .inr (1, [.int 0, .ref ed, .int 0]))]) [14, 15, 16, 17] rfl
      have hPc := hP.sub (ws' := [(q6, .inr (10, [.int 0, .ref mr_10, .int 1, .long 0]))]) [13] rfl
      have hDc := hD.sub (ws' := [(q6, .inr (10, [.int 0, .ref mr_10, .int 1, .long 0]))]) [13] (by decide) rfl
      have hKc := hK.sub (tys' := []) [] rfl
      have hFc := va_free (wc := [(q6, .inr (10, [.int 0, .ref mr_10, .int 1, .long 0]))]) hD hS hA [13] rfl
      refine va_calli (va_runV (As := []) (rest := []) ⟨hx, hb, hml, hown, hts⟩ (cz_X8_stop l dC dI ed H97.size q6 mr_10 ll_10 lt_10 lp_10 0 0) (cwV 0 hts gL_law_X8_stop rfl rfl rfl (by decide +kernel) ⟨Nat.le_of_ble_eq_true rfl, Nat.le_of_ble_eq_true rfl⟩) ⟨zb_blind, va_recv hK hP (ci := 10) (q0 := 13) rfl rfl, fun U hU hW => ⟨rfl, zb_mk hU hW hPr hPc hKc hDc hN hH hS hFc (zx_cons (zx_o hD 14 [13] rfl rfl (by decide)) (zx_cons (zx_o hD 15 [13] rfl rfl (by decide)) (zx_cons (zx_o hD 16 [13] rfl rfl (by decide)) (zx_cons (zx_o hD 17 [13] rfl rfl (by decide)) zx_nil))))⟩⟩ rfl rfl hl.1 rfl (lv_room (Nat.le_of_ble_eq_true rfl)) dL_law_588 ⟨Nat.le_of_ble_eq_true rfl, Nat.le_of_ble_eq_true rfl⟩) hS (fun q _ h => hFc q h) hFc (fun r101 u t H100 locs ht hvm hw hB hz1 hk1 hS => ?_)
      obtain rfl : r101 = 0 := hw
      obtain ⟨hP1, hD1, hK1⟩ := hB
      rw [ht] at hP1
      obtain ⟨hP, hD⟩ := va_join (wr := [(q1, .inr (8, [.ref rm_5, .ref tr_5, .ref st_5])), (rm_5, .inr (5, [.ref lk_5, .ref th_5, .ref pl_5, .ref gm_5, .int 0, .int 0, .int 0, .int (-1), .int 1, .int 0, .int 0, .int 0])), (lk_5, .inl (cL_5, 10, .inr (.inr (.inr (.inr fl_5))))), (th_5, .inl (cT_5, 12, .inr (.inr (.inr (.inr ft_5))))), (pl_5, .inl (cP_5, 6, .inr (.inr (.inr (.inr fp_5))))), (gm_5, .inr (2, [.int 0, .int 0, .int 0, .int 0, .int 0, .int (-1), .long 0])), (l0_5, .inr (3, [.int 0, .int 0, .int 0, .int 0, .int 0, .int 0, .int 0, .int 0, .int 0, .int 0])), (t0_5, .inr (7, [.int 0, .int 0, .int 0, .int 0, .int 0])), (p0_5, .inr (4, [.int 0, .int 0, .int 0, .int 0])), (st_5, .inr (6, [.ref a1_5, .ref a2_5, .ref a3_5])), (a1_5, .inl (cZ_5, 1024, .inl f1_5)), (a2_5, .inl (cI_5, 1024, .inl f2_5)), (a3_5, .inl (cJ_5, 1024, .inl f3_5)), (mr_10, .inr (9, [.ref ll_10, .ref lt_10, .ref lp_10, .int (-1), .int 0, .int 0, .int 0, .int 0, .int 0, .int 0, .int (-1), .int 0, .int 0, .int 0])), (ll_10, .inr (1, [.int 0, .ref ed, .int 0])), (lt_10, .inr (1, [.int 0, .ref ed, .int 0])), (lp_10, .inr (1, [.int 0, .ref ed, .int 0])), (q11, .inl (cA13, 1, .inr (.inl fo9_99)))]) (w1 := [(q6, .inr (10, [.int 1, .ref mr_10, .int 1, .long 0]))]) hP hD [13] [0, 1, 2, 3, 4, 5, 6, 7, 8, 9, 10, 11, 12, 14, 15, 16, 17, 18] rfl rfl (by decide) (by decide) hk1 hFc hP1 hD1
      have hP : va_P (dC, dI) vwCl [(q1, .inr (8, [.ref rm_5, .ref tr_5, .ref st_5])), (rm_5, .inr (5, [.ref lk_5, .ref th_5, .ref pl_5, .ref gm_5, .int 0, .int 0, .int 0, .int (-1), .int 1, .int 0, .int 0, .int 0])), (lk_5, .inl (cL_5, 10, .inr (.inr (.inr (.inr fl_5))))), (th_5, .inl (cT_5, 12, .inr (.inr (.inr (.inr ft_5))))), (pl_5, .inl (cP_5, 6, .inr (.inr (.inr (.inr fp_5))))), (gm_5, .inr (2, [.int 0, .int 0, .int 0, .int 0, .int 0, .int (-1), .long 0])), (l0_5, .inr (3, [.int 0, .int 0, .int 0, .int 0, .int 0, .int 0, .int 0, .int 0, .int 0, .int 0])), (t0_5, .inr (7, [.int 0, .int 0, .int 0, .int 0, .int 0])), (p0_5, .inr (4, [.int 0, .int 0, .int 0, .int 0])), (st_5, .inr (6, [.ref a1_5, .ref a2_5, .ref a3_5])), (a1_5, .inl (cZ_5, 1024, .inl f1_5)), (a2_5, .inl (cI_5, 1024, .inl f2_5)), (a3_5, .inl (cJ_5, 1024, .inl f3_5)), (mr_10, .inr (9, [.ref ll_10, .ref lt_10, .ref lp_10, .int (-1), .int 0, .int 0, .int 0, .int 0, .int 0, .int 0, .int (-1), .int 0, .int 0, .int 0])), (ll_10, .inr (1, [.int 0, .ref ed, .int 0])), (lt_10, .inr (1, [.int 0, .ref ed, .int 0])), (lp_10, .inr (1, [.int 0, .ref ed, .int 0])), (q11, .inl (cA13, 1, .inr (.inl fo9_99))), (q6, .inr (10, [.int 1, .ref mr_10, .int 1, .long 0]))] H100 := hP
      have hD : va_D A [(q1, .inr (8, [.ref rm_5, .ref tr_5, .ref st_5])), (rm_5, .inr (5, [.ref lk_5, .ref th_5, .ref pl_5, .ref gm_5, .int 0, .int 0, .int 0, .int (-1), .int 1, .int 0, .int 0, .int 0])), (lk_5, .inl (cL_5, 10, .inr (.inr (.inr (.inr fl_5))))), (th_5, .inl (cT_5, 12, .inr (.inr (.inr (.inr ft_5))))), (pl_5, .inl (cP_5, 6, .inr (.inr (.inr (.inr fp_5))))), (gm_5, .inr (2, [.int 0, .int 0, .int 0, .int 0, .int 0, .int (-1), .long 0])), (l0_5, .inr (3, [.int 0, .int 0, .int 0, .int 0, .int 0, .int 0, .int 0, .int 0, .int 0, .int 0])), (t0_5, .inr (7, [.int 0, .int 0, .int 0, .int 0, .int 0])), (p0_5, .inr (4, [.int 0, .int 0, .int 0, .int 0])), (st_5, .inr (6, [.ref a1_5, .ref a2_5, .ref a3_5])), (a1_5, .inl (cZ_5, 1024, .inl f1_5)), (a2_5, .inl (cI_5, 1024, .inl f2_5)), (a3_5, .inl (cJ_5, 1024, .inl f3_5)), (mr_10, .inr (9, [.ref ll_10, .ref lt_10, .ref lp_10, .int (-1), .int 0, .int 0, .int 0, .int 0, .int 0, .int 0, .int (-1), .int 0, .int 0, .int 0])), (ll_10, .inr (1, [.int 0, .ref ed, .int 0])), (lt_10, .inr (1, [.int 0, .ref ed, .int 0])), (lp_10, .inr (1, [.int 0, .ref ed, .int 0])), (q11, .inl (cA13, 1, .inr (.inl fo9_99))), (q6, .inr (10, [.int 1, .ref mr_10, .int 1, .long 0]))] := hD
      refine lv_istore (lv' := [(6, .int 0), (5, .int 1), (4, .int 0), (3, .ref q11), (2, .ref q6), (1, .ref q1), (0, .ref b)]) hx hb dL_law_591 hl (by decide) rfl (fun ls hl => ?_)
      refine lv_aload_n hx hb dL_law_593 rfl (lv_at hl 4 rfl) ?_
      have hPr := (hP).sub (ws' := [(q6, .inr (10, [.int 1, .ref mr_10, .int 1, .long 0]))]) [18] rfl
      have hPc := hP.sub (ws' := []) [] rfl
      have hDc := hD.sub (ws' := []) [] (by decide) rfl
      have hKc := hK.sub (tys' := []) [] rfl
      have hFc := va_free (wc := []) hD hS hA [] rfl
      refine va_calli (va_runV (As := []) (rest := []) ⟨hx, hb, hml, hown, hts⟩ (cz_thrown l dC dI ed H100.size q6 mr_10 1 0) (cwV 0 hts gL_law_X8_thrown rfl rfl rfl (by decide +kernel) ⟨Nat.le_of_ble_eq_true rfl, Nat.le_of_ble_eq_true rfl⟩) ⟨zb_blind, va_recv hK hP (ci := 10) (q0 := 18) rfl rfl, fun U hU hW => ⟨rfl, zb_mk hU hW hPr hPc hKc hDc hN hH hS hFc zx_e⟩⟩ rfl rfl hl.1 rfl (lv_room (Nat.le_of_ble_eq_true rfl)) dL_law_594 ⟨Nat.le_of_ble_eq_true rfl, Nat.le_of_ble_eq_true rfl⟩) hS (fun q _ h => hFc q h) hFc (fun r104 u t H103 locs ht hvm hw hB hz1 hk1 hS => ?_)
      obtain rfl : r104 = 1 := hw
      have hP := zo_K hP hk1
      refine lv_iload hx hb dL_law_597 (lv_at hl 1 rfl) ?_
      refine lv_icmp_eq (tgt := 604) hx hb dL_law_599 (by decide) (fun _ => ?_) (fun h => absurd rfl h)
      refine lv_iload hx hb dL_law_604 (lv_at hl 1 rfl) ?_
      refine lv_if_ne (tgt := 621) hx hb dL_law_606 (by decide) (fun _ => ?_) (fun h => absurd h (by decide))
      refine lv_goto (tgt := 1407) hx hb dL_law_621 (by decide) ?_
      refine lv_iinc (v := 6) (lv' := [(4, .int 6), (6, .int 0), (5, .int 1), (3, .ref q11), (2, .ref q6), (1, .ref q1), (0, .ref b)]) hx hb dL_law_1407 hl (k := 2) rfl (by decide) (by decide) rfl (fun ls hl => ?_)
      refine lv_goto (tgt := 23) hx hb dL_law_1410 (by decide) ?_
      refine lv_iload hx hb dL_law_23 (lv_at hl 0 rfl) ?_
      refine lv_aload_n hx hb dL_law_25 rfl (lv_at hl 6 rfl) ?_
      refine va_slen hx hb hX hbl hbA hS dL_law_26 ?_
      refine zo_i (v := 6) (by decide) ?_
      refine lv_bipush (v := 6) hx hb dL_law_27 (by decide) ?_
      refine lv_isub hx hb dL_law_29 ?_
      refine zo_i (v := 0) (by decide) ?_
      refine lv_icmp_gt (tgt := 1413) hx hb dL_law_30 (by decide) (fun _ => ?_) (fun h => absurd h (by decide))
      refine lv_iconst (v := 1) hx hb dL_law_1413 (by decide) ?_
      refine W.widen (k := 600002) (n := 7302232) (Nat.le_of_ble_eq_true rfl) (Nat.le_of_ble_eq_true rfl) ?_
      refine va_forget (fun q hq => by have h9 := hS.2.2 q hq; rw [hAe] at h9; exact h9) ?_
      exact lw_ret hd0 hx hb hr hlocks dL_law_1414
    · refine zo_i (v := 7) (by decide) ?_
      refine lv_tableIn (off := 584) (tgt := 624) hx hb dL_law_40 (by decide) (by decide) rfl (by decide) ?_
      refine lv_aload_n hx hb dL_law_624 rfl (lv_at hl 3 rfl) ?_
      refine lv_aload_n hx hb dL_law_625 rfl (lv_at hl 4 rfl) ?_
      refine lv_iload hx hb dL_law_626 (lv_at hl 0 rfl) ?_
      refine lv_iconst (v := 1) hx hb dL_law_628 (by decide) ?_
      refine lv_iadd hx hb dL_law_629 ?_
      refine zo_i (v := 1) (by decide) ?_
      refine va_sld hx hb hX hbl hbA hS (by unfold vp_in; decide) dL_law_630 ?_
      refine zo_i (v := xs 1) (by rw [show Int32.toNatClampNeg 1 = 1 from by decide]) ?_
      refine lv_aload_n hx hb dL_law_631 rfl (lv_at hl 1 rfl) ?_
      have hPr := (hP).sub (ws' := [(q1, .inr (8, [.ref rm_5, .ref tr_5, .ref st_5])), (rm_5, .inr (5, [.ref lk_5, .ref th_5, .ref pl_5, .ref gm_5, .int 0, .int 0, .int 0, .int (-1), .int 1, .int 0, .int 0, .int 0]))]) [0, 1] rfl
      have hPc := hP.sub (ws' := [(q11, .inl (cA13, 1, .inr (.inl (fun _ => 0))))]) [18] rfl
      have hDc := hD.sub (ws' := [(q11, .inl (cA13, 1, .inr (.inl (fun _ => 0))))]) [18] (by decide) rfl
      have hKc := hK.sub (tys' := [(cA13, .long)]) [6] rfl
      have hFc := va_free (wc := [(q11, .inl (cA13, 1, .inr (.inl (fun _ => 0))))]) hD hS hA [18] rfl
      refine vx_calli (vx_runSX (As := [.ref q1, .int (xs 1), .ref q11]) (rest := []) ⟨hx, hb, hml, hown, hts⟩ (cz_L_steal l dC dI ed H12.size q1 rm_5 tr_5 st_5 lk_5 th_5 pl_5 gm_5 (xs 1) q11 cA13 (fun _ => 0) htr) (vx_cwSW 3 hts gL_law_L_steal rfl rfl rfl (by decide +kernel) ⟨Nat.le_of_ble_eq_true rfl, Nat.le_of_ble_eq_true rfl⟩) ⟨zb_blind, fun U hU hW => ⟨rfl, zb_mk hU hW hPr hPc hKc hDc hN hH hS hFc (zx_cons (zx_o hD 0 [18] rfl rfl (by decide)) (zx_cons (zx_o hD 1 [18] rfl rfl (by decide)) zx_nil))⟩⟩ rfl rfl hl.1 rfl (lv_room (Nat.le_of_ble_eq_true rfl)) dL_law_632 ⟨Nat.le_of_ble_eq_true rfl, Nat.le_of_ble_eq_true rfl⟩) hS (fun q _ h => hFc q h) hFc (fun q _ h => hFc q h) (fun E ce q9 u t H105 locs ht hvm hpx hBX hz1 hk1 hS hce hcv hcl => hpx.elim) (fun r106 u t H105 locs ht hvm hw hB hz1 hk1 hS => ?_)
      obtain rfl : r106 = 1 := hw
      obtain ⟨fo9_107, hP1, hD1, hK1⟩ := hB
      rw [ht] at hP1
      obtain ⟨hP, hD⟩ := va_join (wr := [(q1, .inr (8, [.ref rm_5, .ref tr_5, .ref st_5])), (rm_5, .inr (5, [.ref lk_5, .ref th_5, .ref pl_5, .ref gm_5, .int 0, .int 0, .int 0, .int (-1), .int 1, .int 0, .int 0, .int 0])), (lk_5, .inl (cL_5, 10, .inr (.inr (.inr (.inr fl_5))))), (th_5, .inl (cT_5, 12, .inr (.inr (.inr (.inr ft_5))))), (pl_5, .inl (cP_5, 6, .inr (.inr (.inr (.inr fp_5))))), (gm_5, .inr (2, [.int 0, .int 0, .int 0, .int 0, .int 0, .int (-1), .long 0])), (l0_5, .inr (3, [.int 0, .int 0, .int 0, .int 0, .int 0, .int 0, .int 0, .int 0, .int 0, .int 0])), (t0_5, .inr (7, [.int 0, .int 0, .int 0, .int 0, .int 0])), (p0_5, .inr (4, [.int 0, .int 0, .int 0, .int 0])), (st_5, .inr (6, [.ref a1_5, .ref a2_5, .ref a3_5])), (a1_5, .inl (cZ_5, 1024, .inl f1_5)), (a2_5, .inl (cI_5, 1024, .inl f2_5)), (a3_5, .inl (cJ_5, 1024, .inl f3_5)), (q6, .inr (10, [.int 0, .ref mr_10, .int 1, .long 0])), (mr_10, .inr (9, [.ref ll_10, .ref lt_10, .ref lp_10, .int (-1), .int 0, .int 0, .int 0, .int 0, .int 0, .int 0, .int (-1), .int 0, .int 0, .int 0])), (ll_10, .inr (1, [.int 0, .ref ed, .int 0])), (lt_10, .inr (1, [.int 0, .ref ed, .int 0])), (lp_10, .inr (1, [.int 0, .ref ed, .int 0]))]) (w1 := [(q11, .inl (cA13, 1, .inr (.inl fo9_107)))]) hP hD [18] [0, 1, 2, 3, 4, 5, 6, 7, 8, 9, 10, 11, 12, 13, 14, 15, 16, 17] rfl rfl (by decide) (by decide) hk1 hFc hP1 hD1
      have hP : va_P (dC, dI) vwCl [(q1, .inr (8, [.ref rm_5, .ref tr_5, .ref st_5])), (rm_5, .inr (5, [.ref lk_5, .ref th_5, .ref pl_5, .ref gm_5, .int 0, .int 0, .int 0, .int (-1), .int 1, .int 0, .int 0, .int 0])), (lk_5, .inl (cL_5, 10, .inr (.inr (.inr (.inr fl_5))))), (th_5, .inl (cT_5, 12, .inr (.inr (.inr (.inr ft_5))))), (pl_5, .inl (cP_5, 6, .inr (.inr (.inr (.inr fp_5))))), (gm_5, .inr (2, [.int 0, .int 0, .int 0, .int 0, .int 0, .int (-1), .long 0])), (l0_5, .inr (3, [.int 0, .int 0, .int 0, .int 0, .int 0, .int 0, .int 0, .int 0, .int 0, .int 0])), (t0_5, .inr (7, [.int 0, .int 0, .int 0, .int 0, .int 0])), (p0_5, .inr (4, [.int 0, .int 0, .int 0, .int 0])), (st_5, .inr (6, [.ref a1_5, .ref a2_5, .ref a3_5])), (a1_5, .inl (cZ_5, 1024, .inl f1_5)), (a2_5, .inl (cI_5, 1024, .inl f2_5)), (a3_5, .inl (cJ_5, 1024, .inl f3_5)), (q6, .inr (10, [.int 0, .ref mr_10, .int 1, .long 0])), (mr_10, .inr (9, [.ref ll_10, .ref lt_10, .ref lp_10, .int (-1), .int 0, .int 0, .int 0, .int 0, .int 0, .int 0, .int (-1), .int 0, .int 0, .int 0])), (ll_10, .inr (1, [.int 0, .ref ed, .int 0])), (lt_10, .inr (1, [.int 0, .ref ed, .int 0])), (lp_10, .inr (1, [.int 0, .ref ed, .int 0])), (q11, .inl (cA13, 1, .inr (.inl fo9_107)))] H105 := hP
      have hD : va_D A [(q1, .inr (8, [.ref rm_5, .ref tr_5, .ref st_5])), (rm_5, .inr (5, [.ref lk_5, .ref th_5, .ref pl_5, .ref gm_5, .int 0, .int 0, .int 0, .int (-1), .int 1, .int 0, .int 0, .int 0])), (lk_5, .inl (cL_5, 10, .inr (.inr (.inr (.inr fl_5))))), (th_5, .inl (cT_5, 12, .inr (.inr (.inr (.inr ft_5))))), (pl_5, .inl (cP_5, 6, .inr (.inr (.inr (.inr fp_5))))), (gm_5, .inr (2, [.int 0, .int 0, .int 0, .int 0, .int 0, .int (-1), .long 0])), (l0_5, .inr (3, [.int 0, .int 0, .int 0, .int 0, .int 0, .int 0, .int 0, .int 0, .int 0, .int 0])), (t0_5, .inr (7, [.int 0, .int 0, .int 0, .int 0, .int 0])), (p0_5, .inr (4, [.int 0, .int 0, .int 0, .int 0])), (st_5, .inr (6, [.ref a1_5, .ref a2_5, .ref a3_5])), (a1_5, .inl (cZ_5, 1024, .inl f1_5)), (a2_5, .inl (cI_5, 1024, .inl f2_5)), (a3_5, .inl (cJ_5, 1024, .inl f3_5)), (q6, .inr (10, [.int 0, .ref mr_10, .int 1, .long 0])), (mr_10, .inr (9, [.ref ll_10, .ref lt_10, .ref lp_10, .int (-1), .int 0, .int 0, .int 0, .int 0, .int 0, .int 0, .int (-1), .int 0, .int 0, .int 0])), (ll_10, .inr (1, [.int 0, .ref ed, .int 0])), (lt_10, .inr (1, [.int 0, .ref ed, .int 0])), (lp_10, .inr (1, [.int 0, .ref ed, .int 0])), (q11, .inl (cA13, 1, .inr (.inl fo9_107)))] := hD
      refine lv_istore (lv' := [(5, .int 1), (4, .int 0), (3, .ref q11), (2, .ref q6), (1, .ref q1), (0, .ref b)]) hx hb dL_law_635 hl (by decide) rfl (fun ls hl => ?_)
      refine lv_aload_n hx hb dL_law_637 rfl (lv_at hl 3 rfl) ?_
      refine lv_aload_n hx hb dL_law_638 rfl (lv_at hl 5 rfl) ?_
      refine lv_iload hx hb dL_law_639 (lv_at hl 1 rfl) ?_
      refine lv_iconst (v := 1) hx hb dL_law_641 (by decide) ?_
      refine lv_iadd hx hb dL_law_642 ?_
      refine zo_i (v := 1) (by decide) ?_
      refine va_sld hx hb hX hbl hbA hS (by unfold vp_in; decide) dL_law_643 ?_
      refine zo_i (v := xs 1) (by rw [show Int32.toNatClampNeg 1 = 1 from by decide]) ?_
      have hPr := (hP).sub (ws' := [(mr_10, .inr (9, [.ref ll_10, .ref lt_10, .ref lp_10, .int (-1), .int 0, .int 0, .int 0, .int 0, .int 0, .int 0, .int (-1), .int 0, .int 0, .int 0])), (ll_10, .inr (1, [.int 0, .ref ed, .int 0])), (lt_10, .inr (1, [.int 0, .ref ed, .int 0])), (lp_10, .inr (1, [.int 0, .ref ed, .int 0]))]) [14, 15, 16, 17] rfl
      have hPc := hP.sub (ws' := [(q6, .inr (10, [.int 0, .ref mr_10, .int 1, .long 0]))]) [13] rfl
      have hDc := hD.sub (ws' := [(q6, .inr (10, [.int 0, .ref mr_10, .int 1, .long 0]))]) [13] (by decide) rfl
      have hKc := hK.sub (tys' := []) [] rfl
      have hFc := va_free (wc := [(q6, .inr (10, [.int 0, .ref mr_10, .int 1, .long 0]))]) hD hS hA [13] rfl
      refine va_calli (va_runV (As := [.int (xs 1)]) (rest := []) ⟨hx, hb, hml, hown, hts⟩ (cz_X8_steal l dC dI ed H105.size q6 mr_10 ll_10 lt_10 lp_10 0 0 (xs 1)) (cwV 1 hts gL_law_X8_steal rfl rfl rfl (by decide +kernel) ⟨Nat.le_of_ble_eq_true rfl, Nat.le_of_ble_eq_true rfl⟩) ⟨zb_blind, va_recv hK hP (ci := 10) (q0 := 13) rfl rfl, fun U hU hW => ⟨rfl, zb_mk hU hW hPr hPc hKc hDc hN hH hS hFc (zx_cons (zx_o hD 14 [13] rfl rfl (by decide)) (zx_cons (zx_o hD 15 [13] rfl rfl (by decide)) (zx_cons (zx_o hD 16 [13] rfl rfl (by decide)) (zx_cons (zx_o hD 17 [13] rfl rfl (by decide)) zx_nil))))⟩⟩ rfl rfl hl.1 rfl (lv_room (Nat.le_of_ble_eq_true rfl)) dL_law_644 ⟨Nat.le_of_ble_eq_true rfl, Nat.le_of_ble_eq_true rfl⟩) hS (fun q _ h => hFc q h) hFc (fun r109 u t H108 locs ht hvm hw hB hz1 hk1 hS => ?_)
      obtain rfl : r109 = 0 := hw
      obtain ⟨hP1, hD1, hK1⟩ := hB
      rw [ht] at hP1
      obtain ⟨hP, hD⟩ := va_join (wr := [(q1, .inr (8, [.ref rm_5, .ref tr_5, .ref st_5])), (rm_5, .inr (5, [.ref lk_5, .ref th_5, .ref pl_5, .ref gm_5, .int 0, .int 0, .int 0, .int (-1), .int 1, .int 0, .int 0, .int 0])), (lk_5, .inl (cL_5, 10, .inr (.inr (.inr (.inr fl_5))))), (th_5, .inl (cT_5, 12, .inr (.inr (.inr (.inr ft_5))))), (pl_5, .inl (cP_5, 6, .inr (.inr (.inr (.inr fp_5))))), (gm_5, .inr (2, [.int 0, .int 0, .int 0, .int 0, .int 0, .int (-1), .long 0])), (l0_5, .inr (3, [.int 0, .int 0, .int 0, .int 0, .int 0, .int 0, .int 0, .int 0, .int 0, .int 0])), (t0_5, .inr (7, [.int 0, .int 0, .int 0, .int 0, .int 0])), (p0_5, .inr (4, [.int 0, .int 0, .int 0, .int 0])), (st_5, .inr (6, [.ref a1_5, .ref a2_5, .ref a3_5])), (a1_5, .inl (cZ_5, 1024, .inl f1_5)), (a2_5, .inl (cI_5, 1024, .inl f2_5)), (a3_5, .inl (cJ_5, 1024, .inl f3_5)), (mr_10, .inr (9, [.ref ll_10, .ref lt_10, .ref lp_10, .int (-1), .int 0, .int 0, .int 0, .int 0, .int 0, .int 0, .int (-1), .int 0, .int 0, .int 0])), (ll_10, .inr (1, [.int 0, .ref ed, .int 0])), (lt_10, .inr (1, [.int 0, .ref ed, .int 0])), (lp_10, .inr (1, [.int 0, .ref ed, .int 0])), (q11, .inl (cA13, 1, .inr (.inl fo9_107)))]) (w1 := [(q6, .inr (10, [.int 1, .ref mr_10, .int 1, .long 0]))]) hP hD [13] [0, 1, 2, 3, 4, 5, 6, 7, 8, 9, 10, 11, 12, 14, 15, 16, 17, 18] rfl rfl (by decide) (by decide) hk1 hFc hP1 hD1
      have hP : va_P (dC, dI) vwCl [(q1, .inr (8, [.ref rm_5, .ref tr_5, .ref st_5])), (rm_5, .inr (5, [.ref lk_5, .ref th_5, .ref pl_5, .ref gm_5, .int 0, .int 0, .int 0, .int (-1), .int 1, .int 0, .int 0, .int 0])), (lk_5, .inl (cL_5, 10, .inr (.inr (.inr (.inr fl_5))))), (th_5, .inl (cT_5, 12, .inr (.inr (.inr (.inr ft_5))))), (pl_5, .inl (cP_5, 6, .inr (.inr (.inr (.inr fp_5))))), (gm_5, .inr (2, [.int 0, .int 0, .int 0, .int 0, .int 0, .int (-1), .long 0])), (l0_5, .inr (3, [.int 0, .int 0, .int 0, .int 0, .int 0, .int 0, .int 0, .int 0, .int 0, .int 0])), (t0_5, .inr (7, [.int 0, .int 0, .int 0, .int 0, .int 0])), (p0_5, .inr (4, [.int 0, .int 0, .int 0, .int 0])), (st_5, .inr (6, [.ref a1_5, .ref a2_5, .ref a3_5])), (a1_5, .inl (cZ_5, 1024, .inl f1_5)), (a2_5, .inl (cI_5, 1024, .inl f2_5)), (a3_5, .inl (cJ_5, 1024, .inl f3_5)), (mr_10, .inr (9, [.ref ll_10, .ref lt_10, .ref lp_10, .int (-1), .int 0, .int 0, .int 0, .int 0, .int 0, .int 0, .int (-1), .int 0, .int 0, .int 0])), (ll_10, .inr (1, [.int 0, .ref ed, .int 0])), (lt_10, .inr (1, [.int 0, .ref ed, .int 0])), (lp_10, .inr (1, [.int 0, .ref ed, .int 0])), (q11, .inl (cA13, 1, .inr (.inl fo9_107))), (q6, .inr (10, [.int 1, .ref mr_10, .int 1, .long 0]))] H108 := hP
      have hD : va_D A [(q1, .inr (8, [.ref rm_5, .ref tr_5, .ref st_5])), (rm_5, .inr (5, [.ref lk_5, .ref th_5, .ref pl_5, .ref gm_5, .int 0, .int 0, .int 0, .int (-1), .int 1, .int 0, .int 0, .int 0])), (lk_5, .inl (cL_5, 10, .inr (.inr (.inr (.inr fl_5))))), (th_5, .inl (cT_5, 12, .inr (.inr (.inr (.inr ft_5))))), (pl_5, .inl (cP_5, 6, .inr (.inr (.inr (.inr fp_5))))), (gm_5, .inr (2, [.int 0, .int 0, .int 0, .int 0, .int 0, .int (-1), .long 0])), (l0_5, .inr (3, [.int 0, .int 0, .int 0, .int 0, .int 0, .int 0, .int 0, .int 0, .int 0, .int 0])), (t0_5, .inr (7, [.int 0, .int 0, .int 0, .int 0, .int 0])), (p0_5, .inr (4, [.int 0, .int 0, .int 0, .int 0])), (st_5, .inr (6, [.ref a1_5, .ref a2_5, .ref a3_5])), (a1_5, .inl (cZ_5, 1024, .inl f1_5)), (a2_5, .inl (cI_5, 1024, .inl f2_5)), (a3_5, .inl (cJ_5, 1024, .inl f3_5)), (mr_10, .inr (9, [.ref ll_10, .ref lt_10, .ref lp_10, .int (-1), .int 0, .int 0, .int 0, .int 0, .int 0, .int 0, .int (-1), .int 0, .int 0, .int 0])), (ll_10, .inr (1, [.int 0, .ref ed, .int 0])), (lt_10, .inr (1, [.int 0, .ref ed, .int 0])), (lp_10, .inr (1, [.int 0, .ref ed, .int 0])), (q11, .inl (cA13, 1, .inr (.inl fo9_107))), (q6, .inr (10, [.int 1, .ref mr_10, .int 1, .long 0]))] := hD
      refine lv_istore (lv' := [(6, .int 0), (5, .int 1), (4, .int 0), (3, .ref q11), (2, .ref q6), (1, .ref q1), (0, .ref b)]) hx hb dL_law_647 hl (by decide) rfl (fun ls hl => ?_)
      refine lv_aload_n hx hb dL_law_649 rfl (lv_at hl 4 rfl) ?_
      have hPr := (hP).sub (ws' := [(q6, .inr (10, [.int 1, .ref mr_10, .int 1, .long 0]))]) [18] rfl
      have hPc := hP.sub (ws' := []) [] rfl
      have hDc := hD.sub (ws' := []) [] (by decide) rfl
      have hKc := hK.sub (tys' := []) [] rfl
      have hFc := va_free (wc := []) hD hS hA [] rfl
      refine va_calli (va_runV (As := []) (rest := []) ⟨hx, hb, hml, hown, hts⟩ (cz_thrown l dC dI ed H108.size q6 mr_10 1 0) (cwV 0 hts gL_law_X8_thrown rfl rfl rfl (by decide +kernel) ⟨Nat.le_of_ble_eq_true rfl, Nat.le_of_ble_eq_true rfl⟩) ⟨zb_blind, va_recv hK hP (ci := 10) (q0 := 18) rfl rfl, fun U hU hW => ⟨rfl, zb_mk hU hW hPr hPc hKc hDc hN hH hS hFc zx_e⟩⟩ rfl rfl hl.1 rfl (lv_room (Nat.le_of_ble_eq_true rfl)) dL_law_650 ⟨Nat.le_of_ble_eq_true rfl, Nat.le_of_ble_eq_true rfl⟩) hS (fun q _ h => hFc q h) hFc (fun r112 u t H111 locs ht hvm hw hB hz1 hk1 hS => ?_)
      obtain rfl : r112 = 1 := hw
      have hP := zo_K hP hk1
      refine lv_iload hx hb dL_law_653 (lv_at hl 1 rfl) ?_
      refine lv_icmp_eq (tgt := 660) hx hb dL_law_655 (by decide) (fun _ => ?_) (fun h => absurd rfl h)
      refine lv_iload hx hb dL_law_660 (lv_at hl 1 rfl) ?_
      refine lv_if_ne (tgt := 677) hx hb dL_law_662 (by decide) (fun _ => ?_) (fun h => absurd h (by decide))
      refine lv_goto (tgt := 1407) hx hb dL_law_677 (by decide) ?_
      refine lv_iinc (v := 6) (lv' := [(4, .int 6), (6, .int 0), (5, .int 1), (3, .ref q11), (2, .ref q6), (1, .ref q1), (0, .ref b)]) hx hb dL_law_1407 hl (k := 2) rfl (by decide) (by decide) rfl (fun ls hl => ?_)
      refine lv_goto (tgt := 23) hx hb dL_law_1410 (by decide) ?_
      refine lv_iload hx hb dL_law_23 (lv_at hl 0 rfl) ?_
      refine lv_aload_n hx hb dL_law_25 rfl (lv_at hl 6 rfl) ?_
      refine va_slen hx hb hX hbl hbA hS dL_law_26 ?_
      refine zo_i (v := 6) (by decide) ?_
      refine lv_bipush (v := 6) hx hb dL_law_27 (by decide) ?_
      refine lv_isub hx hb dL_law_29 ?_
      refine zo_i (v := 0) (by decide) ?_
      refine lv_icmp_gt (tgt := 1413) hx hb dL_law_30 (by decide) (fun _ => ?_) (fun h => absurd h (by decide))
      refine lv_iconst (v := 1) hx hb dL_law_1413 (by decide) ?_
      refine W.widen (k := 600002) (n := 7302232) (Nat.le_of_ble_eq_true rfl) (Nat.le_of_ble_eq_true rfl) ?_
      refine va_forget (fun q hq => by have h9 := hS.2.2 q hq; rw [hAe] at h9; exact h9) ?_
      exact lw_ret hd0 hx hb hr hlocks dL_law_1414
    · refine zo_i (v := 8) (by decide) ?_
      refine lv_tableIn (off := 640) (tgt := 680) hx hb dL_law_40 (by decide) (by decide) rfl (by decide) ?_
      refine lv_aload_n hx hb dL_law_680 rfl (lv_at hl 3 rfl) ?_
      refine lv_aload_n hx hb dL_law_681 rfl (lv_at hl 4 rfl) ?_
      refine lv_iload hx hb dL_law_682 (lv_at hl 0 rfl) ?_
      refine lv_iconst (v := 1) hx hb dL_law_684 (by decide) ?_
      refine lv_iadd hx hb dL_law_685 ?_
      refine zo_i (v := 1) (by decide) ?_
      refine va_sld hx hb hX hbl hbA hS (by unfold vp_in; decide) dL_law_686 ?_
      refine zo_i (v := xs 1) (by rw [show Int32.toNatClampNeg 1 = 1 from by decide]) ?_
      refine lv_aload_n hx hb dL_law_687 rfl (lv_at hl 1 rfl) ?_
      have hPr := (hP).sub (ws' := [(q1, .inr (8, [.ref rm_5, .ref tr_5, .ref st_5])), (rm_5, .inr (5, [.ref lk_5, .ref th_5, .ref pl_5, .ref gm_5, .int 0, .int 0, .int 0, .int (-1), .int 1, .int 0, .int 0, .int 0]))]) [0, 1] rfl
      have hPc := hP.sub (ws' := [(q11, .inl (cA13, 1, .inr (.inl (fun _ => 0))))]) [18] rfl
      have hDc := hD.sub (ws' := [(q11, .inl (cA13, 1, .inr (.inl (fun _ => 0))))]) [18] (by decide) rfl
      have hKc := hK.sub (tys' := [(cA13, .long)]) [6] rfl
      have hFc := va_free (wc := [(q11, .inl (cA13, 1, .inr (.inl (fun _ => 0))))]) hD hS hA [18] rfl
      refine vx_calli (vx_runSX (As := [.ref q1, .int (xs 1), .ref q11]) (rest := []) ⟨hx, hb, hml, hown, hts⟩ (cz_L_spare l dC dI ed H12.size q1 rm_5 tr_5 st_5 lk_5 th_5 pl_5 gm_5 (xs 1) q11 cA13 (fun _ => 0) htr) (vx_cwSW 3 hts gL_law_L_spare rfl rfl rfl (by decide +kernel) ⟨Nat.le_of_ble_eq_true rfl, Nat.le_of_ble_eq_true rfl⟩) ⟨zb_blind, fun U hU hW => ⟨rfl, zb_mk hU hW hPr hPc hKc hDc hN hH hS hFc (zx_cons (zx_o hD 0 [18] rfl rfl (by decide)) (zx_cons (zx_o hD 1 [18] rfl rfl (by decide)) zx_nil))⟩⟩ rfl rfl hl.1 rfl (lv_room (Nat.le_of_ble_eq_true rfl)) dL_law_688 ⟨Nat.le_of_ble_eq_true rfl, Nat.le_of_ble_eq_true rfl⟩) hS (fun q _ h => hFc q h) hFc (fun q _ h => hFc q h) (fun E ce q9 u t H113 locs ht hvm hpx hBX hz1 hk1 hS hce hcv hcl => hpx.elim) (fun r114 u t H113 locs ht hvm hw hB hz1 hk1 hS => ?_)
      obtain rfl : r114 = 1 := hw
      obtain ⟨fo9_115, hP1, hD1, hK1⟩ := hB
      rw [ht] at hP1
      obtain ⟨hP, hD⟩ := va_join (wr := [(q1, .inr (8, [.ref rm_5, .ref tr_5, .ref st_5])), (rm_5, .inr (5, [.ref lk_5, .ref th_5, .ref pl_5, .ref gm_5, .int 0, .int 0, .int 0, .int (-1), .int 1, .int 0, .int 0, .int 0])), (lk_5, .inl (cL_5, 10, .inr (.inr (.inr (.inr fl_5))))), (th_5, .inl (cT_5, 12, .inr (.inr (.inr (.inr ft_5))))), (pl_5, .inl (cP_5, 6, .inr (.inr (.inr (.inr fp_5))))), (gm_5, .inr (2, [.int 0, .int 0, .int 0, .int 0, .int 0, .int (-1), .long 0])), (l0_5, .inr (3, [.int 0, .int 0, .int 0, .int 0, .int 0, .int 0, .int 0, .int 0, .int 0, .int 0])), (t0_5, .inr (7, [.int 0, .int 0, .int 0, .int 0, .int 0])), (p0_5, .inr (4, [.int 0, .int 0, .int 0, .int 0])), (st_5, .inr (6, [.ref a1_5, .ref a2_5, .ref a3_5])), (a1_5, .inl (cZ_5, 1024, .inl f1_5)), (a2_5, .inl (cI_5, 1024, .inl f2_5)), (a3_5, .inl (cJ_5, 1024, .inl f3_5)), (q6, .inr (10, [.int 0, .ref mr_10, .int 1, .long 0])), (mr_10, .inr (9, [.ref ll_10, .ref lt_10, .ref lp_10, .int (-1), .int 0, .int 0, .int 0, .int 0, .int 0, .int 0, .int (-1), .int 0, .int 0, .int 0])), (ll_10, .inr (1, [.int 0, .ref ed, .int 0])), (lt_10, .inr (1, [.int 0, .ref ed, .int 0])), (lp_10, .inr (1, [.int 0, .ref ed, .int 0]))]) (w1 := [(q11, .inl (cA13, 1, .inr (.inl fo9_115)))]) hP hD [18] [0, 1, 2, 3, 4, 5, 6, 7, 8, 9, 10, 11, 12, 13, 14, 15, 16, 17] rfl rfl (by decide) (by decide) hk1 hFc hP1 hD1
      have hP : va_P (dC, dI) vwCl [(q1, .inr (8, [.ref rm_5, .ref tr_5, .ref st_5])), (rm_5, .inr (5, [.ref lk_5, .ref th_5, .ref pl_5, .ref gm_5, .int 0, .int 0, .int 0, .int (-1), .int 1, .int 0, .int 0, .int 0])), (lk_5, .inl (cL_5, 10, .inr (.inr (.inr (.inr fl_5))))), (th_5, .inl (cT_5, 12, .inr (.inr (.inr (.inr ft_5))))), (pl_5, .inl (cP_5, 6, .inr (.inr (.inr (.inr fp_5))))), (gm_5, .inr (2, [.int 0, .int 0, .int 0, .int 0, .int 0, .int (-1), .long 0])), (l0_5, .inr (3, [.int 0, .int 0, .int 0, .int 0, .int 0, .int 0, .int 0, .int 0, .int 0, .int 0])), (t0_5, .inr (7, [.int 0, .int 0, .int 0, .int 0, .int 0])), (p0_5, .inr (4, [.int 0, .int 0, .int 0, .int 0])), (st_5, .inr (6, [.ref a1_5, .ref a2_5, .ref a3_5])), (a1_5, .inl (cZ_5, 1024, .inl f1_5)), (a2_5, .inl (cI_5, 1024, .inl f2_5)), (a3_5, .inl (cJ_5, 1024, .inl f3_5)), (q6, .inr (10, [.int 0, .ref mr_10, .int 1, .long 0])), (mr_10, .inr (9, [.ref ll_10, .ref lt_10, .ref lp_10, .int (-1), .int 0, .int 0, .int 0, .int 0, .int 0, .int 0, .int (-1), .int 0, .int 0, .int 0])), (ll_10, .inr (1, [.int 0, .ref ed, .int 0])), (lt_10, .inr (1, [.int 0, .ref ed, .int 0])), (lp_10, .inr (1, [.int 0, .ref ed, .int 0])), (q11, .inl (cA13, 1, .inr (.inl fo9_115)))] H113 := hP
      have hD : va_D A [(q1, .inr (8, [.ref rm_5, .ref tr_5, .ref st_5])), (rm_5, .inr (5, [.ref lk_5, .ref th_5, .ref pl_5, .ref gm_5, .int 0, .int 0, .int 0, .int (-1), .int 1, .int 0, .int 0, .int 0])), (lk_5, .inl (cL_5, 10, .inr (.inr (.inr (.inr fl_5))))), (th_5, .inl (cT_5, 12, .inr (.inr (.inr (.inr ft_5))))), (pl_5, .inl (cP_5, 6, .inr (.inr (.inr (.inr fp_5))))), (gm_5, .inr (2, [.int 0, .int 0, .int 0, .int 0, .int 0, .int (-1), .long 0])), (l0_5, .inr (3, [.int 0, .int 0, .int 0, .int 0, .int 0, .int 0, .int 0, .int 0, .int 0, .int 0])), (t0_5, .inr (7, [.int 0, .int 0, .int 0, .int 0, .int 0])), (p0_5, .inr (4, [.int 0, .int 0, .int 0, .int 0])), (st_5, .inr (6, [.ref a1_5, .ref a2_5, .ref a3_5])), (a1_5, .inl (cZ_5, 1024, .inl f1_5)), (a2_5, .inl (cI_5, 1024, .inl f2_5)), (a3_5, .inl (cJ_5, 1024, .inl f3_5)), (q6, .inr (10, [.int 0, .ref mr_10, .int 1, .long 0])), (mr_10, .inr (9, [.ref ll_10, .ref lt_10, .ref lp_10, .int (-1), .int 0, .int 0, .int 0, .int 0, .int 0, .int 0, .int (-1), .int 0, .int 0, .int 0])), (ll_10, .inr (1, [.int 0, .ref ed, .int 0])), (lt_10, .inr (1, [.int 0, .ref ed, .int 0])), (lp_10, .inr (1, [.int 0, .ref ed, .int 0])), (q11, .inl (cA13, 1, .inr (.inl fo9_115)))] := hD
      refine lv_istore (lv' := [(5, .int 1), (4, .int 0), (3, .ref q11), (2, .ref q6), (1, .ref q1), (0, .ref b)]) hx hb dL_law_691 hl (by decide) rfl (fun ls hl => ?_)
      refine lv_aload_n hx hb dL_law_693 rfl (lv_at hl 3 rfl) ?_
      refine lv_aload_n hx hb dL_law_694 rfl (lv_at hl 5 rfl) ?_
      refine lv_iload hx hb dL_law_695 (lv_at hl 1 rfl) ?_
      refine lv_iconst (v := 1) hx hb dL_law_697 (by decide) ?_
      refine lv_iadd hx hb dL_law_698 ?_
      refine zo_i (v := 1) (by decide) ?_
      refine va_sld hx hb hX hbl hbA hS (by unfold vp_in; decide) dL_law_699 ?_
      refine zo_i (v := xs 1) (by rw [show Int32.toNatClampNeg 1 = 1 from by decide]) ?_
      have hPr := (hP).sub (ws' := [(mr_10, .inr (9, [.ref ll_10, .ref lt_10, .ref lp_10, .int (-1), .int 0, .int 0, .int 0, .int 0, .int 0, .int 0, .int (-1), .int 0, .int 0, .int 0])), (ll_10, .inr (1, [.int 0, .ref ed, .int 0])), (lt_10, .inr (1, [.int 0, .ref ed, .int 0])), (lp_10, .inr (1, [.int 0, .ref ed, .int 0]))]) [14, 15, 16, 17] rfl
      have hPc := hP.sub (ws' := [(q6, .inr (10, [.int 0, .ref mr_10, .int 1, .long 0]))]) [13] rfl
      have hDc := hD.sub (ws' := [(q6, .inr (10, [.int 0, .ref mr_10, .int 1, .long 0]))]) [13] (by decide) rfl
      have hKc := hK.sub (tys' := []) [] rfl
      have hFc := va_free (wc := [(q6, .inr (10, [.int 0, .ref mr_10, .int 1, .long 0]))]) hD hS hA [13] rfl
      refine va_calli (va_runV (As := [.int (xs 1)]) (rest := []) ⟨hx, hb, hml, hown, hts⟩ (cz_X8_spare l dC dI ed H113.size q6 mr_10 ll_10 lt_10 lp_10 0 0 (xs 1)) (cwV 1 hts gL_law_X8_spare rfl rfl rfl (by decide +kernel) ⟨Nat.le_of_ble_eq_true rfl, Nat.le_of_ble_eq_true rfl⟩) ⟨zb_blind, va_recv hK hP (ci := 10) (q0 := 13) rfl rfl, fun U hU hW => ⟨rfl, zb_mk hU hW hPr hPc hKc hDc hN hH hS hFc (zx_cons (zx_o hD 14 [13] rfl rfl (by decide)) (zx_cons (zx_o hD 15 [13] rfl rfl (by decide)) (zx_cons (zx_o hD 16 [13] rfl rfl (by decide)) (zx_cons (zx_o hD 17 [13] rfl rfl (by decide)) zx_nil))))⟩⟩ rfl rfl hl.1 rfl (lv_room (Nat.le_of_ble_eq_true rfl)) dL_law_700 ⟨Nat.le_of_ble_eq_true rfl, Nat.le_of_ble_eq_true rfl⟩) hS (fun q _ h => hFc q h) hFc (fun r117 u t H116 locs ht hvm hw hB hz1 hk1 hS => ?_)
      obtain rfl : r117 = 0 := hw
      obtain ⟨hP1, hD1, hK1⟩ := hB
      rw [ht] at hP1
      obtain ⟨hP, hD⟩ := va_join (wr := [(q1, .inr (8, [.ref rm_5, .ref tr_5, .ref st_5])), (rm_5, .inr (5, [.ref lk_5, .ref th_5, .ref pl_5, .ref gm_5, .int 0, .int 0, .int 0, .int (-1), .int 1, .int 0, .int 0, .int 0])), (lk_5, .inl (cL_5, 10, .inr (.inr (.inr (.inr fl_5))))), (th_5, .inl (cT_5, 12, .inr (.inr (.inr (.inr ft_5))))), (pl_5, .inl (cP_5, 6, .inr (.inr (.inr (.inr fp_5))))), (gm_5, .inr (2, [.int 0, .int 0, .int 0, .int 0, .int 0, .int (-1), .long 0])), (l0_5, .inr (3, [.int 0, .int 0, .int 0, .int 0, .int 0, .int 0, .int 0, .int 0, .int 0, .int 0])), (t0_5, .inr (7, [.int 0, .int 0, .int 0, .int 0, .int 0])), (p0_5, .inr (4, [.int 0, .int 0, .int 0, .int 0])), (st_5, .inr (6, [.ref a1_5, .ref a2_5, .ref a3_5])), (a1_5, .inl (cZ_5, 1024, .inl f1_5)), (a2_5, .inl (cI_5, 1024, .inl f2_5)), (a3_5, .inl (cJ_5, 1024, .inl f3_5)), (mr_10, .inr (9, [.ref ll_10, .ref lt_10, .ref lp_10, .int (-1), .int 0, .int 0, .int 0, .int 0, .int 0, .int 0, .int (-1), .int 0, .int 0, .int 0])), (ll_10, .inr (1, [.int 0, .ref ed, .int 0])), (lt_10, .inr (1, [.int 0, .ref ed, .int 0])), (lp_10, .inr (1, [.int 0, .ref ed, .int 0])), (q11, .inl (cA13, 1, .inr (.inl fo9_115)))]) (w1 := [(q6, .inr (10, [.int 1, .ref mr_10, .int 1, .long 0]))]) hP hD [13] [0, 1, 2, 3, 4, 5, 6, 7, 8, 9, 10, 11, 12, 14, 15, 16, 17, 18] rfl rfl (by decide) (by decide) hk1 hFc hP1 hD1
      have hP : va_P (dC, dI) vwCl [(q1, .inr (8, [.ref rm_5, .ref tr_5, .ref st_5])), (rm_5, .inr (5, [.ref lk_5, .ref th_5, .ref pl_5, .ref gm_5, .int 0, .int 0, .int 0, .int (-1), .int 1, .int 0, .int 0, .int 0])), (lk_5, .inl (cL_5, 10, .inr (.inr (.inr (.inr fl_5))))), (th_5, .inl (cT_5, 12, .inr (.inr (.inr (.inr ft_5))))), (pl_5, .inl (cP_5, 6, .inr (.inr (.inr (.inr fp_5))))), (gm_5, .inr (2, [.int 0, .int 0, .int 0, .int 0, .int 0, .int (-1), .long 0])), (l0_5, .inr (3, [.int 0, .int 0, .int 0, .int 0, .int 0, .int 0, .int 0, .int 0, .int 0, .int 0])), (t0_5, .inr (7, [.int 0, .int 0, .int 0, .int 0, .int 0])), (p0_5, .inr (4, [.int 0, .int 0, .int 0, .int 0])), (st_5, .inr (6, [.ref a1_5, .ref a2_5, .ref a3_5])), (a1_5, .inl (cZ_5, 1024, .inl f1_5)), (a2_5, .inl (cI_5, 1024, .inl f2_5)), (a3_5, .inl (cJ_5, 1024, .inl f3_5)), (mr_10, .inr (9, [.ref ll_10, .ref lt_10, .ref lp_10, .int (-1), .int 0, .int 0, .int 0, .int 0, .int 0, .int 0, .int (-1), .int 0, .int 0, .int 0])), (ll_10, .inr (1, [.int 0, .ref ed, .int 0])), (lt_10, .inr (1, [.int 0, .ref ed, .int 0])), (lp_10, .inr (1, [.int 0, .ref ed, .int 0])), (q11, .inl (cA13, 1, .inr (.inl fo9_115))), (q6, .inr (10, [.int 1, .ref mr_10, .int 1, .long 0]))] H116 := hP
      have hD : va_D A [(q1, .inr (8, [.ref rm_5, .ref tr_5, .ref st_5])), (rm_5, .inr (5, [.ref lk_5, .ref th_5, .ref pl_5, .ref gm_5, .int 0, .int 0, .int 0, .int (-1), .int 1, .int 0, .int 0, .int 0])), (lk_5, .inl (cL_5, 10, .inr (.inr (.inr (.inr fl_5))))), (th_5, .inl (cT_5, 12, .inr (.inr (.inr (.inr ft_5))))), (pl_5, .inl (cP_5, 6, .inr (.inr (.inr (.inr fp_5))))), (gm_5, .inr (2, [.int 0, .int 0, .int 0, .int 0, .int 0, .int (-1), .long 0])), (l0_5, .inr (3, [.int 0, .int 0, .int 0, .int 0, .int 0, .int 0, .int 0, .int 0, .int 0, .int 0])), (t0_5, .inr (7, [.int 0, .int 0, .int 0, .int 0, .int 0])), (p0_5, .inr (4, [.int 0, .int 0, .int 0, .int 0])), (st_5, .inr (6, [.ref a1_5, .ref a2_5, .ref a3_5])), (a1_5, .inl (cZ_5, 1024, .inl f1_5)), (a2_5, .inl (cI_5, 1024, .inl f2_5)), (a3_5, .inl (cJ_5, 1024, .inl f3_5)), (mr_10, .inr (9, [.ref ll_10, .ref lt_10, .ref lp_10, .int (-1), .int 0, .int 0, .int 0, .int 0, .int 0, .int 0, .int (-1), .int 0, .int 0, .int 0])), (ll_10, .inr (1, [.int 0, .ref ed, .int 0])), (lt_10, .inr (1, [.int 0, .ref ed, .int 0])), (lp_10, .inr (1, [.int 0, .ref ed, .int 0])), (q11, .inl (cA13, 1, .inr (.inl fo9_115))), (q6, .inr (10, [.int 1, .ref mr_10, .int 1, .long 0]))] := hD
      refine lv_istore (lv' := [(6, .int 0), (5, .int 1), (4, .int 0), (3, .ref q11), (2, .ref q6), (1, .ref q1), (0, .ref b)]) hx hb dL_law_703 hl (by decide) rfl (fun ls hl => ?_)
      refine lv_aload_n hx hb dL_law_705 rfl (lv_at hl 4 rfl) ?_
      have hPr := (hP).sub (ws' := [(q6, .inr (10, [.int 1, .ref mr_10, .int 1, .long 0]))]) [18] rfl
      have hPc := hP.sub (ws' := []) [] rfl
      have hDc := hD.sub (ws' := []) [] (by decide) rfl
      have hKc := hK.sub (tys' := []) [] rfl
      have hFc := va_free (wc := []) hD hS hA [] rfl
      refine va_calli (va_runV (As := []) (rest := []) ⟨hx, hb, hml, hown, hts⟩ (cz_thrown l dC dI ed H116.size q6 mr_10 1 0) (cwV 0 hts gL_law_X8_thrown rfl rfl rfl (by decide +kernel) ⟨Nat.le_of_ble_eq_true rfl, Nat.le_of_ble_eq_true rfl⟩) ⟨zb_blind, va_recv hK hP (ci := 10) (q0 := 18) rfl rfl, fun U hU hW => ⟨rfl, zb_mk hU hW hPr hPc hKc hDc hN hH hS hFc zx_e⟩⟩ rfl rfl hl.1 rfl (lv_room (Nat.le_of_ble_eq_true rfl)) dL_law_706 ⟨Nat.le_of_ble_eq_true rfl, Nat.le_of_ble_eq_true rfl⟩) hS (fun q _ h => hFc q h) hFc (fun r120 u t H119 locs ht hvm hw hB hz1 hk1 hS => ?_)
      obtain rfl : r120 = 1 := hw
      have hP := zo_K hP hk1
      refine lv_iload hx hb dL_law_709 (lv_at hl 1 rfl) ?_
      refine lv_icmp_eq (tgt := 716) hx hb dL_law_711 (by decide) (fun _ => ?_) (fun h => absurd rfl h)
      refine lv_iload hx hb dL_law_716 (lv_at hl 1 rfl) ?_
      refine lv_if_ne (tgt := 733) hx hb dL_law_718 (by decide) (fun _ => ?_) (fun h => absurd h (by decide))
      refine lv_goto (tgt := 1407) hx hb dL_law_733 (by decide) ?_
      refine lv_iinc (v := 6) (lv' := [(4, .int 6), (6, .int 0), (5, .int 1), (3, .ref q11), (2, .ref q6), (1, .ref q1), (0, .ref b)]) hx hb dL_law_1407 hl (k := 2) rfl (by decide) (by decide) rfl (fun ls hl => ?_)
      refine lv_goto (tgt := 23) hx hb dL_law_1410 (by decide) ?_
      refine lv_iload hx hb dL_law_23 (lv_at hl 0 rfl) ?_
      refine lv_aload_n hx hb dL_law_25 rfl (lv_at hl 6 rfl) ?_
      refine va_slen hx hb hX hbl hbA hS dL_law_26 ?_
      refine zo_i (v := 6) (by decide) ?_
      refine lv_bipush (v := 6) hx hb dL_law_27 (by decide) ?_
      refine lv_isub hx hb dL_law_29 ?_
      refine zo_i (v := 0) (by decide) ?_
      refine lv_icmp_gt (tgt := 1413) hx hb dL_law_30 (by decide) (fun _ => ?_) (fun h => absurd h (by decide))
      refine lv_iconst (v := 1) hx hb dL_law_1413 (by decide) ?_
      refine W.widen (k := 600002) (n := 7302232) (Nat.le_of_ble_eq_true rfl) (Nat.le_of_ble_eq_true rfl) ?_
      refine va_forget (fun q hq => by have h9 := hS.2.2 q hq; rw [hAe] at h9; exact h9) ?_
      exact lw_ret hd0 hx hb hr hlocks dL_law_1414
    · refine zo_i (v := 9) (by decide) ?_
      refine lv_tableIn (off := 696) (tgt := 736) hx hb dL_law_40 (by decide) (by decide) rfl (by decide) ?_
      refine lv_aload_n hx hb dL_law_736 rfl (lv_at hl 3 rfl) ?_
      refine lv_aload_n hx hb dL_law_737 rfl (lv_at hl 4 rfl) ?_
      refine lv_iload hx hb dL_law_738 (lv_at hl 0 rfl) ?_
      refine lv_iconst (v := 1) hx hb dL_law_740 (by decide) ?_
      refine lv_iadd hx hb dL_law_741 ?_
      refine zo_i (v := 1) (by decide) ?_
      refine va_sld hx hb hX hbl hbA hS (by unfold vp_in; decide) dL_law_742 ?_
      refine zo_i (v := xs 1) (by rw [show Int32.toNatClampNeg 1 = 1 from by decide]) ?_
      refine lv_aload_n hx hb dL_law_743 rfl (lv_at hl 1 rfl) ?_
      have hPr := (hP).sub (ws' := [(q1, .inr (8, [.ref rm_5, .ref tr_5, .ref st_5])), (rm_5, .inr (5, [.ref lk_5, .ref th_5, .ref pl_5, .ref gm_5, .int 0, .int 0, .int 0, .int (-1), .int 1, .int 0, .int 0, .int 0]))]) [0, 1] rfl
      have hPc := hP.sub (ws' := [(q11, .inl (cA13, 1, .inr (.inl (fun _ => 0))))]) [18] rfl
      have hDc := hD.sub (ws' := [(q11, .inl (cA13, 1, .inr (.inl (fun _ => 0))))]) [18] (by decide) rfl
      have hKc := hK.sub (tys' := [(cA13, .long)]) [6] rfl
      have hFc := va_free (wc := [(q11, .inl (cA13, 1, .inr (.inl (fun _ => 0))))]) hD hS hA [18] rfl
      refine vx_calli (vx_runSX (As := [.ref q1, .int (xs 1), .ref q11]) (rest := []) ⟨hx, hb, hml, hown, hts⟩ (cz_L_breaks l dC dI ed H12.size q1 rm_5 tr_5 st_5 lk_5 th_5 pl_5 gm_5 (xs 1) q11 cA13 (fun _ => 0) htr) (vx_cwSW 3 hts gL_law_L_breaks rfl rfl rfl (by decide +kernel) ⟨Nat.le_of_ble_eq_true rfl, Nat.le_of_ble_eq_true rfl⟩) ⟨zb_blind, fun U hU hW => ⟨rfl, zb_mk hU hW hPr hPc hKc hDc hN hH hS hFc (zx_cons (zx_o hD 0 [18] rfl rfl (by decide)) (zx_cons (zx_o hD 1 [18] rfl rfl (by decide)) zx_nil))⟩⟩ rfl rfl hl.1 rfl (lv_room (Nat.le_of_ble_eq_true rfl)) dL_law_744 ⟨Nat.le_of_ble_eq_true rfl, Nat.le_of_ble_eq_true rfl⟩) hS (fun q _ h => hFc q h) hFc (fun q _ h => hFc q h) (fun E ce q9 u t H121 locs ht hvm hpx hBX hz1 hk1 hS hce hcv hcl => hpx.elim) (fun r122 u t H121 locs ht hvm hw hB hz1 hk1 hS => ?_)
      obtain rfl : r122 = 1 := hw
      obtain ⟨fo9_123, hP1, hD1, hK1⟩ := hB
      rw [ht] at hP1
      obtain ⟨hP, hD⟩ := va_join (wr := [(q1, .inr (8, [.ref rm_5, .ref tr_5, .ref st_5])), (rm_5, .inr (5, [.ref lk_5, .ref th_5, .ref pl_5, .ref gm_5, .int 0, .int 0, .int 0, .int (-1), .int 1, .int 0, .int 0, .int 0])), (lk_5, .inl (cL_5, 10, .inr (.inr (.inr (.inr fl_5))))), (th_5, .inl (cT_5, 12, .inr (.inr (.inr (.inr ft_5))))), (pl_5, .inl (cP_5, 6, .inr (.inr (.inr (.inr fp_5))))), (gm_5, .inr (2, [.int 0, .int 0, .int 0, .int 0, .int 0, .int (-1), .long 0])), (l0_5, .inr (3, [.int 0, .int 0, .int 0, .int 0, .int 0, .int 0, .int 0, .int 0, .int 0, .int 0])), (t0_5, .inr (7, [.int 0, .int 0, .int 0, .int 0, .int 0])), (p0_5, .inr (4, [.int 0, .int 0, .int 0, .int 0])), (st_5, .inr (6, [.ref a1_5, .ref a2_5, .ref a3_5])), (a1_5, .inl (cZ_5, 1024, .inl f1_5)), (a2_5, .inl (cI_5, 1024, .inl f2_5)), (a3_5, .inl (cJ_5, 1024, .inl f3_5)), (q6, .inr (10, [.int 0, .ref mr_10, .int 1, .long 0])), (mr_10, .inr (9, [.ref ll_10, .ref lt_10, .ref lp_10, .int (-1), .int 0, .int 0, .int 0, .int 0, .int 0, .int 0, .int (-1), .int 0, .int 0, .int 0])), (ll_10, .inr (1, [.int 0, .ref ed, .int 0])), (lt_10, .inr (1, [.int 0, .ref ed, .int 0])), (lp_10, .inr (1, [.int 0, .ref ed, .int 0]))]) (w1 := [(q11, .inl (cA13, 1, .inr (.inl fo9_123)))]) hP hD [18] [0, 1, 2, 3, 4, 5, 6, 7, 8, 9, 10, 11, 12, 13, 14, 15, 16, 17] rfl rfl (by decide) (by decide) hk1 hFc hP1 hD1
      have hP : va_P (dC, dI) vwCl [(q1, .inr (8, [.ref rm_5, .ref tr_5, .ref st_5])), (rm_5, .inr (5, [.ref lk_5, .ref th_5, .ref pl_5, .ref gm_5, .int 0, .int 0, .int 0, .int (-1), .int 1, .int 0, .int 0, .int 0])), (lk_5, .inl (cL_5, 10, .inr (.inr (.inr (.inr fl_5))))), (th_5, .inl (cT_5, 12, .inr (.inr (.inr (.inr ft_5))))), (pl_5, .inl (cP_5, 6, .inr (.inr (.inr (.inr fp_5))))), (gm_5, .inr (2, [.int 0, .int 0, .int 0, .int 0, .int 0, .int (-1), .long 0])), (l0_5, .inr (3, [.int 0, .int 0, .int 0, .int 0, .int 0, .int 0, .int 0, .int 0, .int 0, .int 0])), (t0_5, .inr (7, [.int 0, .int 0, .int 0, .int 0, .int 0])), (p0_5, .inr (4, [.int 0, .int 0, .int 0, .int 0])), (st_5, .inr (6, [.ref a1_5, .ref a2_5, .ref a3_5])), (a1_5, .inl (cZ_5, 1024, .inl f1_5)), (a2_5, .inl (cI_5, 1024, .inl f2_5)), (a3_5, .inl (cJ_5, 1024, .inl f3_5)), (q6, .inr (10, [.int 0, .ref mr_10, .int 1, .long 0])), (mr_10, .inr (9, [.ref ll_10, .ref lt_10, .ref lp_10, .int (-1), .int 0, .int 0, .int 0, .int 0, .int 0, .int 0, .int (-1), .int 0, .int 0, .int 0])), (ll_10, .inr (1, [.int 0, .ref ed, .int 0])), (lt_10, .inr (1, [.int 0, .ref ed, .int 0])), (lp_10, .inr (1, [.int 0, .ref ed, .int 0])), (q11, .inl (cA13, 1, .inr (.inl fo9_123)))] H121 := hP
      have hD : va_D A [(q1, .inr (8, [.ref rm_5, .ref tr_5, .ref st_5])), (rm_5, .inr (5, [.ref lk_5, .ref th_5, .ref pl_5, .ref gm_5, .int 0, .int 0, .int 0, .int (-1), .int 1, .int 0, .int 0, .int 0])), (lk_5, .inl (cL_5, 10, .inr (.inr (.inr (.inr fl_5))))), (th_5, .inl (cT_5, 12, .inr (.inr (.inr (.inr ft_5))))), (pl_5, .inl (cP_5, 6, .inr (.inr (.inr (.inr fp_5))))), (gm_5, .inr (2, [.int 0, .int 0, .int 0, .int 0, .int 0, .int (-1), .long 0])), (l0_5, .inr (3, [.int 0, .int 0, .int 0, .int 0, .int 0, .int 0, .int 0, .int 0, .int 0, .int 0])), (t0_5, .inr (7, [.int 0, .int 0, .int 0, .int 0, .int 0])), (p0_5, .inr (4, [.int 0, .int 0, .int 0, .int 0])), (st_5, .inr (6, [.ref a1_5, .ref a2_5, .ref a3_5])), (a1_5, .inl (cZ_5, 1024, .inl f1_5)), (a2_5, .inl (cI_5, 1024, .inl f2_5)), (a3_5, .inl (cJ_5, 1024, .inl f3_5)), (q6, .inr (10, [.int 0, .ref mr_10, .int 1, .long 0])), (mr_10, .inr (9, [.ref ll_10, .ref lt_10, .ref lp_10, .int (-1), .int 0, .int 0, .int 0, .int 0, .int 0, .int 0, .int (-1), .int 0, .int 0, .int 0])), (ll_10, .inr (1, [.int 0, .ref ed, .int 0])), (lt_10, .inr (1, [.int 0, .ref ed, .int 0])), (lp_10, .inr (1, [.int 0, .ref ed, .int 0])), (q11, .inl (cA13, 1, .inr (.inl fo9_123)))] := hD
      refine lv_istore (lv' := [(5, .int 1), (4, .int 0), (3, .ref q11), (2, .ref q6), (1, .ref q1), (0, .ref b)]) hx hb dL_law_747 hl (by decide) rfl (fun ls hl => ?_)
      refine lv_aload_n hx hb dL_law_749 rfl (lv_at hl 3 rfl) ?_
      refine lv_aload_n hx hb dL_law_750 rfl (lv_at hl 5 rfl) ?_
      refine lv_iload hx hb dL_law_751 (lv_at hl 1 rfl) ?_
      refine lv_iconst (v := 1) hx hb dL_law_753 (by decide) ?_
      refine lv_iadd hx hb dL_law_754 ?_
      refine zo_i (v := 1) (by decide) ?_
      refine va_sld hx hb hX hbl hbA hS (by unfold vp_in; decide) dL_law_755 ?_
      refine zo_i (v := xs 1) (by rw [show Int32.toNatClampNeg 1 = 1 from by decide]) ?_
      have hPr := (hP).sub (ws' := [(mr_10, .inr (9, [.ref ll_10, .ref lt_10, .ref lp_10, .int (-1), .int 0, .int 0, .int 0, .int 0, .int 0, .int 0, .int (-1), .int 0, .int 0, .int 0])), (ll_10, .inr (1, [.int 0, .ref ed, .int 0])), (lt_10, .inr (1, [.int 0, .ref ed, .int 0])), (lp_10, .inr (1, [.int 0, .ref ed, .int 0]))]) [14, 15, 16, 17] rfl
      have hPc := hP.sub (ws' := [(q6, .inr (10, [.int 0, .ref mr_10, .int 1, .long 0]))]) [13] rfl
      have hDc := hD.sub (ws' := [(q6, .inr (10, [.int 0, .ref mr_10, .int 1, .long 0]))]) [13] (by decide) rfl
      have hKc := hK.sub (tys' := []) [] rfl
      have hFc := va_free (wc := [(q6, .inr (10, [.int 0, .ref mr_10, .int 1, .long 0]))]) hD hS hA [13] rfl
      refine va_calli (va_runV (As := [.int (xs 1)]) (rest := []) ⟨hx, hb, hml, hown, hts⟩ (cz_X8_breaks l dC dI ed H121.size q6 mr_10 ll_10 lt_10 lp_10 0 0 (xs 1)) (cwV 1 hts gL_law_X8_breaks rfl rfl rfl (by decide +kernel) ⟨Nat.le_of_ble_eq_true rfl, Nat.le_of_ble_eq_true rfl⟩) ⟨zb_blind, va_recv hK hP (ci := 10) (q0 := 13) rfl rfl, fun U hU hW => ⟨rfl, zb_mk hU hW hPr hPc hKc hDc hN hH hS hFc (zx_cons (zx_o hD 14 [13] rfl rfl (by decide)) (zx_cons (zx_o hD 15 [13] rfl rfl (by decide)) (zx_cons (zx_o hD 16 [13] rfl rfl (by decide)) (zx_cons (zx_o hD 17 [13] rfl rfl (by decide)) zx_nil))))⟩⟩ rfl rfl hl.1 rfl (lv_room (Nat.le_of_ble_eq_true rfl)) dL_law_756 ⟨Nat.le_of_ble_eq_true rfl, Nat.le_of_ble_eq_true rfl⟩) hS (fun q _ h => hFc q h) hFc (fun r125 u t H124 locs ht hvm hw hB hz1 hk1 hS => ?_)
      obtain rfl : r125 = 0 := hw
      obtain ⟨hP1, hD1, hK1⟩ := hB
      rw [ht] at hP1
      obtain ⟨hP, hD⟩ := va_join (wr := [(q1, .inr (8, [.ref rm_5, .ref tr_5, .ref st_5])), (rm_5, .inr (5, [.ref lk_5, .ref th_5, .ref pl_5, .ref gm_5, .int 0, .int 0, .int 0, .int (-1), .int 1, .int 0, .int 0, .int 0])), (lk_5, .inl (cL_5, 10, .inr (.inr (.inr (.inr fl_5))))), (th_5, .inl (cT_5, 12, .inr (.inr (.inr (.inr ft_5))))), (pl_5, .inl (cP_5, 6, .inr (.inr (.inr (.inr fp_5))))), (gm_5, .inr (2, [.int 0, .int 0, .int 0, .int 0, .int 0, .int (-1), .long 0])), (l0_5, .inr (3, [.int 0, .int 0, .int 0, .int 0, .int 0, .int 0, .int 0, .int 0, .int 0, .int 0])), (t0_5, .inr (7, [.int 0, .int 0, .int 0, .int 0, .int 0])), (p0_5, .inr (4, [.int 0, .int 0, .int 0, .int 0])), (st_5, .inr (6, [.ref a1_5, .ref a2_5, .ref a3_5])), (a1_5, .inl (cZ_5, 1024, .inl f1_5)), (a2_5, .inl (cI_5, 1024, .inl f2_5)), (a3_5, .inl (cJ_5, 1024, .inl f3_5)), (mr_10, .inr (9, [.ref ll_10, .ref lt_10, .ref lp_10, .int (-1), .int 0, .int 0, .int 0, .int 0, .int 0, .int 0, .int (-1), .int 0, .int 0, .int 0])), (ll_10, .inr (1, [.int 0, .ref ed, .int 0])), (lt_10, .inr (1, [.int 0, .ref ed, .int 0])), (lp_10, .inr (1, [.int 0, .ref ed, .int 0])), (q11, .inl (cA13, 1, .inr (.inl fo9_123)))]) (w1 := [(q6, .inr (10, [.int 1, .ref mr_10, .int 1, .long 0]))]) hP hD [13] [0, 1, 2, 3, 4, 5, 6, 7, 8, 9, 10, 11, 12, 14, 15, 16, 17, 18] rfl rfl (by decide) (by decide) hk1 hFc hP1 hD1
      have hP : va_P (dC, dI) vwCl [(q1, .inr (8, [.ref rm_5, .ref tr_5, .ref st_5])), (rm_5, .inr (5, [.ref lk_5, .ref th_5, .ref pl_5, .ref gm_5, .int 0, .int 0, .int 0, .int (-1), .int 1, .int 0, .int 0, .int 0])), (lk_5, .inl (cL_5, 10, .inr (.inr (.inr (.inr fl_5))))), (th_5, .inl (cT_5, 12, .inr (.inr (.inr (.inr ft_5))))), (pl_5, .inl (cP_5, 6, .inr (.inr (.inr (.inr fp_5))))), (gm_5, .inr (2, [.int 0, .int 0, .int 0, .int 0, .int 0, .int (-1), .long 0])), (l0_5, .inr (3, [.int 0, .int 0, .int 0, .int 0, .int 0, .int 0, .int 0, .int 0, .int 0, .int 0])), (t0_5, .inr (7, [.int 0, .int 0, .int 0, .int 0, .int 0])), (p0_5, .inr (4, [.int 0, .int 0, .int 0, .int 0])), (st_5, .inr (6, [.ref a1_5, .ref a2_5, .ref a3_5])), (a1_5, .inl (cZ_5, 1024, .inl f1_5)), (a2_5, .inl (cI_5, 1024, .inl f2_5)), (a3_5, .inl (cJ_5, 1024, .inl f3_5)), (mr_10, .inr (9, [.ref ll_10, .ref lt_10, .ref lp_10, .int (-1), .int 0, .int 0, .int 0, .int 0, .int 0, .int 0, .int (-1), .int 0, .int 0, .int 0])), (ll_10, .inr (1, [.int 0, .ref ed, .int 0])), (lt_10, .inr (1, [.int 0, .ref ed, .int 0])), (lp_10, .inr (1, [.int 0, .ref ed, .int 0])), (q11, .inl (cA13, 1, .inr (.inl fo9_123))), (q6, .inr (10, [.int 1, .ref mr_10, .int 1, .long 0]))] H124 := hP
      have hD : va_D A [(q1, .inr (8, [.ref rm_5, .ref tr_5, .ref st_5])), (rm_5, .inr (5, [.ref lk_5, .ref th_5, .ref pl_5, .ref gm_5, .int 0, .int 0, .int 0, .int (-1), .int 1, .int 0, .int 0, .int 0])), (lk_5, .inl (cL_5, 10, .inr (.inr (.inr (.inr fl_5))))), (th_5, .inl (cT_5, 12, .inr (.inr (.inr (.inr ft_5))))), (pl_5, .inl (cP_5, 6, .inr (.inr (.inr (.inr fp_5))))), (gm_5, .inr (2, [.int 0, .int 0, .int 0, .int 0, .int 0, .int (-1), .long 0])), (l0_5, .inr (3, [.int 0, .int 0, .int 0, .int 0, .int 0, .int 0, .int 0, .int 0, .int 0, .int 0])), (t0_5, .inr (7, [.int 0, .int 0, .int 0, .int 0, .int 0])), (p0_5, .inr (4, [.int 0, .int 0, .int 0, .int 0])), (st_5, .inr (6, [.ref a1_5, .ref a2_5, .ref a3_5])), (a1_5, .inl (cZ_5, 1024, .inl f1_5)), (a2_5, .inl (cI_5, 1024, .inl f2_5)), (a3_5, .inl (cJ_5, 1024, .inl f3_5)), (mr_10, .inr (9, [.ref ll_10, .ref lt_10, .ref lp_10, .int (-1), .int 0, .int 0, .int 0, .int 0, .int 0, .int 0, .int (-1), .int 0, .int 0, .int 0])), (ll_10, .inr (1, [.int 0, .ref ed, .int 0])), (lt_10, .inr (1, [.int 0, .ref ed, .int 0])), (lp_10, .inr (1, [.int 0, .ref ed, .int 0])), (q11, .inl (cA13, 1, .inr (.inl fo9_123))), (q6, .inr (10, [.int 1, .ref mr_10, .int 1, .long 0]))] := hD
      refine lv_istore (lv' := [(6, .int 0), (5, .int 1), (4, .int 0), (3, .ref q11), (2, .ref q6), (1, .ref q1), (0, .ref b)]) hx hb dL_law_759 hl (by decide) rfl (fun ls hl => ?_)
      refine lv_aload_n hx hb dL_law_761 rfl (lv_at hl 4 rfl) ?_
      have hPr := (hP).sub (ws' := [(q6, .inr (10, [.int 1, .ref mr_10, .int 1, .long 0]))]) [18] rfl
      have hPc := hP.sub (ws' := []) [] rfl
      have hDc := hD.sub (ws' := []) [] (by decide) rfl
      have hKc := hK.sub (tys' := []) [] rfl
      have hFc := va_free (wc := []) hD hS hA [] rfl
      refine va_calli (va_runV (As := []) (rest := []) ⟨hx, hb, hml, hown, hts⟩ (cz_thrown l dC dI ed H124.size q6 mr_10 1 0) (cwV 0 hts gL_law_X8_thrown rfl rfl rfl (by decide +kernel) ⟨Nat.le_of_ble_eq_true rfl, Nat.le_of_ble_eq_true rfl⟩) ⟨zb_blind, va_recv hK hP (ci := 10) (q0 := 18) rfl rfl, fun U hU hW => ⟨rfl, zb_mk hU hW hPr hPc hKc hDc hN hH hS hFc zx_e⟩⟩ rfl rfl hl.1 rfl (lv_room (Nat.le_of_ble_eq_true rfl)) dL_law_762 ⟨Nat.le_of_ble_eq_true rfl, Nat.le_of_ble_eq_true rfl⟩) hS (fun q _ h => hFc q h) hFc (fun r128 u t H127 locs ht hvm hw hB hz1 hk1 hS => ?_)
      obtain rfl : r128 = 1 := hw
      have hP := zo_K hP hk1
      refine lv_iload hx hb dL_law_765 (lv_at hl 1 rfl) ?_
      refine lv_icmp_eq (tgt := 772) hx hb dL_law_767 (by decide) (fun _ => ?_) (fun h => absurd rfl h)
      refine lv_iload hx hb dL_law_772 (lv_at hl 1 rfl) ?_
      refine lv_if_ne (tgt := 789) hx hb dL_law_774 (by decide) (fun _ => ?_) (fun h => absurd h (by decide))
      refine lv_goto (tgt := 1407) hx hb dL_law_789 (by decide) ?_
      refine lv_iinc (v := 6) (lv' := [(4, .int 6), (6, .int 0), (5, .int 1), (3, .ref q11), (2, .ref q6), (1, .ref q1), (0, .ref b)]) hx hb dL_law_1407 hl (k := 2) rfl (by decide) (by decide) rfl (fun ls hl => ?_)
      refine lv_goto (tgt := 23) hx hb dL_law_1410 (by decide) ?_
      refine lv_iload hx hb dL_law_23 (lv_at hl 0 rfl) ?_
      refine lv_aload_n hx hb dL_law_25 rfl (lv_at hl 6 rfl) ?_
      refine va_slen hx hb hX hbl hbA hS dL_law_26 ?_
      refine zo_i (v := 6) (by decide) ?_
      refine lv_bipush (v := 6) hx hb dL_law_27 (by decide) ?_
      refine lv_isub hx hb dL_law_29 ?_
      refine zo_i (v := 0) (by decide) ?_
      refine lv_icmp_gt (tgt := 1413) hx hb dL_law_30 (by decide) (fun _ => ?_) (fun h => absurd h (by decide))
      refine lv_iconst (v := 1) hx hb dL_law_1413 (by decide) ?_
      refine W.widen (k := 600002) (n := 7302232) (Nat.le_of_ble_eq_true rfl) (Nat.le_of_ble_eq_true rfl) ?_
      refine va_forget (fun q hq => by have h9 := hS.2.2 q hq; rw [hAe] at h9; exact h9) ?_
      exact lw_ret hd0 hx hb hr hlocks dL_law_1414
    · refine zo_i (v := 10) (by decide) ?_
      refine lv_tableIn (off := 752) (tgt := 792) hx hb dL_law_40 (by decide) (by decide) rfl (by decide) ?_
      refine lv_aload_n hx hb dL_law_792 rfl (lv_at hl 3 rfl) ?_
      refine lv_aload_n hx hb dL_law_793 rfl (lv_at hl 4 rfl) ?_
      refine lv_iload hx hb dL_law_794 (lv_at hl 0 rfl) ?_
      refine lv_iconst (v := 1) hx hb dL_law_796 (by decide) ?_
      refine lv_iadd hx hb dL_law_797 ?_
      refine zo_i (v := 1) (by decide) ?_
      refine va_sld hx hb hX hbl hbA hS (by unfold vp_in; decide) dL_law_798 ?_
      refine zo_i (v := xs 1) (by rw [show Int32.toNatClampNeg 1 = 1 from by decide]) ?_
      refine lv_aload_n hx hb dL_law_799 rfl (lv_at hl 1 rfl) ?_
      have hPr := (hP).sub (ws' := [(q1, .inr (8, [.ref rm_5, .ref tr_5, .ref st_5])), (rm_5, .inr (5, [.ref lk_5, .ref th_5, .ref pl_5, .ref gm_5, .int 0, .int 0, .int 0, .int (-1), .int 1, .int 0, .int 0, .int 0]))]) [0, 1] rfl
      have hPc := hP.sub (ws' := [(q11, .inl (cA13, 1, .inr (.inl (fun _ => 0))))]) [18] rfl
      have hDc := hD.sub (ws' := [(q11, .inl (cA13, 1, .inr (.inl (fun _ => 0))))]) [18] (by decide) rfl
      have hKc := hK.sub (tys' := [(cA13, .long)]) [6] rfl
      have hFc := va_free (wc := [(q11, .inl (cA13, 1, .inr (.inl (fun _ => 0))))]) hD hS hA [18] rfl
      refine vx_calli (vx_runSX (As := [.ref q1, .int (xs 1), .ref q11]) (rest := []) ⟨hx, hb, hml, hown, hts⟩ (cz_L_repair l dC dI ed H12.size q1 rm_5 tr_5 st_5 lk_5 th_5 pl_5 gm_5 (xs 1) q11 cA13 (fun _ => 0) htr) (vx_cwSW 3 hts gL_law_L_repair rfl rfl rfl (by decide +kernel) ⟨Nat.le_of_ble_eq_true rfl, Nat.le_of_ble_eq_true rfl⟩) ⟨zb_blind, fun U hU hW => ⟨rfl, zb_mk hU hW hPr hPc hKc hDc hN hH hS hFc (zx_cons (zx_o hD 0 [18] rfl rfl (by decide)) (zx_cons (zx_o hD 1 [18] rfl rfl (by decide)) zx_nil))⟩⟩ rfl rfl hl.1 rfl (lv_room (Nat.le_of_ble_eq_true rfl)) dL_law_800 ⟨Nat.le_of_ble_eq_true rfl, Nat.le_of_ble_eq_true rfl⟩) hS (fun q _ h => hFc q h) hFc (fun q _ h => hFc q h) (fun E ce q9 u t H129 locs ht hvm hpx hBX hz1 hk1 hS hce hcv hcl => hpx.elim) (fun r130 u t H129 locs ht hvm hw hB hz1 hk1 hS => ?_)
      obtain rfl : r130 = 1 := hw
      obtain ⟨fo9_131, hP1, hD1, hK1⟩ := hB
      rw [ht] at hP1
      obtain ⟨hP, hD⟩ := va_join (wr := [(q1, .inr (8, [.ref rm_5, .ref tr_5, .ref st_5])), (rm_5, .inr (5, [.ref lk_5, .ref th_5, .ref pl_5, .ref gm_5, .int 0, .int 0, .int 0, .int (-1), .int 1, .int 0, .int 0, .int 0])), (lk_5, .inl (cL_5, 10, .inr (.inr (.inr (.inr fl_5))))), (th_5, .inl (cT_5, 12, .inr (.inr (.inr (.inr ft_5))))), (pl_5, .inl (cP_5, 6, .inr (.inr (.inr (.inr fp_5))))), (gm_5, .inr (2, [.int 0, .int 0, .int 0, .int 0, .int 0, .int (-1), .long 0])), (l0_5, .inr (3, [.int 0, .int 0, .int 0, .int 0, .int 0, .int 0, .int 0, .int 0, .int 0, .int 0])), (t0_5, .inr (7, [.int 0, .int 0, .int 0, .int 0, .int 0])), (p0_5, .inr (4, [.int 0, .int 0, .int 0, .int 0])), (st_5, .inr (6, [.ref a1_5, .ref a2_5, .ref a3_5])), (a1_5, .inl (cZ_5, 1024, .inl f1_5)), (a2_5, .inl (cI_5, 1024, .inl f2_5)), (a3_5, .inl (cJ_5, 1024, .inl f3_5)), (q6, .inr (10, [.int 0, .ref mr_10, .int 1, .long 0])), (mr_10, .inr (9, [.ref ll_10, .ref lt_10, .ref lp_10, .int (-1), .int 0, .int 0, .int 0, .int 0, .int 0, .int 0, .int (-1), .int 0, .int 0, .int 0])), (ll_10, .inr (1, [.int 0, .ref ed, .int 0])), (lt_10, .inr (1, [.int 0, .ref ed, .int 0])), (lp_10, .inr (1, [.int 0, .ref ed, .int 0]))]) (w1 := [(q11, .inl (cA13, 1, .inr (.inl fo9_131)))]) hP hD [18] [0, 1, 2, 3, 4, 5, 6, 7, 8, 9, 10, 11, 12, 13, 14, 15, 16, 17] rfl rfl (by decide) (by decide) hk1 hFc hP1 hD1
      have hP : va_P (dC, dI) vwCl [(q1, .inr (8, [.ref rm_5, .ref tr_5, .ref st_5])), (rm_5, .inr (5, [.ref lk_5, .ref th_5, .ref pl_5, .ref gm_5, .int 0, .int 0, .int 0, .int (-1), .int 1, .int 0, .int 0, .int 0])), (lk_5, .inl (cL_5, 10, .inr (.inr (.inr (.inr fl_5))))), (th_5, .inl (cT_5, 12, .inr (.inr (.inr (.inr ft_5))))), (pl_5, .inl (cP_5, 6, .inr (.inr (.inr (.inr fp_5))))), (gm_5, .inr (2, [.int 0, .int 0, .int 0, .int 0, .int 0, .int (-1), .long 0])), (l0_5, .inr (3, [.int 0, .int 0, .int 0, .int 0, .int 0, .int 0, .int 0, .int 0, .int 0, .int 0])), (t0_5, .inr (7, [.int 0, .int 0, .int 0, .int 0, .int 0])), (p0_5, .inr (4, [.int 0, .int 0, .int 0, .int 0])), (st_5, .inr (6, [.ref a1_5, .ref a2_5, .ref a3_5])), (a1_5, .inl (cZ_5, 1024, .inl f1_5)), (a2_5, .inl (cI_5, 1024, .inl f2_5)), (a3_5, .inl (cJ_5, 1024, .inl f3_5)), (q6, .inr (10, [.int 0, .ref mr_10, .int 1, .long 0])), (mr_10, .inr (9, [.ref ll_10, .ref lt_10, .ref lp_10, .int (-1), .int 0, .int 0, .int 0, .int 0, .int 0, .int 0, .int (-1), .int 0, .int 0, .int 0])), (ll_10, .inr (1, [.int 0, .ref ed, .int 0])), (lt_10, .inr (1, [.int 0, .ref ed, .int 0])), (lp_10, .inr (1, [.int 0, .ref ed, .int 0])), (q11, .inl (cA13, 1, .inr (.inl fo9_131)))] H129 := hP
      have hD : va_D A [(q1, .inr (8, [.ref rm_5, .ref tr_5, .ref st_5])), (rm_5, .inr (5, [.ref lk_5, .ref th_5, .ref pl_5, .ref gm_5, .int 0, .int 0, .int 0, .int (-1), .int 1, .int 0, .int 0, .int 0])), (lk_5, .inl (cL_5, 10, .inr (.inr (.inr (.inr fl_5))))), (th_5, .inl (cT_5, 12, .inr (.inr (.inr (.inr ft_5))))), (pl_5, .inl (cP_5, 6, .inr (.inr (.inr (.inr fp_5))))), (gm_5, .inr (2, [.int 0, .int 0, .int 0, .int 0, .int 0, .int (-1), .long 0])), (l0_5, .inr (3, [.int 0, .int 0, .int 0, .int 0, .int 0, .int 0, .int 0, .int 0, .int 0, .int 0])), (t0_5, .inr (7, [.int 0, .int 0, .int 0, .int 0, .int 0])), (p0_5, .inr (4, [.int 0, .int 0, .int 0, .int 0])), (st_5, .inr (6, [.ref a1_5, .ref a2_5, .ref a3_5])), (a1_5, .inl (cZ_5, 1024, .inl f1_5)), (a2_5, .inl (cI_5, 1024, .inl f2_5)), (a3_5, .inl (cJ_5, 1024, .inl f3_5)), (q6, .inr (10, [.int 0, .ref mr_10, .int 1, .long 0])), (mr_10, .inr (9, [.ref ll_10, .ref lt_10, .ref lp_10, .int (-1), .int 0, .int 0, .int 0, .int 0, .int 0, .int 0, .int (-1), .int 0, .int 0, .int 0])), (ll_10, .inr (1, [.int 0, .ref ed, .int 0])), (lt_10, .inr (1, [.int 0, .ref ed, .int 0])), (lp_10, .inr (1, [.int 0, .ref ed, .int 0])), (q11, .inl (cA13, 1, .inr (.inl fo9_131)))] := hD
      refine lv_istore (lv' := [(5, .int 1), (4, .int 0), (3, .ref q11), (2, .ref q6), (1, .ref q1), (0, .ref b)]) hx hb dL_law_803 hl (by decide) rfl (fun ls hl => ?_)
      refine lv_aload_n hx hb dL_law_805 rfl (lv_at hl 3 rfl) ?_
      refine lv_aload_n hx hb dL_law_806 rfl (lv_at hl 5 rfl) ?_
      refine lv_iload hx hb dL_law_807 (lv_at hl 1 rfl) ?_
      refine lv_iconst (v := 1) hx hb dL_law_809 (by decide) ?_
      refine lv_iadd hx hb dL_law_810 ?_
      refine zo_i (v := 1) (by decide) ?_
      refine va_sld hx hb hX hbl hbA hS (by unfold vp_in; decide) dL_law_811 ?_
      refine zo_i (v := xs 1) (by rw [show Int32.toNatClampNeg 1 = 1 from by decide]) ?_
      have hPr := (hP).sub (ws' := [(mr_10, .inr (9, [.ref ll_10, .ref lt_10, .ref lp_10, .int (-1), .int 0, .int 0, .int 0, .int 0, .int 0, .int 0, .int (-1), .int 0, .int 0, .int 0])), (ll_10, .inr (1, [.int 0, .ref ed, .int 0])), (lt_10, .inr (1, [.int 0, .ref ed, .int 0])), (lp_10, .inr (1, [.int 0, .ref ed, .int 0]))]) [14, 15, 16, 17] rfl
      have hPc := hP.sub (ws' := [(q6, .inr (10, [.int 0, .ref mr_10, .int 1, .long 0]))]) [13] rfl
      have hDc := hD.sub (ws' := [(q6, .inr (10, [.int 0, .ref mr_10, .int 1, .long 0]))]) [13] (by decide) rfl
      have hKc := hK.sub (tys' := []) [] rfl
      have hFc := va_free (wc := [(q6, .inr (10, [.int 0, .ref mr_10, .int 1, .long 0]))]) hD hS hA [13] rfl
      refine va_calli (va_runV (As := [.int (xs 1)]) (rest := []) ⟨hx, hb, hml, hown, hts⟩ (cz_X8_repair l dC dI ed H129.size q6 mr_10 ll_10 lt_10 lp_10 0 0 (xs 1)) (cwV 1 hts gL_law_X8_repair rfl rfl rfl (by decide +kernel) ⟨Nat.le_of_ble_eq_true rfl, Nat.le_of_ble_eq_true rfl⟩) ⟨zb_blind, va_recv hK hP (ci := 10) (q0 := 13) rfl rfl, fun U hU hW => ⟨rfl, zb_mk hU hW hPr hPc hKc hDc hN hH hS hFc (zx_cons (zx_o hD 14 [13] rfl rfl (by decide)) (zx_cons (zx_o hD 15 [13] rfl rfl (by decide)) (zx_cons (zx_o hD 16 [13] rfl rfl (by decide)) (zx_cons (zx_o hD 17 [13] rfl rfl (by decide)) zx_nil))))⟩⟩ rfl rfl hl.1 rfl (lv_room (Nat.le_of_ble_eq_true rfl)) dL_law_812 ⟨Nat.le_of_ble_eq_true rfl, Nat.le_of_ble_eq_true rfl⟩) hS (fun q _ h => hFc q h) hFc (fun r133 u t H132 locs ht hvm hw hB hz1 hk1 hS => ?_)
      obtain rfl : r133 = 0 := hw
      obtain ⟨hP1, hD1, hK1⟩ := hB
      rw [ht] at hP1
      obtain ⟨hP, hD⟩ := va_join (wr := [(q1, .inr (8, [.ref rm_5, .ref tr_5, .ref st_5])), (rm_5, .inr (5, [.ref lk_5, .ref th_5, .ref pl_5, .ref gm_5, .int 0, .int 0, .int 0, .int (-1), .int 1, .int 0, .int 0, .int 0])), (lk_5, .inl (cL_5, 10, .inr (.inr (.inr (.inr fl_5))))), (th_5, .inl (cT_5, 12, .inr (.inr (.inr (.inr ft_5))))), (pl_5, .inl (cP_5, 6, .inr (.inr (.inr (.inr fp_5))))), (gm_5, .inr (2, [.int 0, .int 0, .int 0, .int 0, .int 0, .int (-1), .long 0])), (l0_5, .inr (3, [.int 0, .int 0, .int 0, .int 0, .int 0, .int 0, .int 0, .int 0, .int 0, .int 0])), (t0_5, .inr (7, [.int 0, .int 0, .int 0, .int 0, .int 0])), (p0_5, .inr (4, [.int 0, .int 0, .int 0, .int 0])), (st_5, .inr (6, [.ref a1_5, .ref a2_5, .ref a3_5])), (a1_5, .inl (cZ_5, 1024, .inl f1_5)), (a2_5, .inl (cI_5, 1024, .inl f2_5)), (a3_5, .inl (cJ_5, 1024, .inl f3_5)), (mr_10, .inr (9, [.ref ll_10, .ref lt_10, .ref lp_10, .int (-1), .int 0, .int 0, .int 0, .int 0, .int 0, .int 0, .int (-1), .int 0, .int 0, .int 0])), (ll_10, .inr (1, [.int 0, .ref ed, .int 0])), (lt_10, .inr (1, [.int 0, .ref ed, .int 0])), (lp_10, .inr (1, [.int 0, .ref ed, .int 0])), (q11, .inl (cA13, 1, .inr (.inl fo9_131)))]) (w1 := [(q6, .inr (10, [.int 1, .ref mr_10, .int 1, .long 0]))]) hP hD [13] [0, 1, 2, 3, 4, 5, 6, 7, 8, 9, 10, 11, 12, 14, 15, 16, 17, 18] rfl rfl (by decide) (by decide) hk1 hFc hP1 hD1
      have hP : va_P (dC, dI) vwCl [(q1, .inr (8, [.ref rm_5, .ref tr_5, .ref st_5])), (rm_5, .inr (5, [.ref lk_5, .ref th_5, .ref pl_5, .ref gm_5, .int 0, .int 0, .int 0, .int (-1), .int 1, .int 0, .int 0, .int 0])), (lk_5, .inl (cL_5, 10, .inr (.inr (.inr (.inr fl_5))))), (th_5, .inl (cT_5, 12, .inr (.inr (.inr (.inr ft_5))))), (pl_5, .inl (cP_5, 6, .inr (.inr (.inr (.inr fp_5))))), (gm_5, .inr (2, [.int 0, .int 0, .int 0, .int 0, .int 0, .int (-1), .long 0])), (l0_5, .inr (3, [.int 0, .int 0, .int 0, .int 0, .int 0, .int 0, .int 0, .int 0, .int 0, .int 0])), (t0_5, .inr (7, [.int 0, .int 0, .int 0, .int 0, .int 0])), (p0_5, .inr (4, [.int 0, .int 0, .int 0, .int 0])), (st_5, .inr (6, [.ref a1_5, .ref a2_5, .ref a3_5])), (a1_5, .inl (cZ_5, 1024, .inl f1_5)), (a2_5, .inl (cI_5, 1024, .inl f2_5)), (a3_5, .inl (cJ_5, 1024, .inl f3_5)), (mr_10, .inr (9, [.ref ll_10, .ref lt_10, .ref lp_10, .int (-1), .int 0, .int 0, .int 0, .int 0, .int 0, .int 0, .int (-1), .int 0, .int 0, .int 0])), (ll_10, .inr (1, [.int 0, .ref ed, .int 0])), (lt_10, .inr (1, [.int 0, .ref ed, .int 0])), (lp_10, .inr (1, [.int 0, .ref ed, .int 0])), (q11, .inl (cA13, 1, .inr (.inl fo9_131))), (q6, .inr (10, [.int 1, .ref mr_10, .int 1, .long 0]))] H132 := hP
      have hD : va_D A [(q1, .inr (8, [.ref rm_5, .ref tr_5, .ref st_5])), (rm_5, .inr (5, [.ref lk_5, .ref th_5, .ref pl_5, .ref gm_5, .int 0, .int 0, .int 0, .int (-1), .int 1, .int 0, .int 0, .int 0])), (lk_5, .inl (cL_5, 10, .inr (.inr (.inr (.inr fl_5))))), (th_5, .inl (cT_5, 12, .inr (.inr (.inr (.inr ft_5))))), (pl_5, .inl (cP_5, 6, .inr (.inr (.inr (.inr fp_5))))), (gm_5, .inr (2, [.int 0, .int 0, .int 0, .int 0, .int 0, .int (-1), .long 0])), (l0_5, .inr (3, [.int 0, .int 0, .int 0, .int 0, .int 0, .int 0, .int 0, .int 0, .int 0, .int 0])), (t0_5, .inr (7, [.int 0, .int 0, .int 0, .int 0, .int 0])), (p0_5, .inr (4, [.int 0, .int 0, .int 0, .int 0])), (st_5, .inr (6, [.ref a1_5, .ref a2_5, .ref a3_5])), (a1_5, .inl (cZ_5, 1024, .inl f1_5)), (a2_5, .inl (cI_5, 1024, .inl f2_5)), (a3_5, .inl (cJ_5, 1024, .inl f3_5)), (mr_10, .inr (9, [.ref ll_10, .ref lt_10, .ref lp_10, .int (-1), .int 0, .int 0, .int 0, .int 0, .int 0, .int 0, .int (-1), .int 0, .int 0, .int 0])), (ll_10, .inr (1, [.int 0, .ref ed, .int 0])), (lt_10, .inr (1, [.int 0, .ref ed, .int 0])), (lp_10, .inr (1, [.int 0, .ref ed, .int 0])), (q11, .inl (cA13, 1, .inr (.inl fo9_131))), (q6, .inr (10, [.int 1, .ref mr_10, .int 1, .long 0]))] := hD
      refine lv_istore (lv' := [(6, .int 0), (5, .int 1), (4, .int 0), (3, .ref q11), (2, .ref q6), (1, .ref q1), (0, .ref b)]) hx hb dL_law_815 hl (by decide) rfl (fun ls hl => ?_)
      refine lv_aload_n hx hb dL_law_817 rfl (lv_at hl 4 rfl) ?_
      have hPr := (hP).sub (ws' := [(q6, .inr (10, [.int 1, .ref mr_10, .int 1, .long 0]))]) [18] rfl
      have hPc := hP.sub (ws' := []) [] rfl
      have hDc := hD.sub (ws' := []) [] (by decide) rfl
      have hKc := hK.sub (tys' := []) [] rfl
      have hFc := va_free (wc := []) hD hS hA [] rfl
      refine va_calli (va_runV (As := []) (rest := []) ⟨hx, hb, hml, hown, hts⟩ (cz_thrown l dC dI ed H132.size q6 mr_10 1 0) (cwV 0 hts gL_law_X8_thrown rfl rfl rfl (by decide +kernel) ⟨Nat.le_of_ble_eq_true rfl, Nat.le_of_ble_eq_true rfl⟩) ⟨zb_blind, va_recv hK hP (ci := 10) (q0 := 18) rfl rfl, fun U hU hW => ⟨rfl, zb_mk hU hW hPr hPc hKc hDc hN hH hS hFc zx_e⟩⟩ rfl rfl hl.1 rfl (lv_room (Nat.le_of_ble_eq_true rfl)) dL_law_818 ⟨Nat.le_of_ble_eq_true rfl, Nat.le_of_ble_eq_true rfl⟩) hS (fun q _ h => hFc q h) hFc (fun r136 u t H135 locs ht hvm hw hB hz1 hk1 hS => ?_)
      obtain rfl : r136 = 1 := hw
      have hP := zo_K hP hk1
      refine lv_iload hx hb dL_law_821 (lv_at hl 1 rfl) ?_
      refine lv_icmp_eq (tgt := 828) hx hb dL_law_823 (by decide) (fun _ => ?_) (fun h => absurd rfl h)
      refine lv_iload hx hb dL_law_828 (lv_at hl 1 rfl) ?_
      refine lv_if_ne (tgt := 845) hx hb dL_law_830 (by decide) (fun _ => ?_) (fun h => absurd h (by decide))
      refine lv_goto (tgt := 1407) hx hb dL_law_845 (by decide) ?_
      refine lv_iinc (v := 6) (lv' := [(4, .int 6), (6, .int 0), (5, .int 1), (3, .ref q11), (2, .ref q6), (1, .ref q1), (0, .ref b)]) hx hb dL_law_1407 hl (k := 2) rfl (by decide) (by decide) rfl (fun ls hl => ?_)
      refine lv_goto (tgt := 23) hx hb dL_law_1410 (by decide) ?_
      refine lv_iload hx hb dL_law_23 (lv_at hl 0 rfl) ?_
      refine lv_aload_n hx hb dL_law_25 rfl (lv_at hl 6 rfl) ?_
      refine va_slen hx hb hX hbl hbA hS dL_law_26 ?_
      refine zo_i (v := 6) (by decide) ?_
      refine lv_bipush (v := 6) hx hb dL_law_27 (by decide) ?_
      refine lv_isub hx hb dL_law_29 ?_
      refine zo_i (v := 0) (by decide) ?_
      refine lv_icmp_gt (tgt := 1413) hx hb dL_law_30 (by decide) (fun _ => ?_) (fun h => absurd h (by decide))
      refine lv_iconst (v := 1) hx hb dL_law_1413 (by decide) ?_
      refine W.widen (k := 600002) (n := 7302232) (Nat.le_of_ble_eq_true rfl) (Nat.le_of_ble_eq_true rfl) ?_
      refine va_forget (fun q hq => by have h9 := hS.2.2 q hq; rw [hAe] at h9; exact h9) ?_
      exact lw_ret hd0 hx hb hr hlocks dL_law_1414
    · refine zo_i (v := 11) (by decide) ?_
      refine lv_tableIn (off := 808) (tgt := 848) hx hb dL_law_40 (by decide) (by decide) rfl (by decide) ?_
      refine lv_aload_n hx hb dL_law_848 rfl (lv_at hl 3 rfl) ?_
      refine lv_aload_n hx hb dL_law_849 rfl (lv_at hl 4 rfl) ?_
      refine lv_iload hx hb dL_law_850 (lv_at hl 0 rfl) ?_
      refine lv_iconst (v := 1) hx hb dL_law_852 (by decide) ?_
      refine lv_iadd hx hb dL_law_853 ?_
      refine zo_i (v := 1) (by decide) ?_
      refine va_sld hx hb hX hbl hbA hS (by unfold vp_in; decide) dL_law_854 ?_
      refine zo_i (v := xs 1) (by rw [show Int32.toNatClampNeg 1 = 1 from by decide]) ?_
      refine lv_if_eq (tgt := 862) hx hb dL_law_855 (by decide) (fun c137 => ?_) (fun c137 => ?_)
      · skip
        refine lv_iconst (v := 0) hx hb dL_law_862 (by decide) ?_
        have hPr := (hP).sub (ws' := [(q1, .inr (8, [.ref rm_5, .ref tr_5, .ref st_5])), (gm_5, .inr (2, [.int 0, .int 0, .int 0, .int 0, .int 0, .int (-1), .long 0]))]) [0, 5] rfl
        have hPc := hP.sub (ws' := [(rm_5, .inr (5, [.ref lk_5, .ref th_5, .ref pl_5, .ref gm_5, .int 0, .int 0, .int 0, .int (-1), .int 1, .int 0, .int 0, .int 0]))]) [1] rfl
        have hDc := hD.sub (ws' := [(rm_5, .inr (5, [.ref lk_5, .ref th_5, .ref pl_5, .ref gm_5, .int 0, .int 0, .int 0, .int (-1), .int 1, .int 0, .int 0, .int 0]))]) [1] (by decide) rfl
        have hKc := hK.sub (tys' := []) [] rfl
        have hFc := va_free (wc := [(rm_5, .inr (5, [.ref lk_5, .ref th_5, .ref pl_5, .ref gm_5, .int 0, .int 0, .int 0, .int (-1), .int 1, .int 0, .int 0, .int 0]))]) hD hS hA [1] rfl
        refine va_calli (va_runV (As := [.int 0]) (rest := []) ⟨hx, hb, hml, hown, hts⟩ (cz_X6_power_0 l dC dI ed H12.size q1 rm_5 tr_5 st_5 lk_5 th_5 pl_5 gm_5) (cwV 1 hts gL_law_X6_power rfl rfl rfl (by decide +kernel) ⟨Nat.le_of_ble_eq_true rfl, Nat.le_of_ble_eq_true rfl⟩) ⟨zb_blind, va_recv hK hP (ci := 8) (q0 := 0) rfl rfl, fun U hU hW => ⟨rfl, zb_mk hU hW hPr hPc hKc hDc hN hH hS hFc (zx_cons (zx_o hD 0 [1] rfl rfl (by decide)) (zx_cons (zx_o hD 5 [1] rfl rfl (by decide)) zx_nil))⟩⟩ rfl rfl hl.1 rfl (lv_room (Nat.le_of_ble_eq_true rfl)) dL_law_863 ⟨Nat.le_of_ble_eq_true rfl, Nat.le_of_ble_eq_true rfl⟩) hS (fun q _ h => hFc q h) hFc (fun r139 u t H138 locs ht hvm hw hB hz1 hk1 hS => ?_)
        obtain rfl : r139 = 0 := hw
        obtain ⟨hP1, hD1, hK1⟩ := hB
        rw [ht] at hP1
        obtain ⟨hP, hD⟩ := va_join (wr := [(q1, .inr (8, [.ref rm_5, .ref tr_5, .ref st_5])), (lk_5, .inl (cL_5, 10, .inr (.inr (.inr (.inr fl_5))))), (th_5, .inl (cT_5, 12, .inr (.inr (.inr (.inr ft_5))))), (pl_5, .inl (cP_5, 6, .inr (.inr (.inr (.inr fp_5))))), (gm_5, .inr (2, [.int 0, .int 0, .int 0, .int 0, .int 0, .int (-1), .long 0])), (l0_5, .inr (3, [.int 0, .int 0, .int 0, .int 0, .int 0, .int 0, .int 0, .int 0, .int 0, .int 0])), (t0_5, .inr (7, [.int 0, .int 0, .int 0, .int 0, .int 0])), (p0_5, .inr (4, [.int 0, .int 0, .int 0, .int 0])), (st_5, .inr (6, [.ref a1_5, .ref a2_5, .ref a3_5])), (a1_5, .inl (cZ_5, 1024, .inl f1_5)), (a2_5, .inl (cI_5, 1024, .inl f2_5)), (a3_5, .inl (cJ_5, 1024, .inl f3_5)), (q6, .inr (10, [.int 0, .ref mr_10, .int 1, .long 0])), (mr_10, .inr (9, [.ref ll_10, .ref lt_10, .ref lp_10, .int (-1), .int 0, .int 0, .int 0, .int 0, .int 0, .int 0, .int (-1), .int 0, .int 0, .int 0])), (ll_10, .inr (1, [.int 0, .ref ed, .int 0])), (lt_10, .inr (1, [.int 0, .ref ed, .int 0])), (lp_10, .inr (1, [.int 0, .ref ed, .int 0])), (q11, .inl (cA13, 1, .inr (.inl (fun _ => 0))))]) (w1 := []) hP hD [1] [0, 2, 3, 4, 5, 6, 7, 8, 9, 10, 11, 12, 13, 14, 15, 16, 17, 18] rfl rfl (by decide) (by decide) hk1 hFc hP1 hD1
        have hP : va_P (dC, dI) vwCl [(q1, .inr (8, [.ref rm_5, .ref tr_5, .ref st_5])), (lk_5, .inl (cL_5, 10, .inr (.inr (.inr (.inr fl_5))))), (th_5, .inl (cT_5, 12, .inr (.inr (.inr (.inr ft_5))))), (pl_5, .inl (cP_5, 6, .inr (.inr (.inr (.inr fp_5))))), (gm_5, .inr (2, [.int 0, .int 0, .int 0, .int 0, .int 0, .int (-1), .long 0])), (l0_5, .inr (3, [.int 0, .int 0, .int 0, .int 0, .int 0, .int 0, .int 0, .int 0, .int 0, .int 0])), (t0_5, .inr (7, [.int 0, .int 0, .int 0, .int 0, .int 0])), (p0_5, .inr (4, [.int 0, .int 0, .int 0, .int 0])), (st_5, .inr (6, [.ref a1_5, .ref a2_5, .ref a3_5])), (a1_5, .inl (cZ_5, 1024, .inl f1_5)), (a2_5, .inl (cI_5, 1024, .inl f2_5)), (a3_5, .inl (cJ_5, 1024, .inl f3_5)), (q6, .inr (10, [.int 0, .ref mr_10, .int 1, .long 0])), (mr_10, .inr (9, [.ref ll_10, .ref lt_10, .ref lp_10, .int (-1), .int 0, .int 0, .int 0, .int 0, .int 0, .int 0, .int (-1), .int 0, .int 0, .int 0])), (ll_10, .inr (1, [.int 0, .ref ed, .int 0])), (lt_10, .inr (1, [.int 0, .ref ed, .int 0])), (lp_10, .inr (1, [.int 0, .ref ed, .int 0])), (q11, .inl (cA13, 1, .inr (.inl (fun _ => 0))))] H138 := hP
        have hD : va_D A [(q1, .inr (8, [.ref rm_5, .ref tr_5, .ref st_5])), (lk_5, .inl (cL_5, 10, .inr (.inr (.inr (.inr fl_5))))), (th_5, .inl (cT_5, 12, .inr (.inr (.inr (.inr ft_5))))), (pl_5, .inl (cP_5, 6, .inr (.inr (.inr (.inr fp_5))))), (gm_5, .inr (2, [.int 0, .int 0, .int 0, .int 0, .int 0, .int (-1), .long 0])), (l0_5, .inr (3, [.int 0, .int 0, .int 0, .int 0, .int 0, .int 0, .int 0, .int 0, .int 0, .int 0])), (t0_5, .inr (7, [.int 0, .int 0, .int 0, .int 0, .int 0])), (p0_5, .inr (4, [.int 0, .int 0, .int 0, .int 0])), (st_5, .inr (6, [.ref a1_5, .ref a2_5, .ref a3_5])), (a1_5, .inl (cZ_5, 1024, .inl f1_5)), (a2_5, .inl (cI_5, 1024, .inl f2_5)), (a3_5, .inl (cJ_5, 1024, .inl f3_5)), (q6, .inr (10, [.int 0, .ref mr_10, .int 1, .long 0])), (mr_10, .inr (9, [.ref ll_10, .ref lt_10, .ref lp_10, .int (-1), .int 0, .int 0, .int 0, .int 0, .int 0, .int 0, .int (-1), .int 0, .int 0, .int 0])), (ll_10, .inr (1, [.int 0, .ref ed, .int 0])), (lt_10, .inr (1, [.int 0, .ref ed, .int 0])), (lp_10, .inr (1, [.int 0, .ref ed, .int 0])), (q11, .inl (cA13, 1, .inr (.inl (fun _ => 0))))] := hD
        refine lv_aload_n hx hb dL_law_866 rfl (lv_at hl 2 rfl) ?_
        refine lv_aload_n hx hb dL_law_867 rfl (lv_at hl 4 rfl) ?_
        refine lv_iload hx hb dL_law_868 (lv_at hl 0 rfl) ?_
        refine lv_iconst (v := 1) hx hb dL_law_870 (by decide) ?_
        refine lv_iadd hx hb dL_law_871 ?_
        refine zo_i (v := 1) (by decide) ?_
        refine va_sld hx hb hX hbl hbA hS (by unfold vp_in; decide) dL_law_872 ?_
        refine zo_i (v := xs 1) (by rw [show Int32.toNatClampNeg 1 = 1 from by decide]) ?_
        refine lv_if_eq (tgt := 880) hx hb dL_law_873 (by decide) (fun _ => ?_) (fun h => absurd c137 h)
        refine lv_iconst (v := 0) hx hb dL_law_880 (by decide) ?_
        have hPr := (hP).sub (ws' := [(mr_10, .inr (9, [.ref ll_10, .ref lt_10, .ref lp_10, .int (-1), .int 0, .int 0, .int 0, .int 0, .int 0, .int 0, .int (-1), .int 0, .int 0, .int 0])), (ll_10, .inr (1, [.int 0, .ref ed, .int 0])), (lt_10, .inr (1, [.int 0, .ref ed, .int 0])), (lp_10, .inr (1, [.int 0, .ref ed, .int 0]))]) [13, 14, 15, 16] rfl
        have hPc := hP.sub (ws' := [(q6, .inr (10, [.int 0, .ref mr_10, .int 1, .long 0]))]) [12] rfl
        have hDc := hD.sub (ws' := [(q6, .inr (10, [.int 0, .ref mr_10, .int 1, .long 0]))]) [12] (by decide) rfl
        have hKc := hK.sub (tys' := []) [] rfl
        have hFc := va_free (wc := [(q6, .inr (10, [.int 0, .ref mr_10, .int 1, .long 0]))]) hD hS hA [12] rfl
        refine va_calli (va_runV (As := [.int 0]) (rest := [.int 0]) ⟨hx, hb, hml, hown, hts⟩ (cz_X8_power_0 l dC dI ed H138.size q6 mr_10 ll_10 lt_10 lp_10 0 0) (cwV 1 hts gL_law_X8_power rfl rfl rfl (by decide +kernel) ⟨Nat.le_of_ble_eq_true rfl, Nat.le_of_ble_eq_true rfl⟩) ⟨zb_blind, va_recv hK hP (ci := 10) (q0 := 12) rfl rfl, fun U hU hW => ⟨rfl, zb_mk hU hW hPr hPc hKc hDc hN hH hS hFc (zx_cons (zx_o hD 13 [12] rfl rfl (by decide)) (zx_cons (zx_o hD 14 [12] rfl rfl (by decide)) (zx_cons (zx_o hD 15 [12] rfl rfl (by decide)) (zx_cons (zx_o hD 16 [12] rfl rfl (by decide)) zx_nil))))⟩⟩ rfl rfl hl.1 rfl (lv_room (Nat.le_of_ble_eq_true rfl)) dL_law_881 ⟨Nat.le_of_ble_eq_true rfl, Nat.le_of_ble_eq_true rfl⟩) hS (fun q _ h => hFc q h) hFc (fun r142 u t H141 locs ht hvm hw hB hz1 hk1 hS => ?_)
        obtain rfl : r142 = 0 := hw
        obtain ⟨hP1, hD1, hK1⟩ := hB
        rw [ht] at hP1
        obtain ⟨hP, hD⟩ := va_join (wr := [(q1, .inr (8, [.ref rm_5, .ref tr_5, .ref st_5])), (lk_5, .inl (cL_5, 10, .inr (.inr (.inr (.inr fl_5))))), (th_5, .inl (cT_5, 12, .inr (.inr (.inr (.inr ft_5))))), (pl_5, .inl (cP_5, 6, .inr (.inr (.inr (.inr fp_5))))), (gm_5, .inr (2, [.int 0, .int 0, .int 0, .int 0, .int 0, .int (-1), .long 0])), (l0_5, .inr (3, [.int 0, .int 0, .int 0, .int 0, .int 0, .int 0, .int 0, .int 0, .int 0, .int 0])), (t0_5, .inr (7, [.int 0, .int 0, .int 0, .int 0, .int 0])), (p0_5, .inr (4, [.int 0, .int 0, .int 0, .int 0])), (st_5, .inr (6, [.ref a1_5, .ref a2_5, .ref a3_5])), (a1_5, .inl (cZ_5, 1024, .inl f1_5)), (a2_5, .inl (cI_5, 1024, .inl f2_5)), (a3_5, .inl (cJ_5, 1024, .inl f3_5)), (mr_10, .inr (9, [.ref ll_10, .ref lt_10, .ref lp_10, .int (-1), .int 0, .int 0, .int 0, .int 0, .int 0, .int 0, .int (-1), .int 0, .int 0, .int 0])), (ll_10, .inr (1, [.int 0, .ref ed, .int 0])), (lt_10, .inr (1, [.int 0, .ref ed, .int 0])), (lp_10, .inr (1, [.int 0, .ref ed, .int 0])), (q11, .inl (cA13, 1, .inr (.inl (fun _ => 0))))]) (w1 := []) hP hD [12] [0, 1, 2, 3, 4, 5, 6, 7, 8, 9, 10, 11, 13, 14, 15, 16, 17] rfl rfl (by decide) (by decide) hk1 hFc hP1 hD1
        have hP : va_P (dC, dI) vwCl [(q1, .inr (8, [.ref rm_5, .ref tr_5, .ref st_5])), (lk_5, .inl (cL_5, 10, .inr (.inr (.inr (.inr fl_5))))), (th_5, .inl (cT_5, 12, .inr (.inr (.inr (.inr ft_5))))), (pl_5, .inl (cP_5, 6, .inr (.inr (.inr (.inr fp_5))))), (gm_5, .inr (2, [.int 0, .int 0, .int 0, .int 0, .int 0, .int (-1), .long 0])), (l0_5, .inr (3, [.int 0, .int 0, .int 0, .int 0, .int 0, .int 0, .int 0, .int 0, .int 0, .int 0])), (t0_5, .inr (7, [.int 0, .int 0, .int 0, .int 0, .int 0])), (p0_5, .inr (4, [.int 0, .int 0, .int 0, .int 0])), (st_5, .inr (6, [.ref a1_5, .ref a2_5, .ref a3_5])), (a1_5, .inl (cZ_5, 1024, .inl f1_5)), (a2_5, .inl (cI_5, 1024, .inl f2_5)), (a3_5, .inl (cJ_5, 1024, .inl f3_5)), (mr_10, .inr (9, [.ref ll_10, .ref lt_10, .ref lp_10, .int (-1), .int 0, .int 0, .int 0, .int 0, .int 0, .int 0, .int (-1), .int 0, .int 0, .int 0])), (ll_10, .inr (1, [.int 0, .ref ed, .int 0])), (lt_10, .inr (1, [.int 0, .ref ed, .int 0])), (lp_10, .inr (1, [.int 0, .ref ed, .int 0])), (q11, .inl (cA13, 1, .inr (.inl (fun _ => 0))))] H141 := hP
        have hD : va_D A [(q1, .inr (8, [.ref rm_5, .ref tr_5, .ref st_5])), (lk_5, .inl (cL_5, 10, .inr (.inr (.inr (.inr fl_5))))), (th_5, .inl (cT_5, 12, .inr (.inr (.inr (.inr ft_5))))), (pl_5, .inl (cP_5, 6, .inr (.inr (.inr (.inr fp_5))))), (gm_5, .inr (2, [.int 0, .int 0, .int 0, .int 0, .int 0, .int (-1), .long 0])), (l0_5, .inr (3, [.int 0, .int 0, .int 0, .int 0, .int 0, .int 0, .int 0, .int 0, .int 0, .int 0])), (t0_5, .inr (7, [.int 0, .int 0, .int 0, .int 0, .int 0])), (p0_5, .inr (4, [.int 0, .int 0, .int 0, .int 0])), (st_5, .inr (6, [.ref a1_5, .ref a2_5, .ref a3_5])), (a1_5, .inl (cZ_5, 1024, .inl f1_5)), (a2_5, .inl (cI_5, 1024, .inl f2_5)), (a3_5, .inl (cJ_5, 1024, .inl f3_5)), (mr_10, .inr (9, [.ref ll_10, .ref lt_10, .ref lp_10, .int (-1), .int 0, .int 0, .int 0, .int 0, .int 0, .int 0, .int (-1), .int 0, .int 0, .int 0])), (ll_10, .inr (1, [.int 0, .ref ed, .int 0])), (lt_10, .inr (1, [.int 0, .ref ed, .int 0])), (lp_10, .inr (1, [.int 0, .ref ed, .int 0])), (q11, .inl (cA13, 1, .inr (.inl (fun _ => 0))))] := hD
        refine lv_icmp_eq (tgt := 1407) hx hb dL_law_884 (by decide) (fun _ => ?_) (fun h => absurd h (by decide))
        refine lv_iinc (v := 6) (lv' := [(4, .int 6), (3, .ref q11), (2, .ref q6), (1, .ref q1), (0, .ref b)]) hx hb dL_law_1407 hl (k := 0) rfl (by decide) (by decide) rfl (fun ls hl => ?_)
        refine lv_goto (tgt := 23) hx hb dL_law_1410 (by decide) ?_
        refine lv_iload hx hb dL_law_23 (lv_at hl 0 rfl) ?_
        refine lv_aload_n hx hb dL_law_25 rfl (lv_at hl 4 rfl) ?_
        refine va_slen hx hb hX hbl hbA hS dL_law_26 ?_
        refine zo_i (v := 6) (by decide) ?_
        refine lv_bipush (v := 6) hx hb dL_law_27 (by decide) ?_
        refine lv_isub hx hb dL_law_29 ?_
        refine zo_i (v := 0) (by decide) ?_
        refine lv_icmp_gt (tgt := 1413) hx hb dL_law_30 (by decide) (fun _ => ?_) (fun h => absurd h (by decide))
        refine lv_iconst (v := 1) hx hb dL_law_1413 (by decide) ?_
        refine W.widen (k := 600002) (n := 7302232) (Nat.le_of_ble_eq_true rfl) (Nat.le_of_ble_eq_true rfl) ?_
        refine va_forget (fun q hq => by have h9 := hS.2.2 q hq; rw [hAe] at h9; exact h9) ?_
        exact lw_ret hd0 hx hb hr hlocks dL_law_1414
      · skip
        refine lv_iconst (v := 1) hx hb dL_law_858 (by decide) ?_
        refine lv_goto (tgt := 863) hx hb dL_law_859 (by decide) ?_
        have hPr := (hP).sub (ws' := [(q1, .inr (8, [.ref rm_5, .ref tr_5, .ref st_5])), (gm_5, .inr (2, [.int 0, .int 0, .int 0, .int 0, .int 0, .int (-1), .long 0]))]) [0, 5] rfl
        have hPc := hP.sub (ws' := [(rm_5, .inr (5, [.ref lk_5, .ref th_5, .ref pl_5, .ref gm_5, .int 0, .int 0, .int 0, .int (-1), .int 1, .int 0, .int 0, .int 0]))]) [1] rfl
        have hDc := hD.sub (ws' := [(rm_5, .inr (5, [.ref lk_5, .ref th_5, .ref pl_5, .ref gm_5, .int 0, .int 0, .int 0, .int (-1), .int 1, .int 0, .int 0, .int 0]))]) [1] (by decide) rfl
        have hKc := hK.sub (tys' := []) [] rfl
        have hFc := va_free (wc := [(rm_5, .inr (5, [.ref lk_5, .ref th_5, .ref pl_5, .ref gm_5, .int 0, .int 0, .int 0, .int (-1), .int 1, .int 0, .int 0, .int 0]))]) hD hS hA [1] rfl
        refine va_calli (va_runV (As := [.int 1]) (rest := []) ⟨hx, hb, hml, hown, hts⟩ (cz_X6_power_1 l dC dI ed H12.size q1 rm_5 tr_5 st_5 lk_5 th_5 pl_5 gm_5) (cwV 1 hts gL_law_X6_power rfl rfl rfl (by decide +kernel) ⟨Nat.le_of_ble_eq_true rfl, Nat.le_of_ble_eq_true rfl⟩) ⟨zb_blind, va_recv hK hP (ci := 8) (q0 := 0) rfl rfl, fun U hU hW => ⟨rfl, zb_mk hU hW hPr hPc hKc hDc hN hH hS hFc (zx_cons (zx_o hD 0 [1] rfl rfl (by decide)) (zx_cons (zx_o hD 5 [1] rfl rfl (by decide)) zx_nil))⟩⟩ rfl rfl hl.1 rfl (lv_room (Nat.le_of_ble_eq_true rfl)) dL_law_863 ⟨Nat.le_of_ble_eq_true rfl, Nat.le_of_ble_eq_true rfl⟩) hS (fun q _ h => hFc q h) hFc (fun r145 u t H144 locs ht hvm hw hB hz1 hk1 hS => ?_)
        obtain rfl : r145 = 0 := hw
        obtain ⟨hP1, hD1, hK1⟩ := hB
        rw [ht] at hP1
        obtain ⟨hP, hD⟩ := va_join (wr := [(q1, .inr (8, [.ref rm_5, .ref tr_5, .ref st_5])), (lk_5, .inl (cL_5, 10, .inr (.inr (.inr (.inr fl_5))))), (th_5, .inl (cT_5, 12, .inr (.inr (.inr (.inr ft_5))))), (pl_5, .inl (cP_5, 6, .inr (.inr (.inr (.inr fp_5))))), (gm_5, .inr (2, [.int 0, .int 0, .int 0, .int 0, .int 0, .int (-1), .long 0])), (l0_5, .inr (3, [.int 0, .int 0, .int 0, .int 0, .int 0, .int 0, .int 0, .int 0, .int 0, .int 0])), (t0_5, .inr (7, [.int 0, .int 0, .int 0, .int 0, .int 0])), (p0_5, .inr (4, [.int 0, .int 0, .int 0, .int 0])), (st_5, .inr (6, [.ref a1_5, .ref a2_5, .ref a3_5])), (a1_5, .inl (cZ_5, 1024, .inl f1_5)), (a2_5, .inl (cI_5, 1024, .inl f2_5)), (a3_5, .inl (cJ_5, 1024, .inl f3_5)), (q6, .inr (10, [.int 0, .ref mr_10, .int 1, .long 0])), (mr_10, .inr (9, [.ref ll_10, .ref lt_10, .ref lp_10, .int (-1), .int 0, .int 0, .int 0, .int 0, .int 0, .int 0, .int (-1), .int 0, .int 0, .int 0])), (ll_10, .inr (1, [.int 0, .ref ed, .int 0])), (lt_10, .inr (1, [.int 0, .ref ed, .int 0])), (lp_10, .inr (1, [.int 0, .ref ed, .int 0])), (q11, .inl (cA13, 1, .inr (.inl (fun _ => 0))))]) (w1 := []) hP hD [1] [0, 2, 3, 4, 5, 6, 7, 8, 9, 10, 11, 12, 13, 14, 15, 16, 17, 18] rfl rfl (by decide) (by decide) hk1 hFc hP1 hD1
        have hP : va_P (dC, dI) vwCl [(q1, .inr (8, [.ref rm_5, .ref tr_5, .ref st_5])), (lk_5, .inl (cL_5, 10, .inr (.inr (.inr (.inr fl_5))))), (th_5, .inl (cT_5, 12, .inr (.inr (.inr (.inr ft_5))))), (pl_5, .inl (cP_5, 6, .inr (.inr (.inr (.inr fp_5))))), (gm_5, .inr (2, [.int 0, .int 0, .int 0, .int 0, .int 0, .int (-1), .long 0])), (l0_5, .inr (3, [.int 0, .int 0, .int 0, .int 0, .int 0, .int 0, .int 0, .int 0, .int 0, .int 0])), (t0_5, .inr (7, [.int 0, .int 0, .int 0, .int 0, .int 0])), (p0_5, .inr (4, [.int 0, .int 0, .int 0, .int 0])), (st_5, .inr (6, [.ref a1_5, .ref a2_5, .ref a3_5])), (a1_5, .inl (cZ_5, 1024, .inl f1_5)), (a2_5, .inl (cI_5, 1024, .inl f2_5)), (a3_5, .inl (cJ_5, 1024, .inl f3_5)), (q6, .inr (10, [.int 0, .ref mr_10, .int 1, .long 0])), (mr_10, .inr (9, [.ref ll_10, .ref lt_10, .ref lp_10, .int (-1), .int 0, .int 0, .int 0, .int 0, .int 0, .int 0, .int (-1), .int 0, .int 0, .int 0])), (ll_10, .inr (1, [.int 0, .ref ed, .int 0])), (lt_10, .inr (1, [.int 0, .ref ed, .int 0])), (lp_10, .inr (1, [.int 0, .ref ed, .int 0])), (q11, .inl (cA13, 1, .inr (.inl (fun _ => 0))))] H144 := hP
        have hD : va_D A [(q1, .inr (8, [.ref rm_5, .ref tr_5, .ref st_5])), (lk_5, .inl (cL_5, 10, .inr (.inr (.inr (.inr fl_5))))), (th_5, .inl (cT_5, 12, .inr (.inr (.inr (.inr ft_5))))), (pl_5, .inl (cP_5, 6, .inr (.inr (.inr (.inr fp_5))))), (gm_5, .inr (2, [.int 0, .int 0, .int 0, .int 0, .int 0, .int (-1), .long 0])), (l0_5, .inr (3, [.int 0, .int 0, .int 0, .int 0, .int 0, .int 0, .int 0, .int 0, .int 0, .int 0])), (t0_5, .inr (7, [.int 0, .int 0, .int 0, .int 0, .int 0])), (p0_5, .inr (4, [.int 0, .int 0, .int 0, .int 0])), (st_5, .inr (6, [.ref a1_5, .ref a2_5, .ref a3_5])), (a1_5, .inl (cZ_5, 1024, .inl f1_5)), (a2_5, .inl (cI_5, 1024, .inl f2_5)), (a3_5, .inl (cJ_5, 1024, .inl f3_5)), (q6, .inr (10, [.int 0, .ref mr_10, .int 1, .long 0])), (mr_10, .inr (9, [.ref ll_10, .ref lt_10, .ref lp_10, .int (-1), .int 0, .int 0, .int 0, .int 0, .int 0, .int 0, .int (-1), .int 0, .int 0, .int 0])), (ll_10, .inr (1, [.int 0, .ref ed, .int 0])), (lt_10, .inr (1, [.int 0, .ref ed, .int 0])), (lp_10, .inr (1, [.int 0, .ref ed, .int 0])), (q11, .inl (cA13, 1, .inr (.inl (fun _ => 0))))] := hD
        refine lv_aload_n hx hb dL_law_866 rfl (lv_at hl 2 rfl) ?_
        refine lv_aload_n hx hb dL_law_867 rfl (lv_at hl 4 rfl) ?_
        refine lv_iload hx hb dL_law_868 (lv_at hl 0 rfl) ?_
        refine lv_iconst (v := 1) hx hb dL_law_870 (by decide) ?_
        refine lv_iadd hx hb dL_law_871 ?_
        refine zo_i (v := 1) (by decide) ?_
        refine va_sld hx hb hX hbl hbA hS (by unfold vp_in; decide) dL_law_872 ?_
        refine zo_i (v := xs 1) (by rw [show Int32.toNatClampNeg 1 = 1 from by decide]) ?_
        refine lv_if_eq (tgt := 880) hx hb dL_law_873 (by decide) (fun h => absurd h c137) (fun _ => ?_)
        refine lv_iconst (v := 1) hx hb dL_law_876 (by decide) ?_
        refine lv_goto (tgt := 881) hx hb dL_law_877 (by decide) ?_
        have hPr := (hP).sub (ws' := [(mr_10, .inr (9, [.ref ll_10, .ref lt_10, .ref lp_10, .int (-1), .int 0, .int 0, .int 0, .int 0, .int 0, .int 0, .int (-1), .int 0, .int 0, .int 0])), (ll_10, .inr (1, [.int 0, .ref ed, .int 0])), (lt_10, .inr (1, [.int 0, .ref ed, .int 0])), (lp_10, .inr (1, [.int 0, .ref ed, .int 0]))]) [13, 14, 15, 16] rfl
        have hPc := hP.sub (ws' := [(q6, .inr (10, [.int 0, .ref mr_10, .int 1, .long 0]))]) [12] rfl
        have hDc := hD.sub (ws' := [(q6, .inr (10, [.int 0, .ref mr_10, .int 1, .long 0]))]) [12] (by decide) rfl
        have hKc := hK.sub (tys' := []) [] rfl
        have hFc := va_free (wc := [(q6, .inr (10, [.int 0, .ref mr_10, .int 1, .long 0]))]) hD hS hA [12] rfl
        refine va_calli (va_runV (As := [.int 1]) (rest := [.int 0]) ⟨hx, hb, hml, hown, hts⟩ (cz_X8_power_1 l dC dI ed H144.size q6 mr_10 ll_10 lt_10 lp_10 0 0) (cwV 1 hts gL_law_X8_power rfl rfl rfl (by decide +kernel) ⟨Nat.le_of_ble_eq_true rfl, Nat.le_of_ble_eq_true rfl⟩) ⟨zb_blind, va_recv hK hP (ci := 10) (q0 := 12) rfl rfl, fun U hU hW => ⟨rfl, zb_mk hU hW hPr hPc hKc hDc hN hH hS hFc (zx_cons (zx_o hD 13 [12] rfl rfl (by decide)) (zx_cons (zx_o hD 14 [12] rfl rfl (by decide)) (zx_cons (zx_o hD 15 [12] rfl rfl (by decide)) (zx_cons (zx_o hD 16 [12] rfl rfl (by decide)) zx_nil))))⟩⟩ rfl rfl hl.1 rfl (lv_room (Nat.le_of_ble_eq_true rfl)) dL_law_881 ⟨Nat.le_of_ble_eq_true rfl, Nat.le_of_ble_eq_true rfl⟩) hS (fun q _ h => hFc q h) hFc (fun r148 u t H147 locs ht hvm hw hB hz1 hk1 hS => ?_)
        obtain rfl : r148 = 0 := hw
        obtain ⟨hP1, hD1, hK1⟩ := hB
        rw [ht] at hP1
        obtain ⟨hP, hD⟩ := va_join (wr := [(q1, .inr (8, [.ref rm_5, .ref tr_5, .ref st_5])), (lk_5, .inl (cL_5, 10, .inr (.inr (.inr (.inr fl_5))))), (th_5, .inl (cT_5, 12, .inr (.inr (.inr (.inr ft_5))))), (pl_5, .inl (cP_5, 6, .inr (.inr (.inr (.inr fp_5))))), (gm_5, .inr (2, [.int 0, .int 0, .int 0, .int 0, .int 0, .int (-1), .long 0])), (l0_5, .inr (3, [.int 0, .int 0, .int 0, .int 0, .int 0, .int 0, .int 0, .int 0, .int 0, .int 0])), (t0_5, .inr (7, [.int 0, .int 0, .int 0, .int 0, .int 0])), (p0_5, .inr (4, [.int 0, .int 0, .int 0, .int 0])), (st_5, .inr (6, [.ref a1_5, .ref a2_5, .ref a3_5])), (a1_5, .inl (cZ_5, 1024, .inl f1_5)), (a2_5, .inl (cI_5, 1024, .inl f2_5)), (a3_5, .inl (cJ_5, 1024, .inl f3_5)), (mr_10, .inr (9, [.ref ll_10, .ref lt_10, .ref lp_10, .int (-1), .int 0, .int 0, .int 0, .int 0, .int 0, .int 0, .int (-1), .int 0, .int 0, .int 0])), (ll_10, .inr (1, [.int 0, .ref ed, .int 0])), (lt_10, .inr (1, [.int 0, .ref ed, .int 0])), (lp_10, .inr (1, [.int 0, .ref ed, .int 0])), (q11, .inl (cA13, 1, .inr (.inl (fun _ => 0))))]) (w1 := []) hP hD [12] [0, 1, 2, 3, 4, 5, 6, 7, 8, 9, 10, 11, 13, 14, 15, 16, 17] rfl rfl (by decide) (by decide) hk1 hFc hP1 hD1
        have hP : va_P (dC, dI) vwCl [(q1, .inr (8, [.ref rm_5, .ref tr_5, .ref st_5])), (lk_5, .inl (cL_5, 10, .inr (.inr (.inr (.inr fl_5))))), (th_5, .inl (cT_5, 12, .inr (.inr (.inr (.inr ft_5))))), (pl_5, .inl (cP_5, 6, .inr (.inr (.inr (.inr fp_5))))), (gm_5, .inr (2, [.int 0, .int 0, .int 0, .int 0, .int 0, .int (-1), .long 0])), (l0_5, .inr (3, [.int 0, .int 0, .int 0, .int 0, .int 0, .int 0, .int 0, .int 0, .int 0, .int 0])), (t0_5, .inr (7, [.int 0, .int 0, .int 0, .int 0, .int 0])), (p0_5, .inr (4, [.int 0, .int 0, .int 0, .int 0])), (st_5, .inr (6, [.ref a1_5, .ref a2_5, .ref a3_5])), (a1_5, .inl (cZ_5, 1024, .inl f1_5)), (a2_5, .inl (cI_5, 1024, .inl f2_5)), (a3_5, .inl (cJ_5, 1024, .inl f3_5)), (mr_10, .inr (9, [.ref ll_10, .ref lt_10, .ref lp_10, .int (-1), .int 0, .int 0, .int 0, .int 0, .int 0, .int 0, .int (-1), .int 0, .int 0, .int 0])), (ll_10, .inr (1, [.int 0, .ref ed, .int 0])), (lt_10, .inr (1, [.int 0, .ref ed, .int 0])), (lp_10, .inr (1, [.int 0, .ref ed, .int 0])), (q11, .inl (cA13, 1, .inr (.inl (fun _ => 0))))] H147 := hP
        have hD : va_D A [(q1, .inr (8, [.ref rm_5, .ref tr_5, .ref st_5])), (lk_5, .inl (cL_5, 10, .inr (.inr (.inr (.inr fl_5))))), (th_5, .inl (cT_5, 12, .inr (.inr (.inr (.inr ft_5))))), (pl_5, .inl (cP_5, 6, .inr (.inr (.inr (.inr fp_5))))), (gm_5, .inr (2, [.int 0, .int 0, .int 0, .int 0, .int 0, .int (-1), .long 0])), (l0_5, .inr (3, [.int 0, .int 0, .int 0, .int 0, .int 0, .int 0, .int 0, .int 0, .int 0, .int 0])), (t0_5, .inr (7, [.int 0, .int 0, .int 0, .int 0, .int 0])), (p0_5, .inr (4, [.int 0, .int 0, .int 0, .int 0])), (st_5, .inr (6, [.ref a1_5, .ref a2_5, .ref a3_5])), (a1_5, .inl (cZ_5, 1024, .inl f1_5)), (a2_5, .inl (cI_5, 1024, .inl f2_5)), (a3_5, .inl (cJ_5, 1024, .inl f3_5)), (mr_10, .inr (9, [.ref ll_10, .ref lt_10, .ref lp_10, .int (-1), .int 0, .int 0, .int 0, .int 0, .int 0, .int 0, .int (-1), .int 0, .int 0, .int 0])), (ll_10, .inr (1, [.int 0, .ref ed, .int 0])), (lt_10, .inr (1, [.int 0, .ref ed, .int 0])), (lp_10, .inr (1, [.int 0, .ref ed, .int 0])), (q11, .inl (cA13, 1, .inr (.inl (fun _ => 0))))] := hD
        refine lv_icmp_eq (tgt := 1407) hx hb dL_law_884 (by decide) (fun _ => ?_) (fun h => absurd h (by decide))
        refine lv_iinc (v := 6) (lv' := [(4, .int 6), (3, .ref q11), (2, .ref q6), (1, .ref q1), (0, .ref b)]) hx hb dL_law_1407 hl (k := 0) rfl (by decide) (by decide) rfl (fun ls hl => ?_)
        refine lv_goto (tgt := 23) hx hb dL_law_1410 (by decide) ?_
        refine lv_iload hx hb dL_law_23 (lv_at hl 0 rfl) ?_
        refine lv_aload_n hx hb dL_law_25 rfl (lv_at hl 4 rfl) ?_
        refine va_slen hx hb hX hbl hbA hS dL_law_26 ?_
        refine zo_i (v := 6) (by decide) ?_
        refine lv_bipush (v := 6) hx hb dL_law_27 (by decide) ?_
        refine lv_isub hx hb dL_law_29 ?_
        refine zo_i (v := 0) (by decide) ?_
        refine lv_icmp_gt (tgt := 1413) hx hb dL_law_30 (by decide) (fun _ => ?_) (fun h => absurd h (by decide))
        refine lv_iconst (v := 1) hx hb dL_law_1413 (by decide) ?_
        refine W.widen (k := 600002) (n := 7302232) (Nat.le_of_ble_eq_true rfl) (Nat.le_of_ble_eq_true rfl) ?_
        refine va_forget (fun q hq => by have h9 := hS.2.2 q hq; rw [hAe] at h9; exact h9) ?_
        exact lw_ret hd0 hx hb hr hlocks dL_law_1414
    · refine zo_i (v := 12) (by decide) ?_
      refine lv_tableIn (off := 849) (tgt := 889) hx hb dL_law_40 (by decide) (by decide) rfl (by decide) ?_
      refine lv_aload_n hx hb dL_law_889 rfl (lv_at hl 3 rfl) ?_
      refine lv_aload_n hx hb dL_law_890 rfl (lv_at hl 4 rfl) ?_
      refine lv_iload hx hb dL_law_891 (lv_at hl 0 rfl) ?_
      refine lv_iconst (v := 1) hx hb dL_law_893 (by decide) ?_
      refine lv_iadd hx hb dL_law_894 ?_
      refine zo_i (v := 1) (by decide) ?_
      refine va_sld hx hb hX hbl hbA hS (by unfold vp_in; decide) dL_law_895 ?_
      refine zo_i (v := xs 1) (by rw [show Int32.toNatClampNeg 1 = 1 from by decide]) ?_
      refine lv_aload_n hx hb dL_law_896 rfl (lv_at hl 1 rfl) ?_
      have hPr := (hP).sub (ws' := [(q1, .inr (8, [.ref rm_5, .ref tr_5, .ref st_5])), (rm_5, .inr (5, [.ref lk_5, .ref th_5, .ref pl_5, .ref gm_5, .int 0, .int 0, .int 0, .int (-1), .int 1, .int 0, .int 0, .int 0]))]) [0, 1] rfl
      have hPc := hP.sub (ws' := [(q11, .inl (cA13, 1, .inr (.inl (fun _ => 0))))]) [18] rfl
      have hDc := hD.sub (ws' := [(q11, .inl (cA13, 1, .inr (.inl (fun _ => 0))))]) [18] (by decide) rfl
      have hKc := hK.sub (tys' := [(cA13, .long)]) [6] rfl
      have hFc := va_free (wc := [(q11, .inl (cA13, 1, .inr (.inl (fun _ => 0))))]) hD hS hA [18] rfl
      refine vx_calli (vx_runSX (As := [.ref q1, .int (xs 1), .ref q11]) (rest := []) ⟨hx, hb, hml, hown, hts⟩ (cz_L_put l dC dI ed H12.size q1 rm_5 tr_5 st_5 lk_5 th_5 pl_5 gm_5 (xs 1) q11 cA13 (fun _ => 0) htr) (vx_cwSW 3 hts gL_law_L_put rfl rfl rfl (by decide +kernel) ⟨Nat.le_of_ble_eq_true rfl, Nat.le_of_ble_eq_true rfl⟩) ⟨zb_blind, fun U hU hW => ⟨rfl, zb_mk hU hW hPr hPc hKc hDc hN hH hS hFc (zx_cons (zx_o hD 0 [18] rfl rfl (by decide)) (zx_cons (zx_o hD 1 [18] rfl rfl (by decide)) zx_nil))⟩⟩ rfl rfl hl.1 rfl (lv_room (Nat.le_of_ble_eq_true rfl)) dL_law_897 ⟨Nat.le_of_ble_eq_true rfl, Nat.le_of_ble_eq_true rfl⟩) hS (fun q _ h => hFc q h) hFc (fun q _ h => hFc q h) (fun E ce q9 u t H150 locs ht hvm hpx hBX hz1 hk1 hS hce hcv hcl => hpx.elim) (fun r151 u t H150 locs ht hvm hw hB hz1 hk1 hS => ?_)
      obtain rfl : r151 = 1 := hw
      obtain ⟨fo9_152, hP1, hD1, hK1⟩ := hB
      rw [ht] at hP1
      obtain ⟨hP, hD⟩ := va_join (wr := [(q1, .inr (8, [.ref rm_5, .ref tr_5, .ref st_5])), (rm_5, .inr (5, [.ref lk_5, .ref th_5, .ref pl_5, .ref gm_5, .int 0, .int 0, .int 0, .int (-1), .int 1, .int 0, .int 0, .int 0])), (lk_5, .inl (cL_5, 10, .inr (.inr (.inr (.inr fl_5))))), (th_5, .inl (cT_5, 12, .inr (.inr (.inr (.inr ft_5))))), (pl_5, .inl (cP_5, 6, .inr (.inr (.inr (.inr fp_5))))), (gm_5, .inr (2, [.int 0, .int 0, .int 0, .int 0, .int 0, .int (-1), .long 0])), (l0_5, .inr (3, [.int 0, .int 0, .int 0, .int 0, .int 0, .int 0, .int 0, .int 0, .int 0, .int 0])), (t0_5, .inr (7, [.int 0, .int 0, .int 0, .int 0, .int 0])), (p0_5, .inr (4, [.int 0, .int 0, .int 0, .int 0])), (st_5, .inr (6, [.ref a1_5, .ref a2_5, .ref a3_5])), (a1_5, .inl (cZ_5, 1024, .inl f1_5)), (a2_5, .inl (cI_5, 1024, .inl f2_5)), (a3_5, .inl (cJ_5, 1024, .inl f3_5)), (q6, .inr (10, [.int 0, .ref mr_10, .int 1, .long 0])), (mr_10, .inr (9, [.ref ll_10, .ref lt_10, .ref lp_10, .int (-1), .int 0, .int 0, .int 0, .int 0, .int 0, .int 0, .int (-1), .int 0, .int 0, .int 0])), (ll_10, .inr (1, [.int 0, .ref ed, .int 0])), (lt_10, .inr (1, [.int 0, .ref ed, .int 0])), (lp_10, .inr (1, [.int 0, .ref ed, .int 0]))]) (w1 := [(q11, .inl (cA13, 1, .inr (.inl fo9_152)))]) hP hD [18] [0, 1, 2, 3, 4, 5, 6, 7, 8, 9, 10, 11, 12, 13, 14, 15, 16, 17] rfl rfl (by decide) (by decide) hk1 hFc hP1 hD1
      have hP : va_P (dC, dI) vwCl [(q1, .inr (8, [.ref rm_5, .ref tr_5, .ref st_5])), (rm_5, .inr (5, [.ref lk_5, .ref th_5, .ref pl_5, .ref gm_5, .int 0, .int 0, .int 0, .int (-1), .int 1, .int 0, .int 0, .int 0])), (lk_5, .inl (cL_5, 10, .inr (.inr (.inr (.inr fl_5))))), (th_5, .inl (cT_5, 12, .inr (.inr (.inr (.inr ft_5))))), (pl_5, .inl (cP_5, 6, .inr (.inr (.inr (.inr fp_5))))), (gm_5, .inr (2, [.int 0, .int 0, .int 0, .int 0, .int 0, .int (-1), .long 0])), (l0_5, .inr (3, [.int 0, .int 0, .int 0, .int 0, .int 0, .int 0, .int 0, .int 0, .int 0, .int 0])), (t0_5, .inr (7, [.int 0, .int 0, .int 0, .int 0, .int 0])), (p0_5, .inr (4, [.int 0, .int 0, .int 0, .int 0])), (st_5, .inr (6, [.ref a1_5, .ref a2_5, .ref a3_5])), (a1_5, .inl (cZ_5, 1024, .inl f1_5)), (a2_5, .inl (cI_5, 1024, .inl f2_5)), (a3_5, .inl (cJ_5, 1024, .inl f3_5)), (q6, .inr (10, [.int 0, .ref mr_10, .int 1, .long 0])), (mr_10, .inr (9, [.ref ll_10, .ref lt_10, .ref lp_10, .int (-1), .int 0, .int 0, .int 0, .int 0, .int 0, .int 0, .int (-1), .int 0, .int 0, .int 0])), (ll_10, .inr (1, [.int 0, .ref ed, .int 0])), (lt_10, .inr (1, [.int 0, .ref ed, .int 0])), (lp_10, .inr (1, [.int 0, .ref ed, .int 0])), (q11, .inl (cA13, 1, .inr (.inl fo9_152)))] H150 := hP
      have hD : va_D A [(q1, .inr (8, [.ref rm_5, .ref tr_5, .ref st_5])), (rm_5, .inr (5, [.ref lk_5, .ref th_5, .ref pl_5, .ref gm_5, .int 0, .int 0, .int 0, .int (-1), .int 1, .int 0, .int 0, .int 0])), (lk_5, .inl (cL_5, 10, .inr (.inr (.inr (.inr fl_5))))), (th_5, .inl (cT_5, 12, .inr (.inr (.inr (.inr ft_5))))), (pl_5, .inl (cP_5, 6, .inr (.inr (.inr (.inr fp_5))))), (gm_5, .inr (2, [.int 0, .int 0, .int 0, .int 0, .int 0, .int (-1), .long 0])), (l0_5, .inr (3, [.int 0, .int 0, .int 0, .int 0, .int 0, .int 0, .int 0, .int 0, .int 0, .int 0])), (t0_5, .inr (7, [.int 0, .int 0, .int 0, .int 0, .int 0])), (p0_5, .inr (4, [.int 0, .int 0, .int 0, .int 0])), (st_5, .inr (6, [.ref a1_5, .ref a2_5, .ref a3_5])), (a1_5, .inl (cZ_5, 1024, .inl f1_5)), (a2_5, .inl (cI_5, 1024, .inl f2_5)), (a3_5, .inl (cJ_5, 1024, .inl f3_5)), (q6, .inr (10, [.int 0, .ref mr_10, .int 1, .long 0])), (mr_10, .inr (9, [.ref ll_10, .ref lt_10, .ref lp_10, .int (-1), .int 0, .int 0, .int 0, .int 0, .int 0, .int 0, .int (-1), .int 0, .int 0, .int 0])), (ll_10, .inr (1, [.int 0, .ref ed, .int 0])), (lt_10, .inr (1, [.int 0, .ref ed, .int 0])), (lp_10, .inr (1, [.int 0, .ref ed, .int 0])), (q11, .inl (cA13, 1, .inr (.inl fo9_152)))] := hD
      refine lv_istore (lv' := [(5, .int 1), (4, .int 0), (3, .ref q11), (2, .ref q6), (1, .ref q1), (0, .ref b)]) hx hb dL_law_900 hl (by decide) rfl (fun ls hl => ?_)
      refine lv_aload_n hx hb dL_law_902 rfl (lv_at hl 3 rfl) ?_
      refine lv_aload_n hx hb dL_law_903 rfl (lv_at hl 5 rfl) ?_
      refine lv_iload hx hb dL_law_904 (lv_at hl 1 rfl) ?_
      refine lv_iconst (v := 1) hx hb dL_law_906 (by decide) ?_
      refine lv_iadd hx hb dL_law_907 ?_
      refine zo_i (v := 1) (by decide) ?_
      refine va_sld hx hb hX hbl hbA hS (by unfold vp_in; decide) dL_law_908 ?_
      refine zo_i (v := xs 1) (by rw [show Int32.toNatClampNeg 1 = 1 from by decide]) ?_
      have hPr := (hP).sub (ws' := [(mr_10, .inr (9, [.ref ll_10, .ref lt_10, .ref lp_10, .int (-1), .int 0, .int 0, .int 0, .int 0, .int 0, .int 0, .int (-1), .int 0, .int 0, .int 0])), (ll_10, .inr (1, [.int 0, .ref ed, .int 0])), (lt_10, .inr (1, [.int 0, .ref ed, .int 0])), (lp_10, .inr (1, [.int 0, .ref ed, .int 0]))]) [14, 15, 16, 17] rfl
      have hPc := hP.sub (ws' := [(q6, .inr (10, [.int 0, .ref mr_10, .int 1, .long 0]))]) [13] rfl
      have hDc := hD.sub (ws' := [(q6, .inr (10, [.int 0, .ref mr_10, .int 1, .long 0]))]) [13] (by decide) rfl
      have hKc := hK.sub (tys' := []) [] rfl
      have hFc := va_free (wc := [(q6, .inr (10, [.int 0, .ref mr_10, .int 1, .long 0]))]) hD hS hA [13] rfl
      refine va_calli (va_runV (As := [.int (xs 1)]) (rest := []) ⟨hx, hb, hml, hown, hts⟩ (cz_X8_put l dC dI ed H150.size q6 mr_10 ll_10 lt_10 lp_10 0 0 (xs 1)) (cwV 1 hts gL_law_X8_put rfl rfl rfl (by decide +kernel) ⟨Nat.le_of_ble_eq_true rfl, Nat.le_of_ble_eq_true rfl⟩) ⟨zb_blind, va_recv hK hP (ci := 10) (q0 := 13) rfl rfl, fun U hU hW => ⟨rfl, zb_mk hU hW hPr hPc hKc hDc hN hH hS hFc (zx_cons (zx_o hD 14 [13] rfl rfl (by decide)) (zx_cons (zx_o hD 15 [13] rfl rfl (by decide)) (zx_cons (zx_o hD 16 [13] rfl rfl (by decide)) (zx_cons (zx_o hD 17 [13] rfl rfl (by decide)) zx_nil))))⟩⟩ rfl rfl hl.1 rfl (lv_room (Nat.le_of_ble_eq_true rfl)) dL_law_909 ⟨Nat.le_of_ble_eq_true rfl, Nat.le_of_ble_eq_true rfl⟩) hS (fun q _ h => hFc q h) hFc (fun r154 u t H153 locs ht hvm hw hB hz1 hk1 hS => ?_)
      obtain rfl : r154 = 0 := hw
      obtain ⟨hP1, hD1, hK1⟩ := hB
      rw [ht] at hP1
      obtain ⟨hP, hD⟩ := va_join (wr := [(q1, .inr (8, [.ref rm_5, .ref tr_5, .ref st_5])), (rm_5, .inr (5, [.ref lk_5, .ref th_5, .ref pl_5, .ref gm_5, .int 0, .int 0, .int 0, .int (-1), .int 1, .int 0, .int 0, .int 0])), (lk_5, .inl (cL_5, 10, .inr (.inr (.inr (.inr fl_5))))), (th_5, .inl (cT_5, 12, .inr (.inr (.inr (.inr ft_5))))), (pl_5, .inl (cP_5, 6, .inr (.inr (.inr (.inr fp_5))))), (gm_5, .inr (2, [.int 0, .int 0, .int 0, .int 0, .int 0, .int (-1), .long 0])), (l0_5, .inr (3, [.int 0, .int 0, .int 0, .int 0, .int 0, .int 0, .int 0, .int 0, .int 0, .int 0])), (t0_5, .inr (7, [.int 0, .int 0, .int 0, .int 0, .int 0])), (p0_5, .inr (4, [.int 0, .int 0, .int 0, .int 0])), (st_5, .inr (6, [.ref a1_5, .ref a2_5, .ref a3_5])), (a1_5, .inl (cZ_5, 1024, .inl f1_5)), (a2_5, .inl (cI_5, 1024, .inl f2_5)), (a3_5, .inl (cJ_5, 1024, .inl f3_5)), (mr_10, .inr (9, [.ref ll_10, .ref lt_10, .ref lp_10, .int (-1), .int 0, .int 0, .int 0, .int 0, .int 0, .int 0, .int (-1), .int 0, .int 0, .int 0])), (ll_10, .inr (1, [.int 0, .ref ed, .int 0])), (lt_10, .inr (1, [.int 0, .ref ed, .int 0])), (lp_10, .inr (1, [.int 0, .ref ed, .int 0])), (q11, .inl (cA13, 1, .inr (.inl fo9_152)))]) (w1 := [(q6, .inr (10, [.int 1, .ref mr_10, .int 1, .long 0]))]) hP hD [13] [0, 1, 2, 3, 4, 5, 6, 7, 8, 9, 10, 11, 12, 14, 15, 16, 17, 18] rfl rfl (by decide) (by decide) hk1 hFc hP1 hD1
      have hP : va_P (dC, dI) vwCl [(q1, .inr (8, [.ref rm_5, .ref tr_5, .ref st_5])), (rm_5, .inr (5, [.ref lk_5, .ref th_5, .ref pl_5, .ref gm_5, .int 0, .int 0, .int 0, .int (-1), .int 1, .int 0, .int 0, .int 0])), (lk_5, .inl (cL_5, 10, .inr (.inr (.inr (.inr fl_5))))), (th_5, .inl (cT_5, 12, .inr (.inr (.inr (.inr ft_5))))), (pl_5, .inl (cP_5, 6, .inr (.inr (.inr (.inr fp_5))))), (gm_5, .inr (2, [.int 0, .int 0, .int 0, .int 0, .int 0, .int (-1), .long 0])), (l0_5, .inr (3, [.int 0, .int 0, .int 0, .int 0, .int 0, .int 0, .int 0, .int 0, .int 0, .int 0])), (t0_5, .inr (7, [.int 0, .int 0, .int 0, .int 0, .int 0])), (p0_5, .inr (4, [.int 0, .int 0, .int 0, .int 0])), (st_5, .inr (6, [.ref a1_5, .ref a2_5, .ref a3_5])), (a1_5, .inl (cZ_5, 1024, .inl f1_5)), (a2_5, .inl (cI_5, 1024, .inl f2_5)), (a3_5, .inl (cJ_5, 1024, .inl f3_5)), (mr_10, .inr (9, [.ref ll_10, .ref lt_10, .ref lp_10, .int (-1), .int 0, .int 0, .int 0, .int 0, .int 0, .int 0, .int (-1), .int 0, .int 0, .int 0])), (ll_10, .inr (1, [.int 0, .ref ed, .int 0])), (lt_10, .inr (1, [.int 0, .ref ed, .int 0])), (lp_10, .inr (1, [.int 0, .ref ed, .int 0])), (q11, .inl (cA13, 1, .inr (.inl fo9_152))), (q6, .inr (10, [.int 1, .ref mr_10, .int 1, .long 0]))] H153 := hP
      have hD : va_D A [(q1, .inr (8, [.ref rm_5, .ref tr_5, .ref st_5])), (rm_5, .inr (5, [.ref lk_5, .ref th_5, .ref pl_5, .ref gm_5, .int 0, .int 0, .int 0, .int (-1), .int 1, .int 0, .int 0, .int 0])), (lk_5, .inl (cL_5, 10, .inr (.inr (.inr (.inr fl_5))))), (th_5, .inl (cT_5, 12, .inr (.inr (.inr (.inr ft_5))))), (pl_5, .inl (cP_5, 6, .inr (.inr (.inr (.inr fp_5))))), (gm_5, .inr (2, [.int 0, .int 0, .int 0, .int 0, .int 0, .int (-1), .long 0])), (l0_5, .inr (3, [.int 0, .int 0, .int 0, .int 0, .int 0, .int 0, .int 0, .int 0, .int 0, .int 0])), (t0_5, .inr (7, [.int 0, .int 0, .int 0, .int 0, .int 0])), (p0_5, .inr (4, [.int 0, .int 0, .int 0, .int 0])), (st_5, .inr (6, [.ref a1_5, .ref a2_5, .ref a3_5])), (a1_5, .inl (cZ_5, 1024, .inl f1_5)), (a2_5, .inl (cI_5, 1024, .inl f2_5)), (a3_5, .inl (cJ_5, 1024, .inl f3_5)), (mr_10, .inr (9, [.ref ll_10, .ref lt_10, .ref lp_10, .int (-1), .int 0, .int 0, .int 0, .int 0, .int 0, .int 0, .int (-1), .int 0, .int 0, .int 0])), (ll_10, .inr (1, [.int 0, .ref ed, .int 0])), (lt_10, .inr (1, [.int 0, .ref ed, .int 0])), (lp_10, .inr (1, [.int 0, .ref ed, .int 0])), (q11, .inl (cA13, 1, .inr (.inl fo9_152))), (q6, .inr (10, [.int 1, .ref mr_10, .int 1, .long 0]))] := hD
      refine lv_istore (lv' := [(6, .int 0), (5, .int 1), (4, .int 0), (3, .ref q11), (2, .ref q6), (1, .ref q1), (0, .ref b)]) hx hb dL_law_912 hl (by decide) rfl (fun ls hl => ?_)
      refine lv_aload_n hx hb dL_law_914 rfl (lv_at hl 4 rfl) ?_
      have hPr := (hP).sub (ws' := [(q6, .inr (10, [.int 1, .ref mr_10, .int 1, .long 0]))]) [18] rfl
      have hPc := hP.sub (ws' := []) [] rfl
      have hDc := hD.sub (ws' := []) [] (by decide) rfl
      have hKc := hK.sub (tys' := []) [] rfl
      have hFc := va_free (wc := []) hD hS hA [] rfl
      refine va_calli (va_runV (As := []) (rest := []) ⟨hx, hb, hml, hown, hts⟩ (cz_thrown l dC dI ed H153.size q6 mr_10 1 0) (cwV 0 hts gL_law_X8_thrown rfl rfl rfl (by decide +kernel) ⟨Nat.le_of_ble_eq_true rfl, Nat.le_of_ble_eq_true rfl⟩) ⟨zb_blind, va_recv hK hP (ci := 10) (q0 := 18) rfl rfl, fun U hU hW => ⟨rfl, zb_mk hU hW hPr hPc hKc hDc hN hH hS hFc zx_e⟩⟩ rfl rfl hl.1 rfl (lv_room (Nat.le_of_ble_eq_true rfl)) dL_law_915 ⟨Nat.le_of_ble_eq_true rfl, Nat.le_of_ble_eq_true rfl⟩) hS (fun q _ h => hFc q h) hFc (fun r157 u t H156 locs ht hvm hw hB hz1 hk1 hS => ?_)
      obtain rfl : r157 = 1 := hw
      have hP := zo_K hP hk1
      refine lv_iload hx hb dL_law_918 (lv_at hl 1 rfl) ?_
      refine lv_icmp_eq (tgt := 925) hx hb dL_law_920 (by decide) (fun _ => ?_) (fun h => absurd rfl h)
      refine lv_iload hx hb dL_law_925 (lv_at hl 1 rfl) ?_
      refine lv_if_ne (tgt := 942) hx hb dL_law_927 (by decide) (fun _ => ?_) (fun h => absurd h (by decide))
      refine lv_goto (tgt := 1407) hx hb dL_law_942 (by decide) ?_
      refine lv_iinc (v := 6) (lv' := [(4, .int 6), (6, .int 0), (5, .int 1), (3, .ref q11), (2, .ref q6), (1, .ref q1), (0, .ref b)]) hx hb dL_law_1407 hl (k := 2) rfl (by decide) (by decide) rfl (fun ls hl => ?_)
      refine lv_goto (tgt := 23) hx hb dL_law_1410 (by decide) ?_
      refine lv_iload hx hb dL_law_23 (lv_at hl 0 rfl) ?_
      refine lv_aload_n hx hb dL_law_25 rfl (lv_at hl 6 rfl) ?_
      refine va_slen hx hb hX hbl hbA hS dL_law_26 ?_
      refine zo_i (v := 6) (by decide) ?_
      refine lv_bipush (v := 6) hx hb dL_law_27 (by decide) ?_
      refine lv_isub hx hb dL_law_29 ?_
      refine zo_i (v := 0) (by decide) ?_
      refine lv_icmp_gt (tgt := 1413) hx hb dL_law_30 (by decide) (fun _ => ?_) (fun h => absurd h (by decide))
      refine lv_iconst (v := 1) hx hb dL_law_1413 (by decide) ?_
      refine W.widen (k := 600002) (n := 7302232) (Nat.le_of_ble_eq_true rfl) (Nat.le_of_ble_eq_true rfl) ?_
      refine va_forget (fun q hq => by have h9 := hS.2.2 q hq; rw [hAe] at h9; exact h9) ?_
      exact lw_ret hd0 hx hb hr hlocks dL_law_1414
    · refine zo_i (v := 13) (by decide) ?_
      refine lv_tableIn (off := 905) (tgt := 945) hx hb dL_law_40 (by decide) (by decide) rfl (by decide) ?_
      refine lv_aload_n hx hb dL_law_945 rfl (lv_at hl 3 rfl) ?_
      refine lv_aload_n hx hb dL_law_946 rfl (lv_at hl 4 rfl) ?_
      refine lv_iload hx hb dL_law_947 (lv_at hl 0 rfl) ?_
      refine lv_iconst (v := 1) hx hb dL_law_949 (by decide) ?_
      refine lv_iadd hx hb dL_law_950 ?_
      refine zo_i (v := 1) (by decide) ?_
      refine va_sld hx hb hX hbl hbA hS (by unfold vp_in; decide) dL_law_951 ?_
      refine zo_i (v := xs 1) (by rw [show Int32.toNatClampNeg 1 = 1 from by decide]) ?_
      refine lv_aload_n hx hb dL_law_952 rfl (lv_at hl 1 rfl) ?_
      have hPr := (hP).sub (ws' := [(q1, .inr (8, [.ref rm_5, .ref tr_5, .ref st_5])), (rm_5, .inr (5, [.ref lk_5, .ref th_5, .ref pl_5, .ref gm_5, .int 0, .int 0, .int 0, .int (-1), .int 1, .int 0, .int 0, .int 0]))]) [0, 1] rfl
      have hPc := hP.sub (ws' := [(q11, .inl (cA13, 1, .inr (.inl (fun _ => 0))))]) [18] rfl
      have hDc := hD.sub (ws' := [(q11, .inl (cA13, 1, .inr (.inl (fun _ => 0))))]) [18] (by decide) rfl
      have hKc := hK.sub (tys' := [(cA13, .long)]) [6] rfl
      have hFc := va_free (wc := [(q11, .inl (cA13, 1, .inr (.inl (fun _ => 0))))]) hD hS hA [18] rfl
      refine vx_calli (vx_runSX (As := [.ref q1, .int (xs 1), .ref q11]) (rest := []) ⟨hx, hb, hml, hown, hts⟩ (cz_L_shut l dC dI ed H12.size q1 rm_5 tr_5 st_5 lk_5 th_5 pl_5 gm_5 (xs 1) q11 cA13 (fun _ => 0) htr) (vx_cwSW 3 hts gL_law_L_shut rfl rfl rfl (by decide +kernel) ⟨Nat.le_of_ble_eq_true rfl, Nat.le_of_ble_eq_true rfl⟩) ⟨zb_blind, fun U hU hW => ⟨rfl, zb_mk hU hW hPr hPc hKc hDc hN hH hS hFc (zx_cons (zx_o hD 0 [18] rfl rfl (by decide)) (zx_cons (zx_o hD 1 [18] rfl rfl (by decide)) zx_nil))⟩⟩ rfl rfl hl.1 rfl (lv_room (Nat.le_of_ble_eq_true rfl)) dL_law_953 ⟨Nat.le_of_ble_eq_true rfl, Nat.le_of_ble_eq_true rfl⟩) hS (fun q _ h => hFc q h) hFc (fun q _ h => hFc q h) (fun E ce q9 u t H158 locs ht hvm hpx hBX hz1 hk1 hS hce hcv hcl => hpx.elim) (fun r159 u t H158 locs ht hvm hw hB hz1 hk1 hS => ?_)
      obtain rfl : r159 = 1 := hw
      obtain ⟨fo9_160, hP1, hD1, hK1⟩ := hB
      rw [ht] at hP1
      obtain ⟨hP, hD⟩ := va_join (wr := [(q1, .inr (8, [.ref rm_5, .ref tr_5, .ref st_5])), (rm_5, .inr (5, [.ref lk_5, .ref th_5, .ref pl_5, .ref gm_5, .int 0, .int 0, .int 0, .int (-1), .int 1, .int 0, .int 0, .int 0])), (lk_5, .inl (cL_5, 10, .inr (.inr (.inr (.inr fl_5))))), (th_5, .inl (cT_5, 12, .inr (.inr (.inr (.inr ft_5))))), (pl_5, .inl (cP_5, 6, .inr (.inr (.inr (.inr fp_5))))), (gm_5, .inr (2, [.int 0, .int 0, .int 0, .int 0, .int 0, .int (-1), .long 0])), (l0_5, .inr (3, [.int 0, .int 0, .int 0, .int 0, .int 0, .int 0, .int 0, .int 0, .int 0, .int 0])), (t0_5, .inr (7, [.int 0, .int 0, .int 0, .int 0, .int 0])), (p0_5, .inr (4, [.int 0, .int 0, .int 0, .int 0])), (st_5, .inr (6, [.ref a1_5, .ref a2_5, .ref a3_5])), (a1_5, .inl (cZ_5, 1024, .inl f1_5)), (a2_5, .inl (cI_5, 1024, .inl f2_5)), (a3_5, .inl (cJ_5, 1024, .inl f3_5)), (q6, .inr (10, [.int 0, .ref mr_10, .int 1, .long 0])), (mr_10, .inr (9, [.ref ll_10, .ref lt_10, .ref lp_10, .int (-1), .int 0, .int 0, .int 0, .int 0, .int 0, .int 0, .int (-1), .int 0, .int 0, .int 0])), (ll_10, .inr (1, [.int 0, .ref ed, .int 0])), (lt_10, .inr (1, [.int 0, .ref ed, .int 0])), (lp_10, .inr (1, [.int 0, .ref ed, .int 0]))]) (w1 := [(q11, .inl (cA13, 1, .inr (.inl fo9_160)))]) hP hD [18] [0, 1, 2, 3, 4, 5, 6, 7, 8, 9, 10, 11, 12, 13, 14, 15, 16, 17] rfl rfl (by decide) (by decide) hk1 hFc hP1 hD1
      have hP : va_P (dC, dI) vwCl [(q1, .inr (8, [.ref rm_5, .ref tr_5, .ref st_5])), (rm_5, .inr (5, [.ref lk_5, .ref th_5, .ref pl_5, .ref gm_5, .int 0, .int 0, .int 0, .int (-1), .int 1, .int 0, .int 0, .int 0])), (lk_5, .inl (cL_5, 10, .inr (.inr (.inr (.inr fl_5))))), (th_5, .inl (cT_5, 12, .inr (.inr (.inr (.inr ft_5))))), (pl_5, .inl (cP_5, 6, .inr (.inr (.inr (.inr fp_5))))), (gm_5, .inr (2, [.int 0, .int 0, .int 0, .int 0, .int 0, .int (-1), .long 0])), (l0_5, .inr (3, [.int 0, .int 0, .int 0, .int 0, .int 0, .int 0, .int 0, .int 0, .int 0, .int 0])), (t0_5, .inr (7, [.int 0, .int 0, .int 0, .int 0, .int 0])), (p0_5, .inr (4, [.int 0, .int 0, .int 0, .int 0])), (st_5, .inr (6, [.ref a1_5, .ref a2_5, .ref a3_5])), (a1_5, .inl (cZ_5, 1024, .inl f1_5)), (a2_5, .inl (cI_5, 1024, .inl f2_5)), (a3_5, .inl (cJ_5, 1024, .inl f3_5)), (q6, .inr (10, [.int 0, .ref mr_10, .int 1, .long 0])), (mr_10, .inr (9, [.ref ll_10, .ref lt_10, .ref lp_10, .int (-1), .int 0, .int 0, .int 0, .int 0, .int 0, .int 0, .int (-1), .int 0, .int 0, .int 0])), (ll_10, .inr (1, [.int 0, .ref ed, .int 0])), (lt_10, .inr (1, [.int 0, .ref ed, .int 0])), (lp_10, .inr (1, [.int 0, .ref ed, .int 0])), (q11, .inl (cA13, 1, .inr (.inl fo9_160)))] H158 := hP
      have hD : va_D A [(q1, .inr (8, [.ref rm_5, .ref tr_5, .ref st_5])), (rm_5, .inr (5, [.ref lk_5, .ref th_5, .ref pl_5, .ref gm_5, .int 0, .int 0, .int 0, .int (-1), .int 1, .int 0, .int 0, .int 0])), (lk_5, .inl (cL_5, 10, .inr (.inr (.inr (.inr fl_5))))), (th_5, .inl (cT_5, 12, .inr (.inr (.inr (.inr ft_5))))), (pl_5, .inl (cP_5, 6, .inr (.inr (.inr (.inr fp_5))))), (gm_5, .inr (2, [.int 0, .int 0, .int 0, .int 0, .int 0, .int (-1), .long 0])), (l0_5, .inr (3, [.int 0, .int 0, .int 0, .int 0, .int 0, .int 0, .int 0, .int 0, .int 0, .int 0])), (t0_5, .inr (7, [.int 0, .int 0, .int 0, .int 0, .int 0])), (p0_5, .inr (4, [.int 0, .int 0, .int 0, .int 0])), (st_5, .inr (6, [.ref a1_5, .ref a2_5, .ref a3_5])), (a1_5, .inl (cZ_5, 1024, .inl f1_5)), (a2_5, .inl (cI_5, 1024, .inl f2_5)), (a3_5, .inl (cJ_5, 1024, .inl f3_5)), (q6, .inr (10, [.int 0, .ref mr_10, .int 1, .long 0])), (mr_10, .inr (9, [.ref ll_10, .ref lt_10, .ref lp_10, .int (-1), .int 0, .int 0, .int 0, .int 0, .int 0, .int 0, .int (-1), .int 0, .int 0, .int 0])), (ll_10, .inr (1, [.int 0, .ref ed, .int 0])), (lt_10, .inr (1, [.int 0, .ref ed, .int 0])), (lp_10, .inr (1, [.int 0, .ref ed, .int 0])), (q11, .inl (cA13, 1, .inr (.inl fo9_160)))] := hD
      refine lv_istore (lv' := [(5, .int 1), (4, .int 0), (3, .ref q11), (2, .ref q6), (1, .ref q1), (0, .ref b)]) hx hb dL_law_956 hl (by decide) rfl (fun ls hl => ?_)
      refine lv_aload_n hx hb dL_law_958 rfl (lv_at hl 3 rfl) ?_
      refine lv_aload_n hx hb dL_law_959 rfl (lv_at hl 5 rfl) ?_
      refine lv_iload hx hb dL_law_960 (lv_at hl 1 rfl) ?_
      refine lv_iconst (v := 1) hx hb dL_law_962 (by decide) ?_
      refine lv_iadd hx hb dL_law_963 ?_
      refine zo_i (v := 1) (by decide) ?_
      refine va_sld hx hb hX hbl hbA hS (by unfold vp_in; decide) dL_law_964 ?_
      refine zo_i (v := xs 1) (by rw [show Int32.toNatClampNeg 1 = 1 from by decide]) ?_
      have hPr := (hP).sub (ws' := [(mr_10, .inr (9, [.ref ll_10, .ref lt_10, .ref lp_10, .int (-1), .int 0, .int 0, .int 0, .int 0, .int 0, .int 0, .int (-1), .int 0, .int 0, .int 0])), (ll_10, .inr (1, [.int 0, .ref ed, .int 0])), (lt_10, .inr (1, [.int 0, .ref ed, .int 0])), (lp_10, .inr (1, [.int 0, .ref ed, .int 0]))]) [14, 15, 16, 17] rfl
      have hPc := hP.sub (ws' := [(q6, .inr (10, [.int 0, .ref mr_10, .int 1, .long 0]))]) [13] rfl
      have hDc := hD.sub (ws' := [(q6, .inr (10, [.int 0, .ref mr_10, .int 1, .long 0]))]) [13] (by decide) rfl
      have hKc := hK.sub (tys' := []) [] rfl
      have hFc := va_free (wc := [(q6, .inr (10, [.int 0, .ref mr_10, .int 1, .long 0]))]) hD hS hA [13] rfl
      refine va_calli (va_runV (As := [.int (xs 1)]) (rest := []) ⟨hx, hb, hml, hown, hts⟩ (cz_X8_shut l dC dI ed H158.size q6 mr_10 ll_10 lt_10 lp_10 0 0 (xs 1)) (cwV 1 hts gL_law_X8_shut rfl rfl rfl (by decide +kernel) ⟨Nat.le_of_ble_eq_true rfl, Nat.le_of_ble_eq_true rfl⟩) ⟨zb_blind, va_recv hK hP (ci := 10) (q0 := 13) rfl rfl, fun U hU hW => ⟨rfl, zb_mk hU hW hPr hPc hKc hDc hN hH hS hFc (zx_cons (zx_o hD 14 [13] rfl rfl (by decide)) (zx_cons (zx_o hD 15 [13] rfl rfl (by decide)) (zx_cons (zx_o hD 16 [13] rfl rfl (by decide)) (zx_cons (zx_o hD 17 [13] rfl rfl (by decide)) zx_nil))))⟩⟩ rfl rfl hl.1 rfl (lv_room (Nat.le_of_ble_eq_true rfl)) dL_law_965 ⟨Nat.le_of_ble_eq_true rfl, Nat.le_of_ble_eq_true rfl⟩) hS (fun q _ h => hFc q h) hFc (fun r162 u t H161 locs ht hvm hw hB hz1 hk1 hS => ?_)
      obtain rfl : r162 = 0 := hw
      obtain ⟨hP1, hD1, hK1⟩ := hB
      rw [ht] at hP1
      obtain ⟨hP, hD⟩ := va_join (wr := [(q1, .inr (8, [.ref rm_5, .ref tr_5, .ref st_5])), (rm_5, .inr (5, [.ref lk_5, .ref th_5, .ref pl_5, .ref gm_5, .int 0, .int 0, .int 0, .int (-1), .int 1, .int 0, .int 0, .int 0])), (lk_5, .inl (cL_5, 10, .inr (.inr (.inr (.inr fl_5))))), (th_5, .inl (cT_5, 12, .inr (.inr (.inr (.inr ft_5))))), (pl_5, .inl (cP_5, 6, .inr (.inr (.inr (.inr fp_5))))), (gm_5, .inr (2, [.int 0, .int 0, .int 0, .int 0, .int 0, .int (-1), .long 0])), (l0_5, .inr (3, [.int 0, .int 0, .int 0, .int 0, .int 0, .int 0, .int 0, .int 0, .int 0, .int 0])), (t0_5, .inr (7, [.int 0, .int 0, .int 0, .int 0, .int 0])), (p0_5, .inr (4, [.int 0, .int 0, .int 0, .int 0])), (st_5, .inr (6, [.ref a1_5, .ref a2_5, .ref a3_5])), (a1_5, .inl (cZ_5, 1024, .inl f1_5)), (a2_5, .inl (cI_5, 1024, .inl f2_5)), (a3_5, .inl (cJ_5, 1024, .inl f3_5)), (mr_10, .inr (9, [.ref ll_10, .ref lt_10, .ref lp_10, .int (-1), .int 0, .int 0, .int 0, .int 0, .int 0, .int 0, .int (-1), .int 0, .int 0, .int 0])), (ll_10, .inr (1, [.int 0, .ref ed, .int 0])), (lt_10, .inr (1, [.int 0, .ref ed, .int 0])), (lp_10, .inr (1, [.int 0, .ref ed, .int 0])), (q11, .inl (cA13, 1, .inr (.inl fo9_160)))]) (w1 := [(q6, .inr (10, [.int 1, .ref mr_10, .int 1, .long 0]))]) hP hD [13] [0, 1, 2, 3, 4, 5, 6, 7, 8, 9, 10, 11, 12, 14, 15, 16, 17, 18] rfl rfl (by decide) (by decide) hk1 hFc hP1 hD1
      have hP : va_P (dC, dI) vwCl [(q1, .inr (8, [.ref rm_5, .ref tr_5, .ref st_5])), (rm_5, .inr (5, [.ref lk_5, .ref th_5, .ref pl_5, .ref gm_5, .int 0, .int 0, .int 0, .int (-1), .int 1, .int 0, .int 0, .int 0])), (lk_5, .inl (cL_5, 10, .inr (.inr (.inr (.inr fl_5))))), (th_5, .inl (cT_5, 12, .inr (.inr (.inr (.inr ft_5))))), (pl_5, .inl (cP_5, 6, .inr (.inr (.inr (.inr fp_5))))), (gm_5, .inr (2, [.int 0, .int 0, .int 0, .int 0, .int 0, .int (-1), .long 0])), (l0_5, .inr (3, [.int 0, .int 0, .int 0, .int 0, .int 0, .int 0, .int 0, .int 0, .int 0, .int 0])), (t0_5, .inr (7, [.int 0, .int 0, .int 0, .int 0, .int 0])), (p0_5, .inr (4, [.int 0, .int 0, .int 0, .int 0])), (st_5, .inr (6, [.ref a1_5, .ref a2_5, .ref a3_5])), (a1_5, .inl (cZ_5, 1024, .inl f1_5)), (a2_5, .inl (cI_5, 1024, .inl f2_5)), (a3_5, .inl (cJ_5, 1024, .inl f3_5)), (mr_10, .inr (9, [.ref ll_10, .ref lt_10, .ref lp_10, .int (-1), .int 0, .int 0, .int 0, .int 0, .int 0, .int 0, .int (-1), .int 0, .int 0, .int 0])), (ll_10, .inr (1, [.int 0, .ref ed, .int 0])), (lt_10, .inr (1, [.int 0, .ref ed, .int 0])), (lp_10, .inr (1, [.int 0, .ref ed, .int 0])), (q11, .inl (cA13, 1, .inr (.inl fo9_160))), (q6, .inr (10, [.int 1, .ref mr_10, .int 1, .long 0]))] H161 := hP
      have hD : va_D A [(q1, .inr (8, [.ref rm_5, .ref tr_5, .ref st_5])), (rm_5, .inr (5, [.ref lk_5, .ref th_5, .ref pl_5, .ref gm_5, .int 0, .int 0, .int 0, .int (-1), .int 1, .int 0, .int 0, .int 0])), (lk_5, .inl (cL_5, 10, .inr (.inr (.inr (.inr fl_5))))), (th_5, .inl (cT_5, 12, .inr (.inr (.inr (.inr ft_5))))), (pl_5, .inl (cP_5, 6, .inr (.inr (.inr (.inr fp_5))))), (gm_5, .inr (2, [.int 0, .int 0, .int 0, .int 0, .int 0, .int (-1), .long 0])), (l0_5, .inr (3, [.int 0, .int 0, .int 0, .int 0, .int 0, .int 0, .int 0, .int 0, .int 0, .int 0])), (t0_5, .inr (7, [.int 0, .int 0, .int 0, .int 0, .int 0])), (p0_5, .inr (4, [.int 0, .int 0, .int 0, .int 0])), (st_5, .inr (6, [.ref a1_5, .ref a2_5, .ref a3_5])), (a1_5, .inl (cZ_5, 1024, .inl f1_5)), (a2_5, .inl (cI_5, 1024, .inl f2_5)), (a3_5, .inl (cJ_5, 1024, .inl f3_5)), (mr_10, .inr (9, [.ref ll_10, .ref lt_10, .ref lp_10, .int (-1), .int 0, .int 0, .int 0, .int 0, .int 0, .int 0, .int (-1), .int 0, .int 0, .int 0])), (ll_10, .inr (1, [.int 0, .ref ed, .int 0])), (lt_10, .inr (1, [.int 0, .ref ed, .int 0])), (lp_10, .inr (1, [.int 0, .ref ed, .int 0])), (q11, .inl (cA13, 1, .inr (.inl fo9_160))), (q6, .inr (10, [.int 1, .ref mr_10, .int 1, .long 0]))] := hD
      refine lv_istore (lv' := [(6, .int 0), (5, .int 1), (4, .int 0), (3, .ref q11), (2, .ref q6), (1, .ref q1), (0, .ref b)]) hx hb dL_law_968 hl (by decide) rfl (fun ls hl => ?_)
      refine lv_aload_n hx hb dL_law_970 rfl (lv_at hl 4 rfl) ?_
      have hPr := (hP).sub (ws' := [(q6, .inr (10, [.int 1, .ref mr_10, .int 1, .long 0]))]) [18] rfl
      have hPc := hP.sub (ws' := []) [] rfl
      have hDc := hD.sub (ws' := []) [] (by decide) rfl
      have hKc := hK.sub (tys' := []) [] rfl
      have hFc := va_free (wc := []) hD hS hA [] rfl
      refine va_calli (va_runV (As := []) (rest := []) ⟨hx, hb, hml, hown, hts⟩ (cz_thrown l dC dI ed H161.size q6 mr_10 1 0) (cwV 0 hts gL_law_X8_thrown rfl rfl rfl (by decide +kernel) ⟨Nat.le_of_ble_eq_true rfl, Nat.le_of_ble_eq_true rfl⟩) ⟨zb_blind, va_recv hK hP (ci := 10) (q0 := 18) rfl rfl, fun U hU hW => ⟨rfl, zb_mk hU hW hPr hPc hKc hDc hN hH hS hFc zx_e⟩⟩ rfl rfl hl.1 rfl (lv_room (Nat.le_of_ble_eq_true rfl)) dL_law_971 ⟨Nat.le_of_ble_eq_true rfl, Nat.le_of_ble_eq_true rfl⟩) hS (fun q _ h => hFc q h) hFc (fun r165 u t H164 locs ht hvm hw hB hz1 hk1 hS => ?_)
      obtain rfl : r165 = 1 := hw
      have hP := zo_K hP hk1
      refine lv_iload hx hb dL_law_974 (lv_at hl 1 rfl) ?_
      refine lv_icmp_eq (tgt := 981) hx hb dL_law_976 (by decide) (fun _ => ?_) (fun h => absurd rfl h)
      refine lv_iload hx hb dL_law_981 (lv_at hl 1 rfl) ?_
      refine lv_if_ne (tgt := 998) hx hb dL_law_983 (by decide) (fun _ => ?_) (fun h => absurd h (by decide))
      refine lv_goto (tgt := 1407) hx hb dL_law_998 (by decide) ?_
      refine lv_iinc (v := 6) (lv' := [(4, .int 6), (6, .int 0), (5, .int 1), (3, .ref q11), (2, .ref q6), (1, .ref q1), (0, .ref b)]) hx hb dL_law_1407 hl (k := 2) rfl (by decide) (by decide) rfl (fun ls hl => ?_)
      refine lv_goto (tgt := 23) hx hb dL_law_1410 (by decide) ?_
      refine lv_iload hx hb dL_law_23 (lv_at hl 0 rfl) ?_
      refine lv_aload_n hx hb dL_law_25 rfl (lv_at hl 6 rfl) ?_
      refine va_slen hx hb hX hbl hbA hS dL_law_26 ?_
      refine zo_i (v := 6) (by decide) ?_
      refine lv_bipush (v := 6) hx hb dL_law_27 (by decide) ?_
      refine lv_isub hx hb dL_law_29 ?_
      refine zo_i (v := 0) (by decide) ?_
      refine lv_icmp_gt (tgt := 1413) hx hb dL_law_30 (by decide) (fun _ => ?_) (fun h => absurd h (by decide))
      refine lv_iconst (v := 1) hx hb dL_law_1413 (by decide) ?_
      refine W.widen (k := 600002) (n := 7302232) (Nat.le_of_ble_eq_true rfl) (Nat.le_of_ble_eq_true rfl) ?_
      refine va_forget (fun q hq => by have h9 := hS.2.2 q hq; rw [hAe] at h9; exact h9) ?_
      exact lw_ret hd0 hx hb hr hlocks dL_law_1414
    · refine zo_i (v := 14) (by decide) ?_
      refine lv_tableIn (off := 961) (tgt := 1001) hx hb dL_law_40 (by decide) (by decide) rfl (by decide) ?_
      refine lv_aload_n hx hb dL_law_1001 rfl (lv_at hl 3 rfl) ?_
      refine lv_aload_n hx hb dL_law_1002 rfl (lv_at hl 4 rfl) ?_
      refine lv_iload hx hb dL_law_1003 (lv_at hl 0 rfl) ?_
      refine lv_iconst (v := 1) hx hb dL_law_1005 (by decide) ?_
      refine lv_iadd hx hb dL_law_1006 ?_
      refine zo_i (v := 1) (by decide) ?_
      refine va_sld hx hb hX hbl hbA hS (by unfold vp_in; decide) dL_law_1007 ?_
      refine zo_i (v := xs 1) (by rw [show Int32.toNatClampNeg 1 = 1 from by decide]) ?_
      refine lv_aload_n hx hb dL_law_1008 rfl (lv_at hl 4 rfl) ?_
      refine lv_iload hx hb dL_law_1009 (lv_at hl 0 rfl) ?_
      refine lv_iconst (v := 2) hx hb dL_law_1011 (by decide) ?_
      refine lv_iadd hx hb dL_law_1012 ?_
      refine zo_i (v := 2) (by decide) ?_
      refine va_sld hx hb hX hbl hbA hS (by unfold vp_in; decide) dL_law_1013 ?_
      refine zo_i (v := xs 2) (by rw [show Int32.toNatClampNeg 2 = 2 from by decide]) ?_
      refine lv_aload_n hx hb dL_law_1014 rfl (lv_at hl 1 rfl) ?_
      have hPr := (hP).sub (ws' := [(q1, .inr (8, [.ref rm_5, .ref tr_5, .ref st_5])), (rm_5, .inr (5, [.ref lk_5, .ref th_5, .ref pl_5, .ref gm_5, .int 0, .int 0, .int 0, .int (-1), .int 1, .int 0, .int 0, .int 0]))]) [0, 1] rfl
      have hPc := hP.sub (ws' := [(q11, .inl (cA13, 1, .inr (.inl (fun _ => 0))))]) [18] rfl
      have hDc := hD.sub (ws' := [(q11, .inl (cA13, 1, .inr (.inl (fun _ => 0))))]) [18] (by decide) rfl
      have hKc := hK.sub (tys' := [(cA13, .long)]) [6] rfl
      have hFc := va_free (wc := [(q11, .inl (cA13, 1, .inr (.inl (fun _ => 0))))]) hD hS hA [18] rfl
      refine vx_calli (vx_runSX (As := [.ref q1, .int (xs 1), .int (xs 2), .ref q11]) (rest := []) ⟨hx, hb, hml, hown, hts⟩ (cz_L_ofLock l dC dI ed H12.size q1 rm_5 tr_5 st_5 lk_5 th_5 pl_5 gm_5 (xs 1) (xs 2) q11 cA13 (fun _ => 0) htr) (vx_cwSW 4 hts gL_law_L_ofLock rfl rfl rfl (by decide +kernel) ⟨Nat.le_of_ble_eq_true rfl, Nat.le_of_ble_eq_true rfl⟩) ⟨zb_blind, fun U hU hW => ⟨rfl, zb_mk hU hW hPr hPc hKc hDc hN hH hS hFc (zx_cons (zx_o hD 0 [18] rfl rfl (by decide)) (zx_cons (zx_o hD 1 [18] rfl rfl (by decide)) zx_nil))⟩⟩ rfl rfl hl.1 rfl (lv_room (Nat.le_of_ble_eq_true rfl)) dL_law_1015 ⟨Nat.le_of_ble_eq_true rfl, Nat.le_of_ble_eq_true rfl⟩) hS (fun q _ h => hFc q h) hFc (fun q _ h => hFc q h) (fun E ce q9 u t H166 locs ht hvm hpx hBX hz1 hk1 hS hce hcv hcl => hpx.elim) (fun r167 u t H166 locs ht hvm hw hB hz1 hk1 hS => ?_)
      obtain rfl : r167 = 1 := hw
      obtain ⟨fo9_168, hP1, hD1, hK1⟩ := hB
      rw [ht] at hP1
      obtain ⟨hP, hD⟩ := va_join (wr := [(q1, .inr (8, [.ref rm_5, .ref tr_5, .ref st_5])), (rm_5, .inr (5, [.ref lk_5, .ref th_5, .ref pl_5, .ref gm_5, .int 0, .int 0, .int 0, .int (-1), .int 1, .int 0, .int 0, .int 0])), (lk_5, .inl (cL_5, 10, .inr (.inr (.inr (.inr fl_5))))), (th_5, .inl (cT_5, 12, .inr (.inr (.inr (.inr ft_5))))), (pl_5, .inl (cP_5, 6, .inr (.inr (.inr (.inr fp_5))))), (gm_5, .inr (2, [.int 0, .int 0, .int 0, .int 0, .int 0, .int (-1), .long 0])), (l0_5, .inr (3, [.int 0, .int 0, .int 0, .int 0, .int 0, .int 0, .int 0, .int 0, .int 0, .int 0])), (t0_5, .inr (7, [.int 0, .int 0, .int 0, .int 0, .int 0])), (p0_5, .inr (4, [.int 0, .int 0, .int 0, .int 0])), (st_5, .inr (6, [.ref a1_5, .ref a2_5, .ref a3_5])), (a1_5, .inl (cZ_5, 1024, .inl f1_5)), (a2_5, .inl (cI_5, 1024, .inl f2_5)), (a3_5, .inl (cJ_5, 1024, .inl f3_5)), (q6, .inr (10, [.int 0, .ref mr_10, .int 1, .long 0])), (mr_10, .inr (9, [.ref ll_10, .ref lt_10, .ref lp_10, .int (-1), .int 0, .int 0, .int 0, .int 0, .int 0, .int 0, .int (-1), .int 0, .int 0, .int 0])), (ll_10, .inr (1, [.int 0, .ref ed, .int 0])), (lt_10, .inr (1, [.int 0, .ref ed, .int 0])), (lp_10, .inr (1, [.int 0, .ref ed, .int 0]))]) (w1 := [(q11, .inl (cA13, 1, .inr (.inl fo9_168)))]) hP hD [18] [0, 1, 2, 3, 4, 5, 6, 7, 8, 9, 10, 11, 12, 13, 14, 15, 16, 17] rfl rfl (by decide) (by decide) hk1 hFc hP1 hD1
      have hP : va_P (dC, dI) vwCl [(q1, .inr (8, [.ref rm_5, .ref tr_5, .ref st_5])), (rm_5, .inr (5, [.ref lk_5, .ref th_5, .ref pl_5, .ref gm_5, .int 0, .int 0, .int 0, .int (-1), .int 1, .int 0, .int 0, .int 0])), (lk_5, .inl (cL_5, 10, .inr (.inr (.inr (.inr fl_5))))), (th_5, .inl (cT_5, 12, .inr (.inr (.inr (.inr ft_5))))), (pl_5, .inl (cP_5, 6, .inr (.inr (.inr (.inr fp_5))))), (gm_5, .inr (2, [.int 0, .int 0, .int 0, .int 0, .int 0, .int (-1), .long 0])), (l0_5, .inr (3, [.int 0, .int 0, .int 0, .int 0, .int 0, .int 0, .int 0, .int 0, .int 0, .int 0])), (t0_5, .inr (7, [.int 0, .int 0, .int 0, .int 0, .int 0])), (p0_5, .inr (4, [.int 0, .int 0, .int 0, .int 0])), (st_5, .inr (6, [.ref a1_5, .ref a2_5, .ref a3_5])), (a1_5, .inl (cZ_5, 1024, .inl f1_5)), (a2_5, .inl (cI_5, 1024, .inl f2_5)), (a3_5, .inl (cJ_5, 1024, .inl f3_5)), (q6, .inr (10, [.int 0, .ref mr_10, .int 1, .long 0])), (mr_10, .inr (9, [.ref ll_10, .ref lt_10, .ref lp_10, .int (-1), .int 0, .int 0, .int 0, .int 0, .int 0, .int 0, .int (-1), .int 0, .int 0, .int 0])), (ll_10, .inr (1, [.int 0, .ref ed, .int 0])), (lt_10, .inr (1, [.int 0, .ref ed, .int 0])), (lp_10, .inr (1, [.int 0, .ref ed, .int 0])), (q11, .inl (cA13, 1, .inr (.inl fo9_168)))] H166 := hP
      have hD : va_D A [(q1, .inr (8, [.ref rm_5, .ref tr_5, .ref st_5])), (rm_5, .inr (5, [.ref lk_5, .ref th_5, .ref pl_5, .ref gm_5, .int 0, .int 0, .int 0, .int (-1), .int 1, .int 0, .int 0, .int 0])), (lk_5, .inl (cL_5, 10, .inr (.inr (.inr (.inr fl_5))))), (th_5, .inl (cT_5, 12, .inr (.inr (.inr (.inr ft_5))))), (pl_5, .inl (cP_5, 6, .inr (.inr (.inr (.inr fp_5))))), (gm_5, .inr (2, [.int 0, .int 0, .int 0, .int 0, .int 0, .int (-1), .long 0])), (l0_5, .inr (3, [.int 0, .int 0, .int 0, .int 0, .int 0, .int 0, .int 0, .int 0, .int 0, .int 0])), (t0_5, .inr (7, [.int 0, .int 0, .int 0, .int 0, .int 0])), (p0_5, .inr (4, [.int 0, .int 0, .int 0, .int 0])), (st_5, .inr (6, [.ref a1_5, .ref a2_5, .ref a3_5])), (a1_5, .inl (cZ_5, 1024, .inl f1_5)), (a2_5, .inl (cI_5, 1024, .inl f2_5)), (a3_5, .inl (cJ_5, 1024, .inl f3_5)), (q6, .inr (10, [.int 0, .ref mr_10, .int 1, .long 0])), (mr_10, .inr (9, [.ref ll_10, .ref lt_10, .ref lp_10, .int (-1), .int 0, .int 0, .int 0, .int 0, .int 0, .int 0, .int (-1), .int 0, .int 0, .int 0])), (ll_10, .inr (1, [.int 0, .ref ed, .int 0])), (lt_10, .inr (1, [.int 0, .ref ed, .int 0])), (lp_10, .inr (1, [.int 0, .ref ed, .int 0])), (q11, .inl (cA13, 1, .inr (.inl fo9_168)))] := hD
      refine lv_istore (lv' := [(5, .int 1), (4, .int 0), (3, .ref q11), (2, .ref q6), (1, .ref q1), (0, .ref b)]) hx hb dL_law_1018 hl (by decide) rfl (fun ls hl => ?_)
      refine lv_aload_n hx hb dL_law_1020 rfl (lv_at hl 3 rfl) ?_
      refine lv_aload_n hx hb dL_law_1021 rfl (lv_at hl 5 rfl) ?_
      refine lv_iload hx hb dL_law_1022 (lv_at hl 1 rfl) ?_
      refine lv_iconst (v := 1) hx hb dL_law_1024 (by decide) ?_
      refine lv_iadd hx hb dL_law_1025 ?_
      refine zo_i (v := 1) (by decide) ?_
      refine va_sld hx hb hX hbl hbA hS (by unfold vp_in; decide) dL_law_1026 ?_
      refine zo_i (v := xs 1) (by rw [show Int32.toNatClampNeg 1 = 1 from by decide]) ?_
      refine lv_aload_n hx hb dL_law_1027 rfl (lv_at hl 5 rfl) ?_
      refine lv_iload hx hb dL_law_1028 (lv_at hl 1 rfl) ?_
      refine lv_iconst (v := 2) hx hb dL_law_1030 (by decide) ?_
      refine lv_iadd hx hb dL_law_1031 ?_
      refine zo_i (v := 2) (by decide) ?_
      refine va_sld hx hb hX hbl hbA hS (by unfold vp_in; decide) dL_law_1032 ?_
      refine zo_i (v := xs 2) (by rw [show Int32.toNatClampNeg 2 = 2 from by decide]) ?_
      have hPr := (hP).sub (ws' := [(mr_10, .inr (9, [.ref ll_10, .ref lt_10, .ref lp_10, .int (-1), .int 0, .int 0, .int 0, .int 0, .int 0, .int 0, .int (-1), .int 0, .int 0, .int 0])), (ll_10, .inr (1, [.int 0, .ref ed, .int 0])), (lt_10, .inr (1, [.int 0, .ref ed, .int 0])), (lp_10, .inr (1, [.int 0, .ref ed, .int 0]))]) [14, 15, 16, 17] rfl
      have hPc := hP.sub (ws' := [(q6, .inr (10, [.int 0, .ref mr_10, .int 1, .long 0]))]) [13] rfl
      have hDc := hD.sub (ws' := [(q6, .inr (10, [.int 0, .ref mr_10, .int 1, .long 0]))]) [13] (by decide) rfl
      have hKc := hK.sub (tys' := []) [] rfl
      have hFc := va_free (wc := [(q6, .inr (10, [.int 0, .ref mr_10, .int 1, .long 0]))]) hD hS hA [13] rfl
      refine va_calli (va_runV (As := [.int (xs 1), .int (xs 2)]) (rest := []) ⟨hx, hb, hml, hown, hts⟩ (cz_X8_ofLock l dC dI ed H166.size q6 mr_10 ll_10 lt_10 lp_10 0 0 (xs 1) (xs 2)) (cwV 2 hts gL_law_X8_ofLock rfl rfl rfl (by decide +kernel) ⟨Nat.le_of_ble_eq_true rfl, Nat.le_of_ble_eq_true rfl⟩) ⟨zb_blind, va_recv hK hP (ci := 10) (q0 := 13) rfl rfl, fun U hU hW => ⟨rfl, zb_mk hU hW hPr hPc hKc hDc hN hH hS hFc (zx_cons (zx_o hD 14 [13] rfl rfl (by decide)) (zx_cons (zx_o hD 15 [13] rfl rfl (by decide)) (zx_cons (zx_o hD 16 [13] rfl rfl (by decide)) (zx_cons (zx_o hD 17 [13] rfl rfl (by decide)) zx_nil))))⟩⟩ rfl rfl hl.1 rfl (lv_room (Nat.le_of_ble_eq_true rfl)) dL_law_1033 ⟨Nat.le_of_ble_eq_true rfl, Nat.le_of_ble_eq_true rfl⟩) hS (fun q _ h => hFc q h) hFc (fun r170 u t H169 locs ht hvm hw hB hz1 hk1 hS => ?_)
      obtain rfl : r170 = 0 := hw
      obtain ⟨hP1, hD1, hK1⟩ := hB
      rw [ht] at hP1
      obtain ⟨hP, hD⟩ := va_join (wr := [(q1, .inr (8, [.ref rm_5, .ref tr_5, .ref st_5])), (rm_5, .inr (5, [.ref lk_5, .ref th_5, .ref pl_5, .ref gm_5, .int 0, .int 0, .int 0, .int (-1), .int 1, .int 0, .int 0, .int 0])), (lk_5, .inl (cL_5, 10, .inr (.inr (.inr (.inr fl_5))))), (th_5, .inl (cT_5, 12, .inr (.inr (.inr (.inr ft_5))))), (pl_5, .inl (cP_5, 6, .inr (.inr (.inr (.inr fp_5))))), (gm_5, .inr (2, [.int 0, .int 0, .int 0, .int 0, .int 0, .int (-1), .long 0])), (l0_5, .inr (3, [.int 0, .int 0, .int 0, .int 0, .int 0, .int 0, .int 0, .int 0, .int 0, .int 0])), (t0_5, .inr (7, [.int 0, .int 0, .int 0, .int 0, .int 0])), (p0_5, .inr (4, [.int 0, .int 0, .int 0, .int 0])), (st_5, .inr (6, [.ref a1_5, .ref a2_5, .ref a3_5])), (a1_5, .inl (cZ_5, 1024, .inl f1_5)), (a2_5, .inl (cI_5, 1024, .inl f2_5)), (a3_5, .inl (cJ_5, 1024, .inl f3_5)), (mr_10, .inr (9, [.ref ll_10, .ref lt_10, .ref lp_10, .int (-1), .int 0, .int 0, .int 0, .int 0, .int 0, .int 0, .int (-1), .int 0, .int 0, .int 0])), (ll_10, .inr (1, [.int 0, .ref ed, .int 0])), (lt_10, .inr (1, [.int 0, .ref ed, .int 0])), (lp_10, .inr (1, [.int 0, .ref ed, .int 0])), (q11, .inl (cA13, 1, .inr (.inl fo9_168)))]) (w1 := [(q6, .inr (10, [.int 1, .ref mr_10, .int 1, .long 0]))]) hP hD [13] [0, 1, 2, 3, 4, 5, 6, 7, 8, 9, 10, 11, 12, 14, 15, 16, 17, 18] rfl rfl (by decide) (by decide) hk1 hFc hP1 hD1
      have hP : va_P (dC, dI) vwCl [(q1, .inr (8, [.ref rm_5, .ref tr_5, .ref st_5])), (rm_5, .inr (5, [.ref lk_5, .ref th_5, .ref pl_5, .ref gm_5, .int 0, .int 0, .int 0, .int (-1), .int 1, .int 0, .int 0, .int 0])), (lk_5, .inl (cL_5, 10, .inr (.inr (.inr (.inr fl_5))))), (th_5, .inl (cT_5, 12, .inr (.inr (.inr (.inr ft_5))))), (pl_5, .inl (cP_5, 6, .inr (.inr (.inr (.inr fp_5))))), (gm_5, .inr (2, [.int 0, .int 0, .int 0, .int 0, .int 0, .int (-1), .long 0])), (l0_5, .inr (3, [.int 0, .int 0, .int 0, .int 0, .int 0, .int 0, .int 0, .int 0, .int 0, .int 0])), (t0_5, .inr (7, [.int 0, .int 0, .int 0, .int 0, .int 0])), (p0_5, .inr (4, [.int 0, .int 0, .int 0, .int 0])), (st_5, .inr (6, [.ref a1_5, .ref a2_5, .ref a3_5])), (a1_5, .inl (cZ_5, 1024, .inl f1_5)), (a2_5, .inl (cI_5, 1024, .inl f2_5)), (a3_5, .inl (cJ_5, 1024, .inl f3_5)), (mr_10, .inr (9, [.ref ll_10, .ref lt_10, .ref lp_10, .int (-1), .int 0, .int 0, .int 0, .int 0, .int 0, .int 0, .int (-1), .int 0, .int 0, .int 0])), (ll_10, .inr (1, [.int 0, .ref ed, .int 0])), (lt_10, .inr (1, [.int 0, .ref ed, .int 0])), (lp_10, .inr (1, [.int 0, .ref ed, .int 0])), (q11, .inl (cA13, 1, .inr (.inl fo9_168))), (q6, .inr (10, [.int 1, .ref mr_10, .int 1, .long 0]))] H169 := hP
      have hD : va_D A [(q1, .inr (8, [.ref rm_5, .ref tr_5, .ref st_5])), (rm_5, .inr (5, [.ref lk_5, .ref th_5, .ref pl_5, .ref gm_5, .int 0, .int 0, .int 0, .int (-1), .int 1, .int 0, .int 0, .int 0])), (lk_5, .inl (cL_5, 10, .inr (.inr (.inr (.inr fl_5))))), (th_5, .inl (cT_5, 12, .inr (.inr (.inr (.inr ft_5))))), (pl_5, .inl (cP_5, 6, .inr (.inr (.inr (.inr fp_5))))), (gm_5, .inr (2, [.int 0, .int 0, .int 0, .int 0, .int 0, .int (-1), .long 0])), (l0_5, .inr (3, [.int 0, .int 0, .int 0, .int 0, .int 0, .int 0, .int 0, .int 0, .int 0, .int 0])), (t0_5, .inr (7, [.int 0, .int 0, .int 0, .int 0, .int 0])), (p0_5, .inr (4, [.int 0, .int 0, .int 0, .int 0])), (st_5, .inr (6, [.ref a1_5, .ref a2_5, .ref a3_5])), (a1_5, .inl (cZ_5, 1024, .inl f1_5)), (a2_5, .inl (cI_5, 1024, .inl f2_5)), (a3_5, .inl (cJ_5, 1024, .inl f3_5)), (mr_10, .inr (9, [.ref ll_10, .ref lt_10, .ref lp_10, .int (-1), .int 0, .int 0, .int 0, .int 0, .int 0, .int 0, .int (-1), .int 0, .int 0, .int 0])), (ll_10, .inr (1, [.int 0, .ref ed, .int 0])), (lt_10, .inr (1, [.int 0, .ref ed, .int 0])), (lp_10, .inr (1, [.int 0, .ref ed, .int 0])), (q11, .inl (cA13, 1, .inr (.inl fo9_168))), (q6, .inr (10, [.int 1, .ref mr_10, .int 1, .long 0]))] := hD
      refine lv_istore (lv' := [(6, .int 0), (5, .int 1), (4, .int 0), (3, .ref q11), (2, .ref q6), (1, .ref q1), (0, .ref b)]) hx hb dL_law_1036 hl (by decide) rfl (fun ls hl => ?_)
      refine lv_aload_n hx hb dL_law_1038 rfl (lv_at hl 4 rfl) ?_
      have hPr := (hP).sub (ws' := [(q6, .inr (10, [.int 1, .ref mr_10, .int 1, .long 0]))]) [18] rfl
      have hPc := hP.sub (ws' := []) [] rfl
      have hDc := hD.sub (ws' := []) [] (by decide) rfl
      have hKc := hK.sub (tys' := []) [] rfl
      have hFc := va_free (wc := []) hD hS hA [] rfl
      refine va_calli (va_runV (As := []) (rest := []) ⟨hx, hb, hml, hown, hts⟩ (cz_thrown l dC dI ed H169.size q6 mr_10 1 0) (cwV 0 hts gL_law_X8_thrown rfl rfl rfl (by decide +kernel) ⟨Nat.le_of_ble_eq_true rfl, Nat.le_of_ble_eq_true rfl⟩) ⟨zb_blind, va_recv hK hP (ci := 10) (q0 := 18) rfl rfl, fun U hU hW => ⟨rfl, zb_mk hU hW hPr hPc hKc hDc hN hH hS hFc zx_e⟩⟩ rfl rfl hl.1 rfl (lv_room (Nat.le_of_ble_eq_true rfl)) dL_law_1039 ⟨Nat.le_of_ble_eq_true rfl, Nat.le_of_ble_eq_true rfl⟩) hS (fun q _ h => hFc q h) hFc (fun r173 u t H172 locs ht hvm hw hB hz1 hk1 hS => ?_)
      obtain rfl : r173 = 1 := hw
      have hP := zo_K hP hk1
      refine lv_iload hx hb dL_law_1042 (lv_at hl 1 rfl) ?_
      refine lv_icmp_eq (tgt := 1049) hx hb dL_law_1044 (by decide) (fun _ => ?_) (fun h => absurd rfl h)
      refine lv_iload hx hb dL_law_1049 (lv_at hl 1 rfl) ?_
      refine lv_if_ne (tgt := 1066) hx hb dL_law_1051 (by decide) (fun _ => ?_) (fun h => absurd h (by decide))
      refine lv_goto (tgt := 1407) hx hb dL_law_1066 (by decide) ?_
      refine lv_iinc (v := 6) (lv' := [(4, .int 6), (6, .int 0), (5, .int 1), (3, .ref q11), (2, .ref q6), (1, .ref q1), (0, .ref b)]) hx hb dL_law_1407 hl (k := 2) rfl (by decide) (by decide) rfl (fun ls hl => ?_)
      refine lv_goto (tgt := 23) hx hb dL_law_1410 (by decide) ?_
      refine lv_iload hx hb dL_law_23 (lv_at hl 0 rfl) ?_
      refine lv_aload_n hx hb dL_law_25 rfl (lv_at hl 6 rfl) ?_
      refine va_slen hx hb hX hbl hbA hS dL_law_26 ?_
      refine zo_i (v := 6) (by decide) ?_
      refine lv_bipush (v := 6) hx hb dL_law_27 (by decide) ?_
      refine lv_isub hx hb dL_law_29 ?_
      refine zo_i (v := 0) (by decide) ?_
      refine lv_icmp_gt (tgt := 1413) hx hb dL_law_30 (by decide) (fun _ => ?_) (fun h => absurd h (by decide))
      refine lv_iconst (v := 1) hx hb dL_law_1413 (by decide) ?_
      refine W.widen (k := 600002) (n := 7302232) (Nat.le_of_ble_eq_true rfl) (Nat.le_of_ble_eq_true rfl) ?_
      refine va_forget (fun q hq => by have h9 := hS.2.2 q hq; rw [hAe] at h9; exact h9) ?_
      exact lw_ret hd0 hx hb hr hlocks dL_law_1414
    · refine zo_i (v := 15) (by decide) ?_
      refine lv_tableIn (off := 1029) (tgt := 1069) hx hb dL_law_40 (by decide) (by decide) rfl (by decide) ?_
      refine lv_aload_n hx hb dL_law_1069 rfl (lv_at hl 3 rfl) ?_
      refine lv_aload_n hx hb dL_law_1070 rfl (lv_at hl 4 rfl) ?_
      refine lv_iload hx hb dL_law_1071 (lv_at hl 0 rfl) ?_
      refine lv_iconst (v := 1) hx hb dL_law_1073 (by decide) ?_
      refine lv_iadd hx hb dL_law_1074 ?_
      refine zo_i (v := 1) (by decide) ?_
      refine va_sld hx hb hX hbl hbA hS (by unfold vp_in; decide) dL_law_1075 ?_
      refine zo_i (v := xs 1) (by rw [show Int32.toNatClampNeg 1 = 1 from by decide]) ?_
      refine lv_aload_n hx hb dL_law_1076 rfl (lv_at hl 4 rfl) ?_
      refine lv_iload hx hb dL_law_1077 (lv_at hl 0 rfl) ?_
      refine lv_iconst (v := 2) hx hb dL_law_1079 (by decide) ?_
      refine lv_iadd hx hb dL_law_1080 ?_
      refine zo_i (v := 2) (by decide) ?_
      refine va_sld hx hb hX hbl hbA hS (by unfold vp_in; decide) dL_law_1081 ?_
      refine zo_i (v := xs 2) (by rw [show Int32.toNatClampNeg 2 = 2 from by decide]) ?_
      refine lv_aload_n hx hb dL_law_1082 rfl (lv_at hl 1 rfl) ?_
      have hPr := (hP).sub (ws' := [(q1, .inr (8, [.ref rm_5, .ref tr_5, .ref st_5])), (rm_5, .inr (5, [.ref lk_5, .ref th_5, .ref pl_5, .ref gm_5, .int 0, .int 0, .int 0, .int (-1), .int 1, .int 0, .int 0, .int 0]))]) [0, 1] rfl
      have hPc := hP.sub (ws' := [(q11, .inl (cA13, 1, .inr (.inl (fun _ => 0))))]) [18] rfl
      have hDc := hD.sub (ws' := [(q11, .inl (cA13, 1, .inr (.inl (fun _ => 0))))]) [18] (by decide) rfl
      have hKc := hK.sub (tys' := [(cA13, .long)]) [6] rfl
      have hFc := va_free (wc := [(q11, .inl (cA13, 1, .inr (.inl (fun _ => 0))))]) hD hS hA [18] rfl
      refine vx_calli (vx_runSX (As := [.ref q1, .int (xs 1), .int (xs 2), .ref q11]) (rest := []) ⟨hx, hb, hml, hown, hts⟩ (cz_L_ofThing l dC dI ed H12.size q1 rm_5 tr_5 st_5 lk_5 th_5 pl_5 gm_5 (xs 1) (xs 2) q11 cA13 (fun _ => 0) htr) (vx_cwSW 4 hts gL_law_L_ofThing rfl rfl rfl (by decide +kernel) ⟨Nat.le_of_ble_eq_true rfl, Nat.le_of_ble_eq_true rfl⟩) ⟨zb_blind, fun U hU hW => ⟨rfl, zb_mk hU hW hPr hPc hKc hDc hN hH hS hFc (zx_cons (zx_o hD 0 [18] rfl rfl (by decide)) (zx_cons (zx_o hD 1 [18] rfl rfl (by decide)) zx_nil))⟩⟩ rfl rfl hl.1 rfl (lv_room (Nat.le_of_ble_eq_true rfl)) dL_law_1083 ⟨Nat.le_of_ble_eq_true rfl, Nat.le_of_ble_eq_true rfl⟩) hS (fun q _ h => hFc q h) hFc (fun q _ h => hFc q h) (fun E ce q9 u t H174 locs ht hvm hpx hBX hz1 hk1 hS hce hcv hcl => hpx.elim) (fun r175 u t H174 locs ht hvm hw hB hz1 hk1 hS => ?_)
      obtain rfl : r175 = 1 := hw
      obtain ⟨fo9_176, hP1, hD1, hK1⟩ := hB
      rw [ht] at hP1
      obtain ⟨hP, hD⟩ := va_join (wr := [(q1, .inr (8, [.ref rm_5, .ref tr_5, .ref st_5])), (rm_5, .inr (5, [.ref lk_5, .ref th_5, .ref pl_5, .ref gm_5, .int 0, .int 0, .int 0, .int (-1), .int 1, .int 0, .int 0, .int 0])), (lk_5, .inl (cL_5, 10, .inr (.inr (.inr (.inr fl_5))))), (th_5, .inl (cT_5, 12, .inr (.inr (.inr (.inr ft_5))))), (pl_5, .inl (cP_5, 6, .inr (.inr (.inr (.inr fp_5))))), (gm_5, .inr (2, [.int 0, .int 0, .int 0, .int 0, .int 0, .int (-1), .long 0])), (l0_5, .inr (3, [.int 0, .int 0, .int 0, .int 0, .int 0, .int 0, .int 0, .int 0, .int 0, .int 0])), (t0_5, .inr (7, [.int 0, .int 0, .int 0, .int 0, .int 0])), (p0_5, .inr (4, [.int 0, .int 0, .int 0, .int 0])), (st_5, .inr (6, [.ref a1_5, .ref a2_5, .ref a3_5])), (a1_5, .inl (cZ_5, 1024, .inl f1_5)), (a2_5, .inl (cI_5, 1024, .inl f2_5)), (a3_5, .inl (cJ_5, 1024, .inl f3_5)), (q6, .inr (10, [.int 0, .ref mr_10, .int 1, .long 0])), (mr_10, .inr (9, [.ref ll_10, .ref lt_10, .ref lp_10, .int (-1), .int 0, .int 0, .int 0, .int 0, .int 0, .int 0, .int (-1), .int 0, .int 0, .int 0])), (ll_10, .inr (1, [.int 0, .ref ed, .int 0])), (lt_10, .inr (1, [.int 0, .ref ed, .int 0])), (lp_10, .inr (1, [.int 0, .ref ed, .int 0]))]) (w1 := [(q11, .inl (cA13, 1, .inr (.inl fo9_176)))]) hP hD [18] [0, 1, 2, 3, 4, 5, 6, 7, 8, 9, 10, 11, 12, 13, 14, 15, 16, 17] rfl rfl (by decide) (by decide) hk1 hFc hP1 hD1
      have hP : va_P (dC, dI) vwCl [(q1, .inr (8, [.ref rm_5, .ref tr_5, .ref st_5])), (rm_5, .inr (5, [.ref lk_5, .ref th_5, .ref pl_5, .ref gm_5, .int 0, .int 0, .int 0, .int (-1), .int 1, .int 0, .int 0, .int 0])), (lk_5, .inl (cL_5, 10, .inr (.inr (.inr (.inr fl_5))))), (th_5, .inl (cT_5, 12, .inr (.inr (.inr (.inr ft_5))))), (pl_5, .inl (cP_5, 6, .inr (.inr (.inr (.inr fp_5))))), (gm_5, .inr (2, [.int 0, .int 0, .int 0, .int 0, .int 0, .int (-1), .long 0])), (l0_5, .inr (3, [.int 0, .int 0, .int 0, .int 0, .int 0, .int 0, .int 0, .int 0, .int 0, .int 0])), (t0_5, .inr (7, [.int 0, .int 0, .int 0, .int 0, .int 0])), (p0_5, .inr (4, [.int 0, .int 0, .int 0, .int 0])), (st_5, .inr (6, [.ref a1_5, .ref a2_5, .ref a3_5])), (a1_5, .inl (cZ_5, 1024, .inl f1_5)), (a2_5, .inl (cI_5, 1024, .inl f2_5)), (a3_5, .inl (cJ_5, 1024, .inl f3_5)), (q6, .inr (10, [.int 0, .ref mr_10, .int 1, .long 0])), (mr_10, .inr (9, [.ref ll_10, .ref lt_10, .ref lp_10, .int (-1), .int 0, .int 0, .int 0, .int 0, .int 0, .int 0, .int (-1), .int 0, .int 0, .int 0])), (ll_10, .inr (1, [.int 0, .ref ed, .int 0])), (lt_10, .inr (1, [.int 0, .ref ed, .int 0])), (lp_10, .inr (1, [.int 0, .ref ed, .int 0])), (q11, .inl (cA13, 1, .inr (.inl fo9_176)))] H174 := hP
      have hD : va_D A [(q1, .inr (8, [.ref rm_5, .ref tr_5, .ref st_5])), (rm_5, .inr (5, [.ref lk_5, .ref th_5, .ref pl_5, .ref gm_5, .int 0, .int 0, .int 0, .int (-1), .int 1, .int 0, .int 0, .int 0])), (lk_5, .inl (cL_5, 10, .inr (.inr (.inr (.inr fl_5))))), (th_5, .inl (cT_5, 12, .inr (.inr (.inr (.inr ft_5))))), (pl_5, .inl (cP_5, 6, .inr (.inr (.inr (.inr fp_5))))), (gm_5, .inr (2, [.int 0, .int 0, .int 0, .int 0, .int 0, .int (-1), .long 0])), (l0_5, .inr (3, [.int 0, .int 0, .int 0, .int 0, .int 0, .int 0, .int 0, .int 0, .int 0, .int 0])), (t0_5, .inr (7, [.int 0, .int 0, .int 0, .int 0, .int 0])), (p0_5, .inr (4, [.int 0, .int 0, .int 0, .int 0])), (st_5, .inr (6, [.ref a1_5, .ref a2_5, .ref a3_5])), (a1_5, .inl (cZ_5, 1024, .inl f1_5)), (a2_5, .inl (cI_5, 1024, .inl f2_5)), (a3_5, .inl (cJ_5, 1024, .inl f3_5)), (q6, .inr (10, [.int 0, .ref mr_10, .int 1, .long 0])), (mr_10, .inr (9, [.ref ll_10, .ref lt_10, .ref lp_10, .int (-1), .int 0, .int 0, .int 0, .int 0, .int 0, .int 0, .int (-1), .int 0, .int 0, .int 0])), (ll_10, .inr (1, [.int 0, .ref ed, .int 0])), (lt_10, .inr (1, [.int 0, .ref ed, .int 0])), (lp_10, .inr (1, [.int 0, .ref ed, .int 0])), (q11, .inl (cA13, 1, .inr (.inl fo9_176)))] := hD
      refine lv_istore (lv' := [(5, .int 1), (4, .int 0), (3, .ref q11), (2, .ref q6), (1, .ref q1), (0, .ref b)]) hx hb dL_law_1086 hl (by decide) rfl (fun ls hl => ?_)
      refine lv_aload_n hx hb dL_law_1088 rfl (lv_at hl 3 rfl) ?_
      refine lv_aload_n hx hb dL_law_1089 rfl (lv_at hl 5 rfl) ?_
      refine lv_iload hx hb dL_law_1090 (lv_at hl 1 rfl) ?_
      refine lv_iconst (v := 1) hx hb dL_law_1092 (by decide) ?_
      refine lv_iadd hx hb dL_law_1093 ?_
      refine zo_i (v := 1) (by decide) ?_
      refine va_sld hx hb hX hbl hbA hS (by unfold vp_in; decide) dL_law_1094 ?_
      refine zo_i (v := xs 1) (by rw [show Int32.toNatClampNeg 1 = 1 from by decide]) ?_
      refine lv_aload_n hx hb dL_law_1095 rfl (lv_at hl 5 rfl) ?_
      refine lv_iload hx hb dL_law_1096 (lv_at hl 1 rfl) ?_
      refine lv_iconst (v := 2) hx hb dL_law_1098 (by decide) ?_
      refine lv_iadd hx hb dL_law_1099 ?_
      refine zo_i (v := 2) (by decide) ?_
      refine va_sld hx hb hX hbl hbA hS (by unfold vp_in; decide) dL_law_1100 ?_
      refine zo_i (v := xs 2) (by rw [show Int32.toNatClampNeg 2 = 2 from by decide]) ?_
      have hPr := (hP).sub (ws' := [(mr_10, .inr (9, [.ref ll_10, .ref lt_10, .ref lp_10, .int (-1), .int 0, .int 0, .int 0, .int 0, .int 0, .int 0, .int (-1), .int 0, .int 0, .int 0])), (ll_10, .inr (1, [.int 0, .ref ed, .int 0])), (lt_10, .inr (1, [.int 0, .ref ed, .int 0])), (lp_10, .inr (1, [.int 0, .ref ed, .int 0]))]) [14, 15, 16, 17] rfl
      have hPc := hP.sub (ws' := [(q6, .inr (10, [.int 0, .ref mr_10, .int 1, .long 0]))]) [13] rfl
      have hDc := hD.sub (ws' := [(q6, .inr (10, [.int 0, .ref mr_10, .int 1, .long 0]))]) [13] (by decide) rfl
      have hKc := hK.sub (tys' := []) [] rfl
      have hFc := va_free (wc := [(q6, .inr (10, [.int 0, .ref mr_10, .int 1, .long 0]))]) hD hS hA [13] rfl
      refine va_calli (va_runV (As := [.int (xs 1), .int (xs 2)]) (rest := []) ⟨hx, hb, hml, hown, hts⟩ (cz_X8_ofThing l dC dI ed H174.size q6 mr_10 ll_10 lt_10 lp_10 0 0 (xs 1) (xs 2)) (cwV 2 hts gL_law_X8_ofThing rfl rfl rfl (by decide +kernel) ⟨Nat.le_of_ble_eq_true rfl, Nat.le_of_ble_eq_true rfl⟩) ⟨zb_blind, va_recv hK hP (ci := 10) (q0 := 13) rfl rfl, fun U hU hW => ⟨rfl, zb_mk hU hW hPr hPc hKc hDc hN hH hS hFc (zx_cons (zx_o hD 14 [13] rfl rfl (by decide)) (zx_cons (zx_o hD 15 [13] rfl rfl (by decide)) (zx_cons (zx_o hD 16 [13] rfl rfl (by decide)) (zx_cons (zx_o hD 17 [13] rfl rfl (by decide)) zx_nil))))⟩⟩ rfl rfl hl.1 rfl (lv_room (Nat.le_of_ble_eq_true rfl)) dL_law_1101 ⟨Nat.le_of_ble_eq_true rfl, Nat.le_of_ble_eq_true rfl⟩) hS (fun q _ h => hFc q h) hFc (fun r178 u t H177 locs ht hvm hw hB hz1 hk1 hS => ?_)
      obtain rfl : r178 = 0 := hw
      obtain ⟨hP1, hD1, hK1⟩ := hB
      rw [ht] at hP1
      obtain ⟨hP, hD⟩ := va_join (wr := [(q1, .inr (8, [.ref rm_5, .ref tr_5, .ref st_5])), (rm_5, .inr (5, [.ref lk_5, .ref th_5, .ref pl_5, .ref gm_5, .int 0, .int 0, .int 0, .int (-1), .int 1, .int 0, .int 0, .int 0])), (lk_5, .inl (cL_5, 10, .inr (.inr (.inr (.inr fl_5))))), (th_5, .inl (cT_5, 12, .inr (.inr (.inr (.inr ft_5))))), (pl_5, .inl (cP_5, 6, .inr (.inr (.inr (.inr fp_5))))), (gm_5, .inr (2, [.int 0, .int 0, .int 0, .int 0, .int 0, .int (-1), .long 0])), (l0_5, .inr (3, [.int 0, .int 0, .int 0, .int 0, .int 0, .int 0, .int 0, .int 0, .int 0, .int 0])), (t0_5, .inr (7, [.int 0, .int 0, .int 0, .int 0, .int 0])), (p0_5, .inr (4, [.int 0, .int 0, .int 0, .int 0])), (st_5, .inr (6, [.ref a1_5, .ref a2_5, .ref a3_5])), (a1_5, .inl (cZ_5, 1024, .inl f1_5)), (a2_5, .inl (cI_5, 1024, .inl f2_5)), (a3_5, .inl (cJ_5, 1024, .inl f3_5)), (mr_10, .inr (9, [.ref ll_10, .ref lt_10, .ref lp_10, .int (-1), .int 0, .int 0, .int 0, .int 0, .int 0, .int 0, .int (-1), .int 0, .int 0, .int 0])), (ll_10, .inr (1, [.int 0, .ref ed, .int 0])), (lt_10, .inr (1, [.int 0, .ref ed, .int 0])), (lp_10, .inr (1, [.int 0, .ref ed, .int 0])), (q11, .inl (cA13, 1, .inr (.inl fo9_176)))]) (w1 := [(q6, .inr (10, [.int 1, .ref mr_10, .int 1, .long 0]))]) hP hD [13] [0, 1, 2, 3, 4, 5, 6, 7, 8, 9, 10, 11, 12, 14, 15, 16, 17, 18] rfl rfl (by decide) (by decide) hk1 hFc hP1 hD1
      have hP : va_P (dC, dI) vwCl [(q1, .inr (8, [.ref rm_5, .ref tr_5, .ref st_5])), (rm_5, .inr (5, [.ref lk_5, .ref th_5, .ref pl_5, .ref gm_5, .int 0, .int 0, .int 0, .int (-1), .int 1, .int 0, .int 0, .int 0])), (lk_5, .inl (cL_5, 10, .inr (.inr (.inr (.inr fl_5))))), (th_5, .inl (cT_5, 12, .inr (.inr (.inr (.inr ft_5))))), (pl_5, .inl (cP_5, 6, .inr (.inr (.inr (.inr fp_5))))), (gm_5, .inr (2, [.int 0, .int 0, .int 0, .int 0, .int 0, .int (-1), .long 0])), (l0_5, .inr (3, [.int 0, .int 0, .int 0, .int 0, .int 0, .int 0, .int 0, .int 0, .int 0, .int 0])), (t0_5, .inr (7, [.int 0, .int 0, .int 0, .int 0, .int 0])), (p0_5, .inr (4, [.int 0, .int 0, .int 0, .int 0])), (st_5, .inr (6, [.ref a1_5, .ref a2_5, .ref a3_5])), (a1_5, .inl (cZ_5, 1024, .inl f1_5)), (a2_5, .inl (cI_5, 1024, .inl f2_5)), (a3_5, .inl (cJ_5, 1024, .inl f3_5)), (mr_10, .inr (9, [.ref ll_10, .ref lt_10, .ref lp_10, .int (-1), .int 0, .int 0, .int 0, .int 0, .int 0, .int 0, .int (-1), .int 0, .int 0, .int 0])), (ll_10, .inr (1, [.int 0, .ref ed, .int 0])), (lt_10, .inr (1, [.int 0, .ref ed, .int 0])), (lp_10, .inr (1, [.int 0, .ref ed, .int 0])), (q11, .inl (cA13, 1, .inr (.inl fo9_176))), (q6, .inr (10, [.int 1, .ref mr_10, .int 1, .long 0]))] H177 := hP
      have hD : va_D A [(q1, .inr (8, [.ref rm_5, .ref tr_5, .ref st_5])), (rm_5, .inr (5, [.ref lk_5, .ref th_5, .ref pl_5, .ref gm_5, .int 0, .int 0, .int 0, .int (-1), .int 1, .int 0, .int 0, .int 0])), (lk_5, .inl (cL_5, 10, .inr (.inr (.inr (.inr fl_5))))), (th_5, .inl (cT_5, 12, .inr (.inr (.inr (.inr ft_5))))), (pl_5, .inl (cP_5, 6, .inr (.inr (.inr (.inr fp_5))))), (gm_5, .inr (2, [.int 0, .int 0, .int 0, .int 0, .int 0, .int (-1), .long 0])), (l0_5, .inr (3, [.int 0, .int 0, .int 0, .int 0, .int 0, .int 0, .int 0, .int 0, .int 0, .int 0])), (t0_5, .inr (7, [.int 0, .int 0, .int 0, .int 0, .int 0])), (p0_5, .inr (4, [.int 0, .int 0, .int 0, .int 0])), (st_5, .inr (6, [.ref a1_5, .ref a2_5, .ref a3_5])), (a1_5, .inl (cZ_5, 1024, .inl f1_5)), (a2_5, .inl (cI_5, 1024, .inl f2_5)), (a3_5, .inl (cJ_5, 1024, .inl f3_5)), (mr_10, .inr (9, [.ref ll_10, .ref lt_10, .ref lp_10, .int (-1), .int 0, .int 0, .int 0, .int 0, .int 0, .int 0, .int (-1), .int 0, .int 0, .int 0])), (ll_10, .inr (1, [.int 0, .ref ed, .int 0])), (lt_10, .inr (1, [.int 0, .ref ed, .int 0])), (lp_10, .inr (1, [.int 0, .ref ed, .int 0])), (q11, .inl (cA13, 1, .inr (.inl fo9_176))), (q6, .inr (10, [.int 1, .ref mr_10, .int 1, .long 0]))] := hD
      refine lv_istore (lv' := [(6, .int 0), (5, .int 1), (4, .int 0), (3, .ref q11), (2, .ref q6), (1, .ref q1), (0, .ref b)]) hx hb dL_law_1104 hl (by decide) rfl (fun ls hl => ?_)
      refine lv_aload_n hx hb dL_law_1106 rfl (lv_at hl 4 rfl) ?_
      have hPr := (hP).sub (ws' := [(q6, .inr (10, [.int 1, .ref mr_10, .int 1, .long 0]))]) [18] rfl
      have hPc := hP.sub (ws' := []) [] rfl
      have hDc := hD.sub (ws' := []) [] (by decide) rfl
      have hKc := hK.sub (tys' := []) [] rfl
      have hFc := va_free (wc := []) hD hS hA [] rfl
      refine va_calli (va_runV (As := []) (rest := []) ⟨hx, hb, hml, hown, hts⟩ (cz_thrown l dC dI ed H177.size q6 mr_10 1 0) (cwV 0 hts gL_law_X8_thrown rfl rfl rfl (by decide +kernel) ⟨Nat.le_of_ble_eq_true rfl, Nat.le_of_ble_eq_true rfl⟩) ⟨zb_blind, va_recv hK hP (ci := 10) (q0 := 18) rfl rfl, fun U hU hW => ⟨rfl, zb_mk hU hW hPr hPc hKc hDc hN hH hS hFc zx_e⟩⟩ rfl rfl hl.1 rfl (lv_room (Nat.le_of_ble_eq_true rfl)) dL_law_1107 ⟨Nat.le_of_ble_eq_true rfl, Nat.le_of_ble_eq_true rfl⟩) hS (fun q _ h => hFc q h) hFc (fun r181 u t H180 locs ht hvm hw hB hz1 hk1 hS => ?_)
      obtain rfl : r181 = 1 := hw
      have hP := zo_K hP hk1
      refine lv_iload hx hb dL_law_1110 (lv_at hl 1 rfl) ?_
      refine lv_icmp_eq (tgt := 1117) hx hb dL_law_1112 (by decide) (fun _ => ?_) (fun h => absurd rfl h)
      refine lv_iload hx hb dL_law_1117 (lv_at hl 1 rfl) ?_
      refine lv_if_ne (tgt := 1134) hx hb dL_law_1119 (by decide) (fun _ => ?_) (fun h => absurd h (by decide))
      refine lv_goto (tgt := 1407) hx hb dL_law_1134 (by decide) ?_
      refine lv_iinc (v := 6) (lv' := [(4, .int 6), (6, .int 0), (5, .int 1), (3, .ref q11), (2, .ref q6), (1, .ref q1), (0, .ref b)]) hx hb dL_law_1407 hl (k := 2) rfl (by decide) (by decide) rfl (fun ls hl => ?_)
      refine lv_goto (tgt := 23) hx hb dL_law_1410 (by decide) ?_
      refine lv_iload hx hb dL_law_23 (lv_at hl 0 rfl) ?_
      refine lv_aload_n hx hb dL_law_25 rfl (lv_at hl 6 rfl) ?_
      refine va_slen hx hb hX hbl hbA hS dL_law_26 ?_
      refine zo_i (v := 6) (by decide) ?_
      refine lv_bipush (v := 6) hx hb dL_law_27 (by decide) ?_
      refine lv_isub hx hb dL_law_29 ?_
      refine zo_i (v := 0) (by decide) ?_
      refine lv_icmp_gt (tgt := 1413) hx hb dL_law_30 (by decide) (fun _ => ?_) (fun h => absurd h (by decide))
      refine lv_iconst (v := 1) hx hb dL_law_1413 (by decide) ?_
      refine W.widen (k := 600002) (n := 7302232) (Nat.le_of_ble_eq_true rfl) (Nat.le_of_ble_eq_true rfl) ?_
      refine va_forget (fun q hq => by have h9 := hS.2.2 q hq; rw [hAe] at h9; exact h9) ?_
      exact lw_ret hd0 hx hb hr hlocks dL_law_1414
    · refine zo_i (v := 16) (by decide) ?_
      refine lv_tableIn (off := 1097) (tgt := 1137) hx hb dL_law_40 (by decide) (by decide) rfl (by decide) ?_
      refine lv_aload_n hx hb dL_law_1137 rfl (lv_at hl 3 rfl) ?_
      refine lv_aload_n hx hb dL_law_1138 rfl (lv_at hl 4 rfl) ?_
      refine lv_iload hx hb dL_law_1139 (lv_at hl 0 rfl) ?_
      refine lv_iconst (v := 1) hx hb dL_law_1141 (by decide) ?_
      refine lv_iadd hx hb dL_law_1142 ?_
      refine zo_i (v := 1) (by decide) ?_
      refine va_sld hx hb hX hbl hbA hS (by unfold vp_in; decide) dL_law_1143 ?_
      refine zo_i (v := xs 1) (by rw [show Int32.toNatClampNeg 1 = 1 from by decide]) ?_
      refine lv_aload_n hx hb dL_law_1144 rfl (lv_at hl 4 rfl) ?_
      refine lv_iload hx hb dL_law_1145 (lv_at hl 0 rfl) ?_
      refine lv_iconst (v := 2) hx hb dL_law_1147 (by decide) ?_
      refine lv_iadd hx hb dL_law_1148 ?_
      refine zo_i (v := 2) (by decide) ?_
      refine va_sld hx hb hX hbl hbA hS (by unfold vp_in; decide) dL_law_1149 ?_
      refine zo_i (v := xs 2) (by rw [show Int32.toNatClampNeg 2 = 2 from by decide]) ?_
      refine lv_aload_n hx hb dL_law_1150 rfl (lv_at hl 1 rfl) ?_
      have hPr := (hP).sub (ws' := [(q1, .inr (8, [.ref rm_5, .ref tr_5, .ref st_5])), (rm_5, .inr (5, [.ref lk_5, .ref th_5, .ref pl_5, .ref gm_5, .int 0, .int 0, .int 0, .int (-1), .int 1, .int 0, .int 0, .int 0]))]) [0, 1] rfl
      have hPc := hP.sub (ws' := [(q11, .inl (cA13, 1, .inr (.inl (fun _ => 0))))]) [18] rfl
      have hDc := hD.sub (ws' := [(q11, .inl (cA13, 1, .inr (.inl (fun _ => 0))))]) [18] (by decide) rfl
      have hKc := hK.sub (tys' := [(cA13, .long)]) [6] rfl
      have hFc := va_free (wc := [(q11, .inl (cA13, 1, .inr (.inl (fun _ => 0))))]) hD hS hA [18] rfl
      refine vx_calli (vx_runSX (As := [.ref q1, .int (xs 1), .int (xs 2), .ref q11]) (rest := []) ⟨hx, hb, hml, hown, hts⟩ (cz_L_ofPlayer l dC dI ed H12.size q1 rm_5 tr_5 st_5 lk_5 th_5 pl_5 gm_5 (xs 1) (xs 2) q11 cA13 (fun _ => 0) htr) (vx_cwSW 4 hts gL_law_L_ofPlayer rfl rfl rfl (by decide +kernel) ⟨Nat.le_of_ble_eq_true rfl, Nat.le_of_ble_eq_true rfl⟩) ⟨zb_blind, fun U hU hW => ⟨rfl, zb_mk hU hW hPr hPc hKc hDc hN hH hS hFc (zx_cons (zx_o hD 0 [18] rfl rfl (by decide)) (zx_cons (zx_o hD 1 [18] rfl rfl (by decide)) zx_nil))⟩⟩ rfl rfl hl.1 rfl (lv_room (Nat.le_of_ble_eq_true rfl)) dL_law_1151 ⟨Nat.le_of_ble_eq_true rfl, Nat.le_of_ble_eq_true rfl⟩) hS (fun q _ h => hFc q h) hFc (fun q _ h => hFc q h) (fun E ce q9 u t H182 locs ht hvm hpx hBX hz1 hk1 hS hce hcv hcl => hpx.elim) (fun r183 u t H182 locs ht hvm hw hB hz1 hk1 hS => ?_)
      obtain rfl : r183 = 1 := hw
      obtain ⟨fo9_184, hP1, hD1, hK1⟩ := hB
      rw [ht] at hP1
      obtain ⟨hP, hD⟩ := va_join (wr := [(q1, .inr (8, [.ref rm_5, .ref tr_5, .ref st_5])), (rm_5, .inr (5, [.ref lk_5, .ref th_5, .ref pl_5, .ref gm_5, .int 0, .int 0, .int 0, .int (-1), .int 1, .int 0, .int 0, .int 0])), (lk_5, .inl (cL_5, 10, .inr (.inr (.inr (.inr fl_5))))), (th_5, .inl (cT_5, 12, .inr (.inr (.inr (.inr ft_5))))), (pl_5, .inl (cP_5, 6, .inr (.inr (.inr (.inr fp_5))))), (gm_5, .inr (2, [.int 0, .int 0, .int 0, .int 0, .int 0, .int (-1), .long 0])), (l0_5, .inr (3, [.int 0, .int 0, .int 0, .int 0, .int 0, .int 0, .int 0, .int 0, .int 0, .int 0])), (t0_5, .inr (7, [.int 0, .int 0, .int 0, .int 0, .int 0])), (p0_5, .inr (4, [.int 0, .int 0, .int 0, .int 0])), (st_5, .inr (6, [.ref a1_5, .ref a2_5, .ref a3_5])), (a1_5, .inl (cZ_5, 1024, .inl f1_5)), (a2_5, .inl (cI_5, 1024, .inl f2_5)), (a3_5, .inl (cJ_5, 1024, .inl f3_5)), (q6, .inr (10, [.int 0, .ref mr_10, .int 1, .long 0])), (mr_10, .inr (9, [.ref ll_10, .ref lt_10, .ref lp_10, .int (-1), .int 0, .int 0, .int 0, .int 0, .int 0, .int 0, .int (-1), .int 0, .int 0, .int 0])), (ll_10, .inr (1, [.int 0, .ref ed, .int 0])), (lt_10, .inr (1, [.int 0, .ref ed, .int 0])), (lp_10, .inr (1, [.int 0, .ref ed, .int 0]))]) (w1 := [(q11, .inl (cA13, 1, .inr (.inl fo9_184)))]) hP hD [18] [0, 1, 2, 3, 4, 5, 6, 7, 8, 9, 10, 11, 12, 13, 14, 15, 16, 17] rfl rfl (by decide) (by decide) hk1 hFc hP1 hD1
      have hP : va_P (dC, dI) vwCl [(q1, .inr (8, [.ref rm_5, .ref tr_5, .ref st_5])), (rm_5, .inr (5, [.ref lk_5, .ref th_5, .ref pl_5, .ref gm_5, .int 0, .int 0, .int 0, .int (-1), .int 1, .int 0, .int 0, .int 0])), (lk_5, .inl (cL_5, 10, .inr (.inr (.inr (.inr fl_5))))), (th_5, .inl (cT_5, 12, .inr (.inr (.inr (.inr ft_5))))), (pl_5, .inl (cP_5, 6, .inr (.inr (.inr (.inr fp_5))))), (gm_5, .inr (2, [.int 0, .int 0, .int 0, .int 0, .int 0, .int (-1), .long 0])), (l0_5, .inr (3, [.int 0, .int 0, .int 0, .int 0, .int 0, .int 0, .int 0, .int 0, .int 0, .int 0])), (t0_5, .inr (7, [.int 0, .int 0, .int 0, .int 0, .int 0])), (p0_5, .inr (4, [.int 0, .int 0, .int 0, .int 0])), (st_5, .inr (6, [.ref a1_5, .ref a2_5, .ref a3_5])), (a1_5, .inl (cZ_5, 1024, .inl f1_5)), (a2_5, .inl (cI_5, 1024, .inl f2_5)), (a3_5, .inl (cJ_5, 1024, .inl f3_5)), (q6, .inr (10, [.int 0, .ref mr_10, .int 1, .long 0])), (mr_10, .inr (9, [.ref ll_10, .ref lt_10, .ref lp_10, .int (-1), .int 0, .int 0, .int 0, .int 0, .int 0, .int 0, .int (-1), .int 0, .int 0, .int 0])), (ll_10, .inr (1, [.int 0, .ref ed, .int 0])), (lt_10, .inr (1, [.int 0, .ref ed, .int 0])), (lp_10, .inr (1, [.int 0, .ref ed, .int 0])), (q11, .inl (cA13, 1, .inr (.inl fo9_184)))] H182 := hP
      have hD : va_D A [(q1, .inr (8, [.ref rm_5, .ref tr_5, .ref st_5])), (rm_5, .inr (5, [.ref lk_5, .ref th_5, .ref pl_5, .ref gm_5, .int 0, .int 0, .int 0, .int (-1), .int 1, .int 0, .int 0, .int 0])), (lk_5, .inl (cL_5, 10, .inr (.inr (.inr (.inr fl_5))))), (th_5, .inl (cT_5, 12, .inr (.inr (.inr (.inr ft_5))))), (pl_5, .inl (cP_5, 6, .inr (.inr (.inr (.inr fp_5))))), (gm_5, .inr (2, [.int 0, .int 0, .int 0, .int 0, .int 0, .int (-1), .long 0])), (l0_5, .inr (3, [.int 0, .int 0, .int 0, .int 0, .int 0, .int 0, .int 0, .int 0, .int 0, .int 0])), (t0_5, .inr (7, [.int 0, .int 0, .int 0, .int 0, .int 0])), (p0_5, .inr (4, [.int 0, .int 0, .int 0, .int 0])), (st_5, .inr (6, [.ref a1_5, .ref a2_5, .ref a3_5])), (a1_5, .inl (cZ_5, 1024, .inl f1_5)), (a2_5, .inl (cI_5, 1024, .inl f2_5)), (a3_5, .inl (cJ_5, 1024, .inl f3_5)), (q6, .inr (10, [.int 0, .ref mr_10, .int 1, .long 0])), (mr_10, .inr (9, [.ref ll_10, .ref lt_10, .ref lp_10, .int (-1), .int 0, .int 0, .int 0, .int 0, .int 0, .int 0, .int (-1), .int 0, .int 0, .int 0])), (ll_10, .inr (1, [.int 0, .ref ed, .int 0])), (lt_10, .inr (1, [.int 0, .ref ed, .int 0])), (lp_10, .inr (1, [.int 0, .ref ed, .int 0])), (q11, .inl (cA13, 1, .inr (.inl fo9_184)))] := hD
      refine lv_istore (lv' := [(5, .int 1), (4, .int 0), (3, .ref q11), (2, .ref q6), (1, .ref q1), (0, .ref b)]) hx hb dL_law_1154 hl (by decide) rfl (fun ls hl => ?_)
      refine lv_aload_n hx hb dL_law_1156 rfl (lv_at hl 3 rfl) ?_
      refine lv_aload_n hx hb dL_law_1157 rfl (lv_at hl 5 rfl) ?_
      refine lv_iload hx hb dL_law_1158 (lv_at hl 1 rfl) ?_
      refine lv_iconst (v := 1) hx hb dL_law_1160 (by decide) ?_
      refine lv_iadd hx hb dL_law_1161 ?_
      refine zo_i (v := 1) (by decide) ?_
      refine va_sld hx hb hX hbl hbA hS (by unfold vp_in; decide) dL_law_1162 ?_
      refine zo_i (v := xs 1) (by rw [show Int32.toNatClampNeg 1 = 1 from by decide]) ?_
      refine lv_aload_n hx hb dL_law_1163 rfl (lv_at hl 5 rfl) ?_
      refine lv_iload hx hb dL_law_1164 (lv_at hl 1 rfl) ?_
      refine lv_iconst (v := 2) hx hb dL_law_1166 (by decide) ?_
      refine lv_iadd hx hb dL_law_1167 ?_
      refine zo_i (v := 2) (by decide) ?_
      refine va_sld hx hb hX hbl hbA hS (by unfold vp_in; decide) dL_law_1168 ?_
      refine zo_i (v := xs 2) (by rw [show Int32.toNatClampNeg 2 = 2 from by decide]) ?_
      have hPr := (hP).sub (ws' := [(mr_10, .inr (9, [.ref ll_10, .ref lt_10, .ref lp_10, .int (-1), .int 0, .int 0, .int 0, .int 0, .int 0, .int 0, .int (-1), .int 0, .int 0, .int 0])), (ll_10, .inr (1, [.int 0, .ref ed, .int 0])), (lt_10, .inr (1, [.int 0, .ref ed, .int 0])), (lp_10, .inr (1, [.int 0, .ref ed, .int 0]))]) [14, 15, 16, 17] rfl
      have hPc := hP.sub (ws' := [(q6, .inr (10, [.int 0, .ref mr_10, .int 1, .long 0]))]) [13] rfl
      have hDc := hD.sub (ws' := [(q6, .inr (10, [.int 0, .ref mr_10, .int 1, .long 0]))]) [13] (by decide) rfl
      have hKc := hK.sub (tys' := []) [] rfl
      have hFc := va_free (wc := [(q6, .inr (10, [.int 0, .ref mr_10, .int 1, .long 0]))]) hD hS hA [13] rfl
      refine va_calli (va_runV (As := [.int (xs 1), .int (xs 2)]) (rest := []) ⟨hx, hb, hml, hown, hts⟩ (cz_X8_ofPlayer l dC dI ed H182.size q6 mr_10 ll_10 lt_10 lp_10 0 0 (xs 1) (xs 2)) (cwV 2 hts gL_law_X8_ofPlayer rfl rfl rfl (by decide +kernel) ⟨Nat.le_of_ble_eq_true rfl, Nat.le_of_ble_eq_true rfl⟩) ⟨zb_blind, va_recv hK hP (ci := 10) (q0 := 13) rfl rfl, fun U hU hW => ⟨rfl, zb_mk hU hW hPr hPc hKc hDc hN hH hS hFc (zx_cons (zx_o hD 14 [13] rfl rfl (by decide)) (zx_cons (zx_o hD 15 [13] rfl rfl (by decide)) (zx_cons (zx_o hD 16 [13] rfl rfl (by decide)) (zx_cons (zx_o hD 17 [13] rfl rfl (by decide)) zx_nil))))⟩⟩ rfl rfl hl.1 rfl (lv_room (Nat.le_of_ble_eq_true rfl)) dL_law_1169 ⟨Nat.le_of_ble_eq_true rfl, Nat.le_of_ble_eq_true rfl⟩) hS (fun q _ h => hFc q h) hFc (fun r186 u t H185 locs ht hvm hw hB hz1 hk1 hS => ?_)
      obtain rfl : r186 = 0 := hw
      obtain ⟨hP1, hD1, hK1⟩ := hB
      rw [ht] at hP1
      obtain ⟨hP, hD⟩ := va_join (wr := [(q1, .inr (8, [.ref rm_5, .ref tr_5, .ref st_5])), (rm_5, .inr (5, [.ref lk_5, .ref th_5, .ref pl_5, .ref gm_5, .int 0, .int 0, .int 0, .int (-1), .int 1, .int 0, .int 0, .int 0])), (lk_5, .inl (cL_5, 10, .inr (.inr (.inr (.inr fl_5))))), (th_5, .inl (cT_5, 12, .inr (.inr (.inr (.inr ft_5))))), (pl_5, .inl (cP_5, 6, .inr (.inr (.inr (.inr fp_5))))), (gm_5, .inr (2, [.int 0, .int 0, .int 0, .int 0, .int 0, .int (-1), .long 0])), (l0_5, .inr (3, [.int 0, .int 0, .int 0, .int 0, .int 0, .int 0, .int 0, .int 0, .int 0, .int 0])), (t0_5, .inr (7, [.int 0, .int 0, .int 0, .int 0, .int 0])), (p0_5, .inr (4, [.int 0, .int 0, .int 0, .int 0])), (st_5, .inr (6, [.ref a1_5, .ref a2_5, .ref a3_5])), (a1_5, .inl (cZ_5, 1024, .inl f1_5)), (a2_5, .inl (cI_5, 1024, .inl f2_5)), (a3_5, .inl (cJ_5, 1024, .inl f3_5)), (mr_10, .inr (9, [.ref ll_10, .ref lt_10, .ref lp_10, .int (-1), .int 0, .int 0, .int 0, .int 0, .int 0, .int 0, .int (-1), .int 0, .int 0, .int 0])), (ll_10, .inr (1, [.int 0, .ref ed, .int 0])), (lt_10, .inr (1, [.int 0, .ref ed, .int 0])), (lp_10, .inr (1, [.int 0, .ref ed, .int 0])), (q11, .inl (cA13, 1, .inr (.inl fo9_184)))]) (w1 := [(q6, .inr (10, [.int 1, .ref mr_10, .int 1, .long 0]))]) hP hD [13] [0, 1, 2, 3, 4, 5, 6, 7, 8, 9, 10, 11, 12, 14, 15, 16, 17, 18] rfl rfl (by decide) (by decide) hk1 hFc hP1 hD1
      have hP : va_P (dC, dI) vwCl [(q1, .inr (8, [.ref rm_5, .ref tr_5, .ref st_5])), (rm_5, .inr (5, [.ref lk_5, .ref th_5, .ref pl_5, .ref gm_5, .int 0, .int 0, .int 0, .int (-1), .int 1, .int 0, .int 0, .int 0])), (lk_5, .inl (cL_5, 10, .inr (.inr (.inr (.inr fl_5))))), (th_5, .inl (cT_5, 12, .inr (.inr (.inr (.inr ft_5))))), (pl_5, .inl (cP_5, 6, .inr (.inr (.inr (.inr fp_5))))), (gm_5, .inr (2, [.int 0, .int 0, .int 0, .int 0, .int 0, .int (-1), .long 0])), (l0_5, .inr (3, [.int 0, .int 0, .int 0, .int 0, .int 0, .int 0, .int 0, .int 0, .int 0, .int 0])), (t0_5, .inr (7, [.int 0, .int 0, .int 0, .int 0, .int 0])), (p0_5, .inr (4, [.int 0, .int 0, .int 0, .int 0])), (st_5, .inr (6, [.ref a1_5, .ref a2_5, .ref a3_5])), (a1_5, .inl (cZ_5, 1024, .inl f1_5)), (a2_5, .inl (cI_5, 1024, .inl f2_5)), (a3_5, .inl (cJ_5, 1024, .inl f3_5)), (mr_10, .inr (9, [.ref ll_10, .ref lt_10, .ref lp_10, .int (-1), .int 0, .int 0, .int 0, .int 0, .int 0, .int 0, .int (-1), .int 0, .int 0, .int 0])), (ll_10, .inr (1, [.int 0, .ref ed, .int 0])), (lt_10, .inr (1, [.int 0, .ref ed, .int 0])), (lp_10, .inr (1, [.int 0, .ref ed, .int 0])), (q11, .inl (cA13, 1, .inr (.inl fo9_184))), (q6, .inr (10, [.int 1, .ref mr_10, .int 1, .long 0]))] H185 := hP
      have hD : va_D A [(q1, .inr (8, [.ref rm_5, .ref tr_5, .ref st_5])), (rm_5, .inr (5, [.ref lk_5, .ref th_5, .ref pl_5, .ref gm_5, .int 0, .int 0, .int 0, .int (-1), .int 1, .int 0, .int 0, .int 0])), (lk_5, .inl (cL_5, 10, .inr (.inr (.inr (.inr fl_5))))), (th_5, .inl (cT_5, 12, .inr (.inr (.inr (.inr ft_5))))), (pl_5, .inl (cP_5, 6, .inr (.inr (.inr (.inr fp_5))))), (gm_5, .inr (2, [.int 0, .int 0, .int 0, .int 0, .int 0, .int (-1), .long 0])), (l0_5, .inr (3, [.int 0, .int 0, .int 0, .int 0, .int 0, .int 0, .int 0, .int 0, .int 0, .int 0])), (t0_5, .inr (7, [.int 0, .int 0, .int 0, .int 0, .int 0])), (p0_5, .inr (4, [.int 0, .int 0, .int 0, .int 0])), (st_5, .inr (6, [.ref a1_5, .ref a2_5, .ref a3_5])), (a1_5, .inl (cZ_5, 1024, .inl f1_5)), (a2_5, .inl (cI_5, 1024, .inl f2_5)), (a3_5, .inl (cJ_5, 1024, .inl f3_5)), (mr_10, .inr (9, [.ref ll_10, .ref lt_10, .ref lp_10, .int (-1), .int 0, .int 0, .int 0, .int 0, .int 0, .int 0, .int (-1), .int 0, .int 0, .int 0])), (ll_10, .inr (1, [.int 0, .ref ed, .int 0])), (lt_10, .inr (1, [.int 0, .ref ed, .int 0])), (lp_10, .inr (1, [.int 0, .ref ed, .int 0])), (q11, .inl (cA13, 1, .inr (.inl fo9_184))), (q6, .inr (10, [.int 1, .ref mr_10, .int 1, .long 0]))] := hD
      refine lv_istore (lv' := [(6, .int 0), (5, .int 1), (4, .int 0), (3, .ref q11), (2, .ref q6), (1, .ref q1), (0, .ref b)]) hx hb dL_law_1172 hl (by decide) rfl (fun ls hl => ?_)
      refine lv_aload_n hx hb dL_law_1174 rfl (lv_at hl 4 rfl) ?_
      have hPr := (hP).sub (ws' := [(q6, .inr (10, [.int 1, .ref mr_10, .int 1, .long 0]))]) [18] rfl
      have hPc := hP.sub (ws' := []) [] rfl
      have hDc := hD.sub (ws' := []) [] (by decide) rfl
      have hKc := hK.sub (tys' := []) [] rfl
      have hFc := va_free (wc := []) hD hS hA [] rfl
      refine va_calli (va_runV (As := []) (rest := []) ⟨hx, hb, hml, hown, hts⟩ (cz_thrown l dC dI ed H185.size q6 mr_10 1 0) (cwV 0 hts gL_law_X8_thrown rfl rfl rfl (by decide +kernel) ⟨Nat.le_of_ble_eq_true rfl, Nat.le_of_ble_eq_true rfl⟩) ⟨zb_blind, va_recv hK hP (ci := 10) (q0 := 18) rfl rfl, fun U hU hW => ⟨rfl, zb_mk hU hW hPr hPc hKc hDc hN hH hS hFc zx_e⟩⟩ rfl rfl hl.1 rfl (lv_room (Nat.le_of_ble_eq_true rfl)) dL_law_1175 ⟨Nat.le_of_ble_eq_true rfl, Nat.le_of_ble_eq_true rfl⟩) hS (fun q _ h => hFc q h) hFc (fun r189 u t H188 locs ht hvm hw hB hz1 hk1 hS => ?_)
      obtain rfl : r189 = 1 := hw
      have hP := zo_K hP hk1
      refine lv_iload hx hb dL_law_1178 (lv_at hl 1 rfl) ?_
      refine lv_icmp_eq (tgt := 1185) hx hb dL_law_1180 (by decide) (fun _ => ?_) (fun h => absurd rfl h)
      refine lv_iload hx hb dL_law_1185 (lv_at hl 1 rfl) ?_
      refine lv_if_ne (tgt := 1202) hx hb dL_law_1187 (by decide) (fun _ => ?_) (fun h => absurd h (by decide))
      refine lv_goto (tgt := 1407) hx hb dL_law_1202 (by decide) ?_
      refine lv_iinc (v := 6) (lv' := [(4, .int 6), (6, .int 0), (5, .int 1), (3, .ref q11), (2, .ref q6), (1, .ref q1), (0, .ref b)]) hx hb dL_law_1407 hl (k := 2) rfl (by decide) (by decide) rfl (fun ls hl => ?_)
      refine lv_goto (tgt := 23) hx hb dL_law_1410 (by decide) ?_
      refine lv_iload hx hb dL_law_23 (lv_at hl 0 rfl) ?_
      refine lv_aload_n hx hb dL_law_25 rfl (lv_at hl 6 rfl) ?_
      refine va_slen hx hb hX hbl hbA hS dL_law_26 ?_
      refine zo_i (v := 6) (by decide) ?_
      refine lv_bipush (v := 6) hx hb dL_law_27 (by decide) ?_
      refine lv_isub hx hb dL_law_29 ?_
      refine zo_i (v := 0) (by decide) ?_
      refine lv_icmp_gt (tgt := 1413) hx hb dL_law_30 (by decide) (fun _ => ?_) (fun h => absurd h (by decide))
      refine lv_iconst (v := 1) hx hb dL_law_1413 (by decide) ?_
      refine W.widen (k := 600002) (n := 7302232) (Nat.le_of_ble_eq_true rfl) (Nat.le_of_ble_eq_true rfl) ?_
      refine va_forget (fun q hq => by have h9 := hS.2.2 q hq; rw [hAe] at h9; exact h9) ?_
      exact lw_ret hd0 hx hb hr hlocks dL_law_1414
    · refine zo_i (v := 17) (by decide) ?_
      refine lv_tableIn (off := 1165) (tgt := 1205) hx hb dL_law_40 (by decide) (by decide) rfl (by decide) ?_
      refine lv_aload_n hx hb dL_law_1205 rfl (lv_at hl 3 rfl) ?_
      refine lv_aload_n hx hb dL_law_1206 rfl (lv_at hl 4 rfl) ?_
      refine lv_iload hx hb dL_law_1207 (lv_at hl 0 rfl) ?_
      refine lv_iconst (v := 1) hx hb dL_law_1209 (by decide) ?_
      refine lv_iadd hx hb dL_law_1210 ?_
      refine zo_i (v := 1) (by decide) ?_
      refine va_sld hx hb hX hbl hbA hS (by unfold vp_in; decide) dL_law_1211 ?_
      refine zo_i (v := xs 1) (by rw [show Int32.toNatClampNeg 1 = 1 from by decide]) ?_
      refine lv_aload_n hx hb dL_law_1212 rfl (lv_at hl 1 rfl) ?_
      have hPr := (hP).sub (ws' := [(q1, .inr (8, [.ref rm_5, .ref tr_5, .ref st_5])), (rm_5, .inr (5, [.ref lk_5, .ref th_5, .ref pl_5, .ref gm_5, .int 0, .int 0, .int 0, .int (-1), .int 1, .int 0, .int 0, .int 0])), (gm_5, .inr (2, [.int 0, .int 0, .int 0, .int 0, .int 0, .int (-1), .long 0]))]) [0, 1, 5] rfl
      have hPc := hP.sub (ws' := [(q11, .inl (cA13, 1, .inr (.inl (fun _ => 0))))]) [18] rfl
      have hDc := hD.sub (ws' := [(q11, .inl (cA13, 1, .inr (.inl (fun _ => 0))))]) [18] (by decide) rfl
      have hKc := hK.sub (tys' := [(cA13, .long)]) [6] rfl
      have hFc := va_free (wc := [(q11, .inl (cA13, 1, .inr (.inl (fun _ => 0))))]) hD hS hA [18] rfl
      refine vx_calli (vx_runSX (As := [.ref q1, .int (xs 1), .ref q11]) (rest := []) ⟨hx, hb, hml, hown, hts⟩ (cz_L_many l dC dI ed H12.size q1 rm_5 tr_5 st_5 lk_5 th_5 pl_5 gm_5 (xs 1) q11 cA13 (fun _ => 0) htr) (vx_cwSW 3 hts gL_law_L_many rfl rfl rfl (by decide +kernel) ⟨Nat.le_of_ble_eq_true rfl, Nat.le_of_ble_eq_true rfl⟩) ⟨zb_blind, fun U hU hW => ⟨rfl, zb_mk hU hW hPr hPc hKc hDc hN hH hS hFc (zx_cons (zx_o hD 0 [18] rfl rfl (by decide)) (zx_cons (zx_o hD 1 [18] rfl rfl (by decide)) (zx_cons (zx_o hD 5 [18] rfl rfl (by decide)) zx_nil)))⟩⟩ rfl rfl hl.1 rfl (lv_room (Nat.le_of_ble_eq_true rfl)) dL_law_1213 ⟨Nat.le_of_ble_eq_true rfl, Nat.le_of_ble_eq_true rfl⟩) hS (fun q _ h => hFc q h) hFc (fun q _ h => hFc q h) (fun E ce q9 u t H190 locs ht hvm hpx hBX hz1 hk1 hS hce hcv hcl => hpx.elim) (fun r191 u t H190 locs ht hvm hw hB hz1 hk1 hS => ?_)
      obtain rfl : r191 = (zMk (xs 1)) := hw
      obtain ⟨fo9_192, hq192_0, hP1, hD1, hK1⟩ := hB
      rw [ht] at hP1
      obtain ⟨hP, hD⟩ := va_join (wr := [(q1, .inr (8, [.ref rm_5, .ref tr_5, .ref st_5])), (rm_5, .inr (5, [.ref lk_5, .ref th_5, .ref pl_5, .ref gm_5, .int 0, .int 0, .int 0, .int (-1), .int 1, .int 0, .int 0, .int 0])), (lk_5, .inl (cL_5, 10, .inr (.inr (.inr (.inr fl_5))))), (th_5, .inl (cT_5, 12, .inr (.inr (.inr (.inr ft_5))))), (pl_5, .inl (cP_5, 6, .inr (.inr (.inr (.inr fp_5))))), (gm_5, .inr (2, [.int 0, .int 0, .int 0, .int 0, .int 0, .int (-1), .long 0])), (l0_5, .inr (3, [.int 0, .int 0, .int 0, .int 0, .int 0, .int 0, .int 0, .int 0, .int 0, .int 0])), (t0_5, .inr (7, [.int 0, .int 0, .int 0, .int 0, .int 0])), (p0_5, .inr (4, [.int 0, .int 0, .int 0, .int 0])), (st_5, .inr (6, [.ref a1_5, .ref a2_5, .ref a3_5])), (a1_5, .inl (cZ_5, 1024, .inl f1_5)), (a2_5, .inl (cI_5, 1024, .inl f2_5)), (a3_5, .inl (cJ_5, 1024, .inl f3_5)), (q6, .inr (10, [.int 0, .ref mr_10, .int 1, .long 0])), (mr_10, .inr (9, [.ref ll_10, .ref lt_10, .ref lp_10, .int (-1), .int 0, .int 0, .int 0, .int 0, .int 0, .int 0, .int (-1), .int 0, .int 0, .int 0])), (ll_10, .inr (1, [.int 0, .ref ed, .int 0])), (lt_10, .inr (1, [.int 0, .ref ed, .int 0])), (lp_10, .inr (1, [.int 0, .ref ed, .int 0]))]) (w1 := [(q11, .inl (cA13, 1, .inr (.inl fo9_192)))]) hP hD [18] [0, 1, 2, 3, 4, 5, 6, 7, 8, 9, 10, 11, 12, 13, 14, 15, 16, 17] rfl rfl (by decide) (by decide) hk1 hFc hP1 hD1
      have hP : va_P (dC, dI) vwCl [(q1, .inr (8, [.ref rm_5, .ref tr_5, .ref st_5])), (rm_5, .inr (5, [.ref lk_5, .ref th_5, .ref pl_5, .ref gm_5, .int 0, .int 0, .int 0, .int (-1), .int 1, .int 0, .int 0, .int 0])), (lk_5, .inl (cL_5, 10, .inr (.inr (.inr (.inr fl_5))))), (th_5, .inl (cT_5, 12, .inr (.inr (.inr (.inr ft_5))))), (pl_5, .inl (cP_5, 6, .inr (.inr (.inr (.inr fp_5))))), (gm_5, .inr (2, [.int 0, .int 0, .int 0, .int 0, .int 0, .int (-1), .long 0])), (l0_5, .inr (3, [.int 0, .int 0, .int 0, .int 0, .int 0, .int 0, .int 0, .int 0, .int 0, .int 0])), (t0_5, .inr (7, [.int 0, .int 0, .int 0, .int 0, .int 0])), (p0_5, .inr (4, [.int 0, .int 0, .int 0, .int 0])), (st_5, .inr (6, [.ref a1_5, .ref a2_5, .ref a3_5])), (a1_5, .inl (cZ_5, 1024, .inl f1_5)), (a2_5, .inl (cI_5, 1024, .inl f2_5)), (a3_5, .inl (cJ_5, 1024, .inl f3_5)), (q6, .inr (10, [.int 0, .ref mr_10, .int 1, .long 0])), (mr_10, .inr (9, [.ref ll_10, .ref lt_10, .ref lp_10, .int (-1), .int 0, .int 0, .int 0, .int 0, .int 0, .int 0, .int (-1), .int 0, .int 0, .int 0])), (ll_10, .inr (1, [.int 0, .ref ed, .int 0])), (lt_10, .inr (1, [.int 0, .ref ed, .int 0])), (lp_10, .inr (1, [.int 0, .ref ed, .int 0])), (q11, .inl (cA13, 1, .inr (.inl fo9_192)))] H190 := hP
      have hD : va_D A [(q1, .inr (8, [.ref rm_5, .ref tr_5, .ref st_5])), (rm_5, .inr (5, [.ref lk_5, .ref th_5, .ref pl_5, .ref gm_5, .int 0, .int 0, .int 0, .int (-1), .int 1, .int 0, .int 0, .int 0])), (lk_5, .inl (cL_5, 10, .inr (.inr (.inr (.inr fl_5))))), (th_5, .inl (cT_5, 12, .inr (.inr (.inr (.inr ft_5))))), (pl_5, .inl (cP_5, 6, .inr (.inr (.inr (.inr fp_5))))), (gm_5, .inr (2, [.int 0, .int 0, .int 0, .int 0, .int 0, .int (-1), .long 0])), (l0_5, .inr (3, [.int 0, .int 0, .int 0, .int 0, .int 0, .int 0, .int 0, .int 0, .int 0, .int 0])), (t0_5, .inr (7, [.int 0, .int 0, .int 0, .int 0, .int 0])), (p0_5, .inr (4, [.int 0, .int 0, .int 0, .int 0])), (st_5, .inr (6, [.ref a1_5, .ref a2_5, .ref a3_5])), (a1_5, .inl (cZ_5, 1024, .inl f1_5)), (a2_5, .inl (cI_5, 1024, .inl f2_5)), (a3_5, .inl (cJ_5, 1024, .inl f3_5)), (q6, .inr (10, [.int 0, .ref mr_10, .int 1, .long 0])), (mr_10, .inr (9, [.ref ll_10, .ref lt_10, .ref lp_10, .int (-1), .int 0, .int 0, .int 0, .int 0, .int 0, .int 0, .int (-1), .int 0, .int 0, .int 0])), (ll_10, .inr (1, [.int 0, .ref ed, .int 0])), (lt_10, .inr (1, [.int 0, .ref ed, .int 0])), (lp_10, .inr (1, [.int 0, .ref ed, .int 0])), (q11, .inl (cA13, 1, .inr (.inl fo9_192)))] := hD
      refine lv_istore (lv' := [(5, .int (zMk (xs 1))), (4, .int 0), (3, .ref q11), (2, .ref q6), (1, .ref q1), (0, .ref b)]) hx hb dL_law_1216 hl (by decide) rfl (fun ls hl => ?_)
      refine lv_aload_n hx hb dL_law_1218 rfl (lv_at hl 3 rfl) ?_
      refine lv_aload_n hx hb dL_law_1219 rfl (lv_at hl 5 rfl) ?_
      refine lv_iload hx hb dL_law_1220 (lv_at hl 1 rfl) ?_
      refine lv_iconst (v := 1) hx hb dL_law_1222 (by decide) ?_
      refine lv_iadd hx hb dL_law_1223 ?_
      refine zo_i (v := 1) (by decide) ?_
      refine va_sld hx hb hX hbl hbA hS (by unfold vp_in; decide) dL_law_1224 ?_
      refine zo_i (v := xs 1) (by rw [show Int32.toNatClampNeg 1 = 1 from by decide]) ?_
      have hPr := (hP).sub (ws' := [(mr_10, .inr (9, [.ref ll_10, .ref lt_10, .ref lp_10, .int (-1), .int 0, .int 0, .int 0, .int 0, .int 0, .int 0, .int (-1), .int 0, .int 0, .int 0])), (ll_10, .inr (1, [.int 0, .ref ed, .int 0])), (lt_10, .inr (1, [.int 0, .ref ed, .int 0])), (lp_10, .inr (1, [.int 0, .ref ed, .int 0]))]) [14, 15, 16, 17] rfl
      have hPc := hP.sub (ws' := [(q6, .inr (10, [.int 0, .ref mr_10, .int 1, .long 0]))]) [13] rfl
      have hDc := hD.sub (ws' := [(q6, .inr (10, [.int 0, .ref mr_10, .int 1, .long 0]))]) [13] (by decide) rfl
      have hKc := hK.sub (tys' := []) [] rfl
      have hFc := va_free (wc := [(q6, .inr (10, [.int 0, .ref mr_10, .int 1, .long 0]))]) hD hS hA [13] rfl
      refine va_calli (va_runV (As := [.int (xs 1)]) (rest := []) ⟨hx, hb, hml, hown, hts⟩ (cz_X8_many l dC dI ed H190.size q6 mr_10 ll_10 lt_10 lp_10 0 0 (xs 1)) (cwV 1 hts gL_law_X8_many rfl rfl rfl (by decide +kernel) ⟨Nat.le_of_ble_eq_true rfl, Nat.le_of_ble_eq_true rfl⟩) ⟨zb_blind, va_recv hK hP (ci := 10) (q0 := 13) rfl rfl, fun U hU hW => ⟨rfl, zb_mk hU hW hPr hPc hKc hDc hN hH hS hFc (zx_cons (zx_o hD 14 [13] rfl rfl (by decide)) (zx_cons (zx_o hD 15 [13] rfl rfl (by decide)) (zx_cons (zx_o hD 16 [13] rfl rfl (by decide)) (zx_cons (zx_o hD 17 [13] rfl rfl (by decide)) zx_nil))))⟩⟩ rfl rfl hl.1 rfl (lv_room (Nat.le_of_ble_eq_true rfl)) dL_law_1225 ⟨Nat.le_of_ble_eq_true rfl, Nat.le_of_ble_eq_true rfl⟩) hS (fun q _ h => hFc q h) hFc (fun r194 u t H193 locs ht hvm hw hB hz1 hk1 hS => ?_)
      obtain rfl : r194 = (zMv (xs 1)) := hw
      obtain ⟨hP1, hD1, hK1⟩ := hB
      rw [ht] at hP1
      obtain ⟨hP, hD⟩ := va_join (wr := [(q1, .inr (8, [.ref rm_5, .ref tr_5, .ref st_5])), (rm_5, .inr (5, [.ref lk_5, .ref th_5, .ref pl_5, .ref gm_5, .int 0, .int 0, .int 0, .int (-1), .int 1, .int 0, .int 0, .int 0])), (lk_5, .inl (cL_5, 10, .inr (.inr (.inr (.inr fl_5))))), (th_5, .inl (cT_5, 12, .inr (.inr (.inr (.inr ft_5))))), (pl_5, .inl (cP_5, 6, .inr (.inr (.inr (.inr fp_5))))), (gm_5, .inr (2, [.int 0, .int 0, .int 0, .int 0, .int 0, .int (-1), .long 0])), (l0_5, .inr (3, [.int 0, .int 0, .int 0, .int 0, .int 0, .int 0, .int 0, .int 0, .int 0, .int 0])), (t0_5, .inr (7, [.int 0, .int 0, .int 0, .int 0, .int 0])), (p0_5, .inr (4, [.int 0, .int 0, .int 0, .int 0])), (st_5, .inr (6, [.ref a1_5, .ref a2_5, .ref a3_5])), (a1_5, .inl (cZ_5, 1024, .inl f1_5)), (a2_5, .inl (cI_5, 1024, .inl f2_5)), (a3_5, .inl (cJ_5, 1024, .inl f3_5)), (mr_10, .inr (9, [.ref ll_10, .ref lt_10, .ref lp_10, .int (-1), .int 0, .int 0, .int 0, .int 0, .int 0, .int 0, .int (-1), .int 0, .int 0, .int 0])), (ll_10, .inr (1, [.int 0, .ref ed, .int 0])), (lt_10, .inr (1, [.int 0, .ref ed, .int 0])), (lp_10, .inr (1, [.int 0, .ref ed, .int 0])), (q11, .inl (cA13, 1, .inr (.inl fo9_192)))]) (w1 := [(q6, .inr (10, [.int (zMk (xs 1)), .ref mr_10, .int 1, .long 0]))]) hP hD [13] [0, 1, 2, 3, 4, 5, 6, 7, 8, 9, 10, 11, 12, 14, 15, 16, 17, 18] rfl rfl (by decide) (by decide) hk1 hFc hP1 hD1
      have hP : va_P (dC, dI) vwCl [(q1, .inr (8, [.ref rm_5, .ref tr_5, .ref st_5])), (rm_5, .inr (5, [.ref lk_5, .ref th_5, .ref pl_5, .ref gm_5, .int 0, .int 0, .int 0, .int (-1), .int 1, .int 0, .int 0, .int 0])), (lk_5, .inl (cL_5, 10, .inr (.inr (.inr (.inr fl_5))))), (th_5, .inl (cT_5, 12, .inr (.inr (.inr (.inr ft_5))))), (pl_5, .inl (cP_5, 6, .inr (.inr (.inr (.inr fp_5))))), (gm_5, .inr (2, [.int 0, .int 0, .int 0, .int 0, .int 0, .int (-1), .long 0])), (l0_5, .inr (3, [.int 0, .int 0, .int 0, .int 0, .int 0, .int 0, .int 0, .int 0, .int 0, .int 0])), (t0_5, .inr (7, [.int 0, .int 0, .int 0, .int 0, .int 0])), (p0_5, .inr (4, [.int 0, .int 0, .int 0, .int 0])), (st_5, .inr (6, [.ref a1_5, .ref a2_5, .ref a3_5])), (a1_5, .inl (cZ_5, 1024, .inl f1_5)), (a2_5, .inl (cI_5, 1024, .inl f2_5)), (a3_5, .inl (cJ_5, 1024, .inl f3_5)), (mr_10, .inr (9, [.ref ll_10, .ref lt_10, .ref lp_10, .int (-1), .int 0, .int 0, .int 0, .int 0, .int 0, .int 0, .int (-1), .int 0, .int 0, .int 0])), (ll_10, .inr (1, [.int 0, .ref ed, .int 0])), (lt_10, .inr (1, [.int 0, .ref ed, .int 0])), (lp_10, .inr (1, [.int 0, .ref ed, .int 0])), (q11, .inl (cA13, 1, .inr (.inl fo9_192))), (q6, .inr (10, [.int (zMk (xs 1)), .ref mr_10, .int 1, .long 0]))] H193 := hP
      have hD : va_D A [(q1, .inr (8, [.ref rm_5, .ref tr_5, .ref st_5])), (rm_5, .inr (5, [.ref lk_5, .ref th_5, .ref pl_5, .ref gm_5, .int 0, .int 0, .int 0, .int (-1), .int 1, .int 0, .int 0, .int 0])), (lk_5, .inl (cL_5, 10, .inr (.inr (.inr (.inr fl_5))))), (th_5, .inl (cT_5, 12, .inr (.inr (.inr (.inr ft_5))))), (pl_5, .inl (cP_5, 6, .inr (.inr (.inr (.inr fp_5))))), (gm_5, .inr (2, [.int 0, .int 0, .int 0, .int 0, .int 0, .int (-1), .long 0])), (l0_5, .inr (3, [.int 0, .int 0, .int 0, .int 0, .int 0, .int 0, .int 0, .int 0, .int 0, .int 0])), (t0_5, .inr (7, [.int 0, .int 0, .int 0, .int 0, .int 0])), (p0_5, .inr (4, [.int 0, .int 0, .int 0, .int 0])), (st_5, .inr (6, [.ref a1_5, .ref a2_5, .ref a3_5])), (a1_5, .inl (cZ_5, 1024, .inl f1_5)), (a2_5, .inl (cI_5, 1024, .inl f2_5)), (a3_5, .inl (cJ_5, 1024, .inl f3_5)), (mr_10, .inr (9, [.ref ll_10, .ref lt_10, .ref lp_10, .int (-1), .int 0, .int 0, .int 0, .int 0, .int 0, .int 0, .int (-1), .int 0, .int 0, .int 0])), (ll_10, .inr (1, [.int 0, .ref ed, .int 0])), (lt_10, .inr (1, [.int 0, .ref ed, .int 0])), (lp_10, .inr (1, [.int 0, .ref ed, .int 0])), (q11, .inl (cA13, 1, .inr (.inl fo9_192))), (q6, .inr (10, [.int (zMk (xs 1)), .ref mr_10, .int 1, .long 0]))] := hD
      refine lv_istore (lv' := [(6, .int (zMv (xs 1))), (5, .int (zMk (xs 1))), (4, .int 0), (3, .ref q11), (2, .ref q6), (1, .ref q1), (0, .ref b)]) hx hb dL_law_1228 hl (by decide) rfl (fun ls hl => ?_)
      refine lv_aload_n hx hb dL_law_1230 rfl (lv_at hl 4 rfl) ?_
      have hPr := (hP).sub (ws' := [(q6, .inr (10, [.int (zMk (xs 1)), .ref mr_10, .int 1, .long 0]))]) [18] rfl
      have hPc := hP.sub (ws' := []) [] rfl
      have hDc := hD.sub (ws' := []) [] (by decide) rfl
      have hKc := hK.sub (tys' := []) [] rfl
      have hFc := va_free (wc := []) hD hS hA [] rfl
      refine va_calli (va_runV (As := []) (rest := []) ⟨hx, hb, hml, hown, hts⟩ (cz_thrown l dC dI ed H193.size q6 mr_10 (zMk (xs 1)) 0) (cwV 0 hts gL_law_X8_thrown rfl rfl rfl (by decide +kernel) ⟨Nat.le_of_ble_eq_true rfl, Nat.le_of_ble_eq_true rfl⟩) ⟨zb_blind, va_recv hK hP (ci := 10) (q0 := 18) rfl rfl, fun U hU hW => ⟨rfl, zb_mk hU hW hPr hPc hKc hDc hN hH hS hFc zx_e⟩⟩ rfl rfl hl.1 rfl (lv_room (Nat.le_of_ble_eq_true rfl)) dL_law_1231 ⟨Nat.le_of_ble_eq_true rfl, Nat.le_of_ble_eq_true rfl⟩) hS (fun q _ h => hFc q h) hFc (fun r197 u t H196 locs ht hvm hw hB hz1 hk1 hS => ?_)
      obtain rfl : r197 = (zMk (xs 1)) := hw
      have hP := zo_K hP hk1
      refine lv_iload hx hb dL_law_1234 (lv_at hl 1 rfl) ?_
      refine lv_icmp_eq (tgt := 1241) hx hb dL_law_1236 (by decide) (fun _ => ?_) (fun h => absurd rfl h)
      refine lv_iload hx hb dL_law_1241 (lv_at hl 1 rfl) ?_
      refine lv_if_ne (tgt := 1258) hx hb dL_law_1243 (by decide) (fun c198 => ?_) (fun c198 => ?_)
      · skip
        refine lv_goto (tgt := 1407) hx hb dL_law_1258 (by decide) ?_
        refine lv_iinc (v := 6) (lv' := [(4, .int 6), (6, .int (zMv (xs 1))), (5, .int (zMk (xs 1))), (3, .ref q11), (2, .ref q6), (1, .ref q1), (0, .ref b)]) hx hb dL_law_1407 hl (k := 2) rfl (by decide) (by decide) rfl (fun ls hl => ?_)
        refine lv_goto (tgt := 23) hx hb dL_law_1410 (by decide) ?_
        refine lv_iload hx hb dL_law_23 (lv_at hl 0 rfl) ?_
        refine lv_aload_n hx hb dL_law_25 rfl (lv_at hl 6 rfl) ?_
        refine va_slen hx hb hX hbl hbA hS dL_law_26 ?_
        refine zo_i (v := 6) (by decide) ?_
        refine lv_bipush (v := 6) hx hb dL_law_27 (by decide) ?_
        refine lv_isub hx hb dL_law_29 ?_
        refine zo_i (v := 0) (by decide) ?_
        refine lv_icmp_gt (tgt := 1413) hx hb dL_law_30 (by decide) (fun _ => ?_) (fun h => absurd h (by decide))
        refine lv_iconst (v := 1) hx hb dL_law_1413 (by decide) ?_
        refine W.widen (k := 600002) (n := 7302232) (Nat.le_of_ble_eq_true rfl) (Nat.le_of_ble_eq_true rfl) ?_
        refine va_forget (fun q hq => by have h9 := hS.2.2 q hq; rw [hAe] at h9; exact h9) ?_
        exact lw_ret hd0 hx hb hr hlocks dL_law_1414
      · skip
        refine lv_aload_n hx hb dL_law_1246 rfl (lv_at hl 3 rfl) ?_
        refine lv_iconst (v := 0) hx hb dL_law_1247 (by decide) ?_
        refine va_lald hx hb hK hP 17 6 rfl rfl (by unfold vp_in; decide) dL_law_1248 ?_
        refine zo_l (v := (zMv (xs 1)).toInt64) (by rw [show Int32.toNatClampNeg 0 = 0 from by decide]; exact hq192_0 c198) ?_
        refine lv_iload hx hb dL_law_1249 (lv_at hl 0 rfl) ?_
        refine lv_i2l (v := (zMv (xs 1)).toInt64) hx hb dL_law_1251 (by rfl) ?_
        refine W.lcmp hx hb dL_law_1252 ?_
        refine zo_i (v := 0) (zo_lc _) ?_
        refine lv_if_eq (tgt := 1258) hx hb dL_law_1253 (by decide) (fun _ => ?_) (fun h => absurd h (by decide))
        refine lv_goto (tgt := 1407) hx hb dL_law_1258 (by decide) ?_
        refine lv_iinc (v := 6) (lv' := [(4, .int 6), (6, .int (zMv (xs 1))), (5, .int (zMk (xs 1))), (3, .ref q11), (2, .ref q6), (1, .ref q1), (0, .ref b)]) hx hb dL_law_1407 hl (k := 2) rfl (by decide) (by decide) rfl (fun ls hl => ?_)
        refine lv_goto (tgt := 23) hx hb dL_law_1410 (by decide) ?_
        refine lv_iload hx hb dL_law_23 (lv_at hl 0 rfl) ?_
        refine lv_aload_n hx hb dL_law_25 rfl (lv_at hl 6 rfl) ?_
        refine va_slen hx hb hX hbl hbA hS dL_law_26 ?_
        refine zo_i (v := 6) (by decide) ?_
        refine lv_bipush (v := 6) hx hb dL_law_27 (by decide) ?_
        refine lv_isub hx hb dL_law_29 ?_
        refine zo_i (v := 0) (by decide) ?_
        refine lv_icmp_gt (tgt := 1413) hx hb dL_law_30 (by decide) (fun _ => ?_) (fun h => absurd h (by decide))
        refine lv_iconst (v := 1) hx hb dL_law_1413 (by decide) ?_
        refine W.widen (k := 600002) (n := 7302232) (Nat.le_of_ble_eq_true rfl) (Nat.le_of_ble_eq_true rfl) ?_
        refine va_forget (fun q hq => by have h9 := hS.2.2 q hq; rw [hAe] at h9; exact h9) ?_
        exact lw_ret hd0 hx hb hr hlocks dL_law_1414
    · refine zo_i (v := 18) (by decide) ?_
      refine lv_tableIn (off := 1221) (tgt := 1261) hx hb dL_law_40 (by decide) (by decide) rfl (by decide) ?_
      refine lv_aload_n hx hb dL_law_1261 rfl (lv_at hl 3 rfl) ?_
      have hPr := (hP).sub (ws' := [(q1, .inr (8, [.ref rm_5, .ref tr_5, .ref st_5])), (rm_5, .inr (5, [.ref lk_5, .ref th_5, .ref pl_5, .ref gm_5, .int 0, .int 0, .int 0, .int (-1), .int 1, .int 0, .int 0, .int 0])), (gm_5, .inr (2, [.int 0, .int 0, .int 0, .int 0, .int 0, .int (-1), .long 0]))]) [0, 1, 5] rfl
      have hPc := hP.sub (ws' := []) [] rfl
      have hDc := hD.sub (ws' := []) [] (by decide) rfl
      have hKc := hK.sub (tys' := []) [] rfl
      have hFc := va_free (wc := []) hD hS hA [] rfl
      refine va_calld (va_runV (As := []) (rest := []) ⟨hx, hb, hml, hown, hts⟩ (cz_X6_meanScore l dC dI ed H12.size q1 rm_5 tr_5 st_5 lk_5 th_5 pl_5 gm_5) (cwV 0 hts gL_law_X6_meanScore rfl rfl rfl (by decide +kernel) ⟨Nat.le_of_ble_eq_true rfl, Nat.le_of_ble_eq_true rfl⟩) ⟨zb_blind, va_recv hK hP (ci := 8) (q0 := 0) rfl rfl, fun U hU hW => ⟨rfl, zb_mk hU hW hPr hPc hKc hDc hN hH hS hFc zx_e⟩⟩ rfl rfl hl.1 rfl (lv_room (Nat.le_of_ble_eq_true rfl)) dL_law_1262 ⟨Nat.le_of_ble_eq_true rfl, Nat.le_of_ble_eq_true rfl⟩) hS (fun q _ h => hFc q h) hFc (fun r200 u t H199 locs ht hvm hw hB hz1 hk1 hS => ?_)
      obtain rfl : r200 = 0 := hw
      have hP := zo_K hP hk1
      refine lv_dstore (lv' := [(5, .double 0), (4, .int 0), (3, .ref q11), (2, .ref q6), (1, .ref q1), (0, .ref b)]) hx hb dL_law_1265 hl (by decide) rfl (fun ls hl => ?_)
      refine lv_aload_n hx hb dL_law_1267 rfl (lv_at hl 3 rfl) ?_
      have hPr := (hP).sub (ws' := [(mr_10, .inr (9, [.ref ll_10, .ref lt_10, .ref lp_10, .int (-1), .int 0, .int 0, .int 0, .int 0, .int 0, .int 0, .int (-1), .int 0, .int 0, .int 0])), (ll_10, .inr (1, [.int 0, .ref ed, .int 0])), (lt_10, .inr (1, [.int 0, .ref ed, .int 0])), (lp_10, .inr (1, [.int 0, .ref ed, .int 0]))]) [14, 15, 16, 17] rfl
      have hPc := hP.sub (ws' := [(q6, .inr (10, [.int 0, .ref mr_10, .int 1, .long 0]))]) [13] rfl
      have hDc := hD.sub (ws' := [(q6, .inr (10, [.int 0, .ref mr_10, .int 1, .long 0]))]) [13] (by decide) rfl
      have hKc := hK.sub (tys' := []) [] rfl
      have hFc := va_free (wc := [(q6, .inr (10, [.int 0, .ref mr_10, .int 1, .long 0]))]) hD hS hA [13] rfl
      refine va_calld (va_runV (As := []) (rest := []) ⟨hx, hb, hml, hown, hts⟩ (cz_X8_meanScore l dC dI ed H199.size q6 mr_10 ll_10 lt_10 lp_10 0 0) (cwV 0 hts gL_law_X8_meanScore rfl rfl rfl (by decide +kernel) ⟨Nat.le_of_ble_eq_true rfl, Nat.le_of_ble_eq_true rfl⟩) ⟨zb_blind, va_recv hK hP (ci := 10) (q0 := 13) rfl rfl, fun U hU hW => ⟨rfl, zb_mk hU hW hPr hPc hKc hDc hN hH hS hFc (zx_cons (zx_o hD 14 [13] rfl rfl (by decide)) (zx_cons (zx_o hD 15 [13] rfl rfl (by decide)) (zx_cons (zx_o hD 16 [13] rfl rfl (by decide)) (zx_cons (zx_o hD 17 [13] rfl rfl (by decide)) zx_nil))))⟩⟩ rfl rfl hl.1 rfl (lv_room (Nat.le_of_ble_eq_true rfl)) dL_law_1268 ⟨Nat.le_of_ble_eq_true rfl, Nat.le_of_ble_eq_true rfl⟩) hS (fun q _ h => hFc q h) hFc (fun r202 u t H201 locs ht hvm hw hB hz1 hk1 hS => ?_)
      obtain rfl : r202 = 0 := hw
      obtain ⟨hP1, hD1, hK1⟩ := hB
      rw [ht] at hP1
      obtain ⟨hP, hD⟩ := va_join (wr := [(q1, .inr (8, [.ref rm_5, .ref tr_5, .ref st_5])), (rm_5, .inr (5, [.ref lk_5, .ref th_5, .ref pl_5, .ref gm_5, .int 0, .int 0, .int 0, .int (-1), .int 1, .int 0, .int 0, .int 0])), (lk_5, .inl (cL_5, 10, .inr (.inr (.inr (.inr fl_5))))), (th_5, .inl (cT_5, 12, .inr (.inr (.inr (.inr ft_5))))), (pl_5, .inl (cP_5, 6, .inr (.inr (.inr (.inr fp_5))))), (gm_5, .inr (2, [.int 0, .int 0, .int 0, .int 0, .int 0, .int (-1), .long 0])), (l0_5, .inr (3, [.int 0, .int 0, .int 0, .int 0, .int 0, .int 0, .int 0, .int 0, .int 0, .int 0])), (t0_5, .inr (7, [.int 0, .int 0, .int 0, .int 0, .int 0])), (p0_5, .inr (4, [.int 0, .int 0, .int 0, .int 0])), (st_5, .inr (6, [.ref a1_5, .ref a2_5, .ref a3_5])), (a1_5, .inl (cZ_5, 1024, .inl f1_5)), (a2_5, .inl (cI_5, 1024, .inl f2_5)), (a3_5, .inl (cJ_5, 1024, .inl f3_5)), (mr_10, .inr (9, [.ref ll_10, .ref lt_10, .ref lp_10, .int (-1), .int 0, .int 0, .int 0, .int 0, .int 0, .int 0, .int (-1), .int 0, .int 0, .int 0])), (ll_10, .inr (1, [.int 0, .ref ed, .int 0])), (lt_10, .inr (1, [.int 0, .ref ed, .int 0])), (lp_10, .inr (1, [.int 0, .ref ed, .int 0])), (q11, .inl (cA13, 1, .inr (.inl (fun _ => 0))))]) (w1 := [(q6, .inr (10, [.int 0, .ref mr_10, .int 1, .long 0]))]) hP hD [13] [0, 1, 2, 3, 4, 5, 6, 7, 8, 9, 10, 11, 12, 14, 15, 16, 17, 18] rfl rfl (by decide) (by decide) hk1 hFc hP1 hD1
      have hP : va_P (dC, dI) vwCl [(q1, .inr (8, [.ref rm_5, .ref tr_5, .ref st_5])), (rm_5, .inr (5, [.ref lk_5, .ref th_5, .ref pl_5, .ref gm_5, .int 0, .int 0, .int 0, .int (-1), .int 1, .int 0, .int 0, .int 0])), (lk_5, .inl (cL_5, 10, .inr (.inr (.inr (.inr fl_5))))), (th_5, .inl (cT_5, 12, .inr (.inr (.inr (.inr ft_5))))), (pl_5, .inl (cP_5, 6, .inr (.inr (.inr (.inr fp_5))))), (gm_5, .inr (2, [.int 0, .int 0, .int 0, .int 0, .int 0, .int (-1), .long 0])), (l0_5, .inr (3, [.int 0, .int 0, .int 0, .int 0, .int 0, .int 0, .int 0, .int 0, .int 0, .int 0])), (t0_5, .inr (7, [.int 0, .int 0, .int 0, .int 0, .int 0])), (p0_5, .inr (4, [.int 0, .int 0, .int 0, .int 0])), (st_5, .inr (6, [.ref a1_5, .ref a2_5, .ref a3_5])), (a1_5, .inl (cZ_5, 1024, .inl f1_5)), (a2_5, .inl (cI_5, 1024, .inl f2_5)), (a3_5, .inl (cJ_5, 1024, .inl f3_5)), (mr_10, .inr (9, [.ref ll_10, .ref lt_10, .ref lp_10, .int (-1), .int 0, .int 0, .int 0, .int 0, .int 0, .int 0, .int (-1), .int 0, .int 0, .int 0])), (ll_10, .inr (1, [.int 0, .ref ed, .int 0])), (lt_10, .inr (1, [.int 0, .ref ed, .int 0])), (lp_10, .inr (1, [.int 0, .ref ed, .int 0])), (q11, .inl (cA13, 1, .inr (.inl (fun _ => 0)))), (q6, .inr (10, [.int 0, .ref mr_10, .int 1, .long 0]))] H201 := hP
      have hD : va_D A [(q1, .inr (8, [.ref rm_5, .ref tr_5, .ref st_5])), (rm_5, .inr (5, [.ref lk_5, .ref th_5, .ref pl_5, .ref gm_5, .int 0, .int 0, .int 0, .int (-1), .int 1, .int 0, .int 0, .int 0])), (lk_5, .inl (cL_5, 10, .inr (.inr (.inr (.inr fl_5))))), (th_5, .inl (cT_5, 12, .inr (.inr (.inr (.inr ft_5))))), (pl_5, .inl (cP_5, 6, .inr (.inr (.inr (.inr fp_5))))), (gm_5, .inr (2, [.int 0, .int 0, .int 0, .int 0, .int 0, .int (-1), .long 0])), (l0_5, .inr (3, [.int 0, .int 0, .int 0, .int 0, .int 0, .int 0, .int 0, .int 0, .int 0, .int 0])), (t0_5, .inr (7, [.int 0, .int 0, .int 0, .int 0, .int 0])), (p0_5, .inr (4, [.int 0, .int 0, .int 0, .int 0])), (st_5, .inr (6, [.ref a1_5, .ref a2_5, .ref a3_5])), (a1_5, .inl (cZ_5, 1024, .inl f1_5)), (a2_5, .inl (cI_5, 1024, .inl f2_5)), (a3_5, .inl (cJ_5, 1024, .inl f3_5)), (mr_10, .inr (9, [.ref ll_10, .ref lt_10, .ref lp_10, .int (-1), .int 0, .int 0, .int 0, .int 0, .int 0, .int 0, .int (-1), .int 0, .int 0, .int 0])), (ll_10, .inr (1, [.int 0, .ref ed, .int 0])), (lt_10, .inr (1, [.int 0, .ref ed, .int 0])), (lp_10, .inr (1, [.int 0, .ref ed, .int 0])), (q11, .inl (cA13, 1, .inr (.inl (fun _ => 0)))), (q6, .inr (10, [.int 0, .ref mr_10, .int 1, .long 0]))] := hD
      refine lv_dstore (lv' := [(7, .double 0), (5, .double 0), (4, .int 0), (3, .ref q11), (2, .ref q6), (1, .ref q1), (0, .ref b)]) hx hb dL_law_1271 hl (by decide) rfl (fun ls hl => ?_)
      refine lv_dload hx hb dL_law_1273 (lv_at hl 1 rfl) ?_
      refine lv_dload hx hb dL_law_1275 (lv_at hl 0 rfl) ?_
      refine lv_dcmp hx hb dL_law_1277 ?_
      refine zo_i (v := 0) (by decide +kernel) ?_
      refine lv_if_eq (tgt := 1299) hx hb dL_law_1278 (by decide) (fun _ => ?_) (fun h => absurd h (by decide))
      refine lv_goto (tgt := 1407) hx hb dL_law_1299 (by decide) ?_
      refine lv_iinc (v := 6) (lv' := [(4, .int 6), (7, .double 0), (5, .double 0), (3, .ref q11), (2, .ref q6), (1, .ref q1), (0, .ref b)]) hx hb dL_law_1407 hl (k := 2) rfl (by decide) (by decide) rfl (fun ls hl => ?_)
      refine lv_goto (tgt := 23) hx hb dL_law_1410 (by decide) ?_
      refine lv_iload hx hb dL_law_23 (lv_at hl 0 rfl) ?_
      refine lv_aload_n hx hb dL_law_25 rfl (lv_at hl 6 rfl) ?_
      refine va_slen hx hb hX hbl hbA hS dL_law_26 ?_
      refine zo_i (v := 6) (by decide) ?_
      refine lv_bipush (v := 6) hx hb dL_law_27 (by decide) ?_
      refine lv_isub hx hb dL_law_29 ?_
      refine zo_i (v := 0) (by decide) ?_
      refine lv_icmp_gt (tgt := 1413) hx hb dL_law_30 (by decide) (fun _ => ?_) (fun h => absurd h (by decide))
      refine lv_iconst (v := 1) hx hb dL_law_1413 (by decide) ?_
      refine W.widen (k := 600002) (n := 7302232) (Nat.le_of_ble_eq_true rfl) (Nat.le_of_ble_eq_true rfl) ?_
      refine va_forget (fun q hq => by have h9 := hS.2.2 q hq; rw [hAe] at h9; exact h9) ?_
      exact lw_ret hd0 hx hb hr hlocks dL_law_1414
    · refine zo_i (v := 19) (by decide) ?_
      refine lv_tableIn (off := 1262) (tgt := 1302) hx hb dL_law_40 (by decide) (by decide) rfl (by decide) ?_
      refine lv_aload_n hx hb dL_law_1302 rfl (lv_at hl 3 rfl) ?_
      have hPr := (hP).sub (ws' := [(q1, .inr (8, [.ref rm_5, .ref tr_5, .ref st_5])), (rm_5, .inr (5, [.ref lk_5, .ref th_5, .ref pl_5, .ref gm_5, .int 0, .int 0, .int 0, .int (-1), .int 1, .int 0, .int 0, .int 0])), (st_5, .inr (6, [.ref a1_5, .ref a2_5, .ref a3_5]))]) [0, 1, 9] rfl
      have hPc := hP.sub (ws' := [(a1_5, .inl (cZ_5, 1024, .inl f1_5)), (a2_5, .inl (cI_5, 1024, .inl f2_5)), (a3_5, .inl (cJ_5, 1024, .inl f3_5))]) [10, 11, 12] rfl
      have hDc := hD.sub (ws' := [(a1_5, .inl (cZ_5, 1024, .inl f1_5)), (a2_5, .inl (cI_5, 1024, .inl f2_5)), (a3_5, .inl (cJ_5, 1024, .inl f3_5))]) [10, 11, 12] (by decide) rfl
      have hKc := hK.sub (tys' := [(cZ_5, .boolean), (cI_5, .int), (cJ_5, .int)]) [3, 4, 5] rfl
      have hFc := va_free (wc := [(a1_5, .inl (cZ_5, 1024, .inl f1_5)), (a2_5, .inl (cI_5, 1024, .inl f2_5)), (a3_5, .inl (cJ_5, 1024, .inl f3_5))]) hD hS hA [10, 11, 12] rfl
      refine va_calli (va_runV (As := []) (rest := []) ⟨hx, hb, hml, hown, hts⟩ (cz_X6_canEnd l dC dI ed H12.size q1 rm_5 tr_5 st_5 lk_5 th_5 pl_5 gm_5 a1_5 a2_5 a3_5 cZ_5 cI_5 cJ_5 f1_5 f2_5 f3_5) (cwV 0 hts gL_law_X6_canEnd rfl rfl rfl (by decide +kernel) ⟨Nat.le_of_ble_eq_true rfl, Nat.le_of_ble_eq_true rfl⟩) ⟨zb_blind, va_recv hK hP (ci := 8) (q0 := 0) rfl rfl, fun U hU hW => ⟨rfl, zb_mk hU hW hPr hPc hKc hDc hN hH hS hFc (zx_cons (zx_o hD 0 [10, 11, 12] rfl rfl (by decide)) (zx_cons (zx_o hD 1 [10, 11, 12] rfl rfl (by decide)) (zx_cons (zx_o hD 9 [10, 11, 12] rfl rfl (by decide)) zx_nil)))⟩⟩ rfl rfl hl.1 rfl (lv_room (Nat.le_of_ble_eq_true rfl)) dL_law_1303 ⟨Nat.le_of_ble_eq_true rfl, Nat.le_of_ble_eq_true rfl⟩) hS (fun q _ h => hFc q h) hFc (fun r205 u t H204 locs ht hvm hw hB hz1 hk1 hS => ?_)
      obtain rfl : r205 = 0 := hw
      obtain ⟨g1_206, g2_206, g3_206, hP1, hD1, hK1⟩ := hB
      rw [ht] at hP1
      obtain ⟨hP, hD⟩ := va_join (wr := [(q1, .inr (8, [.ref rm_5, .ref tr_5, .ref st_5])), (rm_5, .inr (5, [.ref lk_5, .ref th_5, .ref pl_5, .ref gm_5, .int 0, .int 0, .int 0, .int (-1), .int 1, .int 0, .int 0, .int 0])), (lk_5, .inl (cL_5, 10, .inr (.inr (.inr (.inr fl_5))))), (th_5, .inl (cT_5, 12, .inr (.inr (.inr (.inr ft_5))))), (pl_5, .inl (cP_5, 6, .inr (.inr (.inr (.inr fp_5))))), (gm_5, .inr (2, [.int 0, .int 0, .int 0, .int 0, .int 0, .int (-1), .long 0])), (l0_5, .inr (3, [.int 0, .int 0, .int 0, .int 0, .int 0, .int 0, .int 0, .int 0, .int 0, .int 0])), (t0_5, .inr (7, [.int 0, .int 0, .int 0, .int 0, .int 0])), (p0_5, .inr (4, [.int 0, .int 0, .int 0, .int 0])), (st_5, .inr (6, [.ref a1_5, .ref a2_5, .ref a3_5])), (q6, .inr (10, [.int 0, .ref mr_10, .int 1, .long 0])), (mr_10, .inr (9, [.ref ll_10, .ref lt_10, .ref lp_10, .int (-1), .int 0, .int 0, .int 0, .int 0, .int 0, .int 0, .int (-1), .int 0, .int 0, .int 0])), (ll_10, .inr (1, [.int 0, .ref ed, .int 0])), (lt_10, .inr (1, [.int 0, .ref ed, .int 0])), (lp_10, .inr (1, [.int 0, .ref ed, .int 0])), (q11, .inl (cA13, 1, .inr (.inl (fun _ => 0))))]) (w1 := [(a1_5, .inl (cZ_5, 1024, .inl g1_206)), (a2_5, .inl (cI_5, 1024, .inl g2_206)), (a3_5, .inl (cJ_5, 1024, .inl g3_206))]) hP hD [10, 11, 12] [0, 1, 2, 3, 4, 5, 6, 7, 8, 9, 13, 14, 15, 16, 17, 18] rfl rfl (by decide) (by decide) hk1 hFc hP1 hD1
      have hP : va_P (dC, dI) vwCl [(q1, .inr (8, [.ref rm_5, .ref tr_5, .ref st_5])), (rm_5, .inr (5, [.ref lk_5, .ref th_5, .ref pl_5, .ref gm_5, .int 0, .int 0, .int 0, .int (-1), .int 1, .int 0, .int 0, .int 0])), (lk_5, .inl (cL_5, 10, .inr (.inr (.inr (.inr fl_5))))), (th_5, .inl (cT_5, 12, .inr (.inr (.inr (.inr ft_5))))), (pl_5, .inl (cP_5, 6, .inr (.inr (.inr (.inr fp_5))))), (gm_5, .inr (2, [.int 0, .int 0, .int 0, .int 0, .int 0, .int (-1), .long 0])), (l0_5, .inr (3, [.int 0, .int 0, .int 0, .int 0, .int 0, .int 0, .int 0, .int 0, .int 0, .int 0])), (t0_5, .inr (7, [.int 0, .int 0, .int 0, .int 0, .int 0])), (p0_5, .inr (4, [.int 0, .int 0, .int 0, .int 0])), (st_5, .inr (6, [.ref a1_5, .ref a2_5, .ref a3_5])), (q6, .inr (10, [.int 0, .ref mr_10, .int 1, .long 0])), (mr_10, .inr (9, [.ref ll_10, .ref lt_10, .ref lp_10, .int (-1), .int 0, .int 0, .int 0, .int 0, .int 0, .int 0, .int (-1), .int 0, .int 0, .int 0])), (ll_10, .inr (1, [.int 0, .ref ed, .int 0])), (lt_10, .inr (1, [.int 0, .ref ed, .int 0])), (lp_10, .inr (1, [.int 0, .ref ed, .int 0])), (q11, .inl (cA13, 1, .inr (.inl (fun _ => 0)))), (a1_5, .inl (cZ_5, 1024, .inl g1_206)), (a2_5, .inl (cI_5, 1024, .inl g2_206)), (a3_5, .inl (cJ_5, 1024, .inl g3_206))] H204 := hP
      have hD : va_D A [(q1, .inr (8, [.ref rm_5, .ref tr_5, .ref st_5])), (rm_5, .inr (5, [.ref lk_5, .ref th_5, .ref pl_5, .ref gm_5, .int 0, .int 0, .int 0, .int (-1), .int 1, .int 0, .int 0, .int 0])), (lk_5, .inl (cL_5, 10, .inr (.inr (.inr (.inr fl_5))))), (th_5, .inl (cT_5, 12, .inr (.inr (.inr (.inr ft_5))))), (pl_5, .inl (cP_5, 6, .inr (.inr (.inr (.inr fp_5))))), (gm_5, .inr (2, [.int 0, .int 0, .int 0, .int 0, .int 0, .int (-1), .long 0])), (l0_5, .inr (3, [.int 0, .int 0, .int 0, .int 0, .int 0, .int 0, .int 0, .int 0, .int 0, .int 0])), (t0_5, .inr (7, [.int 0, .int 0, .int 0, .int 0, .int 0])), (p0_5, .inr (4, [.int 0, .int 0, .int 0, .int 0])), (st_5, .inr (6, [.ref a1_5, .ref a2_5, .ref a3_5])), (q6, .inr (10, [.int 0, .ref mr_10, .int 1, .long 0])), (mr_10, .inr (9, [.ref ll_10, .ref lt_10, .ref lp_10, .int (-1), .int 0, .int 0, .int 0, .int 0, .int 0, .int 0, .int (-1), .int 0, .int 0, .int 0])), (ll_10, .inr (1, [.int 0, .ref ed, .int 0])), (lt_10, .inr (1, [.int 0, .ref ed, .int 0])), (lp_10, .inr (1, [.int 0, .ref ed, .int 0])), (q11, .inl (cA13, 1, .inr (.inl (fun _ => 0)))), (a1_5, .inl (cZ_5, 1024, .inl g1_206)), (a2_5, .inl (cI_5, 1024, .inl g2_206)), (a3_5, .inl (cJ_5, 1024, .inl g3_206))] := hD
      refine lv_aload_n hx hb dL_law_1306 rfl (lv_at hl 2 rfl) ?_
      have hPr := (hP).sub (ws' := [(mr_10, .inr (9, [.ref ll_10, .ref lt_10, .ref lp_10, .int (-1), .int 0, .int 0, .int 0, .int 0, .int 0, .int 0, .int (-1), .int 0, .int 0, .int 0])), (ll_10, .inr (1, [.int 0, .ref ed, .int 0])), (lt_10, .inr (1, [.int 0, .ref ed, .int 0])), (lp_10, .inr (1, [.int 0, .ref ed, .int 0]))]) [11, 12, 13, 14] rfl
      have hPc := hP.sub (ws' := [(q6, .inr (10, [.int 0, .ref mr_10, .int 1, .long 0]))]) [10] rfl
      have hDc := hD.sub (ws' := [(q6, .inr (10, [.int 0, .ref mr_10, .int 1, .long 0]))]) [10] (by decide) rfl
      have hKc := hK.sub (tys' := []) [] rfl
      have hFc := va_free (wc := [(q6, .inr (10, [.int 0, .ref mr_10, .int 1, .long 0]))]) hD hS hA [10] rfl
      refine va_calli (va_runV (As := []) (rest := [.int 0]) ⟨hx, hb, hml, hown, hts⟩ (cz_X8_canEnd l dC dI ed H204.size q6 mr_10 ll_10 lt_10 lp_10 0 0) (cwV 0 hts gL_law_X8_canEnd rfl rfl rfl (by decide +kernel) ⟨Nat.le_of_ble_eq_true rfl, Nat.le_of_ble_eq_true rfl⟩) ⟨zb_blind, va_recv hK hP (ci := 10) (q0 := 10) rfl rfl, fun U hU hW => ⟨rfl, zb_mk hU hW hPr hPc hKc hDc hN hH hS hFc (zx_cons (zx_o hD 11 [10] rfl rfl (by decide)) (zx_cons (zx_o hD 12 [10] rfl rfl (by decide)) (zx_cons (zx_o hD 13 [10] rfl rfl (by decide)) (zx_cons (zx_o hD 14 [10] rfl rfl (by decide)) zx_nil))))⟩⟩ rfl rfl hl.1 rfl (lv_room (Nat.le_of_ble_eq_true rfl)) dL_law_1307 ⟨Nat.le_of_ble_eq_true rfl, Nat.le_of_ble_eq_true rfl⟩) hS (fun q _ h => hFc q h) hFc (fun r208 u t H207 locs ht hvm hw hB hz1 hk1 hS => ?_)
      obtain rfl : r208 = 0 := hw
      obtain ⟨hP1, hD1, hK1⟩ := hB
      rw [ht] at hP1
      obtain ⟨hP, hD⟩ := va_join (wr := [(q1, .inr (8, [.ref rm_5, .ref tr_5, .ref st_5])), (rm_5, .inr (5, [.ref lk_5, .ref th_5, .ref pl_5, .ref gm_5, .int 0, .int 0, .int 0, .int (-1), .int 1, .int 0, .int 0, .int 0])), (lk_5, .inl (cL_5, 10, .inr (.inr (.inr (.inr fl_5))))), (th_5, .inl (cT_5, 12, .inr (.inr (.inr (.inr ft_5))))), (pl_5, .inl (cP_5, 6, .inr (.inr (.inr (.inr fp_5))))), (gm_5, .inr (2, [.int 0, .int 0, .int 0, .int 0, .int 0, .int (-1), .long 0])), (l0_5, .inr (3, [.int 0, .int 0, .int 0, .int 0, .int 0, .int 0, .int 0, .int 0, .int 0, .int 0])), (t0_5, .inr (7, [.int 0, .int 0, .int 0, .int 0, .int 0])), (p0_5, .inr (4, [.int 0, .int 0, .int 0, .int 0])), (st_5, .inr (6, [.ref a1_5, .ref a2_5, .ref a3_5])), (mr_10, .inr (9, [.ref ll_10, .ref lt_10, .ref lp_10, .int (-1), .int 0, .int 0, .int 0, .int 0, .int 0, .int 0, .int (-1), .int 0, .int 0, .int 0])), (ll_10, .inr (1, [.int 0, .ref ed, .int 0])), (lt_10, .inr (1, [.int 0, .ref ed, .int 0])), (lp_10, .inr (1, [.int 0, .ref ed, .int 0])), (q11, .inl (cA13, 1, .inr (.inl (fun _ => 0)))), (a1_5, .inl (cZ_5, 1024, .inl g1_206)), (a2_5, .inl (cI_5, 1024, .inl g2_206)), (a3_5, .inl (cJ_5, 1024, .inl g3_206))]) (w1 := [(q6, .inr (10, [.int 0, .ref mr_10, .int 1, .long 0]))]) hP hD [10] [0, 1, 2, 3, 4, 5, 6, 7, 8, 9, 11, 12, 13, 14, 15, 16, 17, 18] rfl rfl (by decide) (by decide) hk1 hFc hP1 hD1
      have hP : va_P (dC, dI) vwCl [(q1, .inr (8, [.ref rm_5, .ref tr_5, .ref st_5])), (rm_5, .inr (5, [.ref lk_5, .ref th_5, .ref pl_5, .ref gm_5, .int 0, .int 0, .int 0, .int (-1), .int 1, .int 0, .int 0, .int 0])), (lk_5, .inl (cL_5, 10, .inr (.inr (.inr (.inr fl_5))))), (th_5, .inl (cT_5, 12, .inr (.inr (.inr (.inr ft_5))))), (pl_5, .inl (cP_5, 6, .inr (.inr (.inr (.inr fp_5))))), (gm_5, .inr (2, [.int 0, .int 0, .int 0, .int 0, .int 0, .int (-1), .long 0])), (l0_5, .inr (3, [.int 0, .int 0, .int 0, .int 0, .int 0, .int 0, .int 0, .int 0, .int 0, .int 0])), (t0_5, .inr (7, [.int 0, .int 0, .int 0, .int 0, .int 0])), (p0_5, .inr (4, [.int 0, .int 0, .int 0, .int 0])), (st_5, .inr (6, [.ref a1_5, .ref a2_5, .ref a3_5])), (mr_10, .inr (9, [.ref ll_10, .ref lt_10, .ref lp_10, .int (-1), .int 0, .int 0, .int 0, .int 0, .int 0, .int 0, .int (-1), .int 0, .int 0, .int 0])), (ll_10, .inr (1, [.int 0, .ref ed, .int 0])), (lt_10, .inr (1, [.int 0, .ref ed, .int 0])), (lp_10, .inr (1, [.int 0, .ref ed, .int 0])), (q11, .inl (cA13, 1, .inr (.inl (fun _ => 0)))), (a1_5, .inl (cZ_5, 1024, .inl g1_206)), (a2_5, .inl (cI_5, 1024, .inl g2_206)), (a3_5, .inl (cJ_5, 1024, .inl g3_206)), (q6, .inr (10, [.int 0, .ref mr_10, .int 1, .long 0]))] H207 := hP
      have hD : va_D A [(q1, .inr (8, [.ref rm_5, .ref tr_5, .ref st_5])), (rm_5, .inr (5, [.ref lk_5, .ref th_5, .ref pl_5, .ref gm_5, .int 0, .int 0, .int 0, .int (-1), .int 1, .int 0, .int 0, .int 0])), (lk_5, .inl (cL_5, 10, .inr (.inr (.inr (.inr fl_5))))), (th_5, .inl (cT_5, 12, .inr (.inr (.inr (.inr ft_5))))), (pl_5, .inl (cP_5, 6, .inr (.inr (.inr (.inr fp_5))))), (gm_5, .inr (2, [.int 0, .int 0, .int 0, .int 0, .int 0, .int (-1), .long 0])), (l0_5, .inr (3, [.int 0, .int 0, .int 0, .int 0, .int 0, .int 0, .int 0, .int 0, .int 0, .int 0])), (t0_5, .inr (7, [.int 0, .int 0, .int 0, .int 0, .int 0])), (p0_5, .inr (4, [.int 0, .int 0, .int 0, .int 0])), (st_5, .inr (6, [.ref a1_5, .ref a2_5, .ref a3_5])), (mr_10, .inr (9, [.ref ll_10, .ref lt_10, .ref lp_10, .int (-1), .int 0, .int 0, .int 0, .int 0, .int 0, .int 0, .int (-1), .int 0, .int 0, .int 0])), (ll_10, .inr (1, [.int 0, .ref ed, .int 0])), (lt_10, .inr (1, [.int 0, .ref ed, .int 0])), (lp_10, .inr (1, [.int 0, .ref ed, .int 0])), (q11, .inl (cA13, 1, .inr (.inl (fun _ => 0)))), (a1_5, .inl (cZ_5, 1024, .inl g1_206)), (a2_5, .inl (cI_5, 1024, .inl g2_206)), (a3_5, .inl (cJ_5, 1024, .inl g3_206)), (q6, .inr (10, [.int 0, .ref mr_10, .int 1, .long 0]))] := hD
      refine lv_icmp_eq (tgt := 1407) hx hb dL_law_1310 (by decide) (fun _ => ?_) (fun h => absurd h (by decide))
      refine lv_iinc (v := 6) (lv' := [(4, .int 6), (3, .ref q11), (2, .ref q6), (1, .ref q1), (0, .ref b)]) hx hb dL_law_1407 hl (k := 0) rfl (by decide) (by decide) rfl (fun ls hl => ?_)
      refine lv_goto (tgt := 23) hx hb dL_law_1410 (by decide) ?_
      refine lv_iload hx hb dL_law_23 (lv_at hl 0 rfl) ?_
      refine lv_aload_n hx hb dL_law_25 rfl (lv_at hl 4 rfl) ?_
      refine va_slen hx hb hX hbl hbA hS dL_law_26 ?_
      refine zo_i (v := 6) (by decide) ?_
      refine lv_bipush (v := 6) hx hb dL_law_27 (by decide) ?_
      refine lv_isub hx hb dL_law_29 ?_
      refine zo_i (v := 0) (by decide) ?_
      refine lv_icmp_gt (tgt := 1413) hx hb dL_law_30 (by decide) (fun _ => ?_) (fun h => absurd h (by decide))
      refine lv_iconst (v := 1) hx hb dL_law_1413 (by decide) ?_
      refine W.widen (k := 600002) (n := 7302232) (Nat.le_of_ble_eq_true rfl) (Nat.le_of_ble_eq_true rfl) ?_
      refine va_forget (fun q hq => by have h9 := hS.2.2 q hq; rw [hAe] at h9; exact h9) ?_
      exact lw_ret hd0 hx hb hr hlocks dL_law_1414
    · refine zo_i (v := 20) (by decide) ?_
      refine lv_tableIn (off := 1275) (tgt := 1315) hx hb dL_law_40 (by decide) (by decide) rfl (by decide) ?_
      refine lv_aload_n hx hb dL_law_1315 rfl (lv_at hl 3 rfl) ?_
      have hPr := (hP).sub (ws' := [(q1, .inr (8, [.ref rm_5, .ref tr_5, .ref st_5])), (rm_5, .inr (5, [.ref lk_5, .ref th_5, .ref pl_5, .ref gm_5, .int 0, .int 0, .int 0, .int (-1), .int 1, .int 0, .int 0, .int 0])), (st_5, .inr (6, [.ref a1_5, .ref a2_5, .ref a3_5]))]) [0, 1, 9] rfl
      have hPc := hP.sub (ws' := [(a1_5, .inl (cZ_5, 1024, .inl f1_5)), (a2_5, .inl (cI_5, 1024, .inl f2_5)), (a3_5, .inl (cJ_5, 1024, .inl f3_5))]) [10, 11, 12] rfl
      have hDc := hD.sub (ws' := [(a1_5, .inl (cZ_5, 1024, .inl f1_5)), (a2_5, .inl (cI_5, 1024, .inl f2_5)), (a3_5, .inl (cJ_5, 1024, .inl f3_5))]) [10, 11, 12] (by decide) rfl
      have hKc := hK.sub (tys' := [(cZ_5, .boolean), (cI_5, .int), (cJ_5, .int)]) [3, 4, 5] rfl
      have hFc := va_free (wc := [(a1_5, .inl (cZ_5, 1024, .inl f1_5)), (a2_5, .inl (cI_5, 1024, .inl f2_5)), (a3_5, .inl (cJ_5, 1024, .inl f3_5))]) hD hS hA [10, 11, 12] rfl
      refine va_calli (va_runV (As := []) (rest := []) ⟨hx, hb, hml, hown, hts⟩ (cz_X6_stands l dC dI ed H12.size q1 rm_5 tr_5 st_5 lk_5 th_5 pl_5 gm_5 a1_5 a2_5 a3_5 cZ_5 cI_5 cJ_5 f1_5 f2_5 f3_5) (cwV 0 hts gL_law_X6_stands rfl rfl rfl (by decide +kernel) ⟨Nat.le_of_ble_eq_true rfl, Nat.le_of_ble_eq_true rfl⟩) ⟨zb_blind, va_recv hK hP (ci := 8) (q0 := 0) rfl rfl, fun U hU hW => ⟨rfl, zb_mk hU hW hPr hPc hKc hDc hN hH hS hFc (zx_cons (zx_o hD 0 [10, 11, 12] rfl rfl (by decide)) (zx_cons (zx_o hD 1 [10, 11, 12] rfl rfl (by decide)) (zx_cons (zx_o hD 9 [10, 11, 12] rfl rfl (by decide)) zx_nil)))⟩⟩ rfl rfl hl.1 rfl (lv_room (Nat.le_of_ble_eq_true rfl)) dL_law_1316 ⟨Nat.le_of_ble_eq_true rfl, Nat.le_of_ble_eq_true rfl⟩) hS (fun q _ h => hFc q h) hFc (fun r211 u t H210 locs ht hvm hw hB hz1 hk1 hS => ?_)
      obtain rfl : r211 = 1 := hw
      obtain ⟨g1_212, g2_212, g3_212, hP1, hD1, hK1⟩ := hB
      rw [ht] at hP1
      obtain ⟨hP, hD⟩ := va_join (wr := [(q1, .inr (8, [.ref rm_5, .ref tr_5, .ref st_5])), (rm_5, .inr (5, [.ref lk_5, .ref th_5, .ref pl_5, .ref gm_5, .int 0, .int 0, .int 0, .int (-1), .int 1, .int 0, .int 0, .int 0])), (lk_5, .inl (cL_5, 10, .inr (.inr (.inr (.inr fl_5))))), (th_5, .inl (cT_5, 12, .inr (.inr (.inr (.inr ft_5))))), (pl_5, .inl (cP_5, 6, .inr (.inr (.inr (.inr fp_5))))), (gm_5, .inr (2, [.int 0, .int 0, .int 0, .int 0, .int 0, .int (-1), .long 0])), (l0_5, .inr (3, [.int 0, .int 0, .int 0, .int 0, .int 0, .int 0, .int 0, .int 0, .int 0, .int 0])), (t0_5, .inr (7, [.int 0, .int 0, .int 0, .int 0, .int 0])), (p0_5, .inr (4, [.int 0, .int 0, .int 0, .int 0])), (st_5, .inr (6, [.ref a1_5, .ref a2_5, .ref a3_5])), (q6, .inr (10, [.int 0, .ref mr_10, .int 1, .long 0])), (mr_10, .inr (9, [.ref ll_10, .ref lt_10, .ref lp_10, .int (-1), .int 0, .int 0, .int 0, .int 0, .int 0, .int 0, .int (-1), .int 0, .int 0, .int 0])), (ll_10, .inr (1, [.int 0, .ref ed, .int 0])), (lt_10, .inr (1, [.int 0, .ref ed, .int 0])), (lp_10, .inr (1, [.int 0, .ref ed, .int 0])), (q11, .inl (cA13, 1, .inr (.inl (fun _ => 0))))]) (w1 := [(a1_5, .inl (cZ_5, 1024, .inl g1_212)), (a2_5, .inl (cI_5, 1024, .inl g2_212)), (a3_5, .inl (cJ_5, 1024, .inl g3_212))]) hP hD [10, 11, 12] [0, 1, 2, 3, 4, 5, 6, 7, 8, 9, 13, 14, 15, 16, 17, 18] rfl rfl (by decide) (by decide) hk1 hFc hP1 hD1
      have hP : va_P (dC, dI) vwCl [(q1, .inr (8, [.ref rm_5, .ref tr_5, .ref st_5])), (rm_5, .inr (5, [.ref lk_5, .ref th_5, .ref pl_5, .ref gm_5, .int 0, .int 0, .int 0, .int (-1), .int 1, .int 0, .int 0, .int 0])), (lk_5, .inl (cL_5, 10, .inr (.inr (.inr (.inr fl_5))))), (th_5, .inl (cT_5, 12, .inr (.inr (.inr (.inr ft_5))))), (pl_5, .inl (cP_5, 6, .inr (.inr (.inr (.inr fp_5))))), (gm_5, .inr (2, [.int 0, .int 0, .int 0, .int 0, .int 0, .int (-1), .long 0])), (l0_5, .inr (3, [.int 0, .int 0, .int 0, .int 0, .int 0, .int 0, .int 0, .int 0, .int 0, .int 0])), (t0_5, .inr (7, [.int 0, .int 0, .int 0, .int 0, .int 0])), (p0_5, .inr (4, [.int 0, .int 0, .int 0, .int 0])), (st_5, .inr (6, [.ref a1_5, .ref a2_5, .ref a3_5])), (q6, .inr (10, [.int 0, .ref mr_10, .int 1, .long 0])), (mr_10, .inr (9, [.ref ll_10, .ref lt_10, .ref lp_10, .int (-1), .int 0, .int 0, .int 0, .int 0, .int 0, .int 0, .int (-1), .int 0, .int 0, .int 0])), (ll_10, .inr (1, [.int 0, .ref ed, .int 0])), (lt_10, .inr (1, [.int 0, .ref ed, .int 0])), (lp_10, .inr (1, [.int 0, .ref ed, .int 0])), (q11, .inl (cA13, 1, .inr (.inl (fun _ => 0)))), (a1_5, .inl (cZ_5, 1024, .inl g1_212)), (a2_5, .inl (cI_5, 1024, .inl g2_212)), (a3_5, .inl (cJ_5, 1024, .inl g3_212))] H210 := hP
      have hD : va_D A [(q1, .inr (8, [.ref rm_5, .ref tr_5, .ref st_5])), (rm_5, .inr (5, [.ref lk_5, .ref th_5, .ref pl_5, .ref gm_5, .int 0, .int 0, .int 0, .int (-1), .int 1, .int 0, .int 0, .int 0])), (lk_5, .inl (cL_5, 10, .inr (.inr (.inr (.inr fl_5))))), (th_5, .inl (cT_5, 12, .inr (.inr (.inr (.inr ft_5))))), (pl_5, .inl (cP_5, 6, .inr (.inr (.inr (.inr fp_5))))), (gm_5, .inr (2, [.int 0, .int 0, .int 0, .int 0, .int 0, .int (-1), .long 0])), (l0_5, .inr (3, [.int 0, .int 0, .int 0, .int 0, .int 0, .int 0, .int 0, .int 0, .int 0, .int 0])), (t0_5, .inr (7, [.int 0, .int 0, .int 0, .int 0, .int 0])), (p0_5, .inr (4, [.int 0, .int 0, .int 0, .int 0])), (st_5, .inr (6, [.ref a1_5, .ref a2_5, .ref a3_5])), (q6, .inr (10, [.int 0, .ref mr_10, .int 1, .long 0])), (mr_10, .inr (9, [.ref ll_10, .ref lt_10, .ref lp_10, .int (-1), .int 0, .int 0, .int 0, .int 0, .int 0, .int 0, .int (-1), .int 0, .int 0, .int 0])), (ll_10, .inr (1, [.int 0, .ref ed, .int 0])), (lt_10, .inr (1, [.int 0, .ref ed, .int 0])), (lp_10, .inr (1, [.int 0, .ref ed, .int 0])), (q11, .inl (cA13, 1, .inr (.inl (fun _ => 0)))), (a1_5, .inl (cZ_5, 1024, .inl g1_212)), (a2_5, .inl (cI_5, 1024, .inl g2_212)), (a3_5, .inl (cJ_5, 1024, .inl g3_212))] := hD
      refine lv_aload_n hx hb dL_law_1319 rfl (lv_at hl 2 rfl) ?_
      have hPr := (hP).sub (ws' := [(mr_10, .inr (9, [.ref ll_10, .ref lt_10, .ref lp_10, .int (-1), .int 0, .int 0, .int 0, .int 0, .int 0, .int 0, .int (-1), .int 0, .int 0, .int 0])), (ll_10, .inr (1, [.int 0, .ref ed, .int 0])), (lt_10, .inr (1, [.int 0, .ref ed, .int 0])), (lp_10, .inr (1, [.int 0, .ref ed, .int 0]))]) [11, 12, 13, 14] rfl
      have hPc := hP.sub (ws' := [(q6, .inr (10, [.int 0, .ref mr_10, .int 1, .long 0]))]) [10] rfl
      have hDc := hD.sub (ws' := [(q6, .inr (10, [.int 0, .ref mr_10, .int 1, .long 0]))]) [10] (by decide) rfl
      have hKc := hK.sub (tys' := []) [] rfl
      have hFc := va_free (wc := [(q6, .inr (10, [.int 0, .ref mr_10, .int 1, .long 0]))]) hD hS hA [10] rfl
      refine va_calli (va_runV (As := []) (rest := [.int 1]) ⟨hx, hb, hml, hown, hts⟩ (cz_X8_stands l dC dI ed H210.size q6 mr_10 ll_10 lt_10 lp_10 0 0) (cwV 0 hts gL_law_X8_stands rfl rfl rfl (by decide +kernel) ⟨Nat.le_of_ble_eq_true rfl, Nat.le_of_ble_eq_true rfl⟩) ⟨zb_blind, va_recv hK hP (ci := 10) (q0 := 10) rfl rfl, fun U hU hW => ⟨rfl, zb_mk hU hW hPr hPc hKc hDc hN hH hS hFc (zx_cons (zx_o hD 11 [10] rfl rfl (by decide)) (zx_cons (zx_o hD 12 [10] rfl rfl (by decide)) (zx_cons (zx_o hD 13 [10] rfl rfl (by decide)) (zx_cons (zx_o hD 14 [10] rfl rfl (by decide)) zx_nil))))⟩⟩ rfl rfl hl.1 rfl (lv_room (Nat.le_of_ble_eq_true rfl)) dL_law_1320 ⟨Nat.le_of_ble_eq_true rfl, Nat.le_of_ble_eq_true rfl⟩) hS (fun q _ h => hFc q h) hFc (fun r214 u t H213 locs ht hvm hw hB hz1 hk1 hS => ?_)
      obtain rfl : r214 = 1 := hw
      obtain ⟨hP1, hD1, hK1⟩ := hB
      rw [ht] at hP1
      obtain ⟨hP, hD⟩ := va_join (wr := [(q1, .inr (8, [.ref rm_5, .ref tr_5, .ref st_5])), (rm_5, .inr (5, [.ref lk_5, .ref th_5, .ref pl_5, .ref gm_5, .int 0, .int 0, .int 0, .int (-1), .int 1, .int 0, .int 0, .int 0])), (lk_5, .inl (cL_5, 10, .inr (.inr (.inr (.inr fl_5))))), (th_5, .inl (cT_5, 12, .inr (.inr (.inr (.inr ft_5))))), (pl_5, .inl (cP_5, 6, .inr (.inr (.inr (.inr fp_5))))), (gm_5, .inr (2, [.int 0, .int 0, .int 0, .int 0, .int 0, .int (-1), .long 0])), (l0_5, .inr (3, [.int 0, .int 0, .int 0, .int 0, .int 0, .int 0, .int 0, .int 0, .int 0, .int 0])), (t0_5, .inr (7, [.int 0, .int 0, .int 0, .int 0, .int 0])), (p0_5, .inr (4, [.int 0, .int 0, .int 0, .int 0])), (st_5, .inr (6, [.ref a1_5, .ref a2_5, .ref a3_5])), (mr_10, .inr (9, [.ref ll_10, .ref lt_10, .ref lp_10, .int (-1), .int 0, .int 0, .int 0, .int 0, .int 0, .int 0, .int (-1), .int 0, .int 0, .int 0])), (ll_10, .inr (1, [.int 0, .ref ed, .int 0])), (lt_10, .inr (1, [.int 0, .ref ed, .int 0])), (lp_10, .inr (1, [.int 0, .ref ed, .int 0])), (q11, .inl (cA13, 1, .inr (.inl (fun _ => 0)))), (a1_5, .inl (cZ_5, 1024, .inl g1_212)), (a2_5, .inl (cI_5, 1024, .inl g2_212)), (a3_5, .inl (cJ_5, 1024, .inl g3_212))]) (w1 := [(q6, .inr (10, [.int 0, .ref mr_10, .int 1, .long 0]))]) hP hD [10] [0, 1, 2, 3, 4, 5, 6, 7, 8, 9, 11, 12, 13, 14, 15, 16, 17, 18] rfl rfl (by decide) (by decide) hk1 hFc hP1 hD1
      have hP : va_P (dC, dI) vwCl [(q1, .inr (8, [.ref rm_5, .ref tr_5, .ref st_5])), (rm_5, .inr (5, [.ref lk_5, .ref th_5, .ref pl_5, .ref gm_5, .int 0, .int 0, .int 0, .int (-1), .int 1, .int 0, .int 0, .int 0])), (lk_5, .inl (cL_5, 10, .inr (.inr (.inr (.inr fl_5))))), (th_5, .inl (cT_5, 12, .inr (.inr (.inr (.inr ft_5))))), (pl_5, .inl (cP_5, 6, .inr (.inr (.inr (.inr fp_5))))), (gm_5, .inr (2, [.int 0, .int 0, .int 0, .int 0, .int 0, .int (-1), .long 0])), (l0_5, .inr (3, [.int 0, .int 0, .int 0, .int 0, .int 0, .int 0, .int 0, .int 0, .int 0, .int 0])), (t0_5, .inr (7, [.int 0, .int 0, .int 0, .int 0, .int 0])), (p0_5, .inr (4, [.int 0, .int 0, .int 0, .int 0])), (st_5, .inr (6, [.ref a1_5, .ref a2_5, .ref a3_5])), (mr_10, .inr (9, [.ref ll_10, .ref lt_10, .ref lp_10, .int (-1), .int 0, .int 0, .int 0, .int 0, .int 0, .int 0, .int (-1), .int 0, .int 0, .int 0])), (ll_10, .inr (1, [.int 0, .ref ed, .int 0])), (lt_10, .inr (1, [.int 0, .ref ed, .int 0])), (lp_10, .inr (1, [.int 0, .ref ed, .int 0])), (q11, .inl (cA13, 1, .inr (.inl (fun _ => 0)))), (a1_5, .inl (cZ_5, 1024, .inl g1_212)), (a2_5, .inl (cI_5, 1024, .inl g2_212)), (a3_5, .inl (cJ_5, 1024, .inl g3_212)), (q6, .inr (10, [.int 0, .ref mr_10, .int 1, .long 0]))] H213 := hP
      have hD : va_D A [(q1, .inr (8, [.ref rm_5, .ref tr_5, .ref st_5])), (rm_5, .inr (5, [.ref lk_5, .ref th_5, .ref pl_5, .ref gm_5, .int 0, .int 0, .int 0, .int (-1), .int 1, .int 0, .int 0, .int 0])), (lk_5, .inl (cL_5, 10, .inr (.inr (.inr (.inr fl_5))))), (th_5, .inl (cT_5, 12, .inr (.inr (.inr (.inr ft_5))))), (pl_5, .inl (cP_5, 6, .inr (.inr (.inr (.inr fp_5))))), (gm_5, .inr (2, [.int 0, .int 0, .int 0, .int 0, .int 0, .int (-1), .long 0])), (l0_5, .inr (3, [.int 0, .int 0, .int 0, .int 0, .int 0, .int 0, .int 0, .int 0, .int 0, .int 0])), (t0_5, .inr (7, [.int 0, .int 0, .int 0, .int 0, .int 0])), (p0_5, .inr (4, [.int 0, .int 0, .int 0, .int 0])), (st_5, .inr (6, [.ref a1_5, .ref a2_5, .ref a3_5])), (mr_10, .inr (9, [.ref ll_10, .ref lt_10, .ref lp_10, .int (-1), .int 0, .int 0, .int 0, .int 0, .int 0, .int 0, .int (-1), .int 0, .int 0, .int 0])), (ll_10, .inr (1, [.int 0, .ref ed, .int 0])), (lt_10, .inr (1, [.int 0, .ref ed, .int 0])), (lp_10, .inr (1, [.int 0, .ref ed, .int 0])), (q11, .inl (cA13, 1, .inr (.inl (fun _ => 0)))), (a1_5, .inl (cZ_5, 1024, .inl g1_212)), (a2_5, .inl (cI_5, 1024, .inl g2_212)), (a3_5, .inl (cJ_5, 1024, .inl g3_212)), (q6, .inr (10, [.int 0, .ref mr_10, .int 1, .long 0]))] := hD
      refine lv_icmp_eq (tgt := 1407) hx hb dL_law_1323 (by decide) (fun _ => ?_) (fun h => absurd h (by decide))
      refine lv_iinc (v := 6) (lv' := [(4, .int 6), (3, .ref q11), (2, .ref q6), (1, .ref q1), (0, .ref b)]) hx hb dL_law_1407 hl (k := 0) rfl (by decide) (by decide) rfl (fun ls hl => ?_)
      refine lv_goto (tgt := 23) hx hb dL_law_1410 (by decide) ?_
      refine lv_iload hx hb dL_law_23 (lv_at hl 0 rfl) ?_
      refine lv_aload_n hx hb dL_law_25 rfl (lv_at hl 4 rfl) ?_
      refine va_slen hx hb hX hbl hbA hS dL_law_26 ?_
      refine zo_i (v := 6) (by decide) ?_
      refine lv_bipush (v := 6) hx hb dL_law_27 (by decide) ?_
      refine lv_isub hx hb dL_law_29 ?_
      refine zo_i (v := 0) (by decide) ?_
      refine lv_icmp_gt (tgt := 1413) hx hb dL_law_30 (by decide) (fun _ => ?_) (fun h => absurd h (by decide))
      refine lv_iconst (v := 1) hx hb dL_law_1413 (by decide) ?_
      refine W.widen (k := 600002) (n := 7302232) (Nat.le_of_ble_eq_true rfl) (Nat.le_of_ble_eq_true rfl) ?_
      refine va_forget (fun q hq => by have h9 := hS.2.2 q hq; rw [hAe] at h9; exact h9) ?_
      exact lw_ret hd0 hx hb hr hlocks dL_law_1414
    · refine zo_i (v := 21) (by decide) ?_
      refine lv_tableIn (off := 1288) (tgt := 1328) hx hb dL_law_40 (by decide) (by decide) rfl (by decide) ?_
      refine lv_aload_n hx hb dL_law_1328 rfl (lv_at hl 3 rfl) ?_
      have hPr := (hP).sub (ws' := [(q1, .inr (8, [.ref rm_5, .ref tr_5, .ref st_5])), (rm_5, .inr (5, [.ref lk_5, .ref th_5, .ref pl_5, .ref gm_5, .int 0, .int 0, .int 0, .int (-1), .int 1, .int 0, .int 0, .int 0])), (st_5, .inr (6, [.ref a1_5, .ref a2_5, .ref a3_5]))]) [0, 1, 9] rfl
      have hPc := hP.sub (ws' := [(a1_5, .inl (cZ_5, 1024, .inl f1_5)), (a2_5, .inl (cI_5, 1024, .inl f2_5)), (a3_5, .inl (cJ_5, 1024, .inl f3_5))]) [10, 11, 12] rfl
      have hDc := hD.sub (ws' := [(a1_5, .inl (cZ_5, 1024, .inl f1_5)), (a2_5, .inl (cI_5, 1024, .inl f2_5)), (a3_5, .inl (cJ_5, 1024, .inl f3_5))]) [10, 11, 12] (by decide) rfl
      have hKc := hK.sub (tys' := [(cZ_5, .boolean), (cI_5, .int), (cJ_5, .int)]) [3, 4, 5] rfl
      have hFc := va_free (wc := [(a1_5, .inl (cZ_5, 1024, .inl f1_5)), (a2_5, .inl (cI_5, 1024, .inl f2_5)), (a3_5, .inl (cJ_5, 1024, .inl f3_5))]) hD hS hA [10, 11, 12] rfl
      refine va_calli (va_runV (As := []) (rest := []) ⟨hx, hb, hml, hown, hts⟩ (cz_X6_deadEnds l dC dI ed H12.size q1 rm_5 tr_5 st_5 lk_5 th_5 pl_5 gm_5 a1_5 a2_5 a3_5 cZ_5 cI_5 cJ_5 f1_5 f2_5 f3_5) (cwV 0 hts gL_law_X6_deadEnds rfl rfl rfl (by decide +kernel) ⟨Nat.le_of_ble_eq_true rfl, Nat.le_of_ble_eq_true rfl⟩) ⟨zb_blind, va_recv hK hP (ci := 8) (q0 := 0) rfl rfl, fun U hU hW => ⟨rfl, zb_mk hU hW hPr hPc hKc hDc hN hH hS hFc (zx_cons (zx_o hD 0 [10, 11, 12] rfl rfl (by decide)) (zx_cons (zx_o hD 1 [10, 11, 12] rfl rfl (by decide)) (zx_cons (zx_o hD 9 [10, 11, 12] rfl rfl (by decide)) zx_nil)))⟩⟩ rfl rfl hl.1 rfl (lv_room (Nat.le_of_ble_eq_true rfl)) dL_law_1329 ⟨Nat.le_of_ble_eq_true rfl, Nat.le_of_ble_eq_true rfl⟩) hS (fun q _ h => hFc q h) hFc (fun r217 u t H216 locs ht hvm hw hB hz1 hk1 hS => ?_)
      obtain rfl : r217 = 1 := hw
      obtain ⟨g1_218, g2_218, g3_218, hP1, hD1, hK1⟩ := hB
      rw [ht] at hP1
      obtain ⟨hP, hD⟩ := va_join (wr := [(q1, .inr (8, [.ref rm_5, .ref tr_5, .ref st_5])), (rm_5, .inr (5, [.ref lk_5, .ref th_5, .ref pl_5, .ref gm_5, .int 0, .int 0, .int 0, .int (-1), .int 1, .int 0, .int 0, .int 0])), (lk_5, .inl (cL_5, 10, .inr (.inr (.inr (.inr fl_5))))), (th_5, .inl (cT_5, 12, .inr (.inr (.inr (.inr ft_5))))), (pl_5, .inl (cP_5, 6, .inr (.inr (.inr (.inr fp_5))))), (gm_5, .inr (2, [.int 0, .int 0, .int 0, .int 0, .int 0, .int (-1), .long 0])), (l0_5, .inr (3, [.int 0, .int 0, .int 0, .int 0, .int 0, .int 0, .int 0, .int 0, .int 0, .int 0])), (t0_5, .inr (7, [.int 0, .int 0, .int 0, .int 0, .int 0])), (p0_5, .inr (4, [.int 0, .int 0, .int 0, .int 0])), (st_5, .inr (6, [.ref a1_5, .ref a2_5, .ref a3_5])), (q6, .inr (10, [.int 0, .ref mr_10, .int 1, .long 0])), (mr_10, .inr (9, [.ref ll_10, .ref lt_10, .ref lp_10, .int (-1), .int 0, .int 0, .int 0, .int 0, .int 0, .int 0, .int (-1), .int 0, .int 0, .int 0])), (ll_10, .inr (1, [.int 0, .ref ed, .int 0])), (lt_10, .inr (1, [.int 0, .ref ed, .int 0])), (lp_10, .inr (1, [.int 0, .ref ed, .int 0])), (q11, .inl (cA13, 1, .inr (.inl (fun _ => 0))))]) (w1 := [(a1_5, .inl (cZ_5, 1024, .inl g1_218)), (a2_5, .inl (cI_5, 1024, .inl g2_218)), (a3_5, .inl (cJ_5, 1024, .inl g3_218))]) hP hD [10, 11, 12] [0, 1, 2, 3, 4, 5, 6, 7, 8, 9, 13, 14, 15, 16, 17, 18] rfl rfl (by decide) (by decide) hk1 hFc hP1 hD1
      have hP : va_P (dC, dI) vwCl [(q1, .inr (8, [.ref rm_5, .ref tr_5, .ref st_5])), (rm_5, .inr (5, [.ref lk_5, .ref th_5, .ref pl_5, .ref gm_5, .int 0, .int 0, .int 0, .int (-1), .int 1, .int 0, .int 0, .int 0])), (lk_5, .inl (cL_5, 10, .inr (.inr (.inr (.inr fl_5))))), (th_5, .inl (cT_5, 12, .inr (.inr (.inr (.inr ft_5))))), (pl_5, .inl (cP_5, 6, .inr (.inr (.inr (.inr fp_5))))), (gm_5, .inr (2, [.int 0, .int 0, .int 0, .int 0, .int 0, .int (-1), .long 0])), (l0_5, .inr (3, [.int 0, .int 0, .int 0, .int 0, .int 0, .int 0, .int 0, .int 0, .int 0, .int 0])), (t0_5, .inr (7, [.int 0, .int 0, .int 0, .int 0, .int 0])), (p0_5, .inr (4, [.int 0, .int 0, .int 0, .int 0])), (st_5, .inr (6, [.ref a1_5, .ref a2_5, .ref a3_5])), (q6, .inr (10, [.int 0, .ref mr_10, .int 1, .long 0])), (mr_10, .inr (9, [.ref ll_10, .ref lt_10, .ref lp_10, .int (-1), .int 0, .int 0, .int 0, .int 0, .int 0, .int 0, .int (-1), .int 0, .int 0, .int 0])), (ll_10, .inr (1, [.int 0, .ref ed, .int 0])), (lt_10, .inr (1, [.int 0, .ref ed, .int 0])), (lp_10, .inr (1, [.int 0, .ref ed, .int 0])), (q11, .inl (cA13, 1, .inr (.inl (fun _ => 0)))), (a1_5, .inl (cZ_5, 1024, .inl g1_218)), (a2_5, .inl (cI_5, 1024, .inl g2_218)), (a3_5, .inl (cJ_5, 1024, .inl g3_218))] H216 := hP
      have hD : va_D A [(q1, .inr (8, [.ref rm_5, .ref tr_5, .ref st_5])), (rm_5, .inr (5, [.ref lk_5, .ref th_5, .ref pl_5, .ref gm_5, .int 0, .int 0, .int 0, .int (-1), .int 1, .int 0, .int 0, .int 0])), (lk_5, .inl (cL_5, 10, .inr (.inr (.inr (.inr fl_5))))), (th_5, .inl (cT_5, 12, .inr (.inr (.inr (.inr ft_5))))), (pl_5, .inl (cP_5, 6, .inr (.inr (.inr (.inr fp_5))))), (gm_5, .inr (2, [.int 0, .int 0, .int 0, .int 0, .int 0, .int (-1), .long 0])), (l0_5, .inr (3, [.int 0, .int 0, .int 0, .int 0, .int 0, .int 0, .int 0, .int 0, .int 0, .int 0])), (t0_5, .inr (7, [.int 0, .int 0, .int 0, .int 0, .int 0])), (p0_5, .inr (4, [.int 0, .int 0, .int 0, .int 0])), (st_5, .inr (6, [.ref a1_5, .ref a2_5, .ref a3_5])), (q6, .inr (10, [.int 0, .ref mr_10, .int 1, .long 0])), (mr_10, .inr (9, [.ref ll_10, .ref lt_10, .ref lp_10, .int (-1), .int 0, .int 0, .int 0, .int 0, .int 0, .int 0, .int (-1), .int 0, .int 0, .int 0])), (ll_10, .inr (1, [.int 0, .ref ed, .int 0])), (lt_10, .inr (1, [.int 0, .ref ed, .int 0])), (lp_10, .inr (1, [.int 0, .ref ed, .int 0])), (q11, .inl (cA13, 1, .inr (.inl (fun _ => 0)))), (a1_5, .inl (cZ_5, 1024, .inl g1_218)), (a2_5, .inl (cI_5, 1024, .inl g2_218)), (a3_5, .inl (cJ_5, 1024, .inl g3_218))] := hD
      refine lv_aload_n hx hb dL_law_1332 rfl (lv_at hl 2 rfl) ?_
      have hPr := (hP).sub (ws' := [(mr_10, .inr (9, [.ref ll_10, .ref lt_10, .ref lp_10, .int (-1), .int 0, .int 0, .int 0, .int 0, .int 0, .int 0, .int (-1), .int 0, .int 0, .int 0])), (ll_10, .inr (1, [.int 0, .ref ed, .int 0])), (lt_10, .inr (1, [.int 0, .ref ed, .int 0])), (lp_10, .inr (1, [.int 0, .ref ed, .int 0]))]) [11, 12, 13, 14] rfl
      have hPc := hP.sub (ws' := [(q6, .inr (10, [.int 0, .ref mr_10, .int 1, .long 0]))]) [10] rfl
      have hDc := hD.sub (ws' := [(q6, .inr (10, [.int 0, .ref mr_10, .int 1, .long 0]))]) [10] (by decide) rfl
      have hKc := hK.sub (tys' := []) [] rfl
      have hFc := va_free (wc := [(q6, .inr (10, [.int 0, .ref mr_10, .int 1, .long 0]))]) hD hS hA [10] rfl
      refine va_calli (va_runV (As := []) (rest := [.int 1]) ⟨hx, hb, hml, hown, hts⟩ (cz_X8_deadEnds l dC dI ed H216.size q6 mr_10 ll_10 lt_10 lp_10 0 0) (cwV 0 hts gL_law_X8_deadEnds rfl rfl rfl (by decide +kernel) ⟨Nat.le_of_ble_eq_true rfl, Nat.le_of_ble_eq_true rfl⟩) ⟨zb_blind, va_recv hK hP (ci := 10) (q0 := 10) rfl rfl, fun U hU hW => ⟨rfl, zb_mk hU hW hPr hPc hKc hDc hN hH hS hFc (zx_cons (zx_o hD 11 [10] rfl rfl (by decide)) (zx_cons (zx_o hD 12 [10] rfl rfl (by decide)) (zx_cons (zx_o hD 13 [10] rfl rfl (by decide)) (zx_cons (zx_o hD 14 [10] rfl rfl (by decide)) zx_nil))))⟩⟩ rfl rfl hl.1 rfl (lv_room (Nat.le_of_ble_eq_true rfl)) dL_law_1333 ⟨Nat.le_of_ble_eq_true rfl, Nat.le_of_ble_eq_true rfl⟩) hS (fun q _ h => hFc q h) hFc (fun r220 u t H219 locs ht hvm hw hB hz1 hk1 hS => ?_)
      obtain rfl : r220 = 1 := hw
      obtain ⟨hP1, hD1, hK1⟩ := hB
      rw [ht] at hP1
      obtain ⟨hP, hD⟩ := va_join (wr := [(q1, .inr (8, [.ref rm_5, .ref tr_5, .ref st_5])), (rm_5, .inr (5, [.ref lk_5, .ref th_5, .ref pl_5, .ref gm_5, .int 0, .int 0, .int 0, .int (-1), .int 1, .int 0, .int 0, .int 0])), (lk_5, .inl (cL_5, 10, .inr (.inr (.inr (.inr fl_5))))), (th_5, .inl (cT_5, 12, .inr (.inr (.inr (.inr ft_5))))), (pl_5, .inl (cP_5, 6, .inr (.inr (.inr (.inr fp_5))))), (gm_5, .inr (2, [.int 0, .int 0, .int 0, .int 0, .int 0, .int (-1), .long 0])), (l0_5, .inr (3, [.int 0, .int 0, .int 0, .int 0, .int 0, .int 0, .int 0, .int 0, .int 0, .int 0])), (t0_5, .inr (7, [.int 0, .int 0, .int 0, .int 0, .int 0])), (p0_5, .inr (4, [.int 0, .int 0, .int 0, .int 0])), (st_5, .inr (6, [.ref a1_5, .ref a2_5, .ref a3_5])), (mr_10, .inr (9, [.ref ll_10, .ref lt_10, .ref lp_10, .int (-1), .int 0, .int 0, .int 0, .int 0, .int 0, .int 0, .int (-1), .int 0, .int 0, .int 0])), (ll_10, .inr (1, [.int 0, .ref ed, .int 0])), (lt_10, .inr (1, [.int 0, .ref ed, .int 0])), (lp_10, .inr (1, [.int 0, .ref ed, .int 0])), (q11, .inl (cA13, 1, .inr (.inl (fun _ => 0)))), (a1_5, .inl (cZ_5, 1024, .inl g1_218)), (a2_5, .inl (cI_5, 1024, .inl g2_218)), (a3_5, .inl (cJ_5, 1024, .inl g3_218))]) (w1 := [(q6, .inr (10, [.int 0, .ref mr_10, .int 1, .long 0]))]) hP hD [10] [0, 1, 2, 3, 4, 5, 6, 7, 8, 9, 11, 12, 13, 14, 15, 16, 17, 18] rfl rfl (by decide) (by decide) hk1 hFc hP1 hD1
      have hP : va_P (dC, dI) vwCl [(q1, .inr (8, [.ref rm_5, .ref tr_5, .ref st_5])), (rm_5, .inr (5, [.ref lk_5, .ref th_5, .ref pl_5, .ref gm_5, .int 0, .int 0, .int 0, .int (-1), .int 1, .int 0, .int 0, .int 0])), (lk_5, .inl (cL_5, 10, .inr (.inr (.inr (.inr fl_5))))), (th_5, .inl (cT_5, 12, .inr (.inr (.inr (.inr ft_5))))), (pl_5, .inl (cP_5, 6, .inr (.inr (.inr (.inr fp_5))))), (gm_5, .inr (2, [.int 0, .int 0, .int 0, .int 0, .int 0, .int (-1), .long 0])), (l0_5, .inr (3, [.int 0, .int 0, .int 0, .int 0, .int 0, .int 0, .int 0, .int 0, .int 0, .int 0])), (t0_5, .inr (7, [.int 0, .int 0, .int 0, .int 0, .int 0])), (p0_5, .inr (4, [.int 0, .int 0, .int 0, .int 0])), (st_5, .inr (6, [.ref a1_5, .ref a2_5, .ref a3_5])), (mr_10, .inr (9, [.ref ll_10, .ref lt_10, .ref lp_10, .int (-1), .int 0, .int 0, .int 0, .int 0, .int 0, .int 0, .int (-1), .int 0, .int 0, .int 0])), (ll_10, .inr (1, [.int 0, .ref ed, .int 0])), (lt_10, .inr (1, [.int 0, .ref ed, .int 0])), (lp_10, .inr (1, [.int 0, .ref ed, .int 0])), (q11, .inl (cA13, 1, .inr (.inl (fun _ => 0)))), (a1_5, .inl (cZ_5, 1024, .inl g1_218)), (a2_5, .inl (cI_5, 1024, .inl g2_218)), (a3_5, .inl (cJ_5, 1024, .inl g3_218)), (q6, .inr (10, [.int 0, .ref mr_10, .int 1, .long 0]))] H219 := hP
      have hD : va_D A [(q1, .inr (8, [.ref rm_5, .ref tr_5, .ref st_5])), (rm_5, .inr (5, [.ref lk_5, .ref th_5, .ref pl_5, .ref gm_5, .int 0, .int 0, .int 0, .int (-1), .int 1, .int 0, .int 0, .int 0])), (lk_5, .inl (cL_5, 10, .inr (.inr (.inr (.inr fl_5))))), (th_5, .inl (cT_5, 12, .inr (.inr (.inr (.inr ft_5))))), (pl_5, .inl (cP_5, 6, .inr (.inr (.inr (.inr fp_5))))), (gm_5, .inr (2, [.int 0, .int 0, .int 0, .int 0, .int 0, .int (-1), .long 0])), (l0_5, .inr (3, [.int 0, .int 0, .int 0, .int 0, .int 0, .int 0, .int 0, .int 0, .int 0, .int 0])), (t0_5, .inr (7, [.int 0, .int 0, .int 0, .int 0, .int 0])), (p0_5, .inr (4, [.int 0, .int 0, .int 0, .int 0])), (st_5, .inr (6, [.ref a1_5, .ref a2_5, .ref a3_5])), (mr_10, .inr (9, [.ref ll_10, .ref lt_10, .ref lp_10, .int (-1), .int 0, .int 0, .int 0, .int 0, .int 0, .int 0, .int (-1), .int 0, .int 0, .int 0])), (ll_10, .inr (1, [.int 0, .ref ed, .int 0])), (lt_10, .inr (1, [.int 0, .ref ed, .int 0])), (lp_10, .inr (1, [.int 0, .ref ed, .int 0])), (q11, .inl (cA13, 1, .inr (.inl (fun _ => 0)))), (a1_5, .inl (cZ_5, 1024, .inl g1_218)), (a2_5, .inl (cI_5, 1024, .inl g2_218)), (a3_5, .inl (cJ_5, 1024, .inl g3_218)), (q6, .inr (10, [.int 0, .ref mr_10, .int 1, .long 0]))] := hD
      refine lv_icmp_eq (tgt := 1407) hx hb dL_law_1336 (by decide) (fun _ => ?_) (fun h => absurd h (by decide))
      refine lv_iinc (v := 6) (lv' := [(4, .int 6), (3, .ref q11), (2, .ref q6), (1, .ref q1), (0, .ref b)]) hx hb dL_law_1407 hl (k := 0) rfl (by decide) (by decide) rfl (fun ls hl => ?_)
      refine lv_goto (tgt := 23) hx hb dL_law_1410 (by decide) ?_
      refine lv_iload hx hb dL_law_23 (lv_at hl 0 rfl) ?_
      refine lv_aload_n hx hb dL_law_25 rfl (lv_at hl 4 rfl) ?_
      refine va_slen hx hb hX hbl hbA hS dL_law_26 ?_
      refine zo_i (v := 6) (by decide) ?_
      refine lv_bipush (v := 6) hx hb dL_law_27 (by decide) ?_
      refine lv_isub hx hb dL_law_29 ?_
      refine zo_i (v := 0) (by decide) ?_
      refine lv_icmp_gt (tgt := 1413) hx hb dL_law_30 (by decide) (fun _ => ?_) (fun h => absurd h (by decide))
      refine lv_iconst (v := 1) hx hb dL_law_1413 (by decide) ?_
      refine W.widen (k := 600002) (n := 7302232) (Nat.le_of_ble_eq_true rfl) (Nat.le_of_ble_eq_true rfl) ?_
      refine va_forget (fun q hq => by have h9 := hS.2.2 q hq; rw [hAe] at h9; exact h9) ?_
      exact lw_ret hd0 hx hb hr hlocks dL_law_1414
    · refine zo_i (v := 22) (by decide) ?_
      refine lv_tableIn (off := 1301) (tgt := 1341) hx hb dL_law_40 (by decide) (by decide) rfl (by decide) ?_
      refine lv_aload_n hx hb dL_law_1341 rfl (lv_at hl 3 rfl) ?_
      have hPr := (hP).sub (ws' := [(q1, .inr (8, [.ref rm_5, .ref tr_5, .ref st_5])), (rm_5, .inr (5, [.ref lk_5, .ref th_5, .ref pl_5, .ref gm_5, .int 0, .int 0, .int 0, .int (-1), .int 1, .int 0, .int 0, .int 0])), (st_5, .inr (6, [.ref a1_5, .ref a2_5, .ref a3_5]))]) [0, 1, 9] rfl
      have hPc := hP.sub (ws' := [(a1_5, .inl (cZ_5, 1024, .inl f1_5)), (a2_5, .inl (cI_5, 1024, .inl f2_5)), (a3_5, .inl (cJ_5, 1024, .inl f3_5))]) [10, 11, 12] rfl
      have hDc := hD.sub (ws' := [(a1_5, .inl (cZ_5, 1024, .inl f1_5)), (a2_5, .inl (cI_5, 1024, .inl f2_5)), (a3_5, .inl (cJ_5, 1024, .inl f3_5))]) [10, 11, 12] (by decide) rfl
      have hKc := hK.sub (tys' := [(cZ_5, .boolean), (cI_5, .int), (cJ_5, .int)]) [3, 4, 5] rfl
      have hFc := va_free (wc := [(a1_5, .inl (cZ_5, 1024, .inl f1_5)), (a2_5, .inl (cI_5, 1024, .inl f2_5)), (a3_5, .inl (cJ_5, 1024, .inl f3_5))]) hD hS hA [10, 11, 12] rfl
      refine va_calli (va_runV (As := []) (rest := []) ⟨hx, hb, hml, hown, hts⟩ (cz_X6_depth l dC dI ed H12.size q1 rm_5 tr_5 st_5 lk_5 th_5 pl_5 gm_5 a1_5 a2_5 a3_5 cZ_5 cI_5 cJ_5 f1_5 f2_5 f3_5) (cwV 0 hts gL_law_X6_depth rfl rfl rfl (by decide +kernel) ⟨Nat.le_of_ble_eq_true rfl, Nat.le_of_ble_eq_true rfl⟩) ⟨zb_blind, va_recv hK hP (ci := 8) (q0 := 0) rfl rfl, fun U hU hW => ⟨rfl, zb_mk hU hW hPr hPc hKc hDc hN hH hS hFc (zx_cons (zx_o hD 0 [10, 11, 12] rfl rfl (by decide)) (zx_cons (zx_o hD 1 [10, 11, 12] rfl rfl (by decide)) (zx_cons (zx_o hD 9 [10, 11, 12] rfl rfl (by decide)) zx_nil)))⟩⟩ rfl rfl hl.1 rfl (lv_room (Nat.le_of_ble_eq_true rfl)) dL_law_1342 ⟨Nat.le_of_ble_eq_true rfl, Nat.le_of_ble_eq_true rfl⟩) hS (fun q _ h => hFc q h) hFc (fun r223 u t H222 locs ht hvm hw hB hz1 hk1 hS => ?_)
      obtain rfl : r223 = (-1) := hw
      obtain ⟨g1_224, g2_224, g3_224, hP1, hD1, hK1⟩ := hB
      rw [ht] at hP1
      obtain ⟨hP, hD⟩ := va_join (wr := [(q1, .inr (8, [.ref rm_5, .ref tr_5, .ref st_5])), (rm_5, .inr (5, [.ref lk_5, .ref th_5, .ref pl_5, .ref gm_5, .int 0, .int 0, .int 0, .int (-1), .int 1, .int 0, .int 0, .int 0])), (lk_5, .inl (cL_5, 10, .inr (.inr (.inr (.inr fl_5))))), (th_5, .inl (cT_5, 12, .inr (.inr (.inr (.inr ft_5))))), (pl_5, .inl (cP_5, 6, .inr (.inr (.inr (.inr fp_5))))), (gm_5, .inr (2, [.int 0, .int 0, .int 0, .int 0, .int 0, .int (-1), .long 0])), (l0_5, .inr (3, [.int 0, .int 0, .int 0, .int 0, .int 0, .int 0, .int 0, .int 0, .int 0, .int 0])), (t0_5, .inr (7, [.int 0, .int 0, .int 0, .int 0, .int 0])), (p0_5, .inr (4, [.int 0, .int 0, .int 0, .int 0])), (st_5, .inr (6, [.ref a1_5, .ref a2_5, .ref a3_5])), (q6, .inr (10, [.int 0, .ref mr_10, .int 1, .long 0])), (mr_10, .inr (9, [.ref ll_10, .ref lt_10, .ref lp_10, .int (-1), .int 0, .int 0, .int 0, .int 0, .int 0, .int 0, .int (-1), .int 0, .int 0, .int 0])), (ll_10, .inr (1, [.int 0, .ref ed, .int 0])), (lt_10, .inr (1, [.int 0, .ref ed, .int 0])), (lp_10, .inr (1, [.int 0, .ref ed, .int 0])), (q11, .inl (cA13, 1, .inr (.inl (fun _ => 0))))]) (w1 := [(a1_5, .inl (cZ_5, 1024, .inl g1_224)), (a2_5, .inl (cI_5, 1024, .inl g2_224)), (a3_5, .inl (cJ_5, 1024, .inl g3_224))]) hP hD [10, 11, 12] [0, 1, 2, 3, 4, 5, 6, 7, 8, 9, 13, 14, 15, 16, 17, 18] rfl rfl (by decide) (by decide) hk1 hFc hP1 hD1
      have hP : va_P (dC, dI) vwCl [(q1, .inr (8, [.ref rm_5, .ref tr_5, .ref st_5])), (rm_5, .inr (5, [.ref lk_5, .ref th_5, .ref pl_5, .ref gm_5, .int 0, .int 0, .int 0, .int (-1), .int 1, .int 0, .int 0, .int 0])), (lk_5, .inl (cL_5, 10, .inr (.inr (.inr (.inr fl_5))))), (th_5, .inl (cT_5, 12, .inr (.inr (.inr (.inr ft_5))))), (pl_5, .inl (cP_5, 6, .inr (.inr (.inr (.inr fp_5))))), (gm_5, .inr (2, [.int 0, .int 0, .int 0, .int 0, .int 0, .int (-1), .long 0])), (l0_5, .inr (3, [.int 0, .int 0, .int 0, .int 0, .int 0, .int 0, .int 0, .int 0, .int 0, .int 0])), (t0_5, .inr (7, [.int 0, .int 0, .int 0, .int 0, .int 0])), (p0_5, .inr (4, [.int 0, .int 0, .int 0, .int 0])), (st_5, .inr (6, [.ref a1_5, .ref a2_5, .ref a3_5])), (q6, .inr (10, [.int 0, .ref mr_10, .int 1, .long 0])), (mr_10, .inr (9, [.ref ll_10, .ref lt_10, .ref lp_10, .int (-1), .int 0, .int 0, .int 0, .int 0, .int 0, .int 0, .int (-1), .int 0, .int 0, .int 0])), (ll_10, .inr (1, [.int 0, .ref ed, .int 0])), (lt_10, .inr (1, [.int 0, .ref ed, .int 0])), (lp_10, .inr (1, [.int 0, .ref ed, .int 0])), (q11, .inl (cA13, 1, .inr (.inl (fun _ => 0)))), (a1_5, .inl (cZ_5, 1024, .inl g1_224)), (a2_5, .inl (cI_5, 1024, .inl g2_224)), (a3_5, .inl (cJ_5, 1024, .inl g3_224))] H222 := hP
      have hD : va_D A [(q1, .inr (8, [.ref rm_5, .ref tr_5, .ref st_5])), (rm_5, .inr (5, [.ref lk_5, .ref th_5, .ref pl_5, .ref gm_5, .int 0, .int 0, .int 0, .int (-1), .int 1, .int 0, .int 0, .int 0])), (lk_5, .inl (cL_5, 10, .inr (.inr (.inr (.inr fl_5))))), (th_5, .inl (cT_5, 12, .inr (.inr (.inr (.inr ft_5))))), (pl_5, .inl (cP_5, 6, .inr (.inr (.inr (.inr fp_5))))), (gm_5, .inr (2, [.int 0, .int 0, .int 0, .int 0, .int 0, .int (-1), .long 0])), (l0_5, .inr (3, [.int 0, .int 0, .int 0, .int 0, .int 0, .int 0, .int 0, .int 0, .int 0, .int 0])), (t0_5, .inr (7, [.int 0, .int 0, .int 0, .int 0, .int 0])), (p0_5, .inr (4, [.int 0, .int 0, .int 0, .int 0])), (st_5, .inr (6, [.ref a1_5, .ref a2_5, .ref a3_5])), (q6, .inr (10, [.int 0, .ref mr_10, .int 1, .long 0])), (mr_10, .inr (9, [.ref ll_10, .ref lt_10, .ref lp_10, .int (-1), .int 0, .int 0, .int 0, .int 0, .int 0, .int 0, .int (-1), .int 0, .int 0, .int 0])), (ll_10, .inr (1, [.int 0, .ref ed, .int 0])), (lt_10, .inr (1, [.int 0, .ref ed, .int 0])), (lp_10, .inr (1, [.int 0, .ref ed, .int 0])), (q11, .inl (cA13, 1, .inr (.inl (fun _ => 0)))), (a1_5, .inl (cZ_5, 1024, .inl g1_224)), (a2_5, .inl (cI_5, 1024, .inl g2_224)), (a3_5, .inl (cJ_5, 1024, .inl g3_224))] := hD
      refine lv_aload_n hx hb dL_law_1345 rfl (lv_at hl 2 rfl) ?_
      have hPr := (hP).sub (ws' := [(mr_10, .inr (9, [.ref ll_10, .ref lt_10, .ref lp_10, .int (-1), .int 0, .int 0, .int 0, .int 0, .int 0, .int 0, .int (-1), .int 0, .int 0, .int 0])), (ll_10, .inr (1, [.int 0, .ref ed, .int 0])), (lt_10, .inr (1, [.int 0, .ref ed, .int 0])), (lp_10, .inr (1, [.int 0, .ref ed, .int 0]))]) [11, 12, 13, 14] rfl
      have hPc := hP.sub (ws' := [(q6, .inr (10, [.int 0, .ref mr_10, .int 1, .long 0]))]) [10] rfl
      have hDc := hD.sub (ws' := [(q6, .inr (10, [.int 0, .ref mr_10, .int 1, .long 0]))]) [10] (by decide) rfl
      have hKc := hK.sub (tys' := []) [] rfl
      have hFc := va_free (wc := [(q6, .inr (10, [.int 0, .ref mr_10, .int 1, .long 0]))]) hD hS hA [10] rfl
      refine va_calli (va_runV (As := []) (rest := [.int (-1)]) ⟨hx, hb, hml, hown, hts⟩ (cz_X8_depth l dC dI ed H222.size q6 mr_10 ll_10 lt_10 lp_10 0 0) (cwV 0 hts gL_law_X8_depth rfl rfl rfl (by decide +kernel) ⟨Nat.le_of_ble_eq_true rfl, Nat.le_of_ble_eq_true rfl⟩) ⟨zb_blind, va_recv hK hP (ci := 10) (q0 := 10) rfl rfl, fun U hU hW => ⟨rfl, zb_mk hU hW hPr hPc hKc hDc hN hH hS hFc (zx_cons (zx_o hD 11 [10] rfl rfl (by decide)) (zx_cons (zx_o hD 12 [10] rfl rfl (by decide)) (zx_cons (zx_o hD 13 [10] rfl rfl (by decide)) (zx_cons (zx_o hD 14 [10] rfl rfl (by decide)) zx_nil))))⟩⟩ rfl rfl hl.1 rfl (lv_room (Nat.le_of_ble_eq_true rfl)) dL_law_1346 ⟨Nat.le_of_ble_eq_true rfl, Nat.le_of_ble_eq_true rfl⟩) hS (fun q _ h => hFc q h) hFc (fun r226 u t H225 locs ht hvm hw hB hz1 hk1 hS => ?_)
      obtain rfl : r226 = (-1) := hw
      obtain ⟨hP1, hD1, hK1⟩ := hB
      rw [ht] at hP1
      obtain ⟨hP, hD⟩ := va_join (wr := [(q1, .inr (8, [.ref rm_5, .ref tr_5, .ref st_5])), (rm_5, .inr (5, [.ref lk_5, .ref th_5, .ref pl_5, .ref gm_5, .int 0, .int 0, .int 0, .int (-1), .int 1, .int 0, .int 0, .int 0])), (lk_5, .inl (cL_5, 10, .inr (.inr (.inr (.inr fl_5))))), (th_5, .inl (cT_5, 12, .inr (.inr (.inr (.inr ft_5))))), (pl_5, .inl (cP_5, 6, .inr (.inr (.inr (.inr fp_5))))), (gm_5, .inr (2, [.int 0, .int 0, .int 0, .int 0, .int 0, .int (-1), .long 0])), (l0_5, .inr (3, [.int 0, .int 0, .int 0, .int 0, .int 0, .int 0, .int 0, .int 0, .int 0, .int 0])), (t0_5, .inr (7, [.int 0, .int 0, .int 0, .int 0, .int 0])), (p0_5, .inr (4, [.int 0, .int 0, .int 0, .int 0])), (st_5, .inr (6, [.ref a1_5, .ref a2_5, .ref a3_5])), (mr_10, .inr (9, [.ref ll_10, .ref lt_10, .ref lp_10, .int (-1), .int 0, .int 0, .int 0, .int 0, .int 0, .int 0, .int (-1), .int 0, .int 0, .int 0])), (ll_10, .inr (1, [.int 0, .ref ed, .int 0])), (lt_10, .inr (1, [.int 0, .ref ed, .int 0])), (lp_10, .inr (1, [.int 0, .ref ed, .int 0])), (q11, .inl (cA13, 1, .inr (.inl (fun _ => 0)))), (a1_5, .inl (cZ_5, 1024, .inl g1_224)), (a2_5, .inl (cI_5, 1024, .inl g2_224)), (a3_5, .inl (cJ_5, 1024, .inl g3_224))]) (w1 := [(q6, .inr (10, [.int 0, .ref mr_10, .int 1, .long 0]))]) hP hD [10] [0, 1, 2, 3, 4, 5, 6, 7, 8, 9, 11, 12, 13, 14, 15, 16, 17, 18] rfl rfl (by decide) (by decide) hk1 hFc hP1 hD1
      have hP : va_P (dC, dI) vwCl [(q1, .inr (8, [.ref rm_5, .ref tr_5, .ref st_5])), (rm_5, .inr (5, [.ref lk_5, .ref th_5, .ref pl_5, .ref gm_5, .int 0, .int 0, .int 0, .int (-1), .int 1, .int 0, .int 0, .int 0])), (lk_5, .inl (cL_5, 10, .inr (.inr (.inr (.inr fl_5))))), (th_5, .inl (cT_5, 12, .inr (.inr (.inr (.inr ft_5))))), (pl_5, .inl (cP_5, 6, .inr (.inr (.inr (.inr fp_5))))), (gm_5, .inr (2, [.int 0, .int 0, .int 0, .int 0, .int 0, .int (-1), .long 0])), (l0_5, .inr (3, [.int 0, .int 0, .int 0, .int 0, .int 0, .int 0, .int 0, .int 0, .int 0, .int 0])), (t0_5, .inr (7, [.int 0, .int 0, .int 0, .int 0, .int 0])), (p0_5, .inr (4, [.int 0, .int 0, .int 0, .int 0])), (st_5, .inr (6, [.ref a1_5, .ref a2_5, .ref a3_5])), (mr_10, .inr (9, [.ref ll_10, .ref lt_10, .ref lp_10, .int (-1), .int 0, .int 0, .int 0, .int 0, .int 0, .int 0, .int (-1), .int 0, .int 0, .int 0])), (ll_10, .inr (1, [.int 0, .ref ed, .int 0])), (lt_10, .inr (1, [.int 0, .ref ed, .int 0])), (lp_10, .inr (1, [.int 0, .ref ed, .int 0])), (q11, .inl (cA13, 1, .inr (.inl (fun _ => 0)))), (a1_5, .inl (cZ_5, 1024, .inl g1_224)), (a2_5, .inl (cI_5, 1024, .inl g2_224)), (a3_5, .inl (cJ_5, 1024, .inl g3_224)), (q6, .inr (10, [.int 0, .ref mr_10, .int 1, .long 0]))] H225 := hP
      have hD : va_D A [(q1, .inr (8, [.ref rm_5, .ref tr_5, .ref st_5])), (rm_5, .inr (5, [.ref lk_5, .ref th_5, .ref pl_5, .ref gm_5, .int 0, .int 0, .int 0, .int (-1), .int 1, .int 0, .int 0, .int 0])), (lk_5, .inl (cL_5, 10, .inr (.inr (.inr (.inr fl_5))))), (th_5, .inl (cT_5, 12, .inr (.inr (.inr (.inr ft_5))))), (pl_5, .inl (cP_5, 6, .inr (.inr (.inr (.inr fp_5))))), (gm_5, .inr (2, [.int 0, .int 0, .int 0, .int 0, .int 0, .int (-1), .long 0])), (l0_5, .inr (3, [.int 0, .int 0, .int 0, .int 0, .int 0, .int 0, .int 0, .int 0, .int 0, .int 0])), (t0_5, .inr (7, [.int 0, .int 0, .int 0, .int 0, .int 0])), (p0_5, .inr (4, [.int 0, .int 0, .int 0, .int 0])), (st_5, .inr (6, [.ref a1_5, .ref a2_5, .ref a3_5])), (mr_10, .inr (9, [.ref ll_10, .ref lt_10, .ref lp_10, .int (-1), .int 0, .int 0, .int 0, .int 0, .int 0, .int 0, .int (-1), .int 0, .int 0, .int 0])), (ll_10, .inr (1, [.int 0, .ref ed, .int 0])), (lt_10, .inr (1, [.int 0, .ref ed, .int 0])), (lp_10, .inr (1, [.int 0, .ref ed, .int 0])), (q11, .inl (cA13, 1, .inr (.inl (fun _ => 0)))), (a1_5, .inl (cZ_5, 1024, .inl g1_224)), (a2_5, .inl (cI_5, 1024, .inl g2_224)), (a3_5, .inl (cJ_5, 1024, .inl g3_224)), (q6, .inr (10, [.int 0, .ref mr_10, .int 1, .long 0]))] := hD
      refine lv_icmp_eq (tgt := 1407) hx hb dL_law_1349 (by decide) (fun _ => ?_) (fun h => absurd h (by decide))
      refine lv_iinc (v := 6) (lv' := [(4, .int 6), (3, .ref q11), (2, .ref q6), (1, .ref q1), (0, .ref b)]) hx hb dL_law_1407 hl (k := 0) rfl (by decide) (by decide) rfl (fun ls hl => ?_)
      refine lv_goto (tgt := 23) hx hb dL_law_1410 (by decide) ?_
      refine lv_iload hx hb dL_law_23 (lv_at hl 0 rfl) ?_
      refine lv_aload_n hx hb dL_law_25 rfl (lv_at hl 4 rfl) ?_
      refine va_slen hx hb hX hbl hbA hS dL_law_26 ?_
      refine zo_i (v := 6) (by decide) ?_
      refine lv_bipush (v := 6) hx hb dL_law_27 (by decide) ?_
      refine lv_isub hx hb dL_law_29 ?_
      refine zo_i (v := 0) (by decide) ?_
      refine lv_icmp_gt (tgt := 1413) hx hb dL_law_30 (by decide) (fun _ => ?_) (fun h => absurd h (by decide))
      refine lv_iconst (v := 1) hx hb dL_law_1413 (by decide) ?_
      refine W.widen (k := 600002) (n := 7302232) (Nat.le_of_ble_eq_true rfl) (Nat.le_of_ble_eq_true rfl) ?_
      refine va_forget (fun q hq => by have h9 := hS.2.2 q hq; rw [hAe] at h9; exact h9) ?_
      exact lw_ret hd0 hx hb hr hlocks dL_law_1414
    · refine zo_i (v := 23) (by decide) ?_
      refine lv_tableIn (off := 1314) (tgt := 1354) hx hb dL_law_40 (by decide) (by decide) rfl (by decide) ?_
      refine lv_aload_n hx hb dL_law_1354 rfl (lv_at hl 3 rfl) ?_
      have hPr := (hP).sub (ws' := [(q1, .inr (8, [.ref rm_5, .ref tr_5, .ref st_5])), (rm_5, .inr (5, [.ref lk_5, .ref th_5, .ref pl_5, .ref gm_5, .int 0, .int 0, .int 0, .int (-1), .int 1, .int 0, .int 0, .int 0])), (st_5, .inr (6, [.ref a1_5, .ref a2_5, .ref a3_5]))]) [0, 1, 9] rfl
      have hPc := hP.sub (ws' := [(a1_5, .inl (cZ_5, 1024, .inl f1_5)), (a2_5, .inl (cI_5, 1024, .inl f2_5)), (a3_5, .inl (cJ_5, 1024, .inl f3_5))]) [10, 11, 12] rfl
      have hDc := hD.sub (ws' := [(a1_5, .inl (cZ_5, 1024, .inl f1_5)), (a2_5, .inl (cI_5, 1024, .inl f2_5)), (a3_5, .inl (cJ_5, 1024, .inl f3_5))]) [10, 11, 12] (by decide) rfl
      have hKc := hK.sub (tys' := [(cZ_5, .boolean), (cI_5, .int), (cJ_5, .int)]) [3, 4, 5] rfl
      have hFc := va_free (wc := [(a1_5, .inl (cZ_5, 1024, .inl f1_5)), (a2_5, .inl (cI_5, 1024, .inl f2_5)), (a3_5, .inl (cJ_5, 1024, .inl f3_5))]) hD hS hA [10, 11, 12] rfl
      refine va_calli (va_runV (As := []) (rest := []) ⟨hx, hb, hml, hown, hts⟩ (cz_X6_cannotMiss l dC dI ed H12.size q1 rm_5 tr_5 st_5 lk_5 th_5 pl_5 gm_5 a1_5 a2_5 a3_5 cZ_5 cI_5 cJ_5 f1_5 f2_5 f3_5) (cwV 0 hts gL_law_X6_cannotMiss rfl rfl rfl (by decide +kernel) ⟨Nat.le_of_ble_eq_true rfl, Nat.le_of_ble_eq_true rfl⟩) ⟨zb_blind, va_recv hK hP (ci := 8) (q0 := 0) rfl rfl, fun U hU hW => ⟨rfl, zb_mk hU hW hPr hPc hKc hDc hN hH hS hFc (zx_cons (zx_o hD 0 [10, 11, 12] rfl rfl (by decide)) (zx_cons (zx_o hD 1 [10, 11, 12] rfl rfl (by decide)) (zx_cons (zx_o hD 9 [10, 11, 12] rfl rfl (by decide)) zx_nil)))⟩⟩ rfl rfl hl.1 rfl (lv_room (Nat.le_of_ble_eq_true rfl)) dL_law_1355 ⟨Nat.le_of_ble_eq_true rfl, Nat.le_of_ble_eq_true rfl⟩) hS (fun q _ h => hFc q h) hFc (fun r229 u t H228 locs ht hvm hw hB hz1 hk1 hS => ?_)
      obtain rfl : r229 = 0 := hw
      obtain ⟨g1_230, g2_230, g3_230, hP1, hD1, hK1⟩ := hB
      rw [ht] at hP1
      obtain ⟨hP, hD⟩ := va_join (wr := [(q1, .inr (8, [.ref rm_5, .ref tr_5, .ref st_5])), (rm_5, .inr (5, [.ref lk_5, .ref th_5, .ref pl_5, .ref gm_5, .int 0, .int 0, .int 0, .int (-1), .int 1, .int 0, .int 0, .int 0])), (lk_5, .inl (cL_5, 10, .inr (.inr (.inr (.inr fl_5))))), (th_5, .inl (cT_5, 12, .inr (.inr (.inr (.inr ft_5))))), (pl_5, .inl (cP_5, 6, .inr (.inr (.inr (.inr fp_5))))), (gm_5, .inr (2, [.int 0, .int 0, .int 0, .int 0, .int 0, .int (-1), .long 0])), (l0_5, .inr (3, [.int 0, .int 0, .int 0, .int 0, .int 0, .int 0, .int 0, .int 0, .int 0, .int 0])), (t0_5, .inr (7, [.int 0, .int 0, .int 0, .int 0, .int 0])), (p0_5, .inr (4, [.int 0, .int 0, .int 0, .int 0])), (st_5, .inr (6, [.ref a1_5, .ref a2_5, .ref a3_5])), (q6, .inr (10, [.int 0, .ref mr_10, .int 1, .long 0])), (mr_10, .inr (9, [.ref ll_10, .ref lt_10, .ref lp_10, .int (-1), .int 0, .int 0, .int 0, .int 0, .int 0, .int 0, .int (-1), .int 0, .int 0, .int 0])), (ll_10, .inr (1, [.int 0, .ref ed, .int 0])), (lt_10, .inr (1, [.int 0, .ref ed, .int 0])), (lp_10, .inr (1, [.int 0, .ref ed, .int 0])), (q11, .inl (cA13, 1, .inr (.inl (fun _ => 0))))]) (w1 := [(a1_5, .inl (cZ_5, 1024, .inl g1_230)), (a2_5, .inl (cI_5, 1024, .inl g2_230)), (a3_5, .inl (cJ_5, 1024, .inl g3_230))]) hP hD [10, 11, 12] [0, 1, 2, 3, 4, 5, 6, 7, 8, 9, 13, 14, 15, 16, 17, 18] rfl rfl (by decide) (by decide) hk1 hFc hP1 hD1
      have hP : va_P (dC, dI) vwCl [(q1, .inr (8, [.ref rm_5, .ref tr_5, .ref st_5])), (rm_5, .inr (5, [.ref lk_5, .ref th_5, .ref pl_5, .ref gm_5, .int 0, .int 0, .int 0, .int (-1), .int 1, .int 0, .int 0, .int 0])), (lk_5, .inl (cL_5, 10, .inr (.inr (.inr (.inr fl_5))))), (th_5, .inl (cT_5, 12, .inr (.inr (.inr (.inr ft_5))))), (pl_5, .inl (cP_5, 6, .inr (.inr (.inr (.inr fp_5))))), (gm_5, .inr (2, [.int 0, .int 0, .int 0, .int 0, .int 0, .int (-1), .long 0])), (l0_5, .inr (3, [.int 0, .int 0, .int 0, .int 0, .int 0, .int 0, .int 0, .int 0, .int 0, .int 0])), (t0_5, .inr (7, [.int 0, .int 0, .int 0, .int 0, .int 0])), (p0_5, .inr (4, [.int 0, .int 0, .int 0, .int 0])), (st_5, .inr (6, [.ref a1_5, .ref a2_5, .ref a3_5])), (q6, .inr (10, [.int 0, .ref mr_10, .int 1, .long 0])), (mr_10, .inr (9, [.ref ll_10, .ref lt_10, .ref lp_10, .int (-1), .int 0, .int 0, .int 0, .int 0, .int 0, .int 0, .int (-1), .int 0, .int 0, .int 0])), (ll_10, .inr (1, [.int 0, .ref ed, .int 0])), (lt_10, .inr (1, [.int 0, .ref ed, .int 0])), (lp_10, .inr (1, [.int 0, .ref ed, .int 0])), (q11, .inl (cA13, 1, .inr (.inl (fun _ => 0)))), (a1_5, .inl (cZ_5, 1024, .inl g1_230)), (a2_5, .inl (cI_5, 1024, .inl g2_230)), (a3_5, .inl (cJ_5, 1024, .inl g3_230))] H228 := hP
      have hD : va_D A [(q1, .inr (8, [.ref rm_5, .ref tr_5, .ref st_5])), (rm_5, .inr (5, [.ref lk_5, .ref th_5, .ref pl_5, .ref gm_5, .int 0, .int 0, .int 0, .int (-1), .int 1, .int 0, .int 0, .int 0])), (lk_5, .inl (cL_5, 10, .inr (.inr (.inr (.inr fl_5))))), (th_5, .inl (cT_5, 12, .inr (.inr (.inr (.inr ft_5))))), (pl_5, .inl (cP_5, 6, .inr (.inr (.inr (.inr fp_5))))), (gm_5, .inr (2, [.int 0, .int 0, .int 0, .int 0, .int 0, .int (-1), .long 0])), (l0_5, .inr (3, [.int 0, .int 0, .int 0, .int 0, .int 0, .int 0, .int 0, .int 0, .int 0, .int 0])), (t0_5, .inr (7, [.int 0, .int 0, .int 0, .int 0, .int 0])), (p0_5, .inr (4, [.int 0, .int 0, .int 0, .int 0])), (st_5, .inr (6, [.ref a1_5, .ref a2_5, .ref a3_5])), (q6, .inr (10, [.int 0, .ref mr_10, .int 1, .long 0])), (mr_10, .inr (9, [.ref ll_10, .ref lt_10, .ref lp_10, .int (-1), .int 0, .int 0, .int 0, .int 0, .int 0, .int 0, .int (-1), .int 0, .int 0, .int 0])), (ll_10, .inr (1, [.int 0, .ref ed, .int 0])), (lt_10, .inr (1, [.int 0, .ref ed, .int 0])), (lp_10, .inr (1, [.int 0, .ref ed, .int 0])), (q11, .inl (cA13, 1, .inr (.inl (fun _ => 0)))), (a1_5, .inl (cZ_5, 1024, .inl g1_230)), (a2_5, .inl (cI_5, 1024, .inl g2_230)), (a3_5, .inl (cJ_5, 1024, .inl g3_230))] := hD
      refine lv_aload_n hx hb dL_law_1358 rfl (lv_at hl 2 rfl) ?_
      have hPr := (hP).sub (ws' := [(mr_10, .inr (9, [.ref ll_10, .ref lt_10, .ref lp_10, .int (-1), .int 0, .int 0, .int 0, .int 0, .int 0, .int 0, .int (-1), .int 0, .int 0, .int 0])), (ll_10, .inr (1, [.int 0, .ref ed, .int 0])), (lt_10, .inr (1, [.int 0, .ref ed, .int 0])), (lp_10, .inr (1, [.int 0, .ref ed, .int 0]))]) [11, 12, 13, 14] rfl
      have hPc := hP.sub (ws' := [(q6, .inr (10, [.int 0, .ref mr_10, .int 1, .long 0]))]) [10] rfl
      have hDc := hD.sub (ws' := [(q6, .inr (10, [.int 0, .ref mr_10, .int 1, .long 0]))]) [10] (by decide) rfl
      have hKc := hK.sub (tys' := []) [] rfl
      have hFc := va_free (wc := [(q6, .inr (10, [.int 0, .ref mr_10, .int 1, .long 0]))]) hD hS hA [10] rfl
      refine va_calli (va_runV (As := []) (rest := [.int 0]) ⟨hx, hb, hml, hown, hts⟩ (cz_X8_cannotMiss l dC dI ed H228.size q6 mr_10 ll_10 lt_10 lp_10 0 0) (cwV 0 hts gL_law_X8_cannotMiss rfl rfl rfl (by decide +kernel) ⟨Nat.le_of_ble_eq_true rfl, Nat.le_of_ble_eq_true rfl⟩) ⟨zb_blind, va_recv hK hP (ci := 10) (q0 := 10) rfl rfl, fun U hU hW => ⟨rfl, zb_mk hU hW hPr hPc hKc hDc hN hH hS hFc (zx_cons (zx_o hD 11 [10] rfl rfl (by decide)) (zx_cons (zx_o hD 12 [10] rfl rfl (by decide)) (zx_cons (zx_o hD 13 [10] rfl rfl (by decide)) (zx_cons (zx_o hD 14 [10] rfl rfl (by decide)) zx_nil))))⟩⟩ rfl rfl hl.1 rfl (lv_room (Nat.le_of_ble_eq_true rfl)) dL_law_1359 ⟨Nat.le_of_ble_eq_true rfl, Nat.le_of_ble_eq_true rfl⟩) hS (fun q _ h => hFc q h) hFc (fun r232 u t H231 locs ht hvm hw hB hz1 hk1 hS => ?_)
      obtain rfl : r232 = 0 := hw
      obtain ⟨hP1, hD1, hK1⟩ := hB
      rw [ht] at hP1
      obtain ⟨hP, hD⟩ := va_join (wr := [(q1, .inr (8, [.ref rm_5, .ref tr_5, .ref st_5])), (rm_5, .inr (5, [.ref lk_5, .ref th_5, .ref pl_5, .ref gm_5, .int 0, .int 0, .int 0, .int (-1), .int 1, .int 0, .int 0, .int 0])), (lk_5, .inl (cL_5, 10, .inr (.inr (.inr (.inr fl_5))))), (th_5, .inl (cT_5, 12, .inr (.inr (.inr (.inr ft_5))))), (pl_5, .inl (cP_5, 6, .inr (.inr (.inr (.inr fp_5))))), (gm_5, .inr (2, [.int 0, .int 0, .int 0, .int 0, .int 0, .int (-1), .long 0])), (l0_5, .inr (3, [.int 0, .int 0, .int 0, .int 0, .int 0, .int 0, .int 0, .int 0, .int 0, .int 0])), (t0_5, .inr (7, [.int 0, .int 0, .int 0, .int 0, .int 0])), (p0_5, .inr (4, [.int 0, .int 0, .int 0, .int 0])), (st_5, .inr (6, [.ref a1_5, .ref a2_5, .ref a3_5])), (mr_10, .inr (9, [.ref ll_10, .ref lt_10, .ref lp_10, .int (-1), .int 0, .int 0, .int 0, .int 0, .int 0, .int 0, .int (-1), .int 0, .int 0, .int 0])), (ll_10, .inr (1, [.int 0, .ref ed, .int 0])), (lt_10, .inr (1, [.int 0, .ref ed, .int 0])), (lp_10, .inr (1, [.int 0, .ref ed, .int 0])), (q11, .inl (cA13, 1, .inr (.inl (fun _ => 0)))), (a1_5, .inl (cZ_5, 1024, .inl g1_230)), (a2_5, .inl (cI_5, 1024, .inl g2_230)), (a3_5, .inl (cJ_5, 1024, .inl g3_230))]) (w1 := [(q6, .inr (10, [.int 0, .ref mr_10, .int 1, .long 0]))]) hP hD [10] [0, 1, 2, 3, 4, 5, 6, 7, 8, 9, 11, 12, 13, 14, 15, 16, 17, 18] rfl rfl (by decide) (by decide) hk1 hFc hP1 hD1
      have hP : va_P (dC, dI) vwCl [(q1, .inr (8, [.ref rm_5, .ref tr_5, .ref st_5])), (rm_5, .inr (5, [.ref lk_5, .ref th_5, .ref pl_5, .ref gm_5, .int 0, .int 0, .int 0, .int (-1), .int 1, .int 0, .int 0, .int 0])), (lk_5, .inl (cL_5, 10, .inr (.inr (.inr (.inr fl_5))))), (th_5, .inl (cT_5, 12, .inr (.inr (.inr (.inr ft_5))))), (pl_5, .inl (cP_5, 6, .inr (.inr (.inr (.inr fp_5))))), (gm_5, .inr (2, [.int 0, .int 0, .int 0, .int 0, .int 0, .int (-1), .long 0])), (l0_5, .inr (3, [.int 0, .int 0, .int 0, .int 0, .int 0, .int 0, .int 0, .int 0, .int 0, .int 0])), (t0_5, .inr (7, [.int 0, .int 0, .int 0, .int 0, .int 0])), (p0_5, .inr (4, [.int 0, .int 0, .int 0, .int 0])), (st_5, .inr (6, [.ref a1_5, .ref a2_5, .ref a3_5])), (mr_10, .inr (9, [.ref ll_10, .ref lt_10, .ref lp_10, .int (-1), .int 0, .int 0, .int 0, .int 0, .int 0, .int 0, .int (-1), .int 0, .int 0, .int 0])), (ll_10, .inr (1, [.int 0, .ref ed, .int 0])), (lt_10, .inr (1, [.int 0, .ref ed, .int 0])), (lp_10, .inr (1, [.int 0, .ref ed, .int 0])), (q11, .inl (cA13, 1, .inr (.inl (fun _ => 0)))), (a1_5, .inl (cZ_5, 1024, .inl g1_230)), (a2_5, .inl (cI_5, 1024, .inl g2_230)), (a3_5, .inl (cJ_5, 1024, .inl g3_230)), (q6, .inr (10, [.int 0, .ref mr_10, .int 1, .long 0]))] H231 := hP
      have hD : va_D A [(q1, .inr (8, [.ref rm_5, .ref tr_5, .ref st_5])), (rm_5, .inr (5, [.ref lk_5, .ref th_5, .ref pl_5, .ref gm_5, .int 0, .int 0, .int 0, .int (-1), .int 1, .int 0, .int 0, .int 0])), (lk_5, .inl (cL_5, 10, .inr (.inr (.inr (.inr fl_5))))), (th_5, .inl (cT_5, 12, .inr (.inr (.inr (.inr ft_5))))), (pl_5, .inl (cP_5, 6, .inr (.inr (.inr (.inr fp_5))))), (gm_5, .inr (2, [.int 0, .int 0, .int 0, .int 0, .int 0, .int (-1), .long 0])), (l0_5, .inr (3, [.int 0, .int 0, .int 0, .int 0, .int 0, .int 0, .int 0, .int 0, .int 0, .int 0])), (t0_5, .inr (7, [.int 0, .int 0, .int 0, .int 0, .int 0])), (p0_5, .inr (4, [.int 0, .int 0, .int 0, .int 0])), (st_5, .inr (6, [.ref a1_5, .ref a2_5, .ref a3_5])), (mr_10, .inr (9, [.ref ll_10, .ref lt_10, .ref lp_10, .int (-1), .int 0, .int 0, .int 0, .int 0, .int 0, .int 0, .int (-1), .int 0, .int 0, .int 0])), (ll_10, .inr (1, [.int 0, .ref ed, .int 0])), (lt_10, .inr (1, [.int 0, .ref ed, .int 0])), (lp_10, .inr (1, [.int 0, .ref ed, .int 0])), (q11, .inl (cA13, 1, .inr (.inl (fun _ => 0)))), (a1_5, .inl (cZ_5, 1024, .inl g1_230)), (a2_5, .inl (cI_5, 1024, .inl g2_230)), (a3_5, .inl (cJ_5, 1024, .inl g3_230)), (q6, .inr (10, [.int 0, .ref mr_10, .int 1, .long 0]))] := hD
      refine lv_icmp_eq (tgt := 1407) hx hb dL_law_1362 (by decide) (fun _ => ?_) (fun h => absurd h (by decide))
      refine lv_iinc (v := 6) (lv' := [(4, .int 6), (3, .ref q11), (2, .ref q6), (1, .ref q1), (0, .ref b)]) hx hb dL_law_1407 hl (k := 0) rfl (by decide) (by decide) rfl (fun ls hl => ?_)
      refine lv_goto (tgt := 23) hx hb dL_law_1410 (by decide) ?_
      refine lv_iload hx hb dL_law_23 (lv_at hl 0 rfl) ?_
      refine lv_aload_n hx hb dL_law_25 rfl (lv_at hl 4 rfl) ?_
      refine va_slen hx hb hX hbl hbA hS dL_law_26 ?_
      refine zo_i (v := 6) (by decide) ?_
      refine lv_bipush (v := 6) hx hb dL_law_27 (by decide) ?_
      refine lv_isub hx hb dL_law_29 ?_
      refine zo_i (v := 0) (by decide) ?_
      refine lv_icmp_gt (tgt := 1413) hx hb dL_law_30 (by decide) (fun _ => ?_) (fun h => absurd h (by decide))
      refine lv_iconst (v := 1) hx hb dL_law_1413 (by decide) ?_
      refine W.widen (k := 600002) (n := 7302232) (Nat.le_of_ble_eq_true rfl) (Nat.le_of_ble_eq_true rfl) ?_
      refine va_forget (fun q hq => by have h9 := hS.2.2 q hq; rw [hAe] at h9; exact h9) ?_
      exact lw_ret hd0 hx hb hr hlocks dL_law_1414
    · refine zo_i (v := 24) (by decide) ?_
      refine lv_tableIn (off := 1327) (tgt := 1367) hx hb dL_law_40 (by decide) (by decide) rfl (by decide) ?_
      refine lv_aload_n hx hb dL_law_1367 rfl (lv_at hl 3 rfl) ?_
      have hPr := (hP).sub (ws' := [(q1, .inr (8, [.ref rm_5, .ref tr_5, .ref st_5])), (rm_5, .inr (5, [.ref lk_5, .ref th_5, .ref pl_5, .ref gm_5, .int 0, .int 0, .int 0, .int (-1), .int 1, .int 0, .int 0, .int 0])), (st_5, .inr (6, [.ref a1_5, .ref a2_5, .ref a3_5]))]) [0, 1, 9] rfl
      have hPc := hP.sub (ws' := [(a1_5, .inl (cZ_5, 1024, .inl f1_5)), (a2_5, .inl (cI_5, 1024, .inl f2_5)), (a3_5, .inl (cJ_5, 1024, .inl f3_5))]) [10, 11, 12] rfl
      have hDc := hD.sub (ws' := [(a1_5, .inl (cZ_5, 1024, .inl f1_5)), (a2_5, .inl (cI_5, 1024, .inl f2_5)), (a3_5, .inl (cJ_5, 1024, .inl f3_5))]) [10, 11, 12] (by decide) rfl
      have hKc := hK.sub (tys' := [(cZ_5, .boolean), (cI_5, .int), (cJ_5, .int)]) [3, 4, 5] rfl
      have hFc := va_free (wc := [(a1_5, .inl (cZ_5, 1024, .inl f1_5)), (a2_5, .inl (cI_5, 1024, .inl f2_5)), (a3_5, .inl (cJ_5, 1024, .inl f3_5))]) hD hS hA [10, 11, 12] rfl
      refine va_calli (va_runV (As := []) (rest := []) ⟨hx, hb, hml, hown, hts⟩ (cz_X6_bestHint l dC dI ed H12.size q1 rm_5 tr_5 st_5 lk_5 th_5 pl_5 gm_5 a1_5 a2_5 a3_5 cZ_5 cI_5 cJ_5 f1_5 f2_5 f3_5) (cwV 0 hts gL_law_X6_bestHint rfl rfl rfl (by decide +kernel) ⟨Nat.le_of_ble_eq_true rfl, Nat.le_of_ble_eq_true rfl⟩) ⟨zb_blind, va_recv hK hP (ci := 8) (q0 := 0) rfl rfl, fun U hU hW => ⟨rfl, zb_mk hU hW hPr hPc hKc hDc hN hH hS hFc (zx_cons (zx_o hD 0 [10, 11, 12] rfl rfl (by decide)) (zx_cons (zx_o hD 1 [10, 11, 12] rfl rfl (by decide)) (zx_cons (zx_o hD 9 [10, 11, 12] rfl rfl (by decide)) zx_nil)))⟩⟩ rfl rfl hl.1 rfl (lv_room (Nat.le_of_ble_eq_true rfl)) dL_law_1368 ⟨Nat.le_of_ble_eq_true rfl, Nat.le_of_ble_eq_true rfl⟩) hS (fun q _ h => hFc q h) hFc (fun r235 u t H234 locs ht hvm hw hB hz1 hk1 hS => ?_)
      obtain rfl : r235 = (-1) := hw
      obtain ⟨g1_236, g2_236, g3_236, hP1, hD1, hK1⟩ := hB
      rw [ht] at hP1
      obtain ⟨hP, hD⟩ := va_join (wr := [(q1, .inr (8, [.ref rm_5, .ref tr_5, .ref st_5])), (rm_5, .inr (5, [.ref lk_5, .ref th_5, .ref pl_5, .ref gm_5, .int 0, .int 0, .int 0, .int (-1), .int 1, .int 0, .int 0, .int 0])), (lk_5, .inl (cL_5, 10, .inr (.inr (.inr (.inr fl_5))))), (th_5, .inl (cT_5, 12, .inr (.inr (.inr (.inr ft_5))))), (pl_5, .inl (cP_5, 6, .inr (.inr (.inr (.inr fp_5))))), (gm_5, .inr (2, [.int 0, .int 0, .int 0, .int 0, .int 0, .int (-1), .long 0])), (l0_5, .inr (3, [.int 0, .int 0, .int 0, .int 0, .int 0, .int 0, .int 0, .int 0, .int 0, .int 0])), (t0_5, .inr (7, [.int 0, .int 0, .int 0, .int 0, .int 0])), (p0_5, .inr (4, [.int 0, .int 0, .int 0, .int 0])), (st_5, .inr (6, [.ref a1_5, .ref a2_5, .ref a3_5])), (q6, .inr (10, [.int 0, .ref mr_10, .int 1, .long 0])), (mr_10, .inr (9, [.ref ll_10, .ref lt_10, .ref lp_10, .int (-1), .int 0, .int 0, .int 0, .int 0, .int 0, .int 0, .int (-1), .int 0, .int 0, .int 0])), (ll_10, .inr (1, [.int 0, .ref ed, .int 0])), (lt_10, .inr (1, [.int 0, .ref ed, .int 0])), (lp_10, .inr (1, [.int 0, .ref ed, .int 0])), (q11, .inl (cA13, 1, .inr (.inl (fun _ => 0))))]) (w1 := [(a1_5, .inl (cZ_5, 1024, .inl g1_236)), (a2_5, .inl (cI_5, 1024, .inl g2_236)), (a3_5, .inl (cJ_5, 1024, .inl g3_236))]) hP hD [10, 11, 12] [0, 1, 2, 3, 4, 5, 6, 7, 8, 9, 13, 14, 15, 16, 17, 18] rfl rfl (by decide) (by decide) hk1 hFc hP1 hD1
      have hP : va_P (dC, dI) vwCl [(q1, .inr (8, [.ref rm_5, .ref tr_5, .ref st_5])), (rm_5, .inr (5, [.ref lk_5, .ref th_5, .ref pl_5, .ref gm_5, .int 0, .int 0, .int 0, .int (-1), .int 1, .int 0, .int 0, .int 0])), (lk_5, .inl (cL_5, 10, .inr (.inr (.inr (.inr fl_5))))), (th_5, .inl (cT_5, 12, .inr (.inr (.inr (.inr ft_5))))), (pl_5, .inl (cP_5, 6, .inr (.inr (.inr (.inr fp_5))))), (gm_5, .inr (2, [.int 0, .int 0, .int 0, .int 0, .int 0, .int (-1), .long 0])), (l0_5, .inr (3, [.int 0, .int 0, .int 0, .int 0, .int 0, .int 0, .int 0, .int 0, .int 0, .int 0])), (t0_5, .inr (7, [.int 0, .int 0, .int 0, .int 0, .int 0])), (p0_5, .inr (4, [.int 0, .int 0, .int 0, .int 0])), (st_5, .inr (6, [.ref a1_5, .ref a2_5, .ref a3_5])), (q6, .inr (10, [.int 0, .ref mr_10, .int 1, .long 0])), (mr_10, .inr (9, [.ref ll_10, .ref lt_10, .ref lp_10, .int (-1), .int 0, .int 0, .int 0, .int 0, .int 0, .int 0, .int (-1), .int 0, .int 0, .int 0])), (ll_10, .inr (1, [.int 0, .ref ed, .int 0])), (lt_10, .inr (1, [.int 0, .ref ed, .int 0])), (lp_10, .inr (1, [.int 0, .ref ed, .int 0])), (q11, .inl (cA13, 1, .inr (.inl (fun _ => 0)))), (a1_5, .inl (cZ_5, 1024, .inl g1_236)), (a2_5, .inl (cI_5, 1024, .inl g2_236)), (a3_5, .inl (cJ_5, 1024, .inl g3_236))] H234 := hP
      have hD : va_D A [(q1, .inr (8, [.ref rm_5, .ref tr_5, .ref st_5])), (rm_5, .inr (5, [.ref lk_5, .ref th_5, .ref pl_5, .ref gm_5, .int 0, .int 0, .int 0, .int (-1), .int 1, .int 0, .int 0, .int 0])), (lk_5, .inl (cL_5, 10, .inr (.inr (.inr (.inr fl_5))))), (th_5, .inl (cT_5, 12, .inr (.inr (.inr (.inr ft_5))))), (pl_5, .inl (cP_5, 6, .inr (.inr (.inr (.inr fp_5))))), (gm_5, .inr (2, [.int 0, .int 0, .int 0, .int 0, .int 0, .int (-1), .long 0])), (l0_5, .inr (3, [.int 0, .int 0, .int 0, .int 0, .int 0, .int 0, .int 0, .int 0, .int 0, .int 0])), (t0_5, .inr (7, [.int 0, .int 0, .int 0, .int 0, .int 0])), (p0_5, .inr (4, [.int 0, .int 0, .int 0, .int 0])), (st_5, .inr (6, [.ref a1_5, .ref a2_5, .ref a3_5])), (q6, .inr (10, [.int 0, .ref mr_10, .int 1, .long 0])), (mr_10, .inr (9, [.ref ll_10, .ref lt_10, .ref lp_10, .int (-1), .int 0, .int 0, .int 0, .int 0, .int 0, .int 0, .int (-1), .int 0, .int 0, .int 0])), (ll_10, .inr (1, [.int 0, .ref ed, .int 0])), (lt_10, .inr (1, [.int 0, .ref ed, .int 0])), (lp_10, .inr (1, [.int 0, .ref ed, .int 0])), (q11, .inl (cA13, 1, .inr (.inl (fun _ => 0)))), (a1_5, .inl (cZ_5, 1024, .inl g1_236)), (a2_5, .inl (cI_5, 1024, .inl g2_236)), (a3_5, .inl (cJ_5, 1024, .inl g3_236))] := hD
      refine lv_aload_n hx hb dL_law_1371 rfl (lv_at hl 2 rfl) ?_
      have hPr := (hP).sub (ws' := [(mr_10, .inr (9, [.ref ll_10, .ref lt_10, .ref lp_10, .int (-1), .int 0, .int 0, .int 0, .int 0, .int 0, .int 0, .int (-1), .int 0, .int 0, .int 0])), (ll_10, .inr (1, [.int 0, .ref ed, .int 0])), (lt_10, .inr (1, [.int 0, .ref ed, .int 0])), (lp_10, .inr (1, [.int 0, .ref ed, .int 0]))]) [11, 12, 13, 14] rfl
      have hPc := hP.sub (ws' := [(q6, .inr (10, [.int 0, .ref mr_10, .int 1, .long 0]))]) [10] rfl
      have hDc := hD.sub (ws' := [(q6, .inr (10, [.int 0, .ref mr_10, .int 1, .long 0]))]) [10] (by decide) rfl
      have hKc := hK.sub (tys' := []) [] rfl
      have hFc := va_free (wc := [(q6, .inr (10, [.int 0, .ref mr_10, .int 1, .long 0]))]) hD hS hA [10] rfl
      refine va_calli (va_runV (As := []) (rest := [.int (-1)]) ⟨hx, hb, hml, hown, hts⟩ (cz_X8_bestHint l dC dI ed H234.size q6 mr_10 ll_10 lt_10 lp_10 0 0) (cwV 0 hts gL_law_X8_bestHint rfl rfl rfl (by decide +kernel) ⟨Nat.le_of_ble_eq_true rfl, Nat.le_of_ble_eq_true rfl⟩) ⟨zb_blind, va_recv hK hP (ci := 10) (q0 := 10) rfl rfl, fun U hU hW => ⟨rfl, zb_mk hU hW hPr hPc hKc hDc hN hH hS hFc (zx_cons (zx_o hD 11 [10] rfl rfl (by decide)) (zx_cons (zx_o hD 12 [10] rfl rfl (by decide)) (zx_cons (zx_o hD 13 [10] rfl rfl (by decide)) (zx_cons (zx_o hD 14 [10] rfl rfl (by decide)) zx_nil))))⟩⟩ rfl rfl hl.1 rfl (lv_room (Nat.le_of_ble_eq_true rfl)) dL_law_1372 ⟨Nat.le_of_ble_eq_true rfl, Nat.le_of_ble_eq_true rfl⟩) hS (fun q _ h => hFc q h) hFc (fun r238 u t H237 locs ht hvm hw hB hz1 hk1 hS => ?_)
      obtain rfl : r238 = (-1) := hw
      obtain ⟨hP1, hD1, hK1⟩ := hB
      rw [ht] at hP1
      obtain ⟨hP, hD⟩ := va_join (wr := [(q1, .inr (8, [.ref rm_5, .ref tr_5, .ref st_5])), (rm_5, .inr (5, [.ref lk_5, .ref th_5, .ref pl_5, .ref gm_5, .int 0, .int 0, .int 0, .int (-1), .int 1, .int 0, .int 0, .int 0])), (lk_5, .inl (cL_5, 10, .inr (.inr (.inr (.inr fl_5))))), (th_5, .inl (cT_5, 12, .inr (.inr (.inr (.inr ft_5))))), (pl_5, .inl (cP_5, 6, .inr (.inr (.inr (.inr fp_5))))), (gm_5, .inr (2, [.int 0, .int 0, .int 0, .int 0, .int 0, .int (-1), .long 0])), (l0_5, .inr (3, [.int 0, .int 0, .int 0, .int 0, .int 0, .int 0, .int 0, .int 0, .int 0, .int 0])), (t0_5, .inr (7, [.int 0, .int 0, .int 0, .int 0, .int 0])), (p0_5, .inr (4, [.int 0, .int 0, .int 0, .int 0])), (st_5, .inr (6, [.ref a1_5, .ref a2_5, .ref a3_5])), (mr_10, .inr (9, [.ref ll_10, .ref lt_10, .ref lp_10, .int (-1), .int 0, .int 0, .int 0, .int 0, .int 0, .int 0, .int (-1), .int 0, .int 0, .int 0])), (ll_10, .inr (1, [.int 0, .ref ed, .int 0])), (lt_10, .inr (1, [.int 0, .ref ed, .int 0])), (lp_10, .inr (1, [.int 0, .ref ed, .int 0])), (q11, .inl (cA13, 1, .inr (.inl (fun _ => 0)))), (a1_5, .inl (cZ_5, 1024, .inl g1_236)), (a2_5, .inl (cI_5, 1024, .inl g2_236)), (a3_5, .inl (cJ_5, 1024, .inl g3_236))]) (w1 := [(q6, .inr (10, [.int 0, .ref mr_10, .int 1, .long 0]))]) hP hD [10] [0, 1, 2, 3, 4, 5, 6, 7, 8, 9, 11, 12, 13, 14, 15, 16, 17, 18] rfl rfl (by decide) (by decide) hk1 hFc hP1 hD1
      have hP : va_P (dC, dI) vwCl [(q1, .inr (8, [.ref rm_5, .ref tr_5, .ref st_5])), (rm_5, .inr (5, [.ref lk_5, .ref th_5, .ref pl_5, .ref gm_5, .int 0, .int 0, .int 0, .int (-1), .int 1, .int 0, .int 0, .int 0])), (lk_5, .inl (cL_5, 10, .inr (.inr (.inr (.inr fl_5))))), (th_5, .inl (cT_5, 12, .inr (.inr (.inr (.inr ft_5))))), (pl_5, .inl (cP_5, 6, .inr (.inr (.inr (.inr fp_5))))), (gm_5, .inr (2, [.int 0, .int 0, .int 0, .int 0, .int 0, .int (-1), .long 0])), (l0_5, .inr (3, [.int 0, .int 0, .int 0, .int 0, .int 0, .int 0, .int 0, .int 0, .int 0, .int 0])), (t0_5, .inr (7, [.int 0, .int 0, .int 0, .int 0, .int 0])), (p0_5, .inr (4, [.int 0, .int 0, .int 0, .int 0])), (st_5, .inr (6, [.ref a1_5, .ref a2_5, .ref a3_5])), (mr_10, .inr (9, [.ref ll_10, .ref lt_10, .ref lp_10, .int (-1), .int 0, .int 0, .int 0, .int 0, .int 0, .int 0, .int (-1), .int 0, .int 0, .int 0])), (ll_10, .inr (1, [.int 0, .ref ed, .int 0])), (lt_10, .inr (1, [.int 0, .ref ed, .int 0])), (lp_10, .inr (1, [.int 0, .ref ed, .int 0])), (q11, .inl (cA13, 1, .inr (.inl (fun _ => 0)))), (a1_5, .inl (cZ_5, 1024, .inl g1_236)), (a2_5, .inl (cI_5, 1024, .inl g2_236)), (a3_5, .inl (cJ_5, 1024, .inl g3_236)), (q6, .inr (10, [.int 0, .ref mr_10, .int 1, .long 0]))] H237 := hP
      have hD : va_D A [(q1, .inr (8, [.ref rm_5, .ref tr_5, .ref st_5])), (rm_5, .inr (5, [.ref lk_5, .ref th_5, .ref pl_5, .ref gm_5, .int 0, .int 0, .int 0, .int (-1), .int 1, .int 0, .int 0, .int 0])), (lk_5, .inl (cL_5, 10, .inr (.inr (.inr (.inr fl_5))))), (th_5, .inl (cT_5, 12, .inr (.inr (.inr (.inr ft_5))))), (pl_5, .inl (cP_5, 6, .inr (.inr (.inr (.inr fp_5))))), (gm_5, .inr (2, [.int 0, .int 0, .int 0, .int 0, .int 0, .int (-1), .long 0])), (l0_5, .inr (3, [.int 0, .int 0, .int 0, .int 0, .int 0, .int 0, .int 0, .int 0, .int 0, .int 0])), (t0_5, .inr (7, [.int 0, .int 0, .int 0, .int 0, .int 0])), (p0_5, .inr (4, [.int 0, .int 0, .int 0, .int 0])), (st_5, .inr (6, [.ref a1_5, .ref a2_5, .ref a3_5])), (mr_10, .inr (9, [.ref ll_10, .ref lt_10, .ref lp_10, .int (-1), .int 0, .int 0, .int 0, .int 0, .int 0, .int 0, .int (-1), .int 0, .int 0, .int 0])), (ll_10, .inr (1, [.int 0, .ref ed, .int 0])), (lt_10, .inr (1, [.int 0, .ref ed, .int 0])), (lp_10, .inr (1, [.int 0, .ref ed, .int 0])), (q11, .inl (cA13, 1, .inr (.inl (fun _ => 0)))), (a1_5, .inl (cZ_5, 1024, .inl g1_236)), (a2_5, .inl (cI_5, 1024, .inl g2_236)), (a3_5, .inl (cJ_5, 1024, .inl g3_236)), (q6, .inr (10, [.int 0, .ref mr_10, .int 1, .long 0]))] := hD
      refine lv_icmp_eq (tgt := 1407) hx hb dL_law_1375 (by decide) (fun _ => ?_) (fun h => absurd h (by decide))
      refine lv_iinc (v := 6) (lv' := [(4, .int 6), (3, .ref q11), (2, .ref q6), (1, .ref q1), (0, .ref b)]) hx hb dL_law_1407 hl (k := 0) rfl (by decide) (by decide) rfl (fun ls hl => ?_)
      refine lv_goto (tgt := 23) hx hb dL_law_1410 (by decide) ?_
      refine lv_iload hx hb dL_law_23 (lv_at hl 0 rfl) ?_
      refine lv_aload_n hx hb dL_law_25 rfl (lv_at hl 4 rfl) ?_
      refine va_slen hx hb hX hbl hbA hS dL_law_26 ?_
      refine zo_i (v := 6) (by decide) ?_
      refine lv_bipush (v := 6) hx hb dL_law_27 (by decide) ?_
      refine lv_isub hx hb dL_law_29 ?_
      refine zo_i (v := 0) (by decide) ?_
      refine lv_icmp_gt (tgt := 1413) hx hb dL_law_30 (by decide) (fun _ => ?_) (fun h => absurd h (by decide))
      refine lv_iconst (v := 1) hx hb dL_law_1413 (by decide) ?_
      refine W.widen (k := 600002) (n := 7302232) (Nat.le_of_ble_eq_true rfl) (Nat.le_of_ble_eq_true rfl) ?_
      refine va_forget (fun q hq => by have h9 := hS.2.2 q hq; rw [hAe] at h9; exact h9) ?_
      exact lw_ret hd0 hx hb hr hlocks dL_law_1414
    · refine zo_i (v := 25) (by decide) ?_
      refine lv_tableIn (off := 1340) (tgt := 1380) hx hb dL_law_40 (by decide) (by decide) rfl (by decide) ?_
      refine lv_aload_n hx hb dL_law_1380 rfl (lv_at hl 3 rfl) ?_
      have hPr := (hP).sub (ws' := [(q1, .inr (8, [.ref rm_5, .ref tr_5, .ref st_5])), (rm_5, .inr (5, [.ref lk_5, .ref th_5, .ref pl_5, .ref gm_5, .int 0, .int 0, .int 0, .int (-1), .int 1, .int 0, .int 0, .int 0])), (gm_5, .inr (2, [.int 0, .int 0, .int 0, .int 0, .int 0, .int (-1), .long 0]))]) [0, 1, 5] rfl
      have hPc := hP.sub (ws' := []) [] rfl
      have hDc := hD.sub (ws' := []) [] (by decide) rfl
      have hKc := hK.sub (tys' := []) [] rfl
      have hFc := va_free (wc := []) hD hS hA [] rfl
      refine va_calli (va_runV (As := []) (rest := []) ⟨hx, hb, hml, hown, hts⟩ (cz_X6_endsAt l dC dI ed H12.size q1 rm_5 tr_5 st_5 lk_5 th_5 pl_5 gm_5) (cwV 0 hts gL_law_X6_endsAt rfl rfl rfl (by decide +kernel) ⟨Nat.le_of_ble_eq_true rfl, Nat.le_of_ble_eq_true rfl⟩) ⟨zb_blind, va_recv hK hP (ci := 8) (q0 := 0) rfl rfl, fun U hU hW => ⟨rfl, zb_mk hU hW hPr hPc hKc hDc hN hH hS hFc zx_e⟩⟩ rfl rfl hl.1 rfl (lv_room (Nat.le_of_ble_eq_true rfl)) dL_law_1381 ⟨Nat.le_of_ble_eq_true rfl, Nat.le_of_ble_eq_true rfl⟩) hS (fun q _ h => hFc q h) hFc (fun r241 u t H240 locs ht hvm hw hB hz1 hk1 hS => ?_)
      obtain rfl : r241 = (-1) := hw
      have hP := zo_K hP hk1
      refine lv_aload_n hx hb dL_law_1384 rfl (lv_at hl 2 rfl) ?_
      have hPr := (hP).sub (ws' := [(mr_10, .inr (9, [.ref ll_10, .ref lt_10, .ref lp_10, .int (-1), .int 0, .int 0, .int 0, .int 0, .int 0, .int 0, .int (-1), .int 0, .int 0, .int 0])), (ll_10, .inr (1, [.int 0, .ref ed, .int 0])), (lt_10, .inr (1, [.int 0, .ref ed, .int 0])), (lp_10, .inr (1, [.int 0, .ref ed, .int 0]))]) [14, 15, 16, 17] rfl
      have hPc := hP.sub (ws' := [(q6, .inr (10, [.int 0, .ref mr_10, .int 1, .long 0]))]) [13] rfl
      have hDc := hD.sub (ws' := [(q6, .inr (10, [.int 0, .ref mr_10, .int 1, .long 0]))]) [13] (by decide) rfl
      have hKc := hK.sub (tys' := []) [] rfl
      have hFc := va_free (wc := [(q6, .inr (10, [.int 0, .ref mr_10, .int 1, .long 0]))]) hD hS hA [13] rfl
      refine va_calli (va_runV (As := []) (rest := [.int (-1)]) ⟨hx, hb, hml, hown, hts⟩ (cz_X8_endsAt l dC dI ed H240.size q6 mr_10 ll_10 lt_10 lp_10 0 0) (cwV 0 hts gL_law_X8_endsAt rfl rfl rfl (by decide +kernel) ⟨Nat.le_of_ble_eq_true rfl, Nat.le_of_ble_eq_true rfl⟩) ⟨zb_blind, va_recv hK hP (ci := 10) (q0 := 13) rfl rfl, fun U hU hW => ⟨rfl, zb_mk hU hW hPr hPc hKc hDc hN hH hS hFc (zx_cons (zx_o hD 14 [13] rfl rfl (by decide)) (zx_cons (zx_o hD 15 [13] rfl rfl (by decide)) (zx_cons (zx_o hD 16 [13] rfl rfl (by decide)) (zx_cons (zx_o hD 17 [13] rfl rfl (by decide)) zx_nil))))⟩⟩ rfl rfl hl.1 rfl (lv_room (Nat.le_of_ble_eq_true rfl)) dL_law_1385 ⟨Nat.le_of_ble_eq_true rfl, Nat.le_of_ble_eq_true rfl⟩) hS (fun q _ h => hFc q h) hFc (fun r243 u t H242 locs ht hvm hw hB hz1 hk1 hS => ?_)
      obtain rfl : r243 = (-1) := hw
      obtain ⟨hP1, hD1, hK1⟩ := hB
      rw [ht] at hP1
      obtain ⟨hP, hD⟩ := va_join (wr := [(q1, .inr (8, [.ref rm_5, .ref tr_5, .ref st_5])), (rm_5, .inr (5, [.ref lk_5, .ref th_5, .ref pl_5, .ref gm_5, .int 0, .int 0, .int 0, .int (-1), .int 1, .int 0, .int 0, .int 0])), (lk_5, .inl (cL_5, 10, .inr (.inr (.inr (.inr fl_5))))), (th_5, .inl (cT_5, 12, .inr (.inr (.inr (.inr ft_5))))), (pl_5, .inl (cP_5, 6, .inr (.inr (.inr (.inr fp_5))))), (gm_5, .inr (2, [.int 0, .int 0, .int 0, .int 0, .int 0, .int (-1), .long 0])), (l0_5, .inr (3, [.int 0, .int 0, .int 0, .int 0, .int 0, .int 0, .int 0, .int 0, .int 0, .int 0])), (t0_5, .inr (7, [.int 0, .int 0, .int 0, .int 0, .int 0])), (p0_5, .inr (4, [.int 0, .int 0, .int 0, .int 0])), (st_5, .inr (6, [.ref a1_5, .ref a2_5, .ref a3_5])), (a1_5, .inl (cZ_5, 1024, .inl f1_5)), (a2_5, .inl (cI_5, 1024, .inl f2_5)), (a3_5, .inl (cJ_5, 1024, .inl f3_5)), (mr_10, .inr (9, [.ref ll_10, .ref lt_10, .ref lp_10, .int (-1), .int 0, .int 0, .int 0, .int 0, .int 0, .int 0, .int (-1), .int 0, .int 0, .int 0])), (ll_10, .inr (1, [.int 0, .ref ed, .int 0])), (lt_10, .inr (1, [.int 0, .ref ed, .int 0])), (lp_10, .inr (1, [.int 0, .ref ed, .int 0])), (q11, .inl (cA13, 1, .inr (.inl (fun _ => 0))))]) (w1 := [(q6, .inr (10, [.int 0, .ref mr_10, .int 1, .long 0]))]) hP hD [13] [0, 1, 2, 3, 4, 5, 6, 7, 8, 9, 10, 11, 12, 14, 15, 16, 17, 18] rfl rfl (by decide) (by decide) hk1 hFc hP1 hD1
      have hP : va_P (dC, dI) vwCl [(q1, .inr (8, [.ref rm_5, .ref tr_5, .ref st_5])), (rm_5, .inr (5, [.ref lk_5, .ref th_5, .ref pl_5, .ref gm_5, .int 0, .int 0, .int 0, .int (-1), .int 1, .int 0, .int 0, .int 0])), (lk_5, .inl (cL_5, 10, .inr (.inr (.inr (.inr fl_5))))), (th_5, .inl (cT_5, 12, .inr (.inr (.inr (.inr ft_5))))), (pl_5, .inl (cP_5, 6, .inr (.inr (.inr (.inr fp_5))))), (gm_5, .inr (2, [.int 0, .int 0, .int 0, .int 0, .int 0, .int (-1), .long 0])), (l0_5, .inr (3, [.int 0, .int 0, .int 0, .int 0, .int 0, .int 0, .int 0, .int 0, .int 0, .int 0])), (t0_5, .inr (7, [.int 0, .int 0, .int 0, .int 0, .int 0])), (p0_5, .inr (4, [.int 0, .int 0, .int 0, .int 0])), (st_5, .inr (6, [.ref a1_5, .ref a2_5, .ref a3_5])), (a1_5, .inl (cZ_5, 1024, .inl f1_5)), (a2_5, .inl (cI_5, 1024, .inl f2_5)), (a3_5, .inl (cJ_5, 1024, .inl f3_5)), (mr_10, .inr (9, [.ref ll_10, .ref lt_10, .ref lp_10, .int (-1), .int 0, .int 0, .int 0, .int 0, .int 0, .int 0, .int (-1), .int 0, .int 0, .int 0])), (ll_10, .inr (1, [.int 0, .ref ed, .int 0])), (lt_10, .inr (1, [.int 0, .ref ed, .int 0])), (lp_10, .inr (1, [.int 0, .ref ed, .int 0])), (q11, .inl (cA13, 1, .inr (.inl (fun _ => 0)))), (q6, .inr (10, [.int 0, .ref mr_10, .int 1, .long 0]))] H242 := hP
      have hD : va_D A [(q1, .inr (8, [.ref rm_5, .ref tr_5, .ref st_5])), (rm_5, .inr (5, [.ref lk_5, .ref th_5, .ref pl_5, .ref gm_5, .int 0, .int 0, .int 0, .int (-1), .int 1, .int 0, .int 0, .int 0])), (lk_5, .inl (cL_5, 10, .inr (.inr (.inr (.inr fl_5))))), (th_5, .inl (cT_5, 12, .inr (.inr (.inr (.inr ft_5))))), (pl_5, .inl (cP_5, 6, .inr (.inr (.inr (.inr fp_5))))), (gm_5, .inr (2, [.int 0, .int 0, .int 0, .int 0, .int 0, .int (-1), .long 0])), (l0_5, .inr (3, [.int 0, .int 0, .int 0, .int 0, .int 0, .int 0, .int 0, .int 0, .int 0, .int 0])), (t0_5, .inr (7, [.int 0, .int 0, .int 0, .int 0, .int 0])), (p0_5, .inr (4, [.int 0, .int 0, .int 0, .int 0])), (st_5, .inr (6, [.ref a1_5, .ref a2_5, .ref a3_5])), (a1_5, .inl (cZ_5, 1024, .inl f1_5)), (a2_5, .inl (cI_5, 1024, .inl f2_5)), (a3_5, .inl (cJ_5, 1024, .inl f3_5)), (mr_10, .inr (9, [.ref ll_10, .ref lt_10, .ref lp_10, .int (-1), .int 0, .int 0, .int 0, .int 0, .int 0, .int 0, .int (-1), .int 0, .int 0, .int 0])), (ll_10, .inr (1, [.int 0, .ref ed, .int 0])), (lt_10, .inr (1, [.int 0, .ref ed, .int 0])), (lp_10, .inr (1, [.int 0, .ref ed, .int 0])), (q11, .inl (cA13, 1, .inr (.inl (fun _ => 0)))), (q6, .inr (10, [.int 0, .ref mr_10, .int 1, .long 0]))] := hD
      refine lv_icmp_eq (tgt := 1407) hx hb dL_law_1388 (by decide) (fun _ => ?_) (fun h => absurd h (by decide))
      refine lv_iinc (v := 6) (lv' := [(4, .int 6), (3, .ref q11), (2, .ref q6), (1, .ref q1), (0, .ref b)]) hx hb dL_law_1407 hl (k := 0) rfl (by decide) (by decide) rfl (fun ls hl => ?_)
      refine lv_goto (tgt := 23) hx hb dL_law_1410 (by decide) ?_
      refine lv_iload hx hb dL_law_23 (lv_at hl 0 rfl) ?_
      refine lv_aload_n hx hb dL_law_25 rfl (lv_at hl 4 rfl) ?_
      refine va_slen hx hb hX hbl hbA hS dL_law_26 ?_
      refine zo_i (v := 6) (by decide) ?_
      refine lv_bipush (v := 6) hx hb dL_law_27 (by decide) ?_
      refine lv_isub hx hb dL_law_29 ?_
      refine zo_i (v := 0) (by decide) ?_
      refine lv_icmp_gt (tgt := 1413) hx hb dL_law_30 (by decide) (fun _ => ?_) (fun h => absurd h (by decide))
      refine lv_iconst (v := 1) hx hb dL_law_1413 (by decide) ?_
      refine W.widen (k := 600002) (n := 7302232) (Nat.le_of_ble_eq_true rfl) (Nat.le_of_ble_eq_true rfl) ?_
      refine va_forget (fun q hq => by have h9 := hS.2.2 q hq; rw [hAe] at h9; exact h9) ?_
      exact lw_ret hd0 hx hb hr hlocks dL_law_1414
    · refine zo_i (v := 26) (by decide) ?_
      refine lv_tableIn (off := 1353) (tgt := 1393) hx hb dL_law_40 (by decide) (by decide) rfl (by decide) ?_
      refine lv_aload_n hx hb dL_law_1393 rfl (lv_at hl 3 rfl) ?_
      have hPr := (hP).sub (ws' := [(q1, .inr (8, [.ref rm_5, .ref tr_5, .ref st_5])), (rm_5, .inr (5, [.ref lk_5, .ref th_5, .ref pl_5, .ref gm_5, .int 0, .int 0, .int 0, .int (-1), .int 1, .int 0, .int 0, .int 0])), (st_5, .inr (6, [.ref a1_5, .ref a2_5, .ref a3_5])), (gm_5, .inr (2, [.int 0, .int 0, .int 0, .int 0, .int 0, .int (-1), .long 0]))]) [0, 1, 9, 5] rfl
      have hPc := hP.sub (ws' := [(a1_5, .inl (cZ_5, 1024, .inl f1_5)), (a2_5, .inl (cI_5, 1024, .inl f2_5)), (a3_5, .inl (cJ_5, 1024, .inl f3_5))]) [10, 11, 12] rfl
      have hDc := hD.sub (ws' := [(a1_5, .inl (cZ_5, 1024, .inl f1_5)), (a2_5, .inl (cI_5, 1024, .inl f2_5)), (a3_5, .inl (cJ_5, 1024, .inl f3_5))]) [10, 11, 12] (by decide) rfl
      have hKc := hK.sub (tys' := [(cZ_5, .boolean), (cI_5, .int), (cJ_5, .int)]) [3, 4, 5] rfl
      have hFc := va_free (wc := [(a1_5, .inl (cZ_5, 1024, .inl f1_5)), (a2_5, .inl (cI_5, 1024, .inl f2_5)), (a3_5, .inl (cJ_5, 1024, .inl f3_5))]) hD hS hA [10, 11, 12] rfl
      refine va_calll (va_runV (As := []) (rest := []) ⟨hx, hb, hml, hown, hts⟩ (cz_X6_digest l dC dI ed H12.size q1 rm_5 tr_5 st_5 lk_5 th_5 pl_5 gm_5 a1_5 a2_5 a3_5 cZ_5 cI_5 cJ_5 f1_5 f2_5 f3_5) (cwV 0 hts gL_law_X6_digest rfl rfl rfl (by decide +kernel) ⟨Nat.le_of_ble_eq_true rfl, Nat.le_of_ble_eq_true rfl⟩) ⟨zb_blind, va_recv hK hP (ci := 8) (q0 := 0) rfl rfl, fun U hU hW => ⟨rfl, zb_mk hU hW hPr hPc hKc hDc hN hH hS hFc (zx_cons (zx_o hD 0 [10, 11, 12] rfl rfl (by decide)) (zx_cons (zx_o hD 1 [10, 11, 12] rfl rfl (by decide)) (zx_cons (zx_o hD 9 [10, 11, 12] rfl rfl (by decide)) (zx_cons (zx_o hD 5 [10, 11, 12] rfl rfl (by decide)) zx_nil))))⟩⟩ rfl rfl hl.1 rfl (lv_room (Nat.le_of_ble_eq_true rfl)) dL_law_1394 ⟨Nat.le_of_ble_eq_true rfl, Nat.le_of_ble_eq_true rfl⟩) hS (fun q _ h => hFc q h) hFc (fun r246 u t H245 locs ht hvm hw hB hz1 hk1 hS => ?_)
      obtain rfl : r246 = 804375242039053392 := hw
      obtain ⟨g1_247, g2_247, g3_247, hP1, hD1, hK1⟩ := hB
      rw [ht] at hP1
      obtain ⟨hP, hD⟩ := va_join (wr := [(q1, .inr (8, [.ref rm_5, .ref tr_5, .ref st_5])), (rm_5, .inr (5, [.ref lk_5, .ref th_5, .ref pl_5, .ref gm_5, .int 0, .int 0, .int 0, .int (-1), .int 1, .int 0, .int 0, .int 0])), (lk_5, .inl (cL_5, 10, .inr (.inr (.inr (.inr fl_5))))), (th_5, .inl (cT_5, 12, .inr (.inr (.inr (.inr ft_5))))), (pl_5, .inl (cP_5, 6, .inr (.inr (.inr (.inr fp_5))))), (gm_5, .inr (2, [.int 0, .int 0, .int 0, .int 0, .int 0, .int (-1), .long 0])), (l0_5, .inr (3, [.int 0, .int 0, .int 0, .int 0, .int 0, .int 0, .int 0, .int 0, .int 0, .int 0])), (t0_5, .inr (7, [.int 0, .int 0, .int 0, .int 0, .int 0])), (p0_5, .inr (4, [.int 0, .int 0, .int 0, .int 0])), (st_5, .inr (6, [.ref a1_5, .ref a2_5, .ref a3_5])), (q6, .inr (10, [.int 0, .ref mr_10, .int 1, .long 0])), (mr_10, .inr (9, [.ref ll_10, .ref lt_10, .ref lp_10, .int (-1), .int 0, .int 0, .int 0, .int 0, .int 0, .int 0, .int (-1), .int 0, .int 0, .int 0])), (ll_10, .inr (1, [.int 0, .ref ed, .int 0])), (lt_10, .inr (1, [.int 0, .ref ed, .int 0])), (lp_10, .inr (1, [.int 0, .ref ed, .int 0])), (q11, .inl (cA13, 1, .inr (.inl (fun _ => 0))))]) (w1 := [(a1_5, .inl (cZ_5, 1024, .inl g1_247)), (a2_5, .inl (cI_5, 1024, .inl g2_247)), (a3_5, .inl (cJ_5, 1024, .inl g3_247))]) hP hD [10, 11, 12] [0, 1, 2, 3, 4, 5, 6, 7, 8, 9, 13, 14, 15, 16, 17, 18] rfl rfl (by decide) (by decide) hk1 hFc hP1 hD1
      have hP : va_P (dC, dI) vwCl [(q1, .inr (8, [.ref rm_5, .ref tr_5, .ref st_5])), (rm_5, .inr (5, [.ref lk_5, .ref th_5, .ref pl_5, .ref gm_5, .int 0, .int 0, .int 0, .int (-1), .int 1, .int 0, .int 0, .int 0])), (lk_5, .inl (cL_5, 10, .inr (.inr (.inr (.inr fl_5))))), (th_5, .inl (cT_5, 12, .inr (.inr (.inr (.inr ft_5))))), (pl_5, .inl (cP_5, 6, .inr (.inr (.inr (.inr fp_5))))), (gm_5, .inr (2, [.int 0, .int 0, .int 0, .int 0, .int 0, .int (-1), .long 0])), (l0_5, .inr (3, [.int 0, .int 0, .int 0, .int 0, .int 0, .int 0, .int 0, .int 0, .int 0, .int 0])), (t0_5, .inr (7, [.int 0, .int 0, .int 0, .int 0, .int 0])), (p0_5, .inr (4, [.int 0, .int 0, .int 0, .int 0])), (st_5, .inr (6, [.ref a1_5, .ref a2_5, .ref a3_5])), (q6, .inr (10, [.int 0, .ref mr_10, .int 1, .long 0])), (mr_10, .inr (9, [.ref ll_10, .ref lt_10, .ref lp_10, .int (-1), .int 0, .int 0, .int 0, .int 0, .int 0, .int 0, .int (-1), .int 0, .int 0, .int 0])), (ll_10, .inr (1, [.int 0, .ref ed, .int 0])), (lt_10, .inr (1, [.int 0, .ref ed, .int 0])), (lp_10, .inr (1, [.int 0, .ref ed, .int 0])), (q11, .inl (cA13, 1, .inr (.inl (fun _ => 0)))), (a1_5, .inl (cZ_5, 1024, .inl g1_247)), (a2_5, .inl (cI_5, 1024, .inl g2_247)), (a3_5, .inl (cJ_5, 1024, .inl g3_247))] H245 := hP
      have hD : va_D A [(q1, .inr (8, [.ref rm_5, .ref tr_5, .ref st_5])), (rm_5, .inr (5, [.ref lk_5, .ref th_5, .ref pl_5, .ref gm_5, .int 0, .int 0, .int 0, .int (-1), .int 1, .int 0, .int 0, .int 0])), (lk_5, .inl (cL_5, 10, .inr (.inr (.inr (.inr fl_5))))), (th_5, .inl (cT_5, 12, .inr (.inr (.inr (.inr ft_5))))), (pl_5, .inl (cP_5, 6, .inr (.inr (.inr (.inr fp_5))))), (gm_5, .inr (2, [.int 0, .int 0, .int 0, .int 0, .int 0, .int (-1), .long 0])), (l0_5, .inr (3, [.int 0, .int 0, .int 0, .int 0, .int 0, .int 0, .int 0, .int 0, .int 0, .int 0])), (t0_5, .inr (7, [.int 0, .int 0, .int 0, .int 0, .int 0])), (p0_5, .inr (4, [.int 0, .int 0, .int 0, .int 0])), (st_5, .inr (6, [.ref a1_5, .ref a2_5, .ref a3_5])), (q6, .inr (10, [.int 0, .ref mr_10, .int 1, .long 0])), (mr_10, .inr (9, [.ref ll_10, .ref lt_10, .ref lp_10, .int (-1), .int 0, .int 0, .int 0, .int 0, .int 0, .int 0, .int (-1), .int 0, .int 0, .int 0])), (ll_10, .inr (1, [.int 0, .ref ed, .int 0])), (lt_10, .inr (1, [.int 0, .ref ed, .int 0])), (lp_10, .inr (1, [.int 0, .ref ed, .int 0])), (q11, .inl (cA13, 1, .inr (.inl (fun _ => 0)))), (a1_5, .inl (cZ_5, 1024, .inl g1_247)), (a2_5, .inl (cI_5, 1024, .inl g2_247)), (a3_5, .inl (cJ_5, 1024, .inl g3_247))] := hD
      refine lv_aload_n hx hb dL_law_1397 rfl (lv_at hl 2 rfl) ?_
      have hPr := (hP).sub (ws' := [(mr_10, .inr (9, [.ref ll_10, .ref lt_10, .ref lp_10, .int (-1), .int 0, .int 0, .int 0, .int 0, .int 0, .int 0, .int (-1), .int 0, .int 0, .int 0])), (ll_10, .inr (1, [.int 0, .ref ed, .int 0])), (lt_10, .inr (1, [.int 0, .ref ed, .int 0])), (lp_10, .inr (1, [.int 0, .ref ed, .int 0]))]) [11, 12, 13, 14] rfl
      have hPc := hP.sub (ws' := [(q6, .inr (10, [.int 0, .ref mr_10, .int 1, .long 0]))]) [10] rfl
      have hDc := hD.sub (ws' := [(q6, .inr (10, [.int 0, .ref mr_10, .int 1, .long 0]))]) [10] (by decide) rfl
      have hKc := hK.sub (tys' := []) [] rfl
      have hFc := va_free (wc := [(q6, .inr (10, [.int 0, .ref mr_10, .int 1, .long 0]))]) hD hS hA [10] rfl
      refine va_calll (va_runV (As := []) (rest := [.long 804375242039053392]) ⟨hx, hb, hml, hown, hts⟩ (cz_X8_digest l dC dI ed H245.size q6 mr_10 ll_10 lt_10 lp_10 0 0) (cwV 0 hts gL_law_X8_digest rfl rfl rfl (by decide +kernel) ⟨Nat.le_of_ble_eq_true rfl, Nat.le_of_ble_eq_true rfl⟩) ⟨zb_blind, va_recv hK hP (ci := 10) (q0 := 10) rfl rfl, fun U hU hW => ⟨rfl, zb_mk hU hW hPr hPc hKc hDc hN hH hS hFc (zx_cons (zx_o hD 11 [10] rfl rfl (by decide)) (zx_cons (zx_o hD 12 [10] rfl rfl (by decide)) (zx_cons (zx_o hD 13 [10] rfl rfl (by decide)) (zx_cons (zx_o hD 14 [10] rfl rfl (by decide)) zx_nil))))⟩⟩ rfl rfl hl.1 rfl (lv_room (Nat.le_of_ble_eq_true rfl)) dL_law_1398 ⟨Nat.le_of_ble_eq_true rfl, Nat.le_of_ble_eq_true rfl⟩) hS (fun q _ h => hFc q h) hFc (fun r249 u t H248 locs ht hvm hw hB hz1 hk1 hS => ?_)
      obtain rfl : r249 = 804375242039053392 := hw
      obtain ⟨hP1, hD1, hK1⟩ := hB
      rw [ht] at hP1
      obtain ⟨hP, hD⟩ := va_join (wr := [(q1, .inr (8, [.ref rm_5, .ref tr_5, .ref st_5])), (rm_5, .inr (5, [.ref lk_5, .ref th_5, .ref pl_5, .ref gm_5, .int 0, .int 0, .int 0, .int (-1), .int 1, .int 0, .int 0, .int 0])), (lk_5, .inl (cL_5, 10, .inr (.inr (.inr (.inr fl_5))))), (th_5, .inl (cT_5, 12, .inr (.inr (.inr (.inr ft_5))))), (pl_5, .inl (cP_5, 6, .inr (.inr (.inr (.inr fp_5))))), (gm_5, .inr (2, [.int 0, .int 0, .int 0, .int 0, .int 0, .int (-1), .long 0])), (l0_5, .inr (3, [.int 0, .int 0, .int 0, .int 0, .int 0, .int 0, .int 0, .int 0, .int 0, .int 0])), (t0_5, .inr (7, [.int 0, .int 0, .int 0, .int 0, .int 0])), (p0_5, .inr (4, [.int 0, .int 0, .int 0, .int 0])), (st_5, .inr (6, [.ref a1_5, .ref a2_5, .ref a3_5])), (mr_10, .inr (9, [.ref ll_10, .ref lt_10, .ref lp_10, .int (-1), .int 0, .int 0, .int 0, .int 0, .int 0, .int 0, .int (-1), .int 0, .int 0, .int 0])), (ll_10, .inr (1, [.int 0, .ref ed, .int 0])), (lt_10, .inr (1, [.int 0, .ref ed, .int 0])), (lp_10, .inr (1, [.int 0, .ref ed, .int 0])), (q11, .inl (cA13, 1, .inr (.inl (fun _ => 0)))), (a1_5, .inl (cZ_5, 1024, .inl g1_247)), (a2_5, .inl (cI_5, 1024, .inl g2_247)), (a3_5, .inl (cJ_5, 1024, .inl g3_247))]) (w1 := [(q6, .inr (10, [.int 0, .ref mr_10, .int 1, .long 804375242039053392]))]) hP hD [10] [0, 1, 2, 3, 4, 5, 6, 7, 8, 9, 11, 12, 13, 14, 15, 16, 17, 18] rfl rfl (by decide) (by decide) hk1 hFc hP1 hD1
      have hP : va_P (dC, dI) vwCl [(q1, .inr (8, [.ref rm_5, .ref tr_5, .ref st_5])), (rm_5, .inr (5, [.ref lk_5, .ref th_5, .ref pl_5, .ref gm_5, .int 0, .int 0, .int 0, .int (-1), .int 1, .int 0, .int 0, .int 0])), (lk_5, .inl (cL_5, 10, .inr (.inr (.inr (.inr fl_5))))), (th_5, .inl (cT_5, 12, .inr (.inr (.inr (.inr ft_5))))), (pl_5, .inl (cP_5, 6, .inr (.inr (.inr (.inr fp_5))))), (gm_5, .inr (2, [.int 0, .int 0, .int 0, .int 0, .int 0, .int (-1), .long 0])), (l0_5, .inr (3, [.int 0, .int 0, .int 0, .int 0, .int 0, .int 0, .int 0, .int 0, .int 0, .int 0])), (t0_5, .inr (7, [.int 0, .int 0, .int 0, .int 0, .int 0])), (p0_5, .inr (4, [.int 0, .int 0, .int 0, .int 0])), (st_5, .inr (6, [.ref a1_5, .ref a2_5, .ref a3_5])), (mr_10, .inr (9, [.ref ll_10, .ref lt_10, .ref lp_10, .int (-1), .int 0, .int 0, .int 0, .int 0, .int 0, .int 0, .int (-1), .int 0, .int 0, .int 0])), (ll_10, .inr (1, [.int 0, .ref ed, .int 0])), (lt_10, .inr (1, [.int 0, .ref ed, .int 0])), (lp_10, .inr (1, [.int 0, .ref ed, .int 0])), (q11, .inl (cA13, 1, .inr (.inl (fun _ => 0)))), (a1_5, .inl (cZ_5, 1024, .inl g1_247)), (a2_5, .inl (cI_5, 1024, .inl g2_247)), (a3_5, .inl (cJ_5, 1024, .inl g3_247)), (q6, .inr (10, [.int 0, .ref mr_10, .int 1, .long 804375242039053392]))] H248 := hP
      have hD : va_D A [(q1, .inr (8, [.ref rm_5, .ref tr_5, .ref st_5])), (rm_5, .inr (5, [.ref lk_5, .ref th_5, .ref pl_5, .ref gm_5, .int 0, .int 0, .int 0, .int (-1), .int 1, .int 0, .int 0, .int 0])), (lk_5, .inl (cL_5, 10, .inr (.inr (.inr (.inr fl_5))))), (th_5, .inl (cT_5, 12, .inr (.inr (.inr (.inr ft_5))))), (pl_5, .inl (cP_5, 6, .inr (.inr (.inr (.inr fp_5))))), (gm_5, .inr (2, [.int 0, .int 0, .int 0, .int 0, .int 0, .int (-1), .long 0])), (l0_5, .inr (3, [.int 0, .int 0, .int 0, .int 0, .int 0, .int 0, .int 0, .int 0, .int 0, .int 0])), (t0_5, .inr (7, [.int 0, .int 0, .int 0, .int 0, .int 0])), (p0_5, .inr (4, [.int 0, .int 0, .int 0, .int 0])), (st_5, .inr (6, [.ref a1_5, .ref a2_5, .ref a3_5])), (mr_10, .inr (9, [.ref ll_10, .ref lt_10, .ref lp_10, .int (-1), .int 0, .int 0, .int 0, .int 0, .int 0, .int 0, .int (-1), .int 0, .int 0, .int 0])), (ll_10, .inr (1, [.int 0, .ref ed, .int 0])), (lt_10, .inr (1, [.int 0, .ref ed, .int 0])), (lp_10, .inr (1, [.int 0, .ref ed, .int 0])), (q11, .inl (cA13, 1, .inr (.inl (fun _ => 0)))), (a1_5, .inl (cZ_5, 1024, .inl g1_247)), (a2_5, .inl (cI_5, 1024, .inl g2_247)), (a3_5, .inl (cJ_5, 1024, .inl g3_247)), (q6, .inr (10, [.int 0, .ref mr_10, .int 1, .long 804375242039053392]))] := hD
      refine W.lcmp hx hb dL_law_1401 ?_
      refine zo_i (v := 0) (zo_lc _) ?_
      refine lv_if_eq (tgt := 1407) hx hb dL_law_1402 (by decide) (fun _ => ?_) (fun h => absurd h (by decide))
      refine lv_iinc (v := 6) (lv' := [(4, .int 6), (3, .ref q11), (2, .ref q6), (1, .ref q1), (0, .ref b)]) hx hb dL_law_1407 hl (k := 0) rfl (by decide) (by decide) rfl (fun ls hl => ?_)
      refine lv_goto (tgt := 23) hx hb dL_law_1410 (by decide) ?_
      refine lv_iload hx hb dL_law_23 (lv_at hl 0 rfl) ?_
      refine lv_aload_n hx hb dL_law_25 rfl (lv_at hl 4 rfl) ?_
      refine va_slen hx hb hX hbl hbA hS dL_law_26 ?_
      refine zo_i (v := 6) (by decide) ?_
      refine lv_bipush (v := 6) hx hb dL_law_27 (by decide) ?_
      refine lv_isub hx hb dL_law_29 ?_
      refine zo_i (v := 0) (by decide) ?_
      refine lv_icmp_gt (tgt := 1413) hx hb dL_law_30 (by decide) (fun _ => ?_) (fun h => absurd h (by decide))
      refine lv_iconst (v := 1) hx hb dL_law_1413 (by decide) ?_
      refine W.widen (k := 600002) (n := 7302232) (Nat.le_of_ble_eq_true rfl) (Nat.le_of_ble_eq_true rfl) ?_
      refine va_forget (fun q hq => by have h9 := hS.2.2 q hq; rw [hAe] at h9; exact h9) ?_
      exact lw_ret hd0 hx hb hr hlocks dL_law_1414
    · refine zo_i (v := 27) (by decide) ?_
      refine lv_tableOut (tgt := 1407) hx hb dL_law_40 (by decide) (by decide) ?_
      refine lv_iinc (v := 6) (lv' := [(4, .int 6), (3, .ref q11), (2, .ref q6), (1, .ref q1), (0, .ref b)]) hx hb dL_law_1407 hl (k := 0) rfl (by decide) (by decide) rfl (fun ls hl => ?_)
      refine lv_goto (tgt := 23) hx hb dL_law_1410 (by decide) ?_
      refine lv_iload hx hb dL_law_23 (lv_at hl 0 rfl) ?_
      refine lv_aload_n hx hb dL_law_25 rfl (lv_at hl 4 rfl) ?_
      refine va_slen hx hb hX hbl hbA hS dL_law_26 ?_
      refine zo_i (v := 6) (by decide) ?_
      refine lv_bipush (v := 6) hx hb dL_law_27 (by decide) ?_
      refine lv_isub hx hb dL_law_29 ?_
      refine zo_i (v := 0) (by decide) ?_
      refine lv_icmp_gt (tgt := 1413) hx hb dL_law_30 (by decide) (fun _ => ?_) (fun h => absurd h (by decide))
      refine lv_iconst (v := 1) hx hb dL_law_1413 (by decide) ?_
      refine W.widen (k := 600002) (n := 7302232) (Nat.le_of_ble_eq_true rfl) (Nat.le_of_ble_eq_true rfl) ?_
      refine va_forget (fun q hq => by have h9 := hS.2.2 q hq; rw [hAe] at h9; exact h9) ?_
      exact lw_ret hd0 hx hb hr hlocks dL_law_1414
    · refine zo_i (v := 28) (by decide) ?_
      refine lv_tableOut (tgt := 1407) hx hb dL_law_40 (by decide) (by decide) ?_
      refine lv_iinc (v := 6) (lv' := [(4, .int 6), (3, .ref q11), (2, .ref q6), (1, .ref q1), (0, .ref b)]) hx hb dL_law_1407 hl (k := 0) rfl (by decide) (by decide) rfl (fun ls hl => ?_)
      refine lv_goto (tgt := 23) hx hb dL_law_1410 (by decide) ?_
      refine lv_iload hx hb dL_law_23 (lv_at hl 0 rfl) ?_
      refine lv_aload_n hx hb dL_law_25 rfl (lv_at hl 4 rfl) ?_
      refine va_slen hx hb hX hbl hbA hS dL_law_26 ?_
      refine zo_i (v := 6) (by decide) ?_
      refine lv_bipush (v := 6) hx hb dL_law_27 (by decide) ?_
      refine lv_isub hx hb dL_law_29 ?_
      refine zo_i (v := 0) (by decide) ?_
      refine lv_icmp_gt (tgt := 1413) hx hb dL_law_30 (by decide) (fun _ => ?_) (fun h => absurd h (by decide))
      refine lv_iconst (v := 1) hx hb dL_law_1413 (by decide) ?_
      refine W.widen (k := 600002) (n := 7302232) (Nat.le_of_ble_eq_true rfl) (Nat.le_of_ble_eq_true rfl) ?_
      refine va_forget (fun q hq => by have h9 := hS.2.2 q hq; rw [hAe] at h9; exact h9) ?_
      exact lw_ret hd0 hx hb hr hlocks dL_law_1414
    · refine zo_i (v := 29) (by decide) ?_
      refine lv_tableOut (tgt := 1407) hx hb dL_law_40 (by decide) (by decide) ?_
      refine lv_iinc (v := 6) (lv' := [(4, .int 6), (3, .ref q11), (2, .ref q6), (1, .ref q1), (0, .ref b)]) hx hb dL_law_1407 hl (k := 0) rfl (by decide) (by decide) rfl (fun ls hl => ?_)
      refine lv_goto (tgt := 23) hx hb dL_law_1410 (by decide) ?_
      refine lv_iload hx hb dL_law_23 (lv_at hl 0 rfl) ?_
      refine lv_aload_n hx hb dL_law_25 rfl (lv_at hl 4 rfl) ?_
      refine va_slen hx hb hX hbl hbA hS dL_law_26 ?_
      refine zo_i (v := 6) (by decide) ?_
      refine lv_bipush (v := 6) hx hb dL_law_27 (by decide) ?_
      refine lv_isub hx hb dL_law_29 ?_
      refine zo_i (v := 0) (by decide) ?_
      refine lv_icmp_gt (tgt := 1413) hx hb dL_law_30 (by decide) (fun _ => ?_) (fun h => absurd h (by decide))
      refine lv_iconst (v := 1) hx hb dL_law_1413 (by decide) ?_
      refine W.widen (k := 600002) (n := 7302232) (Nat.le_of_ble_eq_true rfl) (Nat.le_of_ble_eq_true rfl) ?_
      refine va_forget (fun q hq => by have h9 := hS.2.2 q hq; rw [hAe] at h9; exact h9) ?_
      exact lw_ret hd0 hx hb hr hlocks dL_law_1414
    · refine zo_i (v := 30) (by decide) ?_
      refine lv_tableOut (tgt := 1407) hx hb dL_law_40 (by decide) (by decide) ?_
      refine lv_iinc (v := 6) (lv' := [(4, .int 6), (3, .ref q11), (2, .ref q6), (1, .ref q1), (0, .ref b)]) hx hb dL_law_1407 hl (k := 0) rfl (by decide) (by decide) rfl (fun ls hl => ?_)
      refine lv_goto (tgt := 23) hx hb dL_law_1410 (by decide) ?_
      refine lv_iload hx hb dL_law_23 (lv_at hl 0 rfl) ?_
      refine lv_aload_n hx hb dL_law_25 rfl (lv_at hl 4 rfl) ?_
      refine va_slen hx hb hX hbl hbA hS dL_law_26 ?_
      refine zo_i (v := 6) (by decide) ?_
      refine lv_bipush (v := 6) hx hb dL_law_27 (by decide) ?_
      refine lv_isub hx hb dL_law_29 ?_
      refine zo_i (v := 0) (by decide) ?_
      refine lv_icmp_gt (tgt := 1413) hx hb dL_law_30 (by decide) (fun _ => ?_) (fun h => absurd h (by decide))
      refine lv_iconst (v := 1) hx hb dL_law_1413 (by decide) ?_
      refine W.widen (k := 600002) (n := 7302232) (Nat.le_of_ble_eq_true rfl) (Nat.le_of_ble_eq_true rfl) ?_
      refine va_forget (fun q hq => by have h9 := hS.2.2 q hq; rw [hAe] at h9; exact h9) ?_
      exact lw_ret hd0 hx hb hr hlocks dL_law_1414
    · refine zo_i (v := 31) (by decide) ?_
      refine lv_tableOut (tgt := 1407) hx hb dL_law_40 (by decide) (by decide) ?_
      refine lv_iinc (v := 6) (lv' := [(4, .int 6), (3, .ref q11), (2, .ref q6), (1, .ref q1), (0, .ref b)]) hx hb dL_law_1407 hl (k := 0) rfl (by decide) (by decide) rfl (fun ls hl => ?_)
      refine lv_goto (tgt := 23) hx hb dL_law_1410 (by decide) ?_
      refine lv_iload hx hb dL_law_23 (lv_at hl 0 rfl) ?_
      refine lv_aload_n hx hb dL_law_25 rfl (lv_at hl 4 rfl) ?_
      refine va_slen hx hb hX hbl hbA hS dL_law_26 ?_
      refine zo_i (v := 6) (by decide) ?_
      refine lv_bipush (v := 6) hx hb dL_law_27 (by decide) ?_
      refine lv_isub hx hb dL_law_29 ?_
      refine zo_i (v := 0) (by decide) ?_
      refine lv_icmp_gt (tgt := 1413) hx hb dL_law_30 (by decide) (fun _ => ?_) (fun h => absurd h (by decide))
      refine lv_iconst (v := 1) hx hb dL_law_1413 (by decide) ?_
      refine W.widen (k := 600002) (n := 7302232) (Nat.le_of_ble_eq_true rfl) (Nat.le_of_ble_eq_true rfl) ?_
      refine va_forget (fun q hq => by have h9 := hS.2.2 q hq; rw [hAe] at h9; exact h9) ?_
      exact lw_ret hd0 hx hb hr hlocks dL_law_1414

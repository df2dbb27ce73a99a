set_option maxRecDepth 20000 in
theorem zin_Jx35411 : ∀ w ∈ u_ws RJx35411 TJx35411 4, w ∈ lw_tbl := by decide +kernel
set_option maxRecDepth 20000 in
theorem zin_Jx4a65c : ∀ w ∈ u_ws RJx4a65c TJx4a65c 3, w ∈ lw_tbl := by decide +kernel
set_option maxRecDepth 20000 in
theorem zin_X0 : ∀ w ∈ u_ws RX0 TX0 7, w ∈ lw_tbl := by decide +kernel
set_option maxRecDepth 20000 in
theorem zin_X1 : ∀ w ∈ u_ws RX1 TX1 10, w ∈ lw_tbl := by decide +kernel
set_option maxRecDepth 20000 in
theorem zin_X2 : ∀ w ∈ u_ws RX2 TX2 4, w ∈ lw_tbl := by decide +kernel
set_option maxRecDepth 20000 in
theorem zin_X3 : ∀ w ∈ u_ws RX3 TX3 12, w ∈ lw_tbl := by decide +kernel
set_option maxRecDepth 20000 in
theorem zin_X4 : ∀ w ∈ u_ws RX4 TX4 3, w ∈ lw_tbl := by decide +kernel
set_option maxRecDepth 20000 in
theorem zin_X5 : ∀ w ∈ u_ws RX5 TX5 5, w ∈ lw_tbl := by decide +kernel
set_option maxRecDepth 20000 in
theorem zin_X6 : ∀ w ∈ u_ws RX6 TX6 3, w ∈ lw_tbl := by decide +kernel
set_option maxRecDepth 20000 in
theorem zin_X7 : ∀ w ∈ u_ws RX7 TX7 14, w ∈ lw_tbl := by decide +kernel
set_option maxRecDepth 20000 in
theorem zin_X8 : ∀ w ∈ u_ws RX8 TX8 4, w ∈ lw_tbl := by decide +kernel
set_option maxRecDepth 20000 in
theorem zlf_0 : GoodIn lw_tbl (wsX6_init_r1) := goodIn_sub (by decide +kernel) (by decide +kernel)
set_option maxRecDepth 20000 in
theorem zlf_1 : GoodIn lw_tbl (wsX6_init_r2) := goodIn_sub (by decide +kernel) (by decide +kernel)
set_option maxRecDepth 20000 in
theorem zlf_2 : GoodIn lw_tbl (wsX6_init_r3) := goodIn_sub (by decide +kernel) (by decide +kernel)
set_option maxRecDepth 20000 in
theorem zlf_3 : GoodIn lw_tbl wsX30 := goodIn_sub zin_X3 (by decide +kernel)
set_option maxRecDepth 20000 in
theorem zlf_4 : GoodIn lw_tbl wsX60 := goodIn_sub zin_X6 (by decide +kernel)
set_option maxRecDepth 20000 in
theorem zlf_5 : GoodIn lw_tbl wsX40 := goodIn_sub zin_X4 (by decide +kernel)
set_option maxRecDepth 20000 in
theorem zlf_6 : GoodIn lw_tbl wsX00 := goodIn_sub zin_X0 (by decide +kernel)
set_option maxRecDepth 20000 in
theorem zlf_7 : GoodIn lw_tbl wsX10 := goodIn_sub zin_X1 (by decide +kernel)
set_option maxRecDepth 20000 in
theorem zlf_8 : GoodIn lw_tbl wsX50 := goodIn_sub zin_X5 (by decide +kernel)
set_option maxRecDepth 20000 in
theorem zlf_9 : GoodIn lw_tbl wsX20 := goodIn_sub zin_X2 (by decide +kernel)
set_option maxRecDepth 20000 in
theorem zhd_X6_init : GoodIn lw_tbl [Cond.code yX6_init cX6_init 1 none] := goodIn_of _ (by decide +kernel)
theorem zggL_X6_init : GoodIn lw_tbl wsX6_init := fun w h => (List.mem_cons.mp h).elim (fun e => zhd_X6_init w (by rw [e]; exact List.mem_cons_self)) ((goodIn_app (goodIn_app (goodIn_app (goodIn_app (goodIn_app (goodIn_app (goodIn_app (goodIn_app zlf_0 (goodIn_app zlf_1 zlf_2)) zlf_3) zlf_4) zlf_5) zlf_6) zlf_7) zlf_8) zlf_9) w)
set_option maxRecDepth 20000 in
theorem zgL_X6_init : GoodIn lw_tbl (wsX6_init) := zggL_X6_init
set_option maxRecDepth 20000 in
theorem zlf_10 : GoodIn lw_tbl (wsX8_init_r1) := goodIn_sub (by decide +kernel) (by decide +kernel)
set_option maxRecDepth 20000 in
theorem zlf_11 : GoodIn lw_tbl (wsX8_init_r2) := goodIn_sub (by decide +kernel) (by decide +kernel)
set_option maxRecDepth 20000 in
theorem zlf_12 : GoodIn lw_tbl wsX70 := goodIn_sub zin_X7 (by decide +kernel)
set_option maxRecDepth 20000 in
theorem zlf_13 : GoodIn lw_tbl wsX80 := goodIn_sub zin_X8 (by decide +kernel)
set_option maxRecDepth 20000 in
theorem zlf_14 : GoodIn lw_tbl wsJx4a65c0 := goodIn_sub zin_Jx4a65c (by decide +kernel)
set_option maxRecDepth 20000 in
theorem zhd_X8_init : GoodIn lw_tbl [Cond.code yX8_init cX8_init 1 none] := goodIn_of _ (by decide +kernel)
theorem zggL_X8_init : GoodIn lw_tbl wsX8_init := fun w h => (List.mem_cons.mp h).elim (fun e => zhd_X8_init w (by rw [e]; exact List.mem_cons_self)) ((goodIn_app (goodIn_app (goodIn_app (goodIn_app zlf_10 zlf_11) zlf_12) zlf_13) zlf_14) w)
set_option maxRecDepth 20000 in
theorem zgL_X8_init : GoodIn lw_tbl (wsX8_init) := zggL_X8_init
set_option maxRecDepth 20000 in
theorem zlf_15 : GoodIn lw_tbl (wsL_player_r1) := goodIn_sub (by decide +kernel) (by decide +kernel)
set_option maxRecDepth 20000 in
theorem zlf_16 : GoodIn lw_tbl (wsL_player_r2) := goodIn_sub (by decide +kernel) (by decide +kernel)
set_option maxRecDepth 20000 in
theorem zlf_17 : GoodIn lw_tbl ((vx_atS RX6 34 "java/lang/IllegalArgumentException" ["java/lang/RuntimeException", "java/lang/Exception"]).filter goodWord) := goodIn_sub (by decide +kernel) (by decide +kernel)
set_option maxRecDepth 20000 in
theorem zlf_18 : GoodIn lw_tbl ((vx_atS RX6 55 "java/lang/IllegalStateException" ["java/lang/RuntimeException", "java/lang/Exception"]).filter goodWord) := goodIn_sub (by decide +kernel) (by decide +kernel)
set_option maxRecDepth 20000 in
theorem zhd_L_player : GoodIn lw_tbl [Cond.codeWith yL_player cL_player 4 (some .int) [(0, 9, 12, 13), (0, 9, 15, 15)]] := goodIn_of _ (by decide +kernel)
theorem zggL_L_player : GoodIn lw_tbl wsL_player := fun w h => (List.mem_cons.mp h).elim (fun e => zhd_L_player w (by rw [e]; exact List.mem_cons_self)) ((goodIn_app (goodIn_app (goodIn_app (goodIn_app (goodIn_app (goodIn_app (goodIn_app zlf_15 zlf_16) zlf_4) zlf_3) zlf_6) zlf_9) zlf_17) zlf_18) w)
set_option maxRecDepth 20000 in
theorem zgL_L_player : GoodIn lw_tbl (va_wsS RL 84 yL_player wsL_player) := goodIn_app (goodIn_of _ (by decide +kernel)) zggL_L_player
set_option maxRecDepth 20000 in
theorem zlf_19 : GoodIn lw_tbl (wsX8_player_r1) := goodIn_sub (by decide +kernel) (by decide +kernel)
set_option maxRecDepth 20000 in
theorem zlf_20 : GoodIn lw_tbl (wsX8_player_r2) := goodIn_sub (by decide +kernel) (by decide +kernel)
set_option maxRecDepth 20000 in
theorem zlf_21 : GoodIn lw_tbl (wsX8_player_r3) := goodIn_sub (by decide +kernel) (by decide +kernel)
set_option maxRecDepth 20000 in
theorem zhd_X8_player : GoodIn lw_tbl [Cond.code yX8_player cX8_player 3 (some .int)] := goodIn_of _ (by decide +kernel)
theorem zggL_X8_player : GoodIn lw_tbl wsX8_player := fun w h => (List.mem_cons.mp h).elim (fun e => zhd_X8_player w (by rw [e]; exact List.mem_cons_self)) ((goodIn_app (goodIn_app (goodIn_app (goodIn_app zlf_19 (goodIn_app zlf_20 zlf_21)) zlf_13) zlf_12) zlf_14) w)
set_option maxRecDepth 20000 in
theorem zgL_X8_player : GoodIn lw_tbl (wsV RL 87 RX8 yX8_player wsX8_player) := goodIn_app (goodIn_of _ (by decide +kernel)) zggL_X8_player
set_option maxRecDepth 20000 in
theorem zlf_22 : GoodIn lw_tbl (wsL_begin_r1) := goodIn_sub (by decide +kernel) (by decide +kernel)
set_option maxRecDepth 20000 in
theorem zlf_23 : GoodIn lw_tbl (wsL_begin_r2) := goodIn_sub (by decide +kernel) (by decide +kernel)
set_option maxRecDepth 20000 in
theorem zhd_L_begin : GoodIn lw_tbl [Cond.codeWith yL_begin cL_begin 3 (some .int) [(0, 8, 11, 15)]] := goodIn_of _ (by decide +kernel)
theorem zggL_L_begin : GoodIn lw_tbl wsL_begin := fun w h => (List.mem_cons.mp h).elim (fun e => zhd_L_begin w (by rw [e]; exact List.mem_cons_self)) ((goodIn_app (goodIn_app (goodIn_app (goodIn_app (goodIn_app (goodIn_app zlf_22 zlf_23) zlf_4) zlf_3) zlf_6) zlf_7) zlf_18) w)
set_option maxRecDepth 20000 in
theorem zgL_L_begin : GoodIn lw_tbl (va_wsS RL 88 yL_begin wsL_begin) := goodIn_app (goodIn_of _ (by decide +kernel)) zggL_L_begin
set_option maxRecDepth 20000 in
theorem zlf_24 : GoodIn lw_tbl (wsX8_begin_r1) := goodIn_sub (by decide +kernel) (by decide +kernel)
set_option maxRecDepth 20000 in
theorem zlf_25 : GoodIn lw_tbl (wsX8_begin_r2) := goodIn_sub (by decide +kernel) (by decide +kernel)
set_option maxRecDepth 20000 in
theorem zhd_X8_begin : GoodIn lw_tbl [Cond.code yX8_begin cX8_begin 1 (some .int)] := goodIn_of _ (by decide +kernel)
theorem zggL_X8_begin : GoodIn lw_tbl wsX8_begin := fun w h => (List.mem_cons.mp h).elim (fun e => zhd_X8_begin w (by rw [e]; exact List.mem_cons_self)) ((goodIn_app (goodIn_app (goodIn_app (goodIn_app zlf_24 zlf_25) zlf_13) zlf_12) zlf_14) w)
set_option maxRecDepth 20000 in
theorem zgL_X8_begin : GoodIn lw_tbl (wsV RL 91 RX8 yX8_begin wsX8_begin) := goodIn_app (goodIn_of _ (by decide +kernel)) zggL_X8_begin
set_option maxRecDepth 20000 in
theorem zlf_26 : GoodIn lw_tbl (wsX6_endsAt_r1) := goodIn_sub (by decide +kernel) (by decide +kernel)
set_option maxRecDepth 20000 in
theorem zlf_27 : GoodIn lw_tbl (wsX6_endsAt_r2) := goodIn_sub (by decide +kernel) (by decide +kernel)
set_option maxRecDepth 20000 in
theorem zlf_28 : GoodIn lw_tbl (wsX6_endsAt_r3) := goodIn_sub (by decide +kernel) (by decide +kernel)
set_option maxRecDepth 20000 in
theorem zlf_29 : GoodIn lw_tbl (wsX6_endsAt_r4) := goodIn_sub (by decide +kernel) (by decide +kernel)
set_option maxRecDepth 20000 in
theorem zlf_30 : GoodIn lw_tbl (wsX6_endsAt_r5) := goodIn_sub (by decide +kernel) (by decide +kernel)
set_option maxRecDepth 20000 in
theorem zlf_31 : GoodIn lw_tbl (wsX6_endsAt_r6) := goodIn_sub (by decide +kernel) (by decide +kernel)
set_option maxRecDepth 20000 in
theorem zlf_32 : GoodIn lw_tbl (wsX6_endsAt_r7) := goodIn_sub (by decide +kernel) (by decide +kernel)
set_option maxRecDepth 20000 in
theorem zlf_33 : GoodIn lw_tbl (wsX6_endsAt_r8) := goodIn_sub (by decide +kernel) (by decide +kernel)
set_option maxRecDepth 20000 in
theorem zhd_X6_endsAt : GoodIn lw_tbl [Cond.code yX6_endsAt cX6_endsAt 2 (some .int)] := goodIn_of _ (by decide +kernel)
theorem zggL_X6_endsAt : GoodIn lw_tbl wsX6_endsAt := fun w h => (List.mem_cons.mp h).elim (fun e => zhd_X6_endsAt w (by rw [e]; exact List.mem_cons_self)) ((goodIn_app (goodIn_app (goodIn_app (goodIn_app (goodIn_app (goodIn_app (goodIn_app zlf_26 (goodIn_app zlf_27 (goodIn_app zlf_28 (goodIn_app zlf_29 (goodIn_app zlf_30 (goodIn_app zlf_31 (goodIn_app zlf_32 zlf_33))))))) zlf_4) zlf_3) zlf_6) zlf_7) zlf_8) zlf_9) w)
set_option maxRecDepth 20000 in
theorem zgL_X6_endsAt : GoodIn lw_tbl (wsV RL 166 RX6 yX6_endsAt wsX6_endsAt) := goodIn_app (goodIn_of _ (by decide +kernel)) zggL_X6_endsAt
set_option maxRecDepth 20000 in
theorem zlf_34 : GoodIn lw_tbl (wsX8_endsAt_r1) := goodIn_sub (by decide +kernel) (by decide +kernel)
set_option maxRecDepth 20000 in
theorem zlf_35 : GoodIn lw_tbl (wsX8_endsAt_r2) := goodIn_sub (by decide +kernel) (by decide +kernel)
set_option maxRecDepth 20000 in
theorem zlf_36 : GoodIn lw_tbl (wsX8_endsAt_r3) := goodIn_sub (by decide +kernel) (by decide +kernel)
set_option maxRecDepth 20000 in
theorem zlf_37 : GoodIn lw_tbl (wsX8_endsAt_r4) := goodIn_sub (by decide +kernel) (by decide +kernel)
set_option maxRecDepth 20000 in
theorem zlf_38 : GoodIn lw_tbl (wsX8_endsAt_r5) := goodIn_sub (by decide +kernel) (by decide +kernel)
set_option maxRecDepth 20000 in
theorem zlf_39 : GoodIn lw_tbl (wsX8_endsAt_r6) := goodIn_sub (by decide +kernel) (by decide +kernel)
set_option maxRecDepth 20000 in
theorem zlf_40 : GoodIn lw_tbl (wsX8_endsAt_r7) := goodIn_sub (by decide +kernel) (by decide +kernel)
set_option maxRecDepth 20000 in
theorem zlf_41 : GoodIn lw_tbl (wsX8_endsAt_r8) := goodIn_sub (by decide +kernel) (by decide +kernel)
set_option maxRecDepth 20000 in
theorem zlf_42 : GoodIn lw_tbl (wsX8_endsAt_r9) := goodIn_sub (by decide +kernel) (by decide +kernel)
set_option maxRecDepth 20000 in
theorem zlf_43 : GoodIn lw_tbl wsJx354110 := goodIn_sub zin_Jx35411 (by decide +kernel)
set_option maxRecDepth 20000 in
theorem zhd_X8_endsAt : GoodIn lw_tbl [Cond.code yX8_endsAt cX8_endsAt 1 (some .int)] := goodIn_of _ (by decide +kernel)
theorem zggL_X8_endsAt : GoodIn lw_tbl wsX8_endsAt := fun w h => (List.mem_cons.mp h).elim (fun e => zhd_X8_endsAt w (by rw [e]; exact List.mem_cons_self)) ((goodIn_app (goodIn_app (goodIn_app (goodIn_app (goodIn_app zlf_34 (goodIn_app zlf_35 (goodIn_app zlf_36 (goodIn_app zlf_37 (goodIn_app zlf_38 (goodIn_app zlf_39 (goodIn_app zlf_40 (goodIn_app zlf_41 zlf_42)))))))) zlf_13) zlf_12) zlf_14) zlf_43) w)
set_option maxRecDepth 20000 in
theorem zgL_X8_endsAt : GoodIn lw_tbl (wsV RL 169 RX8 yX8_endsAt wsX8_endsAt) := goodIn_app (goodIn_of _ (by decide +kernel)) zggL_X8_endsAt
def zxs : Nat → Int32 := fun k => if k = 0 then 2 else if k = 1 then 1 else if k = 6 then 3 else if k < 12 then 0 else if k % 6 = 0 then 25 else 0
theorem zxs_25 (j : Nat) : zxs (12 + 6 * j) = 25 := by
  unfold zxs
  rw [if_neg (by omega), if_neg (by omega), if_neg (by omega), if_neg (by omega), if_pos (by omega)]
theorem zn6 (j : Nat) : nI (12 + 6 * j) + 6 = nI (12 + 6 * (j + 1)) := (nI_add (12 + 6 * j) 6).trans (congrArg nI (by omega))
theorem zo_lc (x : Int64) : lg_cmp x x = 0 := by unfold lg_cmp; simp
abbrev room_z : Jvm.Room := ({ frames := 12, cells := 100000, slots := 1000000, locals := 474 } : Jvm.Room)
/-- where the law's run ends, with that many cells in the heap -/
def zZ (below : List Frame) (n : Nat) : State → Prop := fun t => ∃ o, t.status = .running ∧ Ended t below o ∧ n ≤ t.heap.size
theorem zr_ret {p : Program} {l : Launch} {e : Env} {s : State} {m : MethodId} {args : Array Value} {below : List Frame} {meth : Method} {c : Code} {R : Room} {locs : List Loc} {cells slots n : Nat} (hx : p.tables.exec = Jvm.exec) (hb : c.code = code) (hr : meth.sig.returnType = ret) (hlocks : meth.locks = false) {pc : Nat} {H : Heap} {ls : Array Slot} (hn : n ≤ H.size) (hdg : decode code pc = .ok (.ireturn, 1)) : W p l e R s m args below meth c H locs cells slots (zZ below n) (F0 m pc ls [.int 1]) := by
  intro T hT X
  obtain ⟨fs, hret, hrun, hended, hW, hframe⟩ := X.leave (v := some (.int 1)) (hlocks := hlocks) (fun h => by rw [hr] at h; cases h)
  have hmeth' : T.vm.method? m = some meth := X.method'
  refine ⟨T.setFrames fs, ?_, .returned (some (.int 1)), hrun, hended, ?_⟩
  · jvm_step X.here [X.here.top, hx, hb, hdg, hmeth', hr, ret, narrow_b1]
    (try refine ⟨rfl, ?_⟩); (try refine ⟨rfl, ?_⟩)
    first | (intro acts; rw [hret _ acts rfl rfl rfl]) | rw [hret _ _ rfl rfl rfl]
    exact Steps.refl _
  · show n ≤ T.heap.size
    rw [hT]; exact hn
set_option maxHeartbeats 4000000 in
set_option maxRecDepth 100000 in
theorem zr_exit {p : Program} {l : Launch} {e : Env} {s : State} {m : MethodId} {below : List Frame} {meth : Method} {c : Code} {b ed : Nat} {A : Nat → Prop} {dC : Nat → ClassId} {dI : Nat → Nat → Nat} {x rm tr st lk th pl gm p0 tlk tth tpl tgm tp0 mo mr mll mlt mlp moa me1 ou : Nat} {cP tcP mcO mcE cQ : ClassId} {fp tfp mfo : Nat → Option Nat} {mfe : Nat → Int32} {fo9 : Nat → Int64} {s9 : Int64} {H : Heap} {locs : List Loc} {ls : Array Slot} {C S : Nat} (hx : p.tables.exec = Jvm.exec) (hb : c.code = code) (hr : meth.sig.returnType = ret) (hlocks : meth.locks = false) (hml : c.maxLocals = 9) (hown : s.vm.findClass R_law = some m.cls) (htr : l.stackTraces = false) (hts : ∀ w ∈ lw_tbl, w.before #[Value.ref b] s = true) (hX : va_X b 3072 zxs s s.heap) (hbl : b < s.heap.size) (hA : ∀ q : Nat, s.heap.size ≤ q → A q) (hbA : ¬ A b) (hN : zN s) (hH : zH ed A s s.heap) (hK : va_K (dC, dI) vwCl [(cP, .object "LockRooms$Player"), (tcP, .object "LockRooms$Player"), (mcO, .object "java/lang/Object"), (mcE, .int), (cQ, .long)] s) (hkp : fp 0 = some p0) (hkt : tfp 0 = some tp0) (ho : mfo 0 = some me1) (he0 : mfe 0 = 1) (he1 : mfe 1 = -1) (he2 : mfe 2 = -1) (he3 : mfe 3 = 0) (hS : va_S A s.heap H locs) (hl : lv_has ls 9 [(4, .int 3072), (3, .ref ou), (2, .ref mo), (1, .ref x), (0, .ref b)]) (hz : s.heap.size + 65790 ≤ H.size) : W p l e room_z s m #[Value.ref b] below meth c H locs C S (zZ below (s.heap.size + 65790)) (F0 m 23 ls []) := by
  refine lv_iload hx hb dL_law_23 (lv_at hl 0 rfl) ?_
  refine lv_aload_n hx hb dL_law_25 rfl (lv_at hl 4 rfl) ?_
  refine va_slen hx hb hX hbl hbA hS dL_law_26 ?_
  refine zo_i (v := 3072) (by decide) ?_
  refine lv_bipush (v := 6) hx hb dL_law_27 (by decide) ?_
  refine lv_isub hx hb dL_law_29 ?_
  refine zo_i (v := 3066) (by decide) ?_
  refine lv_icmp_gt (tgt := 910) hx hb dL_law_30 (by decide) (fun _ => ?_) (fun h => absurd h (by decide))
  refine lv_iconst (v := 1) hx hb dL_law_910 (by decide) ?_
  exact zr_ret hx hb hr hlocks hz dL_law_911
set_option maxHeartbeats 4000000 in
set_option maxRecDepth 100000 in
theorem zr_step {p : Program} {l : Launch} {e : Env} {s : State} {m : MethodId} {below : List Frame} {meth : Method} {c : Code} {b ed : Nat} {A : Nat → Prop} {dC : Nat → ClassId} {dI : Nat → Nat → Nat} {x rm tr st lk th pl gm p0 tlk tth tpl tgm tp0 mo mr mll mlt mlp moa me1 ou : Nat} {cP tcP mcO mcE cQ : ClassId} {fp tfp mfo : Nat → Option Nat} {mfe : Nat → Int32} {fo9 : Nat → Int64} {s9 : Int64} {a4 a5 a6 a7 a8 a9 a10 a11 b0 b1 b2 b3 b4 b5 d0 d1 d2 d3 : Int32} {b6 : Int64} {H : Heap} {locs : List Loc} {ls : Array Slot} {C S K j : Nat} (hx : p.tables.exec = Jvm.exec) (hb : c.code = code) (hr : meth.sig.returnType = ret) (hlocks : meth.locks = false) (hml : c.maxLocals = 9) (hown : s.vm.findClass R_law = some m.cls) (htr : l.stackTraces = false) (hts : ∀ w ∈ lw_tbl, w.before #[Value.ref b] s = true) (hX : va_X b 3072 zxs s s.heap) (hbl : b < s.heap.size) (hA : ∀ q : Nat, s.heap.size ≤ q → A q) (hbA : ¬ A b) (hN : zN s) (hH : zH ed A s s.heap) (hK : va_K (dC, dI) vwCl [(cP, .object "LockRooms$Player"), (tcP, .object "LockRooms$Player"), (mcO, .object "java/lang/Object"), (mcE, .int), (cQ, .long)] s) (hkp : fp 0 = some p0) (hkt : tfp 0 = some tp0) (ho : mfo 0 = some me1) (he0 : mfe 0 = 1) (he1 : mfe 1 = -1) (he2 : mfe 2 = -1) (he3 : mfe 3 = 0) (hj : j < 510) (hP : va_P (dC, dI) vwCl [(x, .inr (8, [.ref rm, .ref tr, .ref st])), (rm, .inr (5, [.ref lk, .ref th, .ref pl, .ref gm, .int 0, .int 0, .int 1, .int (-1), .int 1, .int 0, .int 18, .int 0])), (gm, .inr (2, [.int 1, .int 0, .int 0, .int 0, .int 0, .int (-1), .long 0])), (p0, .inr (4, [.int 1, .int (-1), .int (-1), .int 0])), (pl, .inl (cP, 6, .inr (.inr (.inr (.inr fp))))), (tpl, .inl (tcP, 6, .inr (.inr (.inr (.inr tfp))))), (tr, .inr (5, [.ref tlk, .ref tth, .ref tpl, .ref tgm, .int a4, .int a5, .int a6, .int a7, .int a8, .int a9, .int a10, .int a11])), (tgm, .inr (2, [.int b0, .int b1, .int b2, .int b3, .int b4, .int b5, .long b6])), (tp0, .inr (4, [.int d0, .int d1, .int d2, .int d3])), (mo, .inr (10, [.int 0, .ref mr, .int 1, .long s9])), (mr, .inr (9, [.ref mll, .ref mlt, .ref mlp, .int (-1), .int 0, .int 1, .int 0, .int 0, .int 0, .int 0, .int (-1), .int 18, .int 0, .int 0])), (mll, .inr (1, [.int 0, .ref ed, .int 0])), (mlt, .inr (1, [.int 0, .ref ed, .int 0])), (mlp, .inr (1, [.int 1, .ref moa, .int 1])), (moa, .inl (mcO, 10, .inr (.inr (.inr (.inr mfo))))), (me1, .inl (mcE, 4, .inl mfe)), (ou, .inl (cQ, 1, .inr (.inl fo9)))] H) (hD : va_D A [(x, .inr (8, [.ref rm, .ref tr, .ref st])), (rm, .inr (5, [.ref lk, .ref th, .ref pl, .ref gm, .int 0, .int 0, .int 1, .int (-1), .int 1, .int 0, .int 18, .int 0])), (gm, .inr (2, [.int 1, .int 0, .int 0, .int 0, .int 0, .int (-1), .long 0])), (p0, .inr (4, [.int 1, .int (-1), .int (-1), .int 0])), (pl, .inl (cP, 6, .inr (.inr (.inr (.inr fp))))), (tpl, .inl (tcP, 6, .inr (.inr (.inr (.inr tfp))))), (tr, .inr (5, [.ref tlk, .ref tth, .ref tpl, .ref tgm, .int a4, .int a5, .int a6, .int a7, .int a8, .int a9, .int a10, .int a11])), (tgm, .inr (2, [.int b0, .int b1, .int b2, .int b3, .int b4, .int b5, .long b6])), (tp0, .inr (4, [.int d0, .int d1, .int d2, .int d3])), (mo, .inr (10, [.int 0, .ref mr, .int 1, .long s9])), (mr, .inr (9, [.ref mll, .ref mlt, .ref mlp, .int (-1), .int 0, .int 1, .int 0, .int 0, .int 0, .int 0, .int (-1), .int 18, .int 0, .int 0])), (mll, .inr (1, [.int 0, .ref ed, .int 0])), (mlt, .inr (1, [.int 0, .ref ed, .int 0])), (mlp, .inr (1, [.int 1, .ref moa, .int 1])), (moa, .inl (mcO, 10, .inr (.inr (.inr (.inr mfo))))), (me1, .inl (mcE, 4, .inl mfe)), (ou, .inl (cQ, 1, .inr (.inl fo9)))]) (hS : va_S A s.heap H locs) (hl : lv_has ls 9 [(4, .int (nI (12 + 6 * j))), (3, .ref ou), (2, .ref mo), (1, .ref x), (0, .ref b)]) (hz : s.heap.size + K ≤ H.size) (hC : C + 129 ≤ 100000) (hC2 : S + 529 ≤ 1000000) (kk : ∀ (H1 : Heap) (locs1 : List Loc) (ls1 : Array Slot), va_P (dC, dI) vwCl [(x, .inr (8, [.ref rm, .ref tr, .ref st])), (rm, .inr (5, [.ref lk, .ref th, .ref pl, .ref gm, .int 0, .int 0, .int 1, .int (-1), .int 1, .int 0, .int 18, .int 0])), (gm, .inr (2, [.int 1, .int 0, .int 0, .int 0, .int 0, .int (-1), .long 0])), (p0, .inr (4, [.int 1, .int (-1), .int (-1), .int 0])), (pl, .inl (cP, 6, .inr (.inr (.inr (.inr fp))))), (tpl, .inl (tcP, 6, .inr (.inr (.inr (.inr tfp))))), (tr, .inr (5, [.ref tlk, .ref tth, .ref tpl, .ref tgm, .int 0, .int 0, .int 0, .int (-1), .int 1, .int 60, .int 18, .int 60])), (tgm, .inr (2, [.int 0, .int 60, .int 0, .int 0, .int 1, .int (-1), .long 0])), (tp0, .inr (4, [.int 1, .int (-1), .int (-1), .int 60])), (mo, .inr (10, [.int 0, .ref mr, .int 1, .long s9])), (mr, .inr (9, [.ref mll, .ref mlt, .ref mlp, .int (-1), .int 0, .int 1, .int 0, .int 0, .int 0, .int 0, .int (-1), .int 18, .int 0, .int 0])), (mll, .inr (1, [.int 0, .ref ed, .int 0])), (mlt, .inr (1, [.int 0, .ref ed, .int 0])), (mlp, .inr (1, [.int 1, .ref moa, .int 1])), (moa, .inl (mcO, 10, .inr (.inr (.inr (.inr mfo))))), (me1, .inl (mcE, 4, .inl mfe)), (ou, .inl (cQ, 1, .inr (.inl fo9)))] H1 → va_D A [(x, .inr (8, [.ref rm, .ref tr, .ref st])), (rm, .inr (5, [.ref lk, .ref th, .ref pl, .ref gm, .int 0, .int 0, .int 1, .int (-1), .int 1, .int 0, .int 18, .int 0])), (gm, .inr (2, [.int 1, .int 0, .int 0, .int 0, .int 0, .int (-1), .long 0])), (p0, .inr (4, [.int 1, .int (-1), .int (-1), .int 0])), (pl, .inl (cP, 6, .inr (.inr (.inr (.inr fp))))), (tpl, .inl (tcP, 6, .inr (.inr (.inr (.inr tfp))))), (tr, .inr (5, [.ref tlk, .ref tth, .ref tpl, .ref tgm, .int 0, .int 0, .int 0, .int (-1), .int 1, .int 60, .int 18, .int 60])), (tgm, .inr (2, [.int 0, .int 60, .int 0, .int 0, .int 1, .int (-1), .long 0])), (tp0, .inr (4, [.int 1, .int (-1), .int (-1), .int 60])), (mo, .inr (10, [.int 0, .ref mr, .int 1, .long s9])), (mr, .inr (9, [.ref mll, .ref mlt, .ref mlp, .int (-1), .int 0, .int 1, .int 0, .int 0, .int 0, .int 0, .int (-1), .int 18, .int 0, .int 0])), (mll, .inr (1, [.int 0, .ref ed, .int 0])), (mlt, .inr (1, [.int 0, .ref ed, .int 0])), (mlp, .inr (1, [.int 1, .ref moa, .int 1])), (moa, .inl (mcO, 10, .inr (.inr (.inr (.inr mfo))))), (me1, .inl (mcE, 4, .inl mfe)), (ou, .inl (cQ, 1, .inr (.inl fo9)))] → va_S A s.heap H1 locs1 → lv_has ls1 9 [(4, .int (nI (12 + 6 * (j + 1)))), (3, .ref ou), (2, .ref mo), (1, .ref x), (0, .ref b)] → s.heap.size + (K + 129) ≤ H1.size → W p l e room_z s m #[Value.ref b] below meth c H1 locs1 (C + 129) (S + 529) (zZ below (s.heap.size + 65790)) (F0 m 23 ls1 [])) : W p l e room_z s m #[Value.ref b] below meth c H locs C S (zZ below (s.heap.size + 65790)) (F0 m 23 ls []) := by
  refine lv_iload hx hb dL_law_23 (lv_at hl 0 rfl) ?_
  refine lv_aload_n hx hb dL_law_25 rfl (lv_at hl 4 rfl) ?_
  refine va_slen hx hb hX hbl hbA hS dL_law_26 ?_
  refine zo_i (v := 3072) (by decide) ?_
  refine lv_bipush (v := 6) hx hb dL_law_27 (by decide) ?_
  refine lv_isub hx hb dL_law_29 ?_
  refine zo_i (v := 3066) (by decide) ?_
  refine lv_icmp_gt (tgt := 910) hx hb dL_law_30 (by decide) (fun h => absurd h (nI_nlt (a := 3066) (b := 12 + 6 * j) (by omega) (by decide))) (fun _ => ?_)
  refine lv_aload_n hx hb dL_law_33 rfl (lv_at hl 4 rfl) ?_
  refine lv_iload hx hb dL_law_34 (lv_at hl 0 rfl) ?_
  refine va_sld hx hb hX hbl hbA hS (vp_in_nI (by omega) (by decide)) dL_law_36 ?_
  refine zo_i (v := 25) (by rw [nI_clamp (by omega)]; exact zxs_25 j) ?_
  refine lv_bipush (v := 31) hx hb dL_law_37 (by decide) ?_
  refine lv_iand hx hb dL_law_39 ?_
  refine zo_i (v := 25) (by decide) ?_
  refine lv_tableIn (off := 838) (tgt := 878) hx hb dL_law_40 (by decide) (by decide) rfl (by decide) ?_
  refine lv_aload_n hx hb dL_law_878 rfl (lv_at hl 3 rfl) ?_
  have hPr := (hP).sub (ws' := [(x, .inr (8, [.ref rm, .ref tr, .ref st])), (rm, .inr (5, [.ref lk, .ref th, .ref pl, .ref gm, .int 0, .int 0, .int 1, .int (-1), .int 1, .int 0, .int 18, .int 0])), (gm, .inr (2, [.int 1, .int 0, .int 0, .int 0, .int 0, .int (-1), .long 0])), (p0, .inr (4, [.int 1, .int (-1), .int (-1), .int 0])), (pl, .inl (cP, 6, .inr (.inr (.inr (.inr fp))))), (tpl, .inl (tcP, 6, .inr (.inr (.inr (.inr tfp)))))]) [0, 1, 2, 3, 4, 5] rfl
  have hPc := hP.sub (ws' := [(tr, .inr (5, [.ref tlk, .ref tth, .ref tpl, .ref tgm, .int a4, .int a5, .int a6, .int a7, .int a8, .int a9, .int a10, .int a11])), (tgm, .inr (2, [.int b0, .int b1, .int b2, .int b3, .int b4, .int b5, .long b6])), (tp0, .inr (4, [.int d0, .int d1, .int d2, .int d3]))]) [6, 7, 8] rfl
  have hDc := hD.sub (ws' := [(tr, .inr (5, [.ref tlk, .ref tth, .ref tpl, .ref tgm, .int a4, .int a5, .int a6, .int a7, .int a8, .int a9, .int a10, .int a11])), (tgm, .inr (2, [.int b0, .int b1, .int b2, .int b3, .int b4, .int b5, .long b6])), (tp0, .inr (4, [.int d0, .int d1, .int d2, .int d3]))]) [6, 7, 8] (by decide) rfl
  have hKc := hK.sub (tys' := [(cP, .object "LockRooms$Player"), (tcP, .object "LockRooms$Player")]) [0, 1] rfl
  have hFc := va_free (wc := [(tr, .inr (5, [.ref tlk, .ref tth, .ref tpl, .ref tgm, .int a4, .int a5, .int a6, .int a7, .int a8, .int a9, .int a10, .int a11])), (tgm, .inr (2, [.int b0, .int b1, .int b2, .int b3, .int b4, .int b5, .long b6])), (tp0, .inr (4, [.int d0, .int d1, .int d2, .int d3]))]) hD hS hA [6, 7, 8] rfl
  refine va_calli (va_runV (As := []) (rest := []) ⟨hx, hb, hml, hown, hts⟩ (cz_RX6_endsAt l dC dI ed H.size x rm tr st lk th pl gm cP fp p0 tlk tth tpl tgm tcP tfp tp0 a4 a5 a6 a7 a8 a9 a10 a11 b0 b1 b2 b3 b4 b5 b6 d0 d1 d2 d3 hkp hkt) (cwV 0 hts zgL_X6_endsAt rfl rfl rfl (by decide +kernel) ⟨Nat.le_of_ble_eq_true rfl, Nat.le_of_ble_eq_true rfl⟩) ⟨zb_blind, va_recv hK hP (ci := 8) (q0 := 0) rfl rfl, fun U hU hW => ⟨rfl, zb_mk hU hW hPr hPc hKc hDc hN hH hS hFc (zx_cons (zx_o hD 0 [6, 7, 8] rfl rfl (by decide)) (zx_cons (zx_o hD 1 [6, 7, 8] rfl rfl (by decide)) (zx_cons (zx_o hD 2 [6, 7, 8] rfl rfl (by decide)) (zx_cons (zx_o hD 3 [6, 7, 8] rfl rfl (by decide)) (zx_cons (zx_o hD 4 [6, 7, 8] rfl rfl (by decide)) (zx_cons (zx_o hD 5 [6, 7, 8] rfl rfl (by decide)) zx_nil))))))⟩⟩ rfl rfl hl.1 rfl (lv_room (Nat.le_of_ble_eq_true rfl)) dL_law_879 ⟨by show _ ≤ 100000; omega, by show _ ≤ 1000000; omega⟩) hS (fun q _ h => hFc q h) hFc (fun r2 u t H1 locs ht hvm hw hB hz1 hk1 hS => ?_)
  obtain rfl : r2 = (-1) := hw
  obtain ⟨hP1, hD1, hK1⟩ := hB
  rw [ht] at hP1
  obtain ⟨hP, hD⟩ := va_join (wr := [(x, .inr (8, [.ref rm, .ref tr, .ref st])), (rm, .inr (5, [.ref lk, .ref th, .ref pl, .ref gm, .int 0, .int 0, .int 1, .int (-1), .int 1, .int 0, .int 18, .int 0])), (gm, .inr (2, [.int 1, .int 0, .int 0, .int 0, .int 0, .int (-1), .long 0])), (p0, .inr (4, [.int 1, .int (-1), .int (-1), .int 0])), (pl, .inl (cP, 6, .inr (.inr (.inr (.inr fp))))), (tpl, .inl (tcP, 6, .inr (.inr (.inr (.inr tfp))))), (mo, .inr (10, [.int 0, .ref mr, .int 1, .long s9])), (mr, .inr (9, [.ref mll, .ref mlt, .ref mlp, .int (-1), .int 0, .int 1, .int 0, .int 0, .int 0, .int 0, .int (-1), .int 18, .int 0, .int 0])), (mll, .inr (1, [.int 0, .ref ed, .int 0])), (mlt, .inr (1, [.int 0, .ref ed, .int 0])), (mlp, .inr (1, [.int 1, .ref moa, .int 1])), (moa, .inl (mcO, 10, .inr (.inr (.inr (.inr mfo))))), (me1, .inl (mcE, 4, .inl mfe)), (ou, .inl (cQ, 1, .inr (.inl fo9)))]) (w1 := [(tr, .inr (5, [.ref tlk, .ref tth, .ref tpl, .ref tgm, .int 0, .int 0, .int 0, .int (-1), .int 1, .int 60, .int 18, .int 60])), (tgm, .inr (2, [.int 0, .int 60, .int 0, .int 0, .int 1, .int (-1), .long 0])), (tp0, .inr (4, [.int 1, .int (-1), .int (-1), .int 60]))]) hP hD [6, 7, 8] [0, 1, 2, 3, 4, 5, 9, 10, 11, 12, 13, 14, 15, 16] rfl rfl (by decide) (by decide) hk1 hFc hP1 hD1
  have hP : va_P (dC, dI) vwCl [(x, .inr (8, [.ref rm, .ref tr, .ref st])), (rm, .inr (5, [.ref lk, .ref th, .ref pl, .ref gm, .int 0, .int 0, .int 1, .int (-1), .int 1, .int 0, .int 18, .int 0])), (gm, .inr (2, [.int 1, .int 0, .int 0, .int 0, .int 0, .int (-1), .long 0])), (p0, .inr (4, [.int 1, .int (-1), .int (-1), .int 0])), (pl, .inl (cP, 6, .inr (.inr (.inr (.inr fp))))), (tpl, .inl (tcP, 6, .inr (.inr (.inr (.inr tfp))))), (mo, .inr (10, [.int 0, .ref mr, .int 1, .long s9])), (mr, .inr (9, [.ref mll, .ref mlt, .ref mlp, .int (-1), .int 0, .int 1, .int 0, .int 0, .int 0, .int 0, .int (-1), .int 18, .int 0, .int 0])), (mll, .inr (1, [.int 0, .ref ed, .int 0])), (mlt, .inr (1, [.int 0, .ref ed, .int 0])), (mlp, .inr (1, [.int 1, .ref moa, .int 1])), (moa, .inl (mcO, 10, .inr (.inr (.inr (.inr mfo))))), (me1, .inl (mcE, 4, .inl mfe)), (ou, .inl (cQ, 1, .inr (.inl fo9))), (tr, .inr (5, [.ref tlk, .ref tth, .ref tpl, .ref tgm, .int 0, .int 0, .int 0, .int (-1), .int 1, .int 60, .int 18, .int 60])), (tgm, .inr (2, [.int 0, .int 60, .int 0, .int 0, .int 1, .int (-1), .long 0])), (tp0, .inr (4, [.int 1, .int (-1), .int (-1), .int 60]))] H1 := hP
  have hD : va_D A [(x, .inr (8, [.ref rm, .ref tr, .ref st])), (rm, .inr (5, [.ref lk, .ref th, .ref pl, .ref gm, .int 0, .int 0, .int 1, .int (-1), .int 1, .int 0, .int 18, .int 0])), (gm, .inr (2, [.int 1, .int 0, .int 0, .int 0, .int 0, .int (-1), .long 0])), (p0, .inr (4, [.int 1, .int (-1), .int (-1), .int 0])), (pl, .inl (cP, 6, .inr (.inr (.inr (.inr fp))))), (tpl, .inl (tcP, 6, .inr (.inr (.inr (.inr tfp))))), (mo, .inr (10, [.int 0, .ref mr, .int 1, .long s9])), (mr, .inr (9, [.ref mll, .ref mlt, .ref mlp, .int (-1), .int 0, .int 1, .int 0, .int 0, .int 0, .int 0, .int (-1), .int 18, .int 0, .int 0])), (mll, .inr (1, [.int 0, .ref ed, .int 0])), (mlt, .inr (1, [.int 0, .ref ed, .int 0])), (mlp, .inr (1, [.int 1, .ref moa, .int 1])), (moa, .inl (mcO, 10, .inr (.inr (.inr (.inr mfo))))), (me1, .inl (mcE, 4, .inl mfe)), (ou, .inl (cQ, 1, .inr (.inl fo9))), (tr, .inr (5, [.ref tlk, .ref tth, .ref tpl, .ref tgm, .int 0, .int 0, .int 0, .int (-1), .int 1, .int 60, .int 18, .int 60])), (tgm, .inr (2, [.int 0, .int 60, .int 0, .int 0, .int 1, .int (-1), .long 0])), (tp0, .inr (4, [.int 1, .int (-1), .int (-1), .int 60]))] := hD
  have hz : s.heap.size + K ≤ H1.size := Nat.le_trans hz hz1
  refine lv_aload_n hx hb dL_law_882 rfl (lv_at hl 2 rfl) ?_
  have hPr := (hP).sub (ws' := [(mll, .inr (1, [.int 0, .ref ed, .int 0])), (mlt, .inr (1, [.int 0, .ref ed, .int 0]))]) [8, 9] rfl
  have hPc := hP.sub (ws' := [(mo, .inr (10, [.int 0, .ref mr, .int 1, .long s9])), (mr, .inr (9, [.ref mll, .ref mlt, .ref mlp, .int (-1), .int 0, .int 1, .int 0, .int 0, .int 0, .int 0, .int (-1), .int 18, .int 0, .int 0])), (mlp, .inr (1, [.int 1, .ref moa, .int 1])), (moa, .inl (mcO, 10, .inr (.inr (.inr (.inr mfo))))), (me1, .inl (mcE, 4, .inl mfe))]) [6, 7, 10, 11, 12] rfl
  have hDc := hD.sub (ws' := [(mo, .inr (10, [.int 0, .ref mr, .int 1, .long s9])), (mr, .inr (9, [.ref mll, .ref mlt, .ref mlp, .int (-1), .int 0, .int 1, .int 0, .int 0, .int 0, .int 0, .int (-1), .int 18, .int 0, .int 0])), (mlp, .inr (1, [.int 1, .ref moa, .int 1])), (moa, .inl (mcO, 10, .inr (.inr (.inr (.inr mfo))))), (me1, .inl (mcE, 4, .inl mfe))]) [6, 7, 10, 11, 12] (by decide) rfl
  have hKc := hK.sub (tys' := [(mcO, .object "java/lang/Object"), (mcE, .int)]) [2, 3] rfl
  have hFc := va_free (wc := [(mo, .inr (10, [.int 0, .ref mr, .int 1, .long s9])), (mr, .inr (9, [.ref mll, .ref mlt, .ref mlp, .int (-1), .int 0, .int 1, .int 0, .int 0, .int 0, .int 0, .int (-1), .int 18, .int 0, .int 0])), (mlp, .inr (1, [.int 1, .ref moa, .int 1])), (moa, .inl (mcO, 10, .inr (.inr (.inr (.inr mfo))))), (me1, .inl (mcE, 4, .inl mfe))]) hD hS hA [6, 7, 10, 11, 12] rfl
  refine va_calli (va_runV (As := []) (rest := [.int (-1)]) ⟨hx, hb, hml, hown, hts⟩ (cz_RX8_endsAt l dC dI ed H1.size mo mr 0 s9 mll mlt mlp moa mcO mfo me1 mcE mfe ho he0 he1 he2 he3) (cwV 0 hts zgL_X8_endsAt rfl rfl rfl (by decide +kernel) ⟨Nat.le_of_ble_eq_true rfl, Nat.le_of_ble_eq_true rfl⟩) ⟨zb_blind, va_recv hK hP (ci := 10) (q0 := 6) rfl rfl, fun U hU hW => ⟨rfl, zb_mk hU hW hPr hPc hKc hDc hN hH hS hFc (zx_cons (zx_o hD 8 [6, 7, 10, 11, 12] rfl rfl (by decide)) (zx_cons (zx_o hD 9 [6, 7, 10, 11, 12] rfl rfl (by decide)) zx_nil))⟩⟩ rfl rfl hl.1 rfl (lv_room (Nat.le_of_ble_eq_true rfl)) dL_law_883 ⟨by show _ ≤ 100000; omega, by show _ ≤ 1000000; omega⟩) hS (fun q _ h => hFc q h) hFc (fun r5 u t H4 locs ht hvm hw hB hz1 hk1 hS => ?_)
  obtain rfl : r5 = (-1) := hw
  obtain ⟨hq6_0, ⟨k6_0, k6_1, k6_2, k6_3, k6_4⟩, hP1, hD1, hK1⟩ := hB
  rw [ht] at hP1
  obtain ⟨hP, hD⟩ := va_join (wr := [(x, .inr (8, [.ref rm, .ref tr, .ref st])), (rm, .inr (5, [.ref lk, .ref th, .ref pl, .ref gm, .int 0, .int 0, .int 1, .int (-1), .int 1, .int 0, .int 18, .int 0])), (gm, .inr (2, [.int 1, .int 0, .int 0, .int 0, .int 0, .int (-1), .long 0])), (p0, .inr (4, [.int 1, .int (-1), .int (-1), .int 0])), (pl, .inl (cP, 6, .inr (.inr (.inr (.inr fp))))), (tpl, .inl (tcP, 6, .inr (.inr (.inr (.inr tfp))))), (mll, .inr (1, [.int 0, .ref ed, .int 0])), (mlt, .inr (1, [.int 0, .ref ed, .int 0])), (ou, .inl (cQ, 1, .inr (.inl fo9))), (tr, .inr (5, [.ref tlk, .ref tth, .ref tpl, .ref tgm, .int 0, .int 0, .int 0, .int (-1), .int 1, .int 60, .int 18, .int 60])), (tgm, .inr (2, [.int 0, .int 60, .int 0, .int 0, .int 1, .int (-1), .long 0])), (tp0, .inr (4, [.int 1, .int (-1), .int (-1), .int 60]))]) (w1 := [(mo, .inr (10, [.int 0, .ref mr, .int 1, .long s9])), (mr, .inr (9, [.ref mll, .ref mlt, .ref mlp, .int (-1), .int 0, .int 1, .int 0, .int 0, .int 0, .int 0, .int (-1), .int 18, .int 0, .int 0])), (mlp, .inr (1, [.int 1, .ref moa, .int 1])), (moa, .inl (mcO, 10, .inr (.inr (.inr (.inr mfo))))), (me1, .inl (mcE, 4, .inl mfe))]) hP hD [6, 7, 10, 11, 12] [0, 1, 2, 3, 4, 5, 8, 9, 13, 14, 15, 16] rfl rfl (by decide) (by decide) hk1 hFc hP1 hD1
  have hP : va_P (dC, dI) vwCl [(x, .inr (8, [.ref rm, .ref tr, .ref st])), (rm, .inr (5, [.ref lk, .ref th, .ref pl, .ref gm, .int 0, .int 0, .int 1, .int (-1), .int 1, .int 0, .int 18, .int 0])), (gm, .inr (2, [.int 1, .int 0, .int 0, .int 0, .int 0, .int (-1), .long 0])), (p0, .inr (4, [.int 1, .int (-1), .int (-1), .int 0])), (pl, .inl (cP, 6, .inr (.inr (.inr (.inr fp))))), (tpl, .inl (tcP, 6, .inr (.inr (.inr (.inr tfp))))), (mll, .inr (1, [.int 0, .ref ed, .int 0])), (mlt, .inr (1, [.int 0, .ref ed, .int 0])), (ou, .inl (cQ, 1, .inr (.inl fo9))), (tr, .inr (5, [.ref tlk, .ref tth, .ref tpl, .ref tgm, .int 0, .int 0, .int 0, .int (-1), .int 1, .int 60, .int 18, .int 60])), (tgm, .inr (2, [.int 0, .int 60, .int 0, .int 0, .int 1, .int (-1), .long 0])), (tp0, .inr (4, [.int 1, .int (-1), .int (-1), .int 60])), (mo, .inr (10, [.int 0, .ref mr, .int 1, .long s9])), (mr, .inr (9, [.ref mll, .ref mlt, .ref mlp, .int (-1), .int 0, .int 1, .int 0, .int 0, .int 0, .int 0, .int (-1), .int 18, .int 0, .int 0])), (mlp, .inr (1, [.int 1, .ref moa, .int 1])), (moa, .inl (mcO, 10, .inr (.inr (.inr (.inr mfo))))), (me1, .inl (mcE, 4, .inl mfe))] H4 := hP
  have hD : va_D A [(x, .inr (8, [.ref rm, .ref tr, .ref st])), (rm, .inr (5, [.ref lk, .ref th, .ref pl, .ref gm, .int 0, .int 0, .int 1, .int (-1), .int 1, .int 0, .int 18, .int 0])), (gm, .inr (2, [.int 1, .int 0, .int 0, .int 0, .int 0, .int (-1), .long 0])), (p0, .inr (4, [.int 1, .int (-1), .int (-1), .int 0])), (pl, .inl (cP, 6, .inr (.inr (.inr (.inr fp))))), (tpl, .inl (tcP, 6, .inr (.inr (.inr (.inr tfp))))), (mll, .inr (1, [.int 0, .ref ed, .int 0])), (mlt, .inr (1, [.int 0, .ref ed, .int 0])), (ou, .inl (cQ, 1, .inr (.inl fo9))), (tr, .inr (5, [.ref tlk, .ref tth, .ref tpl, .ref tgm, .int 0, .int 0, .int 0, .int (-1), .int 1, .int 60, .int 18, .int 60])), (tgm, .inr (2, [.int 0, .int 60, .int 0, .int 0, .int 1, .int (-1), .long 0])), (tp0, .inr (4, [.int 1, .int (-1), .int (-1), .int 60])), (mo, .inr (10, [.int 0, .ref mr, .int 1, .long s9])), (mr, .inr (9, [.ref mll, .ref mlt, .ref mlp, .int (-1), .int 0, .int 1, .int 0, .int 0, .int 0, .int 0, .int (-1), .int 18, .int 0, .int 0])), (mlp, .inr (1, [.int 1, .ref moa, .int 1])), (moa, .inl (mcO, 10, .inr (.inr (.inr (.inr mfo))))), (me1, .inl (mcE, 4, .inl mfe))] := hD
  have hz : s.heap.size + (K + 129) ≤ H4.size := by have h9 := hq6_0; rw [ht] at h9; omega
  refine lv_icmp_eq (tgt := 904) hx hb dL_law_886 (by decide) (fun _ => ?_) (fun h => absurd h (by decide))
  refine lv_iinc (v := (nI (12 + 6 * (j + 1)))) (lv' := [(4, .int (nI (12 + 6 * (j + 1)))), (3, .ref ou), (2, .ref mo), (1, .ref x), (0, .ref b)]) hx hb dL_law_904 hl (k := 0) rfl (zn6 j) (by decide) rfl (fun ls hl => ?_)
  refine lv_goto (tgt := 23) hx hb dL_law_907 (by decide) ?_
  refine W.widen (k := C + 129) (n := S + 529) (by omega) (by omega) ?_
  exact kk _ _ _ (hP.sub (ws' := [(x, .inr (8, [.ref rm, .ref tr, .ref st])), (rm, .inr (5, [.ref lk, .ref th, .ref pl, .ref gm, .int 0, .int 0, .int 1, .int (-1), .int 1, .int 0, .int 18, .int 0])), (gm, .inr (2, [.int 1, .int 0, .int 0, .int 0, .int 0, .int (-1), .long 0])), (p0, .inr (4, [.int 1, .int (-1), .int (-1), .int 0])), (pl, .inl (cP, 6, .inr (.inr (.inr (.inr fp))))), (tpl, .inl (tcP, 6, .inr (.inr (.inr (.inr tfp))))), (tr, .inr (5, [.ref tlk, .ref tth, .ref tpl, .ref tgm, .int 0, .int 0, .int 0, .int (-1), .int 1, .int 60, .int 18, .int 60])), (tgm, .inr (2, [.int 0, .int 60, .int 0, .int 0, .int 1, .int (-1), .long 0])), (tp0, .inr (4, [.int 1, .int (-1), .int (-1), .int 60])), (mo, .inr (10, [.int 0, .ref mr, .int 1, .long s9])), (mr, .inr (9, [.ref mll, .ref mlt, .ref mlp, .int (-1), .int 0, .int 1, .int 0, .int 0, .int 0, .int 0, .int (-1), .int 18, .int 0, .int 0])), (mll, .inr (1, [.int 0, .ref ed, .int 0])), (mlt, .inr (1, [.int 0, .ref ed, .int 0])), (mlp, .inr (1, [.int 1, .ref moa, .int 1])), (moa, .inl (mcO, 10, .inr (.inr (.inr (.inr mfo))))), (me1, .inl (mcE, 4, .inl mfe)), (ou, .inl (cQ, 1, .inr (.inl fo9)))]) [0, 1, 2, 3, 4, 5, 9, 10, 11, 12, 13, 6, 7, 14, 15, 16, 8] rfl) (hD.sub (ws' := [(x, .inr (8, [.ref rm, .ref tr, .ref st])), (rm, .inr (5, [.ref lk, .ref th, .ref pl, .ref gm, .int 0, .int 0, .int 1, .int (-1), .int 1, .int 0, .int 18, .int 0])), (gm, .inr (2, [.int 1, .int 0, .int 0, .int 0, .int 0, .int (-1), .long 0])), (p0, .inr (4, [.int 1, .int (-1), .int (-1), .int 0])), (pl, .inl (cP, 6, .inr (.inr (.inr (.inr fp))))), (tpl, .inl (tcP, 6, .inr (.inr (.inr (.inr tfp))))), (tr, .inr (5, [.ref tlk, .ref tth, .ref tpl, .ref tgm, .int 0, .int 0, .int 0, .int (-1), .int 1, .int 60, .int 18, .int 60])), (tgm, .inr (2, [.int 0, .int 60, .int 0, .int 0, .int 1, .int (-1), .long 0])), (tp0, .inr (4, [.int 1, .int (-1), .int (-1), .int 60])), (mo, .inr (10, [.int 0, .ref mr, .int 1, .long s9])), (mr, .inr (9, [.ref mll, .ref mlt, .ref mlp, .int (-1), .int 0, .int 1, .int 0, .int 0, .int 0, .int 0, .int (-1), .int 18, .int 0, .int 0])), (mll, .inr (1, [.int 0, .ref ed, .int 0])), (mlt, .inr (1, [.int 0, .ref ed, .int 0])), (mlp, .inr (1, [.int 1, .ref moa, .int 1])), (moa, .inl (mcO, 10, .inr (.inr (.inr (.inr mfo))))), (me1, .inl (mcE, 4, .inl mfe)), (ou, .inl (cQ, 1, .inr (.inl fo9)))]) [0, 1, 2, 3, 4, 5, 9, 10, 11, 12, 13, 6, 7, 14, 15, 16, 8] (by decide) rfl) hS (lv_sub hl [0, 1, 2, 3, 4] rfl) hz
set_option maxHeartbeats 4000000 in
set_option maxRecDepth 100000 in
theorem zr_loop {p : Program} {l : Launch} {e : Env} {s : State} {m : MethodId} {below : List Frame} {meth : Method} {c : Code} {b ed : Nat} {A : Nat → Prop} {dC : Nat → ClassId} {dI : Nat → Nat → Nat} {x rm tr st lk th pl gm p0 tlk tth tpl tgm tp0 mo mr mll mlt mlp moa me1 ou : Nat} {cP tcP mcO mcE cQ : ClassId} {fp tfp mfo : Nat → Option Nat} {mfe : Nat → Int32} {fo9 : Nat → Int64} {s9 : Int64} (hx : p.tables.exec = Jvm.exec) (hb : c.code = code) (hr : meth.sig.returnType = ret) (hlocks : meth.locks = false) (hml : c.maxLocals = 9) (hown : s.vm.findClass R_law = some m.cls) (htr : l.stackTraces = false) (hts : ∀ w ∈ lw_tbl, w.before #[Value.ref b] s = true) (hX : va_X b 3072 zxs s s.heap) (hbl : b < s.heap.size) (hA : ∀ q : Nat, s.heap.size ≤ q → A q) (hbA : ¬ A b) (hN : zN s) (hH : zH ed A s s.heap) (hK : va_K (dC, dI) vwCl [(cP, .object "LockRooms$Player"), (tcP, .object "LockRooms$Player"), (mcO, .object "java/lang/Object"), (mcE, .int), (cQ, .long)] s) (hkp : fp 0 = some p0) (hkt : tfp 0 = some tp0) (ho : mfo 0 = some me1) (he0 : mfe 0 = 1) (he1 : mfe 1 = -1) (he2 : mfe 2 = -1) (he3 : mfe 3 = 0) : ∀ (n : Nat) (j : Nat) (a4 a5 a6 a7 a8 a9 a10 a11 b0 b1 b2 b3 b4 b5 d0 d1 d2 d3 : Int32) (b6 : Int64) (H : Heap) (locs : List Loc) (ls : Array Slot) (C S K : Nat), j + n = 510 → (n = 0 → True) → va_P (dC, dI) vwCl [(x, .inr (8, [.ref rm, .ref tr, .ref st])), (rm, .inr (5, [.ref lk, .ref th, .ref pl, .ref gm, .int 0, .int 0, .int 1, .int (-1), .int 1, .int 0, .int 18, .int 0])), (gm, .inr (2, [.int 1, .int 0, .int 0, .int 0, .int 0, .int (-1), .long 0])), (p0, .inr (4, [.int 1, .int (-1), .int (-1), .int 0])), (pl, .inl (cP, 6, .inr (.inr (.inr (.inr fp))))), (tpl, .inl (tcP, 6, .inr (.inr (.inr (.inr tfp))))), (tr, .inr (5, [.ref tlk, .ref tth, .ref tpl, .ref tgm, .int a4, .int a5, .int a6, .int a7, .int a8, .int a9, .int a10, .int a11])), (tgm, .inr (2, [.int b0, .int b1, .int b2, .int b3, .int b4, .int b5, .long b6])), (tp0, .inr (4, [.int d0, .int d1, .int d2, .int d3])), (mo, .inr (10, [.int 0, .ref mr, .int 1, .long s9])), (mr, .inr (9, [.ref mll, .ref mlt, .ref mlp, .int (-1), .int 0, .int 1, .int 0, .int 0, .int 0, .int 0, .int (-1), .int 18, .int 0, .int 0])), (mll, .inr (1, [.int 0, .ref ed, .int 0])), (mlt, .inr (1, [.int 0, .ref ed, .int 0])), (mlp, .inr (1, [.int 1, .ref moa, .int 1])), (moa, .inl (mcO, 10, .inr (.inr (.inr (.inr mfo))))), (me1, .inl (mcE, 4, .inl mfe)), (ou, .inl (cQ, 1, .inr (.inl fo9)))] H → va_D A [(x, .inr (8, [.ref rm, .ref tr, .ref st])), (rm, .inr (5, [.ref lk, .ref th, .ref pl, .ref gm, .int 0, .int 0, .int 1, .int (-1), .int 1, .int 0, .int 18, .int 0])), (gm, .inr (2, [.int 1, .int 0, .int 0, .int 0, .int 0, .int (-1), .long 0])), (p0, .inr (4, [.int 1, .int (-1), .int (-1), .int 0])), (pl, .inl (cP, 6, .inr (.inr (.inr (.inr fp))))), (tpl, .inl (tcP, 6, .inr (.inr (.inr (.inr tfp))))), (tr, .inr (5, [.ref tlk, .ref tth, .ref tpl, .ref tgm, .int a4, .int a5, .int a6, .int a7, .int a8, .int a9, .int a10, .int a11])), (tgm, .inr (2, [.int b0, .int b1, .int b2, .int b3, .int b4, .int b5, .long b6])), (tp0, .inr (4, [.int d0, .int d1, .int d2, .int d3])), (mo, .inr (10, [.int 0, .ref mr, .int 1, .long s9])), (mr, .inr (9, [.ref mll, .ref mlt, .ref mlp, .int (-1), .int 0, .int 1, .int 0, .int 0, .int 0, .int 0, .int (-1), .int 18, .int 0, .int 0])), (mll, .inr (1, [.int 0, .ref ed, .int 0])), (mlt, .inr (1, [.int 0, .ref ed, .int 0])), (mlp, .inr (1, [.int 1, .ref moa, .int 1])), (moa, .inl (mcO, 10, .inr (.inr (.inr (.inr mfo))))), (me1, .inl (mcE, 4, .inl mfe)), (ou, .inl (cQ, 1, .inr (.inl fo9)))] → va_S A s.heap H locs → lv_has ls 9 [(4, .int (nI (12 + 6 * j))), (3, .ref ou), (2, .ref mo), (1, .ref x), (0, .ref b)] → s.heap.size + K ≤ H.size → C + 129 * n ≤ 100000 → S + 529 * n ≤ 1000000 → 65790 ≤ K + 129 * n → W p l e room_z s m #[Value.ref b] below meth c H locs C S (zZ below (s.heap.size + 65790)) (F0 m 23 ls []) := by
  intro n
  induction n with
  | zero =>
    intro j a4 a5 a6 a7 a8 a9 a10 a11 b0 b1 b2 b3 b4 b5 d0 d1 d2 d3 b6 H locs ls C S K hj hfin hP hD hS hl hz hC hC2 hK2
    have hj' : j = 510 := by omega
    subst hj'
    exact zr_exit (x := x) (rm := rm) (tr := tr) (st := st) (lk := lk) (th := th) (pl := pl) (gm := gm) (p0 := p0) (tlk := tlk) (tth := tth) (tpl := tpl) (tgm := tgm) (tp0 := tp0) (mo := mo) (mr := mr) (mll := mll) (mlt := mlt) (mlp := mlp) (moa := moa) (me1 := me1) (ou := ou) (mcO := mcO) (mcE := mcE) (cP := cP) (tcP := tcP) (cQ := cQ) (fp := fp) (tfp := tfp) (mfo := mfo) (mfe := mfe) (fo9 := fo9) (s9 := s9) hx hb hr hlocks hml hown htr hts hX hbl hA hbA hN hH hK hkp hkt ho he0 he1 he2 he3 hS (show lv_has ls 9 [(4, .int 3072), (3, .ref ou), (2, .ref mo), (1, .ref x), (0, .ref b)] from hl) (by omega)
  | succ n ih =>
    intro j a4 a5 a6 a7 a8 a9 a10 a11 b0 b1 b2 b3 b4 b5 d0 d1 d2 d3 b6 H locs ls C S K hj hfin hP hD hS hl hz hC hC2 hK2
    refine zr_step hx hb hr hlocks hml hown htr hts hX hbl hA hbA hN hH hK hkp hkt ho he0 he1 he2 he3 (by omega) hP hD hS hl hz (by omega) (by omega) (fun H1 locs1 ls1 hP1 hD1 hS1 hl1 hz1 => ?_)
    exact ih (j + 1) 0 0 0 (-1) 1 60 18 60 0 60 0 0 1 (-1) 1 (-1) (-1) 60 0 H1 locs1 ls1 (C + 129) (S + 529) (K + 129) (by omega) (fun _ => trivial) hP1 hD1 hS1 hl1 hz1 (by omega) (by omega) (by omega)
set_option maxHeartbeats 4000000 in
set_option maxRecDepth 100000 in
theorem zr_start {p : Program} {e : Env} {s : State} {m : MethodId} {below : List Frame} {meth : Method} {c : Code} (l : Launch) (hflags : l.flags = flags0) {b : Nat} (C0 : lw_At p s m meth c b 3072 zxs) : W p l e room_z s m #[Value.ref b] below meth c s.heap [] 0 0 (zZ below (s.heap.size + 65790)) (entryFrame m ([Value.ref b] : List Value).toArray 9) := by
  obtain ⟨hx, hb, hr, hml, hown, hts, hX, hbl, hlocks, hgv⟩ := id C0
  have htr : l.stackTraces = false := by unfold Launch.stackTraces; rw [hflags]; decide
  obtain ⟨A, hAe⟩ : ∃ A : Nat → Prop, A = fun q : Nat => s.heap.size ≤ q := ⟨_, rfl⟩
  have hA : ∀ q : Nat, s.heap.size ≤ q → A q := fun q h => by rw [hAe]; exact h
  have hbA : ¬ A b := by rw [hAe]; exact Nat.not_le.mpr hbl
  have hgv0 := flat_of_before _ hgv
  have hN := zv_N hts hgv0
  obtain ⟨ed, hH⟩ := zv_H (A := A) hts hgv0 (fun a h => by rw [hAe]; exact Nat.not_le.mpr h)
  obtain ⟨c0, iS0, hKn0⟩ := u_known (C := RJx35411) (T := TJx35411) (N := 4) (n := 4) hts zin_Jx35411 (hts (.instantiable RJx35411 4) (by decide +kernel))
  obtain ⟨c1, iS1, hKn1⟩ := u_known (C := RJx4a65c) (T := TJx4a65c) (N := 3) (n := 3) hts zin_Jx4a65c (hts (.instantiable RJx4a65c 3) (by decide +kernel))
  obtain ⟨c2, iS2, hKn2⟩ := u_known (C := RX0) (T := TX0) (N := 7) (n := 7) hts zin_X0 (hts (.instantiable RX0 7) (by decide +kernel))
  obtain ⟨c3, iS3, hKn3⟩ := u_known (C := RX1) (T := TX1) (N := 10) (n := 10) hts zin_X1 (hts (.instantiable RX1 10) (by decide +kernel))
  obtain ⟨c4, iS4, hKn4⟩ := u_known (C := RX2) (T := TX2) (N := 4) (n := 4) hts zin_X2 (hts (.instantiable RX2 4) (by decide +kernel))
  obtain ⟨c5, iS5, hKn5⟩ := u_known (C := RX3) (T := TX3) (N := 12) (n := 12) hts zin_X3 (hts (.instantiable RX3 12) (by decide +kernel))
  obtain ⟨c6, iS6, hKn6⟩ := u_known (C := RX4) (T := TX4) (N := 3) (n := 3) hts zin_X4 (hts (.instantiable RX4 3) (by decide +kernel))
  obtain ⟨c7, iS7, hKn7⟩ := u_known (C := RX5) (T := TX5) (N := 5) (n := 5) hts zin_X5 (hts (.instantiable RX5 5) (by decide +kernel))
  obtain ⟨c8, iS8, hKn8⟩ := u_known (C := RX6) (T := TX6) (N := 3) (n := 3) hts zin_X6 (hts (.instantiable RX6 3) (by decide +kernel))
  obtain ⟨c9, iS9, hKn9⟩ := u_known (C := RX7) (T := TX7) (N := 14) (n := 14) hts zin_X7 (hts (.instantiable RX7 14) (by decide +kernel))
  obtain ⟨c10, iS10, hKn10⟩ := u_known (C := RX8) (T := TX8) (N := 4) (n := 4) hts zin_X8 (hts (.instantiable RX8 4) (by decide +kernel))
  obtain ⟨dC, dI, hKc⟩ : ∃ (dC : Nat → ClassId) (dI : Nat → Nat → Nat), ∀ (k : Nat) (q : vw_C), vwCl[k]? = some q → u_Kn s q.1 q.2.1 q.2.2 (dC k) (dI k) := by
    refine ⟨fun k => if k = 0 then c0 else if k = 1 then c1 else if k = 2 then c2 else if k = 3 then c3 else if k = 4 then c4 else if k = 5 then c5 else if k = 6 then c6 else if k = 7 then c7 else if k = 8 then c8 else if k = 9 then c9 else c10, fun k => if k = 0 then iS0 else if k = 1 then iS1 else if k = 2 then iS2 else if k = 3 then iS3 else if k = 4 then iS4 else if k = 5 then iS5 else if k = 6 then iS6 else if k = 7 then iS7 else if k = 8 then iS8 else if k = 9 then iS9 else iS10, ?_⟩
    intro k q hq
    match k, hq with
    | 0, hq => cases hq; exact hKn0
    | 1, hq => cases hq; exact hKn1
    | 2, hq => cases hq; exact hKn2
    | 3, hq => cases hq; exact hKn3
    | 4, hq => cases hq; exact hKn4
    | 5, hq => cases hq; exact hKn5
    | 6, hq => cases hq; exact hKn6
    | 7, hq => cases hq; exact hKn7
    | 8, hq => cases hq; exact hKn8
    | 9, hq => cases hq; exact hKn9
    | 10, hq => cases hq; exact hKn10
    | k + 11, hq => simp [vwCl] at hq
  have hS : va_S A s.heap s.heap [] := va_S.rf
  have hK : va_K (dC, dI) vwCl [] s := ⟨hKc, fun k q h => by simp at h⟩
  have hP : va_P (dC, dI) vwCl [] s.heap := fun k q h => by simp at h
  have hD : va_D A [] := zo_Dnil
  have hl := lv_entry ([.ref b]) (n := 9) (Nat.le_of_ble_eq_true rfl)
  rw [lg_entry_eq]
  generalize (lg_sl ([.ref b]) ++ List.replicate (9 - (lg_sl ([.ref b])).length) Slot.unset).toArray = ls at hl ⊢
  have hl : lv_has ls 9 [(0, .ref b)] := hl
  refine va_new (ci := 8) (fs := [.null, .null, .null]) (C := RX6) (T := TX6) (N := 3) hx hb hts zin_X6 tyX6 tyX6_ok hown (hts (.classLink RL 8 RX6) (by decide +kernel)) (hts (.instantiable RX6 3) (by decide +kernel)) (hts (.initialized RX6) (by decide +kernel)) hK hP hD hS hA rfl (fun j hj => by rcases (show j = 0 ∨ j = 1 ∨ j = 2 by omega) with rfl | rfl | rfl <;> rfl) (Nat.le_of_ble_eq_true rfl) (Nat.le_of_ble_eq_true rfl) dL_law_0 (fun q1 H2 hP hD hS => ?_)
  have hP : va_P (dC, dI) vwCl [(q1, .inr (8, [.null, .null, .null]))] H2 := hP
  have hD : va_D A [(q1, .inr (8, [.null, .null, .null]))] := hD
  refine lv_dup hx hb dL_law_3 rfl ?_
  have hPr := (zo_nil : va_P (dC, dI) vwCl [] H2)
  have hPc := hP.sub (ws' := [(q1, .inr (8, [.null, .null, .null]))]) [0] rfl
  have hDc := hD.sub (ws' := [(q1, .inr (8, [.null, .null, .null]))]) [0] (by decide) rfl
  have hKc := hK.sub (tys' := []) [] rfl
  have hFc := va_free (wc := [(q1, .inr (8, [.null, .null, .null]))]) hD hS hA [0] rfl
  refine va_callv (va_runI (As := []) (rest := [.ref q1]) ⟨hx, hb, hml, hown, hts⟩ (cz_RX6_init l dC dI ed H2.size q1) (cwI 0 hts zgL_X6_init rfl rfl rfl (hts (.initialized RX6) (by decide +kernel)) (hts (.methodLink RL 70 yX6_init) (by decide +kernel)) (hts (.instanceMethod yX6_init) (by decide +kernel)) rfl (by decide +kernel) ⟨Nat.le_of_ble_eq_true rfl, Nat.le_of_ble_eq_true rfl⟩) ⟨zb_blind, fun U hU hW => ⟨rfl, zb_mk hU hW hPr hPc hKc hDc hN hH hS hFc zx_nil⟩⟩ rfl rfl hl.1 rfl (lv_room (Nat.le_of_ble_eq_true rfl)) dL_law_4 ⟨Nat.le_of_ble_eq_true rfl, Nat.le_of_ble_eq_true rfl⟩) hS (fun q _ h => hFc q h) hFc (fun u t H3 locs ht hvm hw hB hz1 hk1 hS => ?_)
  obtain ⟨rm_5, tr_5, st_5, lk_5, th_5, pl_5, gm_5, cP_5, fp_5, p0_5, tlk_5, tth_5, tpl_5, tgm_5, tcP_5, tfp_5, tp0_5, ⟨k5_0, k5_1⟩, hP1, hD1, hK1⟩ := hB
  rw [ht] at hP1
  obtain ⟨hP, hD⟩ := va_join (wr := []) (w1 := [(q1, .inr (8, [.ref rm_5, .ref tr_5, .ref st_5])), (rm_5, .inr (5, [.ref lk_5, .ref th_5, .ref pl_5, .ref gm_5, .int 0, .int 0, .int 0, .int (-1), .int 1, .int 0, .int 0, .int 0])), (pl_5, .inl (cP_5, 6, .inr (.inr (.inr (.inr fp_5))))), (gm_5, .inr (2, [.int 0, .int 0, .int 0, .int 0, .int 0, .int (-1), .long 0])), (p0_5, .inr (4, [.int 0, .int 0, .int 0, .int 0])), (tr_5, .inr (5, [.ref tlk_5, .ref tth_5, .ref tpl_5, .ref tgm_5, .int 0, .int 0, .int 0, .int (-1), .int 1, .int 0, .int 0, .int 0])), (tpl_5, .inl (tcP_5, 6, .inr (.inr (.inr (.inr tfp_5))))), (tgm_5, .inr (2, [.int 0, .int 0, .int 0, .int 0, .int 0, .int (-1), .long 0])), (tp0_5, .inr (4, [.int 0, .int 0, .int 0, .int 0]))]) hP hD [0] [] rfl rfl (by decide) (by decide) hk1 hFc hP1 hD1
  have hP : va_P (dC, dI) vwCl [(q1, .inr (8, [.ref rm_5, .ref tr_5, .ref st_5])), (rm_5, .inr (5, [.ref lk_5, .ref th_5, .ref pl_5, .ref gm_5, .int 0, .int 0, .int 0, .int (-1), .int 1, .int 0, .int 0, .int 0])), (pl_5, .inl (cP_5, 6, .inr (.inr (.inr (.inr fp_5))))), (gm_5, .inr (2, [.int 0, .int 0, .int 0, .int 0, .int 0, .int (-1), .long 0])), (p0_5, .inr (4, [.int 0, .int 0, .int 0, .int 0])), (tr_5, .inr (5, [.ref tlk_5, .ref tth_5, .ref tpl_5, .ref tgm_5, .int 0, .int 0, .int 0, .int (-1), .int 1, .int 0, .int 0, .int 0])), (tpl_5, .inl (tcP_5, 6, .inr (.inr (.inr (.inr tfp_5))))), (tgm_5, .inr (2, [.int 0, .int 0, .int 0, .int 0, .int 0, .int (-1), .long 0])), (tp0_5, .inr (4, [.int 0, .int 0, .int 0, .int 0]))] H3 := hP
  have hD : va_D A [(q1, .inr (8, [.ref rm_5, .ref tr_5, .ref st_5])), (rm_5, .inr (5, [.ref lk_5, .ref th_5, .ref pl_5, .ref gm_5, .int 0, .int 0, .int 0, .int (-1), .int 1, .int 0, .int 0, .int 0])), (pl_5, .inl (cP_5, 6, .inr (.inr (.inr (.inr fp_5))))), (gm_5, .inr (2, [.int 0, .int 0, .int 0, .int 0, .int 0, .int (-1), .long 0])), (p0_5, .inr (4, [.int 0, .int 0, .int 0, .int 0])), (tr_5, .inr (5, [.ref tlk_5, .ref tth_5, .ref tpl_5, .ref tgm_5, .int 0, .int 0, .int 0, .int (-1), .int 1, .int 0, .int 0, .int 0])), (tpl_5, .inl (tcP_5, 6, .inr (.inr (.inr (.inr tfp_5))))), (tgm_5, .inr (2, [.int 0, .int 0, .int 0, .int 0, .int 0, .int (-1), .long 0])), (tp0_5, .inr (4, [.int 0, .int 0, .int 0, .int 0]))] := hD
  have hK := hK.app (va_K.moved hvm.symm hK1)
  have hK : va_K (dC, dI) vwCl [(cP_5, .object "LockRooms$Player"), (tcP_5, .object "LockRooms$Player")] s := hK
  refine lv_astore_n (lv' := [(1, .ref q1), (0, .ref b)]) hx hb dL_law_7 rfl hl (by decide) rfl (fun ls hl => ?_)
  refine va_new (ci := 10) (fs := [.int 0, .null, .int 0, .long 0]) (C := RX8) (T := TX8) (N := 4) hx hb hts zin_X8 tyX8 tyX8_ok hown (hts (.classLink RL 71 RX8) (by decide +kernel)) (hts (.instantiable RX8 4) (by decide +kernel)) (hts (.initialized RX8) (by decide +kernel)) hK hP hD hS hA rfl (fun j hj => by rcases (show j = 0 ∨ j = 1 ∨ j = 2 ∨ j = 3 by omega) with rfl | rfl | rfl | rfl <;> rfl) (Nat.le_of_ble_eq_true rfl) (Nat.le_of_ble_eq_true rfl) dL_law_8 (fun q6 H7 hP hD hS => ?_)
  have hP : va_P (dC, dI) vwCl [(q1, .inr (8, [.ref rm_5, .ref tr_5, .ref st_5])), (rm_5, .inr (5, [.ref lk_5, .ref th_5, .ref pl_5, .ref gm_5, .int 0, .int 0, .int 0, .int (-1), .int 1, .int 0, .int 0, .int 0])), (pl_5, .inl (cP_5, 6, .inr (.inr (.inr (.inr fp_5))))), (gm_5, .inr (2, [.int 0, .int 0, .int 0, .int 0, .int 0, .int (-1), .long 0])), (p0_5, .inr (4, [.int 0, .int 0, .int 0, .int 0])), (tr_5, .inr (5, [.ref tlk_5, .ref tth_5, .ref tpl_5, .ref tgm_5, .int 0, .int 0, .int 0, .int (-1), .int 1, .int 0, .int 0, .int 0])), (tpl_5, .inl (tcP_5, 6, .inr (.inr (.inr (.inr tfp_5))))), (tgm_5, .inr (2, [.int 0, .int 0, .int 0, .int 0, .int 0, .int (-1), .long 0])), (tp0_5, .inr (4, [.int 0, .int 0, .int 0, .int 0])), (q6, .inr (10, [.int 0, .null, .int 0, .long 0]))] H7 := hP
  have hD : va_D A [(q1, .inr (8, [.ref rm_5, .ref tr_5, .ref st_5])), (rm_5, .inr (5, [.ref lk_5, .ref th_5, .ref pl_5, .ref gm_5, .int 0, .int 0, .int 0, .int (-1), .int 1, .int 0, .int 0, .int 0])), (pl_5, .inl (cP_5, 6, .inr (.inr (.inr (.inr fp_5))))), (gm_5, .inr (2, [.int 0, .int 0, .int 0, .int 0, .int 0, .int (-1), .long 0])), (p0_5, .inr (4, [.int 0, .int 0, .int 0, .int 0])), (tr_5, .inr (5, [.ref tlk_5, .ref tth_5, .ref tpl_5, .ref tgm_5, .int 0, .int 0, .int 0, .int (-1), .int 1, .int 0, .int 0, .int 0])), (tpl_5, .inl (tcP_5, 6, .inr (.inr (.inr (.inr tfp_5))))), (tgm_5, .inr (2, [.int 0, .int 0, .int 0, .int 0, .int 0, .int (-1), .long 0])), (tp0_5, .inr (4, [.int 0, .int 0, .int 0, .int 0])), (q6, .inr (10, [.int 0, .null, .int 0, .long 0]))] := hD
  refine lv_dup hx hb dL_law_11 rfl ?_
  have hPr := (zo_nil : va_P (dC, dI) vwCl [] H7)
  have hPc := hP.sub (ws' := [(q6, .inr (10, [.int 0, .null, .int 0, .long 0]))]) [9] rfl
  have hDc := hD.sub (ws' := [(q6, .inr (10, [.int 0, .null, .int 0, .long 0]))]) [9] (by decide) rfl
  have hKc := hK.sub (tys' := []) [] rfl
  have hFc := va_free (wc := [(q6, .inr (10, [.int 0, .null, .int 0, .long 0]))]) hD hS hA [9] rfl
  refine va_callv (va_runI (As := []) (rest := [.ref q6]) ⟨hx, hb, hml, hown, hts⟩ (cz_X8_init l dC dI ed H7.size q6) (cwI 0 hts zgL_X8_init rfl rfl rfl (hts (.initialized RX8) (by decide +kernel)) (hts (.methodLink RL 73 yX8_init) (by decide +kernel)) (hts (.instanceMethod yX8_init) (by decide +kernel)) rfl (by decide +kernel) ⟨Nat.le_of_ble_eq_true rfl, Nat.le_of_ble_eq_true rfl⟩) ⟨zb_blind, fun U hU hW => ⟨rfl, zb_mk hU hW hPr hPc hKc hDc hN hH hS hFc zx_nil⟩⟩ rfl rfl hl.1 rfl (lv_room (Nat.le_of_ble_eq_true rfl)) dL_law_12 ⟨Nat.le_of_ble_eq_true rfl, Nat.le_of_ble_eq_true rfl⟩) hS (fun q _ h => hFc q h) hFc (fun u t H8 locs ht hvm hw hB hz1 hk1 hS => ?_)
  obtain ⟨mr_10, ll_10, lt_10, lp_10, hP1, hD1, hK1⟩ := hB
  rw [ht] at hP1
  obtain ⟨hP, hD⟩ := va_join (wr := [(q1, .inr (8, [.ref rm_5, .ref tr_5, .ref st_5])), (rm_5, .inr (5, [.ref lk_5, .ref th_5, .ref pl_5, .ref gm_5, .int 0, .int 0, .int 0, .int (-1), .int 1, .int 0, .int 0, .int 0])), (pl_5, .inl (cP_5, 6, .inr (.inr (.inr (.inr fp_5))))), (gm_5, .inr (2, [.int 0, .int 0, .int 0, .int 0, .int 0, .int (-1), .long 0])), (p0_5, .inr (4, [.int 0, .int 0, .int 0, .int 0])), (tr_5, .inr (5, [.ref tlk_5, .ref tth_5, .ref tpl_5, .ref tgm_5, .int 0, .int 0, .int 0, .int (-1), .int 1, .int 0, .int 0, .int 0])), (tpl_5, .inl (tcP_5, 6, .inr (.inr (.inr (.inr tfp_5))))), (tgm_5, .inr (2, [.int 0, .int 0, .int 0, .int 0, .int 0, .int (-1), .long 0])), (tp0_5, .inr (4, [.int 0, .int 0, .int 0, .int 0]))]) (w1 := [(q6, .inr (10, [.int 0, .ref mr_10, .int 1, .long 0])), (mr_10, .inr (9, [.ref ll_10, .ref lt_10, .ref lp_10, .int (-1), .int 0, .int 0, .int 0, .int 0, .int 0, .int 0, .int (-1), .int 0, .int 0, .int 0])), (ll_10, .inr (1, [.int 0, .ref ed, .int 0])), (lt_10, .inr (1, [.int 0, .ref ed, .int 0])), (lp_10, .inr (1, [.int 0, .ref ed, .int 0]))]) hP hD [9] [0, 1, 2, 3, 4, 5, 6, 7, 8] rfl rfl (by decide) (by decide) hk1 hFc hP1 hD1
  have hP : va_P (dC, dI) vwCl [(q1, .inr (8, [.ref rm_5, .ref tr_5, .ref st_5])), (rm_5, .inr (5, [.ref lk_5, .ref th_5, .ref pl_5, .ref gm_5, .int 0, .int 0, .int 0, .int (-1), .int 1, .int 0, .int 0, .int 0])), (pl_5, .inl (cP_5, 6, .inr (.inr (.inr (.inr fp_5))))), (gm_5, .inr (2, [.int 0, .int 0, .int 0, .int 0, .int 0, .int (-1), .long 0])), (p0_5, .inr (4, [.int 0, .int 0, .int 0, .int 0])), (tr_5, .inr (5, [.ref tlk_5, .ref tth_5, .ref tpl_5, .ref tgm_5, .int 0, .int 0, .int 0, .int (-1), .int 1, .int 0, .int 0, .int 0])), (tpl_5, .inl (tcP_5, 6, .inr (.inr (.inr (.inr tfp_5))))), (tgm_5, .inr (2, [.int 0, .int 0, .int 0, .int 0, .int 0, .int (-1), .long 0])), (tp0_5, .inr (4, [.int 0, .int 0, .int 0, .int 0])), (q6, .inr (10, [.int 0, .ref mr_10, .int 1, .long 0])), (mr_10, .inr (9, [.ref ll_10, .ref lt_10, .ref lp_10, .int (-1), .int 0, .int 0, .int 0, .int 0, .int 0, .int 0, .int (-1), .int 0, .int 0, .int 0])), (ll_10, .inr (1, [.int 0, .ref ed, .int 0])), (lt_10, .inr (1, [.int 0, .ref ed, .int 0])), (lp_10, .inr (1, [.int 0, .ref ed, .int 0]))] H8 := hP
  have hD : va_D A [(q1, .inr (8, [.ref rm_5, .ref tr_5, .ref st_5])), (rm_5, .inr (5, [.ref lk_5, .ref th_5, .ref pl_5, .ref gm_5, .int 0, .int 0, .int 0, .int (-1), .int 1, .int 0, .int 0, .int 0])), (pl_5, .inl (cP_5, 6, .inr (.inr (.inr (.inr fp_5))))), (gm_5, .inr (2, [.int 0, .int 0, .int 0, .int 0, .int 0, .int (-1), .long 0])), (p0_5, .inr (4, [.int 0, .int 0, .int 0, .int 0])), (tr_5, .inr (5, [.ref tlk_5, .ref tth_5, .ref tpl_5, .ref tgm_5, .int 0, .int 0, .int 0, .int (-1), .int 1, .int 0, .int 0, .int 0])), (tpl_5, .inl (tcP_5, 6, .inr (.inr (.inr (.inr tfp_5))))), (tgm_5, .inr (2, [.int 0, .int 0, .int 0, .int 0, .int 0, .int (-1), .long 0])), (tp0_5, .inr (4, [.int 0, .int 0, .int 0, .int 0])), (q6, .inr (10, [.int 0, .ref mr_10, .int 1, .long 0])), (mr_10, .inr (9, [.ref ll_10, .ref lt_10, .ref lp_10, .int (-1), .int 0, .int 0, .int 0, .int 0, .int 0, .int 0, .int (-1), .int 0, .int 0, .int 0])), (ll_10, .inr (1, [.int 0, .ref ed, .int 0])), (lt_10, .inr (1, [.int 0, .ref ed, .int 0])), (lp_10, .inr (1, [.int 0, .ref ed, .int 0]))] := hD
  refine lv_astore_n (lv' := [(2, .ref q6), (1, .ref q1), (0, .ref b)]) hx hb dL_law_15 rfl hl (by decide) rfl (fun ls hl => ?_)
  refine lv_iconst (v := 1) hx hb dL_law_16 (by decide) ?_
  refine va_newa (atype := .long) (a0 := (1, .inr (.inl (fun _ => 0)))) hx hb (hts (.arrayClass .long) (by decide +kernel)) rfl hK hP hD hS hA (fun cA => rfl) (by decide) (N' := 1) (by decide) (by decide) (Nat.le_of_ble_eq_true rfl) (Nat.le_of_ble_eq_true rfl) dL_law_17 (fun q11 cA13 H12 hK hP hD hS => ?_)
  have hP : va_P (dC, dI) vwCl [(q1, .inr (8, [.ref rm_5, .ref tr_5, .ref st_5])), (rm_5, .inr (5, [.ref lk_5, .ref th_5, .ref pl_5, .ref gm_5, .int 0, .int 0, .int 0, .int (-1), .int 1, .int 0, .int 0, .int 0])), (pl_5, .inl (cP_5, 6, .inr (.inr (.inr (.inr fp_5))))), (gm_5, .inr (2, [.int 0, .int 0, .int 0, .int 0, .int 0, .int (-1), .long 0])), (p0_5, .inr (4, [.int 0, .int 0, .int 0, .int 0])), (tr_5, .inr (5, [.ref tlk_5, .ref tth_5, .ref tpl_5, .ref tgm_5, .int 0, .int 0, .int 0, .int (-1), .int 1, .int 0, .int 0, .int 0])), (tpl_5, .inl (tcP_5, 6, .inr (.inr (.inr (.inr tfp_5))))), (tgm_5, .inr (2, [.int 0, .int 0, .int 0, .int 0, .int 0, .int (-1), .long 0])), (tp0_5, .inr (4, [.int 0, .int 0, .int 0, .int 0])), (q6, .inr (10, [.int 0, .ref mr_10, .int 1, .long 0])), (mr_10, .inr (9, [.ref ll_10, .ref lt_10, .ref lp_10, .int (-1), .int 0, .int 0, .int 0, .int 0, .int 0, .int 0, .int (-1), .int 0, .int 0, .int 0])), (ll_10, .inr (1, [.int 0, .ref ed, .int 0])), (lt_10, .inr (1, [.int 0, .ref ed, .int 0])), (lp_10, .inr (1, [.int 0, .ref ed, .int 0])), (q11, .inl (cA13, 1, .inr (.inl (fun _ => 0))))] H12 := hP
  have hD : va_D A [(q1, .inr (8, [.ref rm_5, .ref tr_5, .ref st_5])), (rm_5, .inr (5, [.ref lk_5, .ref th_5, .ref pl_5, .ref gm_5, .int 0, .int 0, .int 0, .int (-1), .int 1, .int 0, .int 0, .int 0])), (pl_5, .inl (cP_5, 6, .inr (.inr (.inr (.inr fp_5))))), (gm_5, .inr (2, [.int 0, .int 0, .int 0, .int 0, .int 0, .int (-1), .long 0])), (p0_5, .inr (4, [.int 0, .int 0, .int 0, .int 0])), (tr_5, .inr (5, [.ref tlk_5, .ref tth_5, .ref tpl_5, .ref tgm_5, .int 0, .int 0, .int 0, .int (-1), .int 1, .int 0, .int 0, .int 0])), (tpl_5, .inl (tcP_5, 6, .inr (.inr (.inr (.inr tfp_5))))), (tgm_5, .inr (2, [.int 0, .int 0, .int 0, .int 0, .int 0, .int (-1), .long 0])), (tp0_5, .inr (4, [.int 0, .int 0, .int 0, .int 0])), (q6, .inr (10, [.int 0, .ref mr_10, .int 1, .long 0])), (mr_10, .inr (9, [.ref ll_10, .ref lt_10, .ref lp_10, .int (-1), .int 0, .int 0, .int 0, .int 0, .int 0, .int 0, .int (-1), .int 0, .int 0, .int 0])), (ll_10, .inr (1, [.int 0, .ref ed, .int 0])), (lt_10, .inr (1, [.int 0, .ref ed, .int 0])), (lp_10, .inr (1, [.int 0, .ref ed, .int 0])), (q11, .inl (cA13, 1, .inr (.inl (fun _ => 0))))] := hD
  refine lv_astore_n (lv' := [(3, .ref q11), (2, .ref q6), (1, .ref q1), (0, .ref b)]) hx hb dL_law_19 rfl hl (by decide) rfl (fun ls hl => ?_)
  refine lv_iconst (v := 0) hx hb dL_law_20 (by decide) ?_
  refine lv_istore (lv' := [(4, .int 0), (3, .ref q11), (2, .ref q6), (1, .ref q1), (0, .ref b)]) hx hb dL_law_21 hl (by decide) rfl (fun ls hl => ?_)
  refine lv_iload hx hb dL_law_23 (lv_at hl 0 rfl) ?_
  refine lv_aload_n hx hb dL_law_25 rfl (lv_at hl 4 rfl) ?_
  refine va_slen hx hb hX hbl hbA hS dL_law_26 ?_
  refine zo_i (v := 3072) (by decide) ?_
  refine lv_bipush (v := 6) hx hb dL_law_27 (by decide) ?_
  refine lv_isub hx hb dL_law_29 ?_
  refine zo_i (v := 3066) (by decide) ?_
  refine lv_icmp_gt (tgt := 910) hx hb dL_law_30 (by decide) (fun h => absurd h (by decide)) (fun _ => ?_)
  refine lv_aload_n hx hb dL_law_33 rfl (lv_at hl 4 rfl) ?_
  refine lv_iload hx hb dL_law_34 (lv_at hl 0 rfl) ?_
  refine va_sld hx hb hX hbl hbA hS (by unfold vp_in; decide) dL_law_36 ?_
  refine zo_i (v := 2) (by decide +kernel) ?_
  refine lv_bipush (v := 31) hx hb dL_law_37 (by decide) ?_
  refine lv_iand hx hb dL_law_39 ?_
  refine zo_i (v := 2) (by decide) ?_
  refine lv_tableIn (off := 272) (tgt := 312) hx hb dL_law_40 (by decide) (by decide) rfl (by decide) ?_
  refine lv_aload_n hx hb dL_law_312 rfl (lv_at hl 3 rfl) ?_
  refine lv_aload_n hx hb dL_law_313 rfl (lv_at hl 4 rfl) ?_
  refine lv_iload hx hb dL_law_314 (lv_at hl 0 rfl) ?_
  refine lv_iconst (v := 1) hx hb dL_law_316 (by decide) ?_
  refine lv_iadd hx hb dL_law_317 ?_
  refine zo_i (v := 1) (by decide) ?_
  refine va_sld hx hb hX hbl hbA hS (by unfold vp_in; decide) dL_law_318 ?_
  refine zo_i (v := 1) (by decide +kernel) ?_
  refine lv_aload_n hx hb dL_law_319 rfl (lv_at hl 1 rfl) ?_
  have hPr := (hP).sub (ws' := [(q1, .inr (8, [.ref rm_5, .ref tr_5, .ref st_5])), (gm_5, .inr (2, [.int 0, .int 0, .int 0, .int 0, .int 0, .int (-1), .long 0])), (pl_5, .inl (cP_5, 6, .inr (.inr (.inr (.inr fp_5)))))]) [0, 3, 2] rfl
  have hPc := hP.sub (ws' := [(rm_5, .inr (5, [.ref lk_5, .ref th_5, .ref pl_5, .ref gm_5, .int 0, .int 0, .int 0, .int (-1), .int 1, .int 0, .int 0, .int 0])), (p0_5, .inr (4, [.int 0, .int 0, .int 0, .int 0])), (q11, .inl (cA13, 1, .inr (.inl (fun _ => 0))))]) [1, 4, 14] rfl
  have hDc := hD.sub (ws' := [(rm_5, .inr (5, [.ref lk_5, .ref th_5, .ref pl_5, .ref gm_5, .int 0, .int 0, .int 0, .int (-1), .int 1, .int 0, .int 0, .int 0])), (p0_5, .inr (4, [.int 0, .int 0, .int 0, .int 0])), (q11, .inl (cA13, 1, .inr (.inl (fun _ => 0))))]) [1, 4, 14] (by decide) rfl
  have hKc := hK.sub (tys' := [(cP_5, .object "LockRooms$Player"), (cA13, .long)]) [0, 2] rfl
  have hFc := va_free (wc := [(rm_5, .inr (5, [.ref lk_5, .ref th_5, .ref pl_5, .ref gm_5, .int 0, .int 0, .int 0, .int (-1), .int 1, .int 0, .int 0, .int 0])), (p0_5, .inr (4, [.int 0, .int 0, .int 0, .int 0])), (q11, .inl (cA13, 1, .inr (.inl (fun _ => 0))))]) hD hS hA [1, 4, 14] rfl
  refine vx_calli (vx_runSX (As := [.ref q1, .int 1, .ref q11]) (rest := []) ⟨hx, hb, hml, hown, hts⟩ (cz_RL_player l dC dI ed H12.size q1 rm_5 tr_5 st_5 lk_5 th_5 pl_5 gm_5 cP_5 fp_5 p0_5 q11 cA13 (fun _ => 0) htr k5_0) (vx_cwSW 3 hts zgL_L_player rfl rfl rfl (by decide +kernel) ⟨Nat.le_of_ble_eq_true rfl, Nat.le_of_ble_eq_true rfl⟩) ⟨zb_blind, fun U hU hW => ⟨rfl, zb_mk hU hW hPr hPc hKc hDc hN hH hS hFc (zx_cons (zx_o hD 0 [1, 4, 14] rfl rfl (by decide)) (zx_cons (zx_o hD 3 [1, 4, 14] rfl rfl (by decide)) (zx_cons (zx_o hD 2 [1, 4, 14] rfl rfl (by decide)) zx_nil)))⟩⟩ rfl rfl hl.1 rfl (lv_room (Nat.le_of_ble_eq_true rfl)) dL_law_320 ⟨Nat.le_of_ble_eq_true rfl, Nat.le_of_ble_eq_true rfl⟩) hS (fun q _ h => hFc q h) hFc (fun q _ h => hFc q h) (fun E ce q9 u t H15 locs ht hvm hpx hBX hz1 hk1 hS hce hcv hcl => hpx.elim) (fun r16 u t H15 locs ht hvm hw hB hz1 hk1 hS => ?_)
  obtain rfl : r16 = 0 := hw
  obtain ⟨fo8_17, k17_0, hP1, hD1, hK1⟩ := hB
  rw [ht] at hP1
  obtain ⟨hP, hD⟩ := va_join (wr := [(q1, .inr (8, [.ref rm_5, .ref tr_5, .ref st_5])), (pl_5, .inl (cP_5, 6, .inr (.inr (.inr (.inr fp_5))))), (gm_5, .inr (2, [.int 0, .int 0, .int 0, .int 0, .int 0, .int (-1), .long 0])), (tr_5, .inr (5, [.ref tlk_5, .ref tth_5, .ref tpl_5, .ref tgm_5, .int 0, .int 0, .int 0, .int (-1), .int 1, .int 0, .int 0, .int 0])), (tpl_5, .inl (tcP_5, 6, .inr (.inr (.inr (.inr tfp_5))))), (tgm_5, .inr (2, [.int 0, .int 0, .int 0, .int 0, .int 0, .int (-1), .long 0])), (tp0_5, .inr (4, [.int 0, .int 0, .int 0, .int 0])), (q6, .inr (10, [.int 0, .ref mr_10, .int 1, .long 0])), (mr_10, .inr (9, [.ref ll_10, .ref lt_10, .ref lp_10, .int (-1), .int 0, .int 0, .int 0, .int 0, .int 0, .int 0, .int (-1), .int 0, .int 0, .int 0])), (ll_10, .inr (1, [.int 0, .ref ed, .int 0])), (lt_10, .inr (1, [.int 0, .ref ed, .int 0])), (lp_10, .inr (1, [.int 0, .ref ed, .int 0]))]) (w1 := [(rm_5, .inr (5, [.ref lk_5, .ref th_5, .ref pl_5, .ref gm_5, .int 0, .int 0, .int 1, .int (-1), .int 1, .int 0, .int 0, .int 0])), (p0_5, .inr (4, [.int 1, .int (-1), .int (-1), .int 0])), (q11, .inl (cA13, 1, .inr (.inl fo8_17)))]) hP hD [1, 4, 14] [0, 2, 3, 5, 6, 7, 8, 9, 10, 11, 12, 13] rfl rfl (by decide) (by decide) hk1 hFc hP1 hD1
  have hP : va_P (dC, dI) vwCl [(q1, .inr (8, [.ref rm_5, .ref tr_5, .ref st_5])), (pl_5, .inl (cP_5, 6, .inr (.inr (.inr (.inr fp_5))))), (gm_5, .inr (2, [.int 0, .int 0, .int 0, .int 0, .int 0, .int (-1), .long 0])), (tr_5, .inr (5, [.ref tlk_5, .ref tth_5, .ref tpl_5, .ref tgm_5, .int 0, .int 0, .int 0, .int (-1), .int 1, .int 0, .int 0, .int 0])), (tpl_5, .inl (tcP_5, 6, .inr (.inr (.inr (.inr tfp_5))))), (tgm_5, .inr (2, [.int 0, .int 0, .int 0, .int 0, .int 0, .int (-1), .long 0])), (tp0_5, .inr (4, [.int 0, .int 0, .int 0, .int 0])), (q6, .inr (10, [.int 0, .ref mr_10, .int 1, .long 0])), (mr_10, .inr (9, [.ref ll_10, .ref lt_10, .ref lp_10, .int (-1), .int 0, .int 0, .int 0, .int 0, .int 0, .int 0, .int (-1), .int 0, .int 0, .int 0])), (ll_10, .inr (1, [.int 0, .ref ed, .int 0])), (lt_10, .inr (1, [.int 0, .ref ed, .int 0])), (lp_10, .inr (1, [.int 0, .ref ed, .int 0])), (rm_5, .inr (5, [.ref lk_5, .ref th_5, .ref pl_5, .ref gm_5, .int 0, .int 0, .int 1, .int (-1), .int 1, .int 0, .int 0, .int 0])), (p0_5, .inr (4, [.int 1, .int (-1), .int (-1), .int 0])), (q11, .inl (cA13, 1, .inr (.inl fo8_17)))] H15 := hP
  have hD : va_D A [(q1, .inr (8, [.ref rm_5, .ref tr_5, .ref st_5])), (pl_5, .inl (cP_5, 6, .inr (.inr (.inr (.inr fp_5))))), (gm_5, .inr (2, [.int 0, .int 0, .int 0, .int 0, .int 0, .int (-1), .long 0])), (tr_5, .inr (5, [.ref tlk_5, .ref tth_5, .ref tpl_5, .ref tgm_5, .int 0, .int 0, .int 0, .int (-1), .int 1, .int 0, .int 0, .int 0])), (tpl_5, .inl (tcP_5, 6, .inr (.inr (.inr (.inr tfp_5))))), (tgm_5, .inr (2, [.int 0, .int 0, .int 0, .int 0, .int 0, .int (-1), .long 0])), (tp0_5, .inr (4, [.int 0, .int 0, .int 0, .int 0])), (q6, .inr (10, [.int 0, .ref mr_10, .int 1, .long 0])), (mr_10, .inr (9, [.ref ll_10, .ref lt_10, .ref lp_10, .int (-1), .int 0, .int 0, .int 0, .int 0, .int 0, .int 0, .int (-1), .int 0, .int 0, .int 0])), (ll_10, .inr (1, [.int 0, .ref ed, .int 0])), (lt_10, .inr (1, [.int 0, .ref ed, .int 0])), (lp_10, .inr (1, [.int 0, .ref ed, .int 0])), (rm_5, .inr (5, [.ref lk_5, .ref th_5, .ref pl_5, .ref gm_5, .int 0, .int 0, .int 1, .int (-1), .int 1, .int 0, .int 0, .int 0])), (p0_5, .inr (4, [.int 1, .int (-1), .int (-1), .int 0])), (q11, .inl (cA13, 1, .inr (.inl fo8_17)))] := hD
  refine lv_istore (lv' := [(5, .int 0), (4, .int 0), (3, .ref q11), (2, .ref q6), (1, .ref q1), (0, .ref b)]) hx hb dL_law_323 hl (by decide) rfl (fun ls hl => ?_)
  refine lv_aload_n hx hb dL_law_325 rfl (lv_at hl 3 rfl) ?_
  refine lv_aload_n hx hb dL_law_326 rfl (lv_at hl 5 rfl) ?_
  refine lv_iload hx hb dL_law_327 (lv_at hl 1 rfl) ?_
  refine lv_iconst (v := 1) hx hb dL_law_329 (by decide) ?_
  refine lv_iadd hx hb dL_law_330 ?_
  refine zo_i (v := 1) (by decide) ?_
  refine va_sld hx hb hX hbl hbA hS (by unfold vp_in; decide) dL_law_331 ?_
  refine zo_i (v := 1) (by decide +kernel) ?_
  have hPr := (hP).sub (ws' := [(mr_10, .inr (9, [.ref ll_10, .ref lt_10, .ref lp_10, .int (-1), .int 0, .int 0, .int 0, .int 0, .int 0, .int 0, .int (-1), .int 0, .int 0, .int 0]))]) [8] rfl
  have hPc := hP.sub (ws' := [(q6, .inr (10, [.int 0, .ref mr_10, .int 1, .long 0])), (lp_10, .inr (1, [.int 0, .ref ed, .int 0]))]) [7, 11] rfl
  have hDc := hD.sub (ws' := [(q6, .inr (10, [.int 0, .ref mr_10, .int 1, .long 0])), (lp_10, .inr (1, [.int 0, .ref ed, .int 0]))]) [7, 11] (by decide) rfl
  have hKc := hK.sub (tys' := []) [] rfl
  have hFc := va_free (wc := [(q6, .inr (10, [.int 0, .ref mr_10, .int 1, .long 0])), (lp_10, .inr (1, [.int 0, .ref ed, .int 0]))]) hD hS hA [7, 11] rfl
  refine va_calli (va_runV (As := [.int 1]) (rest := []) ⟨hx, hb, hml, hown, hts⟩ (cz_RX8_player l dC dI ed H15.size q6 mr_10 0 0 ll_10 lt_10 lp_10) (cwV 1 hts zgL_X8_player rfl rfl rfl (by decide +kernel) ⟨Nat.le_of_ble_eq_true rfl, Nat.le_of_ble_eq_true rfl⟩) ⟨zb_blind, va_recv hK hP (ci := 10) (q0 := 7) rfl rfl, fun U hU hW => ⟨rfl, zb_mk hU hW hPr hPc hKc hDc hN hH hS hFc (zx_cons (zx_o hD 8 [7, 11] rfl rfl (by decide)) zx_nil)⟩⟩ rfl rfl hl.1 rfl (lv_room (Nat.le_of_ble_eq_true rfl)) dL_law_332 ⟨Nat.le_of_ble_eq_true rfl, Nat.le_of_ble_eq_true rfl⟩) hS (fun q _ h => hFc q h) hFc (fun r19 u t H18 locs ht hvm hw hB hz1 hk1 hS => ?_)
  obtain rfl : r19 = 0 := hw
  obtain ⟨oa_20, cO_20, fo_20, e1_20, cE_20, fe_20, ⟨k20_0, k20_1, k20_2, k20_3, k20_4⟩, hP1, hD1, hK1⟩ := hB
  rw [ht] at hP1
  obtain ⟨hP, hD⟩ := va_join (wr := [(q1, .inr (8, [.ref rm_5, .ref tr_5, .ref st_5])), (pl_5, .inl (cP_5, 6, .inr (.inr (.inr (.inr fp_5))))), (gm_5, .inr (2, [.int 0, .int 0, .int 0, .int 0, .int 0, .int (-1), .long 0])), (tr_5, .inr (5, [.ref tlk_5, .ref tth_5, .ref tpl_5, .ref tgm_5, .int 0, .int 0, .int 0, .int (-1), .int 1, .int 0, .int 0, .int 0])), (tpl_5, .inl (tcP_5, 6, .inr (.inr (.inr (.inr tfp_5))))), (tgm_5, .inr (2, [.int 0, .int 0, .int 0, .int 0, .int 0, .int (-1), .long 0])), (tp0_5, .inr (4, [.int 0, .int 0, .int 0, .int 0])), (mr_10, .inr (9, [.ref ll_10, .ref lt_10, .ref lp_10, .int (-1), .int 0, .int 0, .int 0, .int 0, .int 0, .int 0, .int (-1), .int 0, .int 0, .int 0])), (ll_10, .inr (1, [.int 0, .ref ed, .int 0])), (lt_10, .inr (1, [.int 0, .ref ed, .int 0])), (rm_5, .inr (5, [.ref lk_5, .ref th_5, .ref pl_5, .ref gm_5, .int 0, .int 0, .int 1, .int (-1), .int 1, .int 0, .int 0, .int 0])), (p0_5, .inr (4, [.int 1, .int (-1), .int (-1), .int 0])), (q11, .inl (cA13, 1, .inr (.inl fo8_17)))]) (w1 := [(q6, .inr (10, [.int 0, .ref mr_10, .int 1, .long 0])), (lp_10, .inr (1, [.int 1, .ref oa_20, .int 1])), (oa_20, .inl (cO_20, 10, .inr (.inr (.inr (.inr fo_20))))), (e1_20, .inl (cE_20, 4, .inl fe_20))]) hP hD [7, 11] [0, 1, 2, 3, 4, 5, 6, 8, 9, 10, 12, 13, 14] rfl rfl (by decide) (by decide) hk1 hFc hP1 hD1
  have hP : va_P (dC, dI) vwCl [(q1, .inr (8, [.ref rm_5, .ref tr_5, .ref st_5])), (pl_5, .inl (cP_5, 6, .inr (.inr (.inr (.inr fp_5))))), (gm_5, .inr (2, [.int 0, .int 0, .int 0, .int 0, .int 0, .int (-1), .long 0])), (tr_5, .inr (5, [.ref tlk_5, .ref tth_5, .ref tpl_5, .ref tgm_5, .int 0, .int 0, .int 0, .int (-1), .int 1, .int 0, .int 0, .int 0])), (tpl_5, .inl (tcP_5, 6, .inr (.inr (.inr (.inr tfp_5))))), (tgm_5, .inr (2, [.int 0, .int 0, .int 0, .int 0, .int 0, .int (-1), .long 0])), (tp0_5, .inr (4, [.int 0, .int 0, .int 0, .int 0])), (mr_10, .inr (9, [.ref ll_10, .ref lt_10, .ref lp_10, .int (-1), .int 0, .int 0, .int 0, .int 0, .int 0, .int 0, .int (-1), .int 0, .int 0, .int 0])), (ll_10, .inr (1, [.int 0, .ref ed, .int 0])), (lt_10, .inr (1, [.int 0, .ref ed, .int 0])), (rm_5, .inr (5, [.ref lk_5, .ref th_5, .ref pl_5, .ref gm_5, .int 0, .int 0, .int 1, .int (-1), .int 1, .int 0, .int 0, .int 0])), (p0_5, .inr (4, [.int 1, .int (-1), .int (-1), .int 0])), (q11, .inl (cA13, 1, .inr (.inl fo8_17))), (q6, .inr (10, [.int 0, .ref mr_10, .int 1, .long 0])), (lp_10, .inr (1, [.int 1, .ref oa_20, .int 1])), (oa_20, .inl (cO_20, 10, .inr (.inr (.inr (.inr fo_20))))), (e1_20, .inl (cE_20, 4, .inl fe_20))] H18 := hP
  have hD : va_D A [(q1, .inr (8, [.ref rm_5, .ref tr_5, .ref st_5])), (pl_5, .inl (cP_5, 6, .inr (.inr (.inr (.inr fp_5))))), (gm_5, .inr (2, [.int 0, .int 0, .int 0, .int 0, .int 0, .int (-1), .long 0])), (tr_5, .inr (5, [.ref tlk_5, .ref tth_5, .ref tpl_5, .ref tgm_5, .int 0, .int 0, .int 0, .int (-1), .int 1, .int 0, .int 0, .int 0])), (tpl_5, .inl (tcP_5, 6, .inr (.inr (.inr (.inr tfp_5))))), (tgm_5, .inr (2, [.int 0, .int 0, .int 0, .int 0, .int 0, .int (-1), .long 0])), (tp0_5, .inr (4, [.int 0, .int 0, .int 0, .int 0])), (mr_10, .inr (9, [.ref ll_10, .ref lt_10, .ref lp_10, .int (-1), .int 0, .int 0, .int 0, .int 0, .int 0, .int 0, .int (-1), .int 0, .int 0, .int 0])), (ll_10, .inr (1, [.int 0, .ref ed, .int 0])), (lt_10, .inr (1, [.int 0, .ref ed, .int 0])), (rm_5, .inr (5, [.ref lk_5, .ref th_5, .ref pl_5, .ref gm_5, .int 0, .int 0, .int 1, .int (-1), .int 1, .int 0, .int 0, .int 0])), (p0_5, .inr (4, [.int 1, .int (-1), .int (-1), .int 0])), (q11, .inl (cA13, 1, .inr (.inl fo8_17))), (q6, .inr (10, [.int 0, .ref mr_10, .int 1, .long 0])), (lp_10, .inr (1, [.int 1, .ref oa_20, .int 1])), (oa_20, .inl (cO_20, 10, .inr (.inr (.inr (.inr fo_20))))), (e1_20, .inl (cE_20, 4, .inl fe_20))] := hD
  have hK := hK.app (va_K.moved hvm.symm hK1)
  have hK : va_K (dC, dI) vwCl [(cP_5, .object "LockRooms$Player"), (tcP_5, .object "LockRooms$Player"), (cA13, .long), (cO_20, .object "java/lang/Object"), (cE_20, .int)] s := hK
  refine lv_istore (lv' := [(6, .int 0), (5, .int 0), (4, .int 0), (3, .ref q11), (2, .ref q6), (1, .ref q1), (0, .ref b)]) hx hb dL_law_335 hl (by decide) rfl (fun ls hl => ?_)
  refine lv_goto (tgt := 904) hx hb dL_law_337 (by decide) ?_
  refine lv_iinc (v := 6) (lv' := [(4, .int 6), (6, .int 0), (5, .int 0), (3, .ref q11), (2, .ref q6), (1, .ref q1), (0, .ref b)]) hx hb dL_law_904 hl (k := 2) rfl (by decide) (by decide) rfl (fun ls hl => ?_)
  refine lv_goto (tgt := 23) hx hb dL_law_907 (by decide) ?_
  refine lv_iload hx hb dL_law_23 (lv_at hl 0 rfl) ?_
  refine lv_aload_n hx hb dL_law_25 rfl (lv_at hl 6 rfl) ?_
  refine va_slen hx hb hX hbl hbA hS dL_law_26 ?_
  refine zo_i (v := 3072) (by decide) ?_
  refine lv_bipush (v := 6) hx hb dL_law_27 (by decide) ?_
  refine lv_isub hx hb dL_law_29 ?_
  refine zo_i (v := 3066) (by decide) ?_
  refine lv_icmp_gt (tgt := 910) hx hb dL_law_30 (by decide) (fun h => absurd h (by decide)) (fun _ => ?_)
  refine lv_aload_n hx hb dL_law_33 rfl (lv_at hl 6 rfl) ?_
  refine lv_iload hx hb dL_law_34 (lv_at hl 0 rfl) ?_
  refine va_sld hx hb hX hbl hbA hS (by unfold vp_in; decide) dL_law_36 ?_
  refine zo_i (v := 3) (by decide +kernel) ?_
  refine lv_bipush (v := 31) hx hb dL_law_37 (by decide) ?_
  refine lv_iand hx hb dL_law_39 ?_
  refine zo_i (v := 3) (by decide) ?_
  refine lv_tableIn (off := 300) (tgt := 340) hx hb dL_law_40 (by decide) (by decide) rfl (by decide) ?_
  refine lv_aload_n hx hb dL_law_340 rfl (lv_at hl 5 rfl) ?_
  refine lv_aload_n hx hb dL_law_341 rfl (lv_at hl 3 rfl) ?_
  have hPr := (hP).sub (ws' := [(q1, .inr (8, [.ref rm_5, .ref tr_5, .ref st_5]))]) [0] rfl
  have hPc := hP.sub (ws' := [(rm_5, .inr (5, [.ref lk_5, .ref th_5, .ref pl_5, .ref gm_5, .int 0, .int 0, .int 1, .int (-1), .int 1, .int 0, .int 0, .int 0])), (gm_5, .inr (2, [.int 0, .int 0, .int 0, .int 0, .int 0, .int (-1), .long 0])), (q11, .inl (cA13, 1, .inr (.inl fo8_17)))]) [10, 2, 12] rfl
  have hDc := hD.sub (ws' := [(rm_5, .inr (5, [.ref lk_5, .ref th_5, .ref pl_5, .ref gm_5, .int 0, .int 0, .int 1, .int (-1), .int 1, .int 0, .int 0, .int 0])), (gm_5, .inr (2, [.int 0, .int 0, .int 0, .int 0, .int 0, .int (-1), .long 0])), (q11, .inl (cA13, 1, .inr (.inl fo8_17)))]) [10, 2, 12] (by decide) rfl
  have hKc := hK.sub (tys' := [(cA13, .long)]) [2] rfl
  have hFc := va_free (wc := [(rm_5, .inr (5, [.ref lk_5, .ref th_5, .ref pl_5, .ref gm_5, .int 0, .int 0, .int 1, .int (-1), .int 1, .int 0, .int 0, .int 0])), (gm_5, .inr (2, [.int 0, .int 0, .int 0, .int 0, .int 0, .int (-1), .long 0])), (q11, .inl (cA13, 1, .inr (.inl fo8_17)))]) hD hS hA [10, 2, 12] rfl
  refine vx_calli (vx_runSX (As := [.ref q1, .ref q11]) (rest := []) ⟨hx, hb, hml, hown, hts⟩ (cz_RL_begin l dC dI ed H18.size q1 rm_5 tr_5 st_5 lk_5 th_5 pl_5 gm_5 q11 cA13 fo8_17 htr) (vx_cwSW 2 hts zgL_L_begin rfl rfl rfl (by decide +kernel) ⟨Nat.le_of_ble_eq_true rfl, Nat.le_of_ble_eq_true rfl⟩) ⟨zb_blind, fun U hU hW => ⟨rfl, zb_mk hU hW hPr hPc hKc hDc hN hH hS hFc (zx_cons (zx_o hD 0 [10, 2, 12] rfl rfl (by decide)) zx_nil)⟩⟩ rfl rfl hl.1 rfl (lv_room (Nat.le_of_ble_eq_true rfl)) dL_law_342 ⟨Nat.le_of_ble_eq_true rfl, Nat.le_of_ble_eq_true rfl⟩) hS (fun q _ h => hFc q h) hFc (fun q _ h => hFc q h) (fun E ce q9 u t H21 locs ht hvm hpx hBX hz1 hk1 hS hce hcv hcl => hpx.elim) (fun r22 u t H21 locs ht hvm hw hB hz1 hk1 hS => ?_)
  obtain rfl : r22 = 0 := hw
  obtain ⟨fo8_23, k23_0, hP1, hD1, hK1⟩ := hB
  rw [ht] at hP1
  obtain ⟨hP, hD⟩ := va_join (wr := [(q1, .inr (8, [.ref rm_5, .ref tr_5, .ref st_5])), (pl_5, .inl (cP_5, 6, .inr (.inr (.inr (.inr fp_5))))), (tr_5, .inr (5, [.ref tlk_5, .ref tth_5, .ref tpl_5, .ref tgm_5, .int 0, .int 0, .int 0, .int (-1), .int 1, .int 0, .int 0, .int 0])), (tpl_5, .inl (tcP_5, 6, .inr (.inr (.inr (.inr tfp_5))))), (tgm_5, .inr (2, [.int 0, .int 0, .int 0, .int 0, .int 0, .int (-1), .long 0])), (tp0_5, .inr (4, [.int 0, .int 0, .int 0, .int 0])), (mr_10, .inr (9, [.ref ll_10, .ref lt_10, .ref lp_10, .int (-1), .int 0, .int 0, .int 0, .int 0, .int 0, .int 0, .int (-1), .int 0, .int 0, .int 0])), (ll_10, .inr (1, [.int 0, .ref ed, .int 0])), (lt_10, .inr (1, [.int 0, .ref ed, .int 0])), (p0_5, .inr (4, [.int 1, .int (-1), .int (-1), .int 0])), (q6, .inr (10, [.int 0, .ref mr_10, .int 1, .long 0])), (lp_10, .inr (1, [.int 1, .ref oa_20, .int 1])), (oa_20, .inl (cO_20, 10, .inr (.inr (.inr (.inr fo_20))))), (e1_20, .inl (cE_20, 4, .inl fe_20))]) (w1 := [(rm_5, .inr (5, [.ref lk_5, .ref th_5, .ref pl_5, .ref gm_5, .int 0, .int 0, .int 1, .int (-1), .int 1, .int 0, .int 18, .int 0])), (gm_5, .inr (2, [.int 1, .int 0, .int 0, .int 0, .int 0, .int (-1), .long 0])), (q11, .inl (cA13, 1, .inr (.inl fo8_23)))]) hP hD [10, 2, 12] [0, 1, 3, 4, 5, 6, 7, 8, 9, 11, 13, 14, 15, 16] rfl rfl (by decide) (by decide) hk1 hFc hP1 hD1
  have hP : va_P (dC, dI) vwCl [(q1, .inr (8, [.ref rm_5, .ref tr_5, .ref st_5])), (pl_5, .inl (cP_5, 6, .inr (.inr (.inr (.inr fp_5))))), (tr_5, .inr (5, [.ref tlk_5, .ref tth_5, .ref tpl_5, .ref tgm_5, .int 0, .int 0, .int 0, .int (-1), .int 1, .int 0, .int 0, .int 0])), (tpl_5, .inl (tcP_5, 6, .inr (.inr (.inr (.inr tfp_5))))), (tgm_5, .inr (2, [.int 0, .int 0, .int 0, .int 0, .int 0, .int (-1), .long 0])), (tp0_5, .inr (4, [.int 0, .int 0, .int 0, .int 0])), (mr_10, .inr (9, [.ref ll_10, .ref lt_10, .ref lp_10, .int (-1), .int 0, .int 0, .int 0, .int 0, .int 0, .int 0, .int (-1), .int 0, .int 0, .int 0])), (ll_10, .inr (1, [.int 0, .ref ed, .int 0])), (lt_10, .inr (1, [.int 0, .ref ed, .int 0])), (p0_5, .inr (4, [.int 1, .int (-1), .int (-1), .int 0])), (q6, .inr (10, [.int 0, .ref mr_10, .int 1, .long 0])), (lp_10, .inr (1, [.int 1, .ref oa_20, .int 1])), (oa_20, .inl (cO_20, 10, .inr (.inr (.inr (.inr fo_20))))), (e1_20, .inl (cE_20, 4, .inl fe_20)), (rm_5, .inr (5, [.ref lk_5, .ref th_5, .ref pl_5, .ref gm_5, .int 0, .int 0, .int 1, .int (-1), .int 1, .int 0, .int 18, .int 0])), (gm_5, .inr (2, [.int 1, .int 0, .int 0, .int 0, .int 0, .int (-1), .long 0])), (q11, .inl (cA13, 1, .inr (.inl fo8_23)))] H21 := hP
  have hD : va_D A [(q1, .inr (8, [.ref rm_5, .ref tr_5, .ref st_5])), (pl_5, .inl (cP_5, 6, .inr (.inr (.inr (.inr fp_5))))), (tr_5, .inr (5, [.ref tlk_5, .ref tth_5, .ref tpl_5, .ref tgm_5, .int 0, .int 0, .int 0, .int (-1), .int 1, .int 0, .int 0, .int 0])), (tpl_5, .inl (tcP_5, 6, .inr (.inr (.inr (.inr tfp_5))))), (tgm_5, .inr (2, [.int 0, .int 0, .int 0, .int 0, .int 0, .int (-1), .long 0])), (tp0_5, .inr (4, [.int 0, .int 0, .int 0, .int 0])), (mr_10, .inr (9, [.ref ll_10, .ref lt_10, .ref lp_10, .int (-1), .int 0, .int 0, .int 0, .int 0, .int 0, .int 0, .int (-1), .int 0, .int 0, .int 0])), (ll_10, .inr (1, [.int 0, .ref ed, .int 0])), (lt_10, .inr (1, [.int 0, .ref ed, .int 0])), (p0_5, .inr (4, [.int 1, .int (-1), .int (-1), .int 0])), (q6, .inr (10, [.int 0, .ref mr_10, .int 1, .long 0])), (lp_10, .inr (1, [.int 1, .ref oa_20, .int 1])), (oa_20, .inl (cO_20, 10, .inr (.inr (.inr (.inr fo_20))))), (e1_20, .inl (cE_20, 4, .inl fe_20)), (rm_5, .inr (5, [.ref lk_5, .ref th_5, .ref pl_5, .ref gm_5, .int 0, .int 0, .int 1, .int (-1), .int 1, .int 0, .int 18, .int 0])), (gm_5, .inr (2, [.int 1, .int 0, .int 0, .int 0, .int 0, .int (-1), .long 0])), (q11, .inl (cA13, 1, .inr (.inl fo8_23)))] := hD
  refine lv_istore (lv' := [(5, .int 0), (4, .int 6), (6, .int 0), (3, .ref q11), (2, .ref q6), (1, .ref q1), (0, .ref b)]) hx hb dL_law_345 hl (by decide) rfl (fun ls hl => ?_)
  refine lv_aload_n hx hb dL_law_347 rfl (lv_at hl 4 rfl) ?_
  have hPr := (hP).sub (ws' := [(lp_10, .inr (1, [.int 1, .ref oa_20, .int 1]))]) [11] rfl
  have hPc := hP.sub (ws' := [(q6, .inr (10, [.int 0, .ref mr_10, .int 1, .long 0])), (mr_10, .inr (9, [.ref ll_10, .ref lt_10, .ref lp_10, .int (-1), .int 0, .int 0, .int 0, .int 0, .int 0, .int 0, .int (-1), .int 0, .int 0, .int 0]))]) [10, 6] rfl
  have hDc := hD.sub (ws' := [(q6, .inr (10, [.int 0, .ref mr_10, .int 1, .long 0])), (mr_10, .inr (9, [.ref ll_10, .ref lt_10, .ref lp_10, .int (-1), .int 0, .int 0, .int 0, .int 0, .int 0, .int 0, .int (-1), .int 0, .int 0, .int 0]))]) [10, 6] (by decide) rfl
  have hKc := hK.sub (tys' := []) [] rfl
  have hFc := va_free (wc := [(q6, .inr (10, [.int 0, .ref mr_10, .int 1, .long 0])), (mr_10, .inr (9, [.ref ll_10, .ref lt_10, .ref lp_10, .int (-1), .int 0, .int 0, .int 0, .int 0, .int 0, .int 0, .int (-1), .int 0, .int 0, .int 0]))]) hD hS hA [10, 6] rfl
  refine va_calli (va_runV (As := []) (rest := []) ⟨hx, hb, hml, hown, hts⟩ (cz_RX8_begin l dC dI ed H21.size q6 mr_10 0 0 ll_10 lt_10 lp_10 oa_20) (cwV 0 hts zgL_X8_begin rfl rfl rfl (by decide +kernel) ⟨Nat.le_of_ble_eq_true rfl, Nat.le_of_ble_eq_true rfl⟩) ⟨zb_blind, va_recv hK hP (ci := 10) (q0 := 10) rfl rfl, fun U hU hW => ⟨rfl, zb_mk hU hW hPr hPc hKc hDc hN hH hS hFc (zx_cons (zx_o hD 11 [10, 6] rfl rfl (by decide)) zx_nil)⟩⟩ rfl rfl hl.1 rfl (lv_room (Nat.le_of_ble_eq_true rfl)) dL_law_348 ⟨Nat.le_of_ble_eq_true rfl, Nat.le_of_ble_eq_true rfl⟩) hS (fun q _ h => hFc q h) hFc (fun r25 u t H24 locs ht hvm hw hB hz1 hk1 hS => ?_)
  obtain rfl : r25 = 1 := hw
  obtain ⟨hP1, hD1, hK1⟩ := hB
  rw [ht] at hP1
  obtain ⟨hP, hD⟩ := va_join (wr := [(q1, .inr (8, [.ref rm_5, .ref tr_5, .ref st_5])), (pl_5, .inl (cP_5, 6, .inr (.inr (.inr (.inr fp_5))))), (tr_5, .inr (5, [.ref tlk_5, .ref tth_5, .ref tpl_5, .ref tgm_5, .int 0, .int 0, .int 0, .int (-1), .int 1, .int 0, .int 0, .int 0])), (tpl_5, .inl (tcP_5, 6, .inr (.inr (.inr (.inr tfp_5))))), (tgm_5, .inr (2, [.int 0, .int 0, .int 0, .int 0, .int 0, .int (-1), .long 0])), (tp0_5, .inr (4, [.int 0, .int 0, .int 0, .int 0])), (ll_10, .inr (1, [.int 0, .ref ed, .int 0])), (lt_10, .inr (1, [.int 0, .ref ed, .int 0])), (p0_5, .inr (4, [.int 1, .int (-1), .int (-1), .int 0])), (lp_10, .inr (1, [.int 1, .ref oa_20, .int 1])), (oa_20, .inl (cO_20, 10, .inr (.inr (.inr (.inr fo_20))))), (e1_20, .inl (cE_20, 4, .inl fe_20)), (rm_5, .inr (5, [.ref lk_5, .ref th_5, .ref pl_5, .ref gm_5, .int 0, .int 0, .int 1, .int (-1), .int 1, .int 0, .int 18, .int 0])), (gm_5, .inr (2, [.int 1, .int 0, .int 0, .int 0, .int 0, .int (-1), .long 0])), (q11, .inl (cA13, 1, .inr (.inl fo8_23)))]) (w1 := [(q6, .inr (10, [.int 0, .ref mr_10, .int 1, .long 0])), (mr_10, .inr (9, [.ref ll_10, .ref lt_10, .ref lp_10, .int (-1), .int 0, .int 1, .int 0, .int 0, .int 0, .int 0, .int (-1), .int 18, .int 0, .int 0]))]) hP hD [10, 6] [0, 1, 2, 3, 4, 5, 7, 8, 9, 11, 12, 13, 14, 15, 16] rfl rfl (by decide) (by decide) hk1 hFc hP1 hD1
  have hP : va_P (dC, dI) vwCl [(q1, .inr (8, [.ref rm_5, .ref tr_5, .ref st_5])), (pl_5, .inl (cP_5, 6, .inr (.inr (.inr (.inr fp_5))))), (tr_5, .inr (5, [.ref tlk_5, .ref tth_5, .ref tpl_5, .ref tgm_5, .int 0, .int 0, .int 0, .int (-1), .int 1, .int 0, .int 0, .int 0])), (tpl_5, .inl (tcP_5, 6, .inr (.inr (.inr (.inr tfp_5))))), (tgm_5, .inr (2, [.int 0, .int 0, .int 0, .int 0, .int 0, .int (-1), .long 0])), (tp0_5, .inr (4, [.int 0, .int 0, .int 0, .int 0])), (ll_10, .inr (1, [.int 0, .ref ed, .int 0])), (lt_10, .inr (1, [.int 0, .ref ed, .int 0])), (p0_5, .inr (4, [.int 1, .int (-1), .int (-1), .int 0])), (lp_10, .inr (1, [.int 1, .ref oa_20, .int 1])), (oa_20, .inl (cO_20, 10, .inr (.inr (.inr (.inr fo_20))))), (e1_20, .inl (cE_20, 4, .inl fe_20)), (rm_5, .inr (5, [.ref lk_5, .ref th_5, .ref pl_5, .ref gm_5, .int 0, .int 0, .int 1, .int (-1), .int 1, .int 0, .int 18, .int 0])), (gm_5, .inr (2, [.int 1, .int 0, .int 0, .int 0, .int 0, .int (-1), .long 0])), (q11, .inl (cA13, 1, .inr (.inl fo8_23))), (q6, .inr (10, [.int 0, .ref mr_10, .int 1, .long 0])), (mr_10, .inr (9, [.ref ll_10, .ref lt_10, .ref lp_10, .int (-1), .int 0, .int 1, .int 0, .int 0, .int 0, .int 0, .int (-1), .int 18, .int 0, .int 0]))] H24 := hP
  have hD : va_D A [(q1, .inr (8, [.ref rm_5, .ref tr_5, .ref st_5])), (pl_5, .inl (cP_5, 6, .inr (.inr (.inr (.inr fp_5))))), (tr_5, .inr (5, [.ref tlk_5, .ref tth_5, .ref tpl_5, .ref tgm_5, .int 0, .int 0, .int 0, .int (-1), .int 1, .int 0, .int 0, .int 0])), (tpl_5, .inl (tcP_5, 6, .inr (.inr (.inr (.inr tfp_5))))), (tgm_5, .inr (2, [.int 0, .int 0, .int 0, .int 0, .int 0, .int (-1), .long 0])), (tp0_5, .inr (4, [.int 0, .int 0, .int 0, .int 0])), (ll_10, .inr (1, [.int 0, .ref ed, .int 0])), (lt_10, .inr (1, [.int 0, .ref ed, .int 0])), (p0_5, .inr (4, [.int 1, .int (-1), .int (-1), .int 0])), (lp_10, .inr (1, [.int 1, .ref oa_20, .int 1])), (oa_20, .inl (cO_20, 10, .inr (.inr (.inr (.inr fo_20))))), (e1_20, .inl (cE_20, 4, .inl fe_20)), (rm_5, .inr (5, [.ref lk_5, .ref th_5, .ref pl_5, .ref gm_5, .int 0, .int 0, .int 1, .int (-1), .int 1, .int 0, .int 18, .int 0])), (gm_5, .inr (2, [.int 1, .int 0, .int 0, .int 0, .int 0, .int (-1), .long 0])), (q11, .inl (cA13, 1, .inr (.inl fo8_23))), (q6, .inr (10, [.int 0, .ref mr_10, .int 1, .long 0])), (mr_10, .inr (9, [.ref ll_10, .ref lt_10, .ref lp_10, .int (-1), .int 0, .int 1, .int 0, .int 0, .int 0, .int 0, .int (-1), .int 18, .int 0, .int 0]))] := hD
  refine lv_istore (lv' := [(6, .int 1), (5, .int 0), (4, .int 6), (3, .ref q11), (2, .ref q6), (1, .ref q1), (0, .ref b)]) hx hb dL_law_351 hl (by decide) rfl (fun ls hl => ?_)
  refine lv_goto (tgt := 904) hx hb dL_law_353 (by decide) ?_
  refine lv_iinc (v := 12) (lv' := [(4, .int 12), (6, .int 1), (5, .int 0), (3, .ref q11), (2, .ref q6), (1, .ref q1), (0, .ref b)]) hx hb dL_law_904 hl (k := 2) rfl (by decide) (by decide) rfl (fun ls hl => ?_)
  refine lv_goto (tgt := 23) hx hb dL_law_907 (by decide) ?_
  have hK := hK.sub (tys' := [(cP_5, .object "LockRooms$Player"), (tcP_5, .object "LockRooms$Player"), (cO_20, .object "java/lang/Object"), (cE_20, .int), (cA13, .long)]) [0, 1, 3, 4, 2] rfl
  have hP := hP.sub (ws' := [(q1, .inr (8, [.ref rm_5, .ref tr_5, .ref st_5])), (rm_5, .inr (5, [.ref lk_5, .ref th_5, .ref pl_5, .ref gm_5, .int 0, .int 0, .int 1, .int (-1), .int 1, .int 0, .int 18, .int 0])), (gm_5, .inr (2, [.int 1, .int 0, .int 0, .int 0, .int 0, .int (-1), .long 0])), (p0_5, .inr (4, [.int 1, .int (-1), .int (-1), .int 0])), (pl_5, .inl (cP_5, 6, .inr (.inr (.inr (.inr fp_5))))), (tpl_5, .inl (tcP_5, 6, .inr (.inr (.inr (.inr tfp_5))))), (tr_5, .inr (5, [.ref tlk_5, .ref tth_5, .ref tpl_5, .ref tgm_5, .int 0, .int 0, .int 0, .int (-1), .int 1, .int 0, .int 0, .int 0])), (tgm_5, .inr (2, [.int 0, .int 0, .int 0, .int 0, .int 0, .int (-1), .long 0])), (tp0_5, .inr (4, [.int 0, .int 0, .int 0, .int 0])), (q6, .inr (10, [.int 0, .ref mr_10, .int 1, .long 0])), (mr_10, .inr (9, [.ref ll_10, .ref lt_10, .ref lp_10, .int (-1), .int 0, .int 1, .int 0, .int 0, .int 0, .int 0, .int (-1), .int 18, .int 0, .int 0])), (ll_10, .inr (1, [.int 0, .ref ed, .int 0])), (lt_10, .inr (1, [.int 0, .ref ed, .int 0])), (lp_10, .inr (1, [.int 1, .ref oa_20, .int 1])), (oa_20, .inl (cO_20, 10, .inr (.inr (.inr (.inr fo_20))))), (e1_20, .inl (cE_20, 4, .inl fe_20)), (q11, .inl (cA13, 1, .inr (.inl fo8_23)))]) [0, 12, 13, 8, 1, 3, 2, 4, 5, 15, 16, 6, 7, 9, 10, 11, 14] rfl
  have hD := hD.sub (ws' := [(q1, .inr (8, [.ref rm_5, .ref tr_5, .ref st_5])), (rm_5, .inr (5, [.ref lk_5, .ref th_5, .ref pl_5, .ref gm_5, .int 0, .int 0, .int 1, .int (-1), .int 1, .int 0, .int 18, .int 0])), (gm_5, .inr (2, [.int 1, .int 0, .int 0, .int 0, .int 0, .int (-1), .long 0])), (p0_5, .inr (4, [.int 1, .int (-1), .int (-1), .int 0])), (pl_5, .inl (cP_5, 6, .inr (.inr (.inr (.inr fp_5))))), (tpl_5, .inl (tcP_5, 6, .inr (.inr (.inr (.inr tfp_5))))), (tr_5, .inr (5, [.ref tlk_5, .ref tth_5, .ref tpl_5, .ref tgm_5, .int 0, .int 0, .int 0, .int (-1), .int 1, .int 0, .int 0, .int 0])), (tgm_5, .inr (2, [.int 0, .int 0, .int 0, .int 0, .int 0, .int (-1), .long 0])), (tp0_5, .inr (4, [.int 0, .int 0, .int 0, .int 0])), (q6, .inr (10, [.int 0, .ref mr_10, .int 1, .long 0])), (mr_10, .inr (9, [.ref ll_10, .ref lt_10, .ref lp_10, .int (-1), .int 0, .int 1, .int 0, .int 0, .int 0, .int 0, .int (-1), .int 18, .int 0, .int 0])), (ll_10, .inr (1, [.int 0, .ref ed, .int 0])), (lt_10, .inr (1, [.int 0, .ref ed, .int 0])), (lp_10, .inr (1, [.int 1, .ref oa_20, .int 1])), (oa_20, .inl (cO_20, 10, .inr (.inr (.inr (.inr fo_20))))), (e1_20, .inl (cE_20, 4, .inl fe_20)), (q11, .inl (cA13, 1, .inr (.inl fo8_23)))]) [0, 12, 13, 8, 1, 3, 2, 4, 5, 15, 16, 6, 7, 9, 10, 11, 14] (by decide) rfl
  refine W.widen (k := 79) (n := 3582) (Nat.le_of_ble_eq_true rfl) (Nat.le_of_ble_eq_true rfl) ?_
  exact zr_loop hx hb hr hlocks hml hown htr hts hX hbl hA hbA hN hH hK k5_0 k5_1 k20_0 k20_1 k20_2 k20_3 k20_4 510 0 0 0 0 (-1) 1 0 0 0 0 0 0 0 0 (-1) 0 0 0 0 0 _ _ _ 79 3582 0 rfl (fun _ => trivial) hP hD hS (lv_sub hl [0, 3, 4, 5, 6] rfl) hS.1 (Nat.le_of_ble_eq_true rfl) (Nat.le_of_ble_eq_true rfl) (Nat.le_of_ble_eq_true rfl)
def zP (b : Addr) (args : Array Value) (s : State) : Prop := args = #[.ref b] ∧ va_X b 3072 zxs s s.heap ∧ b < s.heap.size ∧ (Jvm.Cond.and given_1 narrow_1).before args s = true
set_option maxHeartbeats 4000000 in
theorem zr_walk (l : Launch) (hflags : l.flags = flags0) (b : Addr) : MetFree l x (headSpec (Jvm.Cond.code x code maxLocals ret :: tables_1) room_z) (zP b) (fun _ _ _ _ _ => True) (fun _ s _ t => s.heap.size + 65790 ≤ t.heap.size) := by
  refine MetFree.of_bodyS (code := code) (maxLocals := maxLocals) (ret := ret) (by decide) ?_ ?_
  · intro args s m h hn
    obtain ⟨meth, c, h1, h2, h3, h4, h5, h6, -, -⟩ := Cond.code_spec hn (atoms_spec (ws := Jvm.Cond.code x code maxLocals ret :: tables_1) h _ List.mem_cons_self)
    exact ⟨meth, c, h1, h2, h3, h4, h5, h6⟩
  · intro p e s m args below meth c s₁ B hml0 hP _
    obtain ⟨rfl, hX, hbl, hgv⟩ := hP
    have hown : s.vm.findClass R_law = some m.cls := findClass_of_methodNamed B.named
    have hts0 : ∀ c ∈ (Jvm.Cond.code x code maxLocals ret :: tables_1), c.before #[Value.ref b] s = true := atoms_spec (ws := Jvm.Cond.code x code maxLocals ret :: tables_1) B.pre
    have hts : ∀ w ∈ lw_tbl, w.before #[Value.ref b] s = true := k2_hts_sels lw_privs (fun w hw => hts0 w (List.mem_cons_of_mem _ hw)) lw_privs_ok
    have hml : c.maxLocals = 9 := B.maxLocals_eq (hts0 _ List.mem_cons_self)
    have X₀ : Stand p l e room_z s m #[Value.ref b] below meth c s₁ [] 0 0 := Stand.of_body B
    have hh0 : s₁.heap = s.heap := by rw [B.state]; rfl
    have K : W p l e room_z s m #[Value.ref b] below meth c s₁.heap [] 0 0 (zZ below (s.heap.size + 65790)) (entryFrame m ([Value.ref b] : List Value).toArray 9) := by
      rw [hh0]
      exact zr_start l hflags ⟨B.exec, B.bytes, B.returns, hml, hown, hts, hX, hbl, B.notSynchronized, hgv⟩
    obtain ⟨t, a1, o, b1, b2, b3⟩ := K s₁ rfl X₀
    exact ⟨t, o, a1, b1, b2, b3⟩
theorem zr_apart {t : State} {below : List Frame} {o : Outcome} (h : Ended t below o) (hw : Within t below) : False := by
  obtain ⟨above, h1, h2, h3⟩ := hw
  cases o with
  | threw a =>
    have h4 : t.frames = [.throwing a] ++ below := h
    rw [h1] at h4
    exact h3 a (List.append_cancel_right h4)
  | returned v =>
    have hlen : t.frames.length = below.length := by
      unfold Ended at h
      dsimp only at h
      split at h
      · obtain ⟨c, i, len, -, -, e⟩ := h
        rw [e]; rfl
      · rw [h]; rfl
      · rw [h]; rfl
      · rw [h.2]
    rw [h1, List.length_append] at hlen
    cases above with
    | nil => exact h2 rfl
    | cons a r => rw [List.length_cons] at hlen; omega
/-- from any start that the Statement allows, with that script and a heap that holds the whole run, the claim fails: it grants too few cells -/
theorem zz_core {p : Program} {e : Env} {s : State} {m : MethodId} {below : List Frame} {b : Addr} (hlists : ListsClaimed_1) (ha : launch0.admits e) (hc : FairCas e.choices) (hk : FairClock e.choices)
    (hf : s.frames = Frame.invoking m #[.ref b] :: below) (hfit : argsFit s.vm m #[.ref b] = true) (hheap : heapFits s = true) (happ : (headSpec (Jvm.Cond.code x code maxLocals ret :: tables_1) room_1).applies x e.platform s = true)
    (happz : (headSpec (Jvm.Cond.code x code maxLocals ret :: tables_1) room_z).applies x e.platform s = true)
    (hrest : rest_1 p.tables e #[.ref b] s) (hpre : Pre_1 p.tables e #[.ref b] s) (hX : va_X b 3072 zxs s s.heap) (hbl : b < s.heap.size) (hgv : (Jvm.Cond.and given_1 narrow_1).before #[.ref b] s = true) : ¬ Claimed_1_1 := by
  intro h
  obtain ⟨n, o, hw, hr, he, hpost⟩ := h launch0 rfl hlists trivial p e ha hc hk s m _ below hf hfit hheap happ ⟨trivial, hrest, hpre⟩
  obtain ⟨n2, o2, hw2, hr2, he2, hq⟩ := zr_walk launch0 rfl b p e ha hc hk s m _ below hf ((Spec.applies_iff_loose hf).mp happz).1 ⟨rfl, hX, hbl, hgv⟩ trivial
  have hn : n = n2 := by
    rcases Nat.lt_trichotomy n n2 with h1 | h1 | h1
    · exact (zr_apart he (hw2 n h1)).elim
    · exact h1
    · exact (zr_apart he2 (hw n2 h1)).elim
  subst hn
  obtain ⟨-, hbd⟩ := hpost
  have hfr := hbd.1
  have hsz := hfr.2.2.2.2.1
  have hsz2 : (stepsAlone p.tables e n s).heap.size ≤ s.heap.size + _ := hsz
  omega

/-! Words of this claim's own: the links between nest mates, a contract's start, how a world is carried over a call. -/
def zNF : List (String × Nat × String × String × String × String) := [("java/util/ArrayList$Itr", 28, "java/util/ArrayList", "size", "I", "java/util/ArrayList"), ("LockRoomsModel", 24, "LockRoomsModel$Room", "locks", "Ljava/util/ArrayList;", "LockRoomsModel"), ("LockRoomsModel", 38, "LockRoomsModel$Room", "things", "Ljava/util/ArrayList;", "LockRoomsModel"), ("LockRoomsModel", 59, "LockRoomsModel$Room", "players", "Ljava/util/ArrayList;", "LockRoomsModel"), ("LockRoomsModel", 52, "LockRoomsModel$Room", "exit", "I", "LockRoomsModel"), ("LockRoomsModel", 78, "LockRoomsModel$Room", "now", "I", "LockRoomsModel"), ("LockRoomsModel", 45, "LockRoomsModel$Room", "isRunning", "Z", "LockRoomsModel"), ("LockRoomsModel", 69, "LockRoomsModel$Room", "time", "I", "LockRoomsModel"), ("LockRoomsModel", 72, "LockRoomsModel$Room", "hints", "I", "LockRoomsModel"), ("LockRoomsModel", 122, "LockRoomsModel$Room", "solved", "I", "LockRoomsModel"), ("LockRoomsModel", 125, "LockRoomsModel$Room", "lost", "I", "LockRoomsModel"), ("LockRoomsModel", 128, "LockRoomsModel$Room", "record", "I", "LockRoomsModel"), ("LockRoomsModel", 75, "LockRoomsModel$Room", "coins", "I", "LockRoomsModel"), ("LockRoomsModel", 137, "LockRoomsModel$Room", "idled", "I", "LockRoomsModel"), ("LockRoomsModel", 143, "LockRoomsModel$Room", "scores", "I", "LockRoomsModel")]
def zNM : List (String × Nat × MethodName × String) := [("LockRooms$Room", 31, yX0_init, "LockRooms"), ("LockRooms$Room", 44, yX1_init, "LockRooms"), ("LockRooms$Room", 45, yX5_init, "LockRooms"), ("LockRooms$Room", 46, yX2_init, "LockRooms"), ("LockRooms", 21, yX4_init, "LockRooms"), ("LockRooms$Room", 111, yX6_isIn, "LockRooms"), ("LockRooms$Stands", 54, yX6_isIn, "LockRooms"), ("LockRooms$Stands", 30, yX6_oneIf, "LockRooms"), ("LockRooms$Room", 147, yX6_oneIf, "LockRooms"), ("LockRoomsModel", 9, yX7_init, "LockRoomsModel")]
def zAO : List String := ["LockRooms$Lock", "LockRooms$Player", "LockRooms$Thing", "java/lang/Object"]
def zSL : List (String × Nat × String) := [("LockRooms", 32, "no lock needs, keeps or is as hard as that"), ("LockRooms", 53, "there are 10 locks, or a game runs"), ("LockRooms", 66, "there is no such lock"), ("LockRooms", 69, "hid is not 0 to 9"), ("LockRooms", 74, "there are 12 things, or a game runs"), ("LockRooms", 80, "the skill is not 1 to 9"), ("LockRooms", 85, "there are 6 players, or a game runs"), ("LockRooms", 95, "a game runs, there are no players, or the exit is open"), ("LockRooms", 100, "minutes is not 1 to 90"), ("LockRooms", 105, "that would be later than minute 9999"), ("LockRooms", 126, "no game runs, the lock is not ready, or it has 3 hints"), ("LockRooms", 135, "no game runs"), ("LockRooms", 146, "there is no such thing"), ("LockRooms", 157, "the thing is not found"), ("LockRooms", 164, "the thing is not stolen"), ("LockRooms", 175, "the lock is broken"), ("LockRooms", 180, "the lock is not broken"), ("LockRooms", 194, "a game runs, the thing is neither found nor kept, or it is too late"), ("LockRooms", 202, "a game runs, the lock is not open, has no power, or it is too late"), ("LockRooms", 207, "what is not 0 to 9"), ("LockRooms", 212, "what is not 0 to 5"), ("LockRooms", 220, "there is no such player"), ("LockRooms", 222, "what is not 0 to 3"), ("LockRooms", 227, "what is not 0 to 18")]
def zDL : List MethodName := [Bundle.initS "java/lang/RuntimeException", Bundle.initS "java/lang/Exception", Bundle.initS Bundle.tN]
def zCL : List (String × String) := [("java/lang/IllegalArgumentException", "java/lang/IllegalArgumentException"), ("java/lang/IllegalStateException", "java/lang/IllegalStateException"), ("java/lang/IndexOutOfBoundsException", "java/lang/IndexOutOfBoundsException"), ("[I", "java/lang/Object"), ("[I", "java/lang/Cloneable")]
def zNC : List (String × String) := [("java/lang/IllegalArgumentException", "java/lang/IndexOutOfBoundsException")]
def zN (U : State) : Prop := (∀ q ∈ zNF, va_Nw (.fieldLinkNest q.1 q.2.1 q.2.2.1 q.2.2.2.1 q.2.2.2.2.1 q.2.2.2.2.2) U) ∧ (∀ q ∈ zNM, va_Nw (.methodLinkNest q.1 q.2.1 q.2.2.1 q.2.2.2) U) ∧ (∀ C ∈ zAO, va_AO C U) ∧ (∀ q ∈ zSL, ∃ a, vk_R q.1 q.2.1 q.2.2 a U) ∧ (∀ q ∈ zCL, va_Nw (.castable q.1 q.2) U) ∧ (∀ q ∈ zNC, va_Nc q.1 q.2 U) ∧ (∀ q ∈ zDL, va_Nw (.declares q) U) ∧ va_Fw RJx35411 ⟨"java/util/Iterator", "hasNext", "()Z"⟩ yJx35411_hasNext_aae02 U ∧ va_Fw RJx35411 ⟨"java/util/Iterator", "next", "()Ljava/lang/Object;"⟩ yJx35411_next_0502b U
theorem zN.moved {s U : State} (hW : s.WarmedH U.vm) (h : zN s) : zN U := ⟨fun q hq => va_Nw.warmF hW (h.1 q hq), fun q hq => va_Nw.warmM hW (h.2.1 q hq), fun C hC => va_AO.moved hW.alike (h.2.2.1 C hC), fun q hq => (h.2.2.2.1 q hq).elim (fun a z => ⟨a, vk_R.warm hW z⟩), fun q hq => va_Nw.warmC hW (h.2.2.2.2.1 q hq), fun q hq => va_Nc.moved hW.alike (h.2.2.2.2.2.1 q hq), fun q hq => va_Nw.warmD hW (h.2.2.2.2.2.2.1 q hq), va_Fw.moved (by decide) hW.alike h.2.2.2.2.2.2.2.1, va_Fw.moved (by decide) hW.alike h.2.2.2.2.2.2.2.2⟩
theorem zN.same {u U : State} (hvm : u.vm = U.vm) (h : zN u) : zN U := ⟨fun q hq => va_Nw.same rfl hvm (h.1 q hq), fun q hq => va_Nw.same rfl hvm (h.2.1 q hq), fun C hC => va_AO.moved (by rw [hvm]; exact Vm.Alike.refl _) (h.2.2.1 C hC), fun q hq => (h.2.2.2.1 q hq).elim (fun a z => ⟨a, vk_R.same hvm.symm z⟩), fun q hq => va_Nw.same rfl hvm (h.2.2.2.2.1 q hq), fun q hq => va_Nc.moved (by rw [hvm]; exact Vm.Alike.refl _) (h.2.2.2.2.2.1 q hq), fun q hq => va_Nw.same rfl hvm (h.2.2.2.2.2.2.1 q hq), va_Fw.moved (by decide) (by rw [hvm]; exact Vm.Alike.refl _) h.2.2.2.2.2.2.2.1, va_Fw.moved (by decide) (by rw [hvm]; exact Vm.Alike.refl _) h.2.2.2.2.2.2.2.2⟩
/-- what of the JDK's own statics the walk needs: the two that a throw asks, the list's empty row -/
def zH (ed : Nat) (A : Nat → Prop) (U : State) (H : Heap) : Prop := vx_Zq Bundle.tN "UNASSIGNED_STACK" Bundle.steD A U H ∧ vx_Zq Bundle.tN "SUPPRESSED_SENTINEL" Bundle.listD A U H ∧ va_Z "java/util/ArrayList" "DEFAULTCAPACITY_EMPTY_ELEMENTDATA" "[Ljava/lang/Object;" (.ref ed) A U H ∧ va_T (.object "java/lang/Object") ed 0 (fun _ => .null) A U H
theorem zH.moved {ed : Nat} {A : Nat → Prop} {u U : State} {H : Heap} (hvm : u.vm.Alike U.vm) (h : zH ed A u H) : zH ed A U H := ⟨vx_Zq.moved hvm h.1, vx_Zq.moved hvm h.2.1, va_Z.moved hvm h.2.2.1, va_T.moved hvm h.2.2.2⟩
theorem zH.kept {ed : Nat} {A : Nat → Prop} {U : State} {H H1 : Heap} (h : zH ed A U H) (hq : ∀ a : Nat, a < H.size → ¬ A a → H1[a]? = H[a]?) : zH ed A U H1 := ⟨h.1.kept hq, h.2.1.kept hq, h.2.2.1.kept hq, h.2.2.2.kept hq⟩
theorem zH.narrow {ed : Nat} {A B : Nat → Prop} {U : State} {H : Heap} (h : zH ed A U H) (hAB : ∀ q, B q → A q) : zH ed B U H := ⟨h.1.narrow hAB, h.2.1.narrow hAB, h.2.2.1.narrow hAB, h.2.2.2.narrow hAB⟩
/-- none of the cells that a method only reads is one that it owns -/
def zX (wr wc : va_W) : Prop := ∀ p ∈ wr, ∀ q ∈ wc, p.1 ≠ q.1
theorem zx_nil {wc : va_W} : zX [] wc := fun _ h => absurd h List.not_mem_nil
theorem zx_e {wr : va_W} : zX wr [] := fun _ _ _ h => absurd h List.not_mem_nil
theorem zx_cons {p : Nat × va_E} {wr wc : va_W} (h : ∀ q ∈ wc, p.1 ≠ q.1) (t : zX wr wc) : zX (p :: wr) wc := fun z hz => (List.mem_cons.mp hz).elim (fun e => by rw [e]; exact h) (t z)
theorem zx_r {A : Nat → Prop} {p : Nat × va_E} {wc : va_W} (h : ¬ A p.1) (hD : va_D A wc) : ∀ q ∈ wc, p.1 ≠ q.1 := fun q hq e => by
  obtain ⟨k, hk⟩ := List.getElem?_of_mem hq
  exact h (by rw [e]; exact hD.2 k q hk)
theorem zx_o {A : Nat → Prop} {ws wc : va_W} (hD : va_D A ws) (k : Nat) (is : List Nat) {p : Nat × va_E} (hk : ws[k]? = some p) (hs : is.map (fun i => ws[i]?) = wc.map some) (hn : k ∉ is) : ∀ q ∈ wc, p.1 ≠ q.1 := fun q hq e => by
  obtain ⟨j, hj⟩ := List.getElem?_of_mem hq
  have h1 : (is.map (fun i => ws[i]?))[j]? = some (some q) := by rw [hs, List.getElem?_map, hj]; rfl
  rw [List.getElem?_map] at h1
  cases hi : is[j]? with
  | none => rw [hi] at h1; cases h1
  | some i =>
    rw [hi] at h1
    have := hD.1 k i p q hk (Option.some.inj h1) e
    subst this
    exact hn (List.mem_of_getElem? hi)
theorem zx_A {D : va_G} {cl : List vw_C} {wr wc : va_W} {H : Heap} (h : zX wr wc) (hP : va_P D cl wr H) : ∀ p ∈ wr, ¬ va_A wc H.size p.1 := fun p hp z => by
  obtain ⟨k, hk⟩ := List.getElem?_of_mem hp
  rcases z with ⟨j, e, hj⟩ | z
  · exact h p hp (p.1, e) (List.mem_of_getElem? hj) rfl
  · exact absurd z (Nat.not_le.mpr (hP k p hk).lt)
/-- a contract's start: the cells that it reads, the cells that it owns -/
def zB (dC : Nat → ClassId) (dI : Nat → Nat → Nat) (ed sz : Nat) (wr wc : va_W) (tys : List (ClassId × FieldType)) (U : State) : Prop :=
  U.heap.size = sz ∧ va_P (dC, dI) vwCl wr U.heap ∧ va_P (dC, dI) vwCl wc U.heap ∧ va_K (dC, dI) vwCl tys U ∧ va_D (fun _ => True) wc ∧ zN U ∧ zH ed (va_A wc sz) U U.heap ∧ zX wr wc
theorem zb_mk {dC : Nat → ClassId} {dI : Nat → Nat → Nat} {ed : Nat} {H : Heap} {wr wc : va_W} {tys : List (ClassId × FieldType)} {A A0 : Nat → Prop} {locs : List Loc} {s U : State} (hU : U.heap = H) (hW : s.WarmedH U.vm) (hR : va_P (dC, dI) vwCl wr H) (hP : va_P (dC, dI) vwCl wc H) (hK : va_K (dC, dI) vwCl tys s) (hD : va_D A wc) (hN : zN s) (hH : zH ed A0 s s.heap) (hS : va_S A0 s.heap H locs) (hF : ∀ q, va_A wc H.size q → A0 q) (hX : zX wr wc) : zB dC dI ed H.size wr wc tys U :=
  ⟨by rw [hU], by rw [hU]; exact hR, by rw [hU]; exact hP, va_K.moved hW.alike hK, hD.weaken (fun _ _ _ _ => trivial), hN.moved hW, by rw [hU]; exact zH.moved hW.alike ((hH.kept hS.2.1).narrow hF), hX⟩
theorem zb_blind {av : List Value} {dC : Nat → ClassId} {dI : Nat → Nat → Nat} {ed sz : Nat} {wr wc : va_W} {tys : List (ClassId × FieldType)} : FrameBlind (va_Pc av (zB dC dI ed sz wr wc tys)) := by
  intro a U g mk q
  obtain ⟨q0, q1, q2, q3, q4, q5, q6, q7, q8⟩ := q
  exact ⟨q0, q1, q2, q3, va_K.moved (u := U) (U := U.calling g mk a) (Vm.Alike.refl U.vm) q4, q5, q6.same rfl, zH.moved (u := U) (U := U.calling g mk a) (Vm.Alike.refl U.vm) q7, q8⟩
/-- cells that were there at a method's start, and that it doesn't own -/
theorem zo_R {D : va_G} {cl : List vw_C} {ws : va_W} {H0 H : Heap} {A : Nat → Prop} {locs : List Loc} (h : va_P D cl ws H0) (hS : va_S A H0 H locs) (hA : ∀ p ∈ ws, ¬ A p.1) : va_P D cl ws H :=
  fun k q hk => (h k q hk).kept (hS.2.1 q.1 (h k q hk).lt (hA q (List.mem_of_getElem? hk)))
/-- .. behind a call that owns none of them -/
theorem zo_K {D : va_G} {cl : List vw_C} {ws : va_W} {H H1 : Heap} (h : va_P D cl ws H) (hk : ∀ q : Nat, q < H.size → ¬ va_A [] H.size q → H1[q]? = H[q]?) : va_P D cl ws H1 :=
  fun k q hq => (h k q hq).kept (hk q.1 (h k q hq).lt (fun z => z.elim (fun ⟨_, _, z⟩ => by simp at z) (fun z => absurd z (Nat.not_le.mpr (h k q hq).lt))))
theorem zo_A0 {sz q : Nat} (h : va_A [] sz q) : sz ≤ q := h.elim (fun ⟨_, _, z⟩ => by simp at z) id
theorem zo_nil {D : va_G} {cl : List vw_C} {H : Heap} : va_P D cl [] H := fun k q h => by simp at h
theorem zo_cons {D : va_G} {cl : List vw_C} {ws : va_W} {q0 : Nat × va_E} {H : Heap} (h : va_at D cl q0 H) (hP : va_P D cl ws H) : va_P D cl (q0 :: ws) H := fun k q hq => by
  cases k with
  | zero => cases Option.some.inj hq; exact h
  | succ k => exact hP k q hq
theorem zb_nar {v : Int32} (h : v = 0 ∨ v = 1) : narrow .boolean (.int v) = .int v := by rcases h with rfl | rfl <;> decide
theorem zb_fit {v : Int32} (h : v = 0 ∨ v = 1) : fits .boolean (.int v) = true := by rcases h with rfl | rfl <;> decide
/-- the words of a throw that aren't good ones -/
def zTB (E : String) : List Cond := [.castable E E, .declares (Bundle.initS "java/lang/RuntimeException"), .declares (Bundle.initS "java/lang/Exception"), .declares (Bundle.initS Bundle.tN)]
theorem zt_B {E : String} {args : Array Value} {s : State} (hE : (E, E) ∈ zCL) (hN : zN s) : ∀ w ∈ zTB E, w.before args s = true :=
  vx_c (va_Nw.use rfl (hN.2.2.2.2.1 (E, E) hE)) (vx_c (va_Nw.use rfl (hN.2.2.2.2.2.2.1 _ (List.mem_of_getElem? (i := 0) rfl))) (vx_c (va_Nw.use rfl (hN.2.2.2.2.2.2.1 _ (List.mem_of_getElem? (i := 1) rfl))) (vx_c (va_Nw.use rfl (hN.2.2.2.2.2.2.1 _ (List.mem_of_getElem? (i := 2) rfl))) vx_n)))
/-- an int row may stand in a row of objects -/
theorem zo_anyI {D : va_G} {cl : List vw_C} {ws : va_W} {H : Heap} {tys : List (ClassId × FieldType)} {s : State} (hK : va_K D cl tys s) (hP : va_P D cl ws H) (q0 t0 : Nat) {v n : Nat} {cA : ClassId} {f : Nat → Int32} (ha : ws[q0]? = some (v, .inl (cA, n, .inl f))) (ht : tys[t0]? = some (cA, .int)) (hc : va_Nw (.castable "[I" "java/lang/Object") s) : va_Any "java/lang/Object" s H v := by
  have h0 : H[v]? = some (arrV cA n (fun j => .int (f j))) := hP q0 _ ha
  have h1 : s.vm.findClass "[I" = some cA := (hK.2 t0 _ ht).2
  obtain ⟨c3, c4, e3, e4, hasg⟩ := Cond.castable_spec (va_Nw.use (A := #[]) rfl hc)
  cases Option.some.inj (e3.symm.trans h1)
  obtain ⟨kC, hkC, -⟩ := Vm.findClass_spec h1
  exact ⟨_, h0, rfl, ⟨kC, hkC⟩, fun comp h => by cases Option.some.inj (e4.symm.trans h); exact hasg⟩
theorem zi_m1 (x : Int32) : ¬ (¬ x < 0 ∧ ¬ (-1) < x) := fun h => by
  have h1 := Int32.not_lt.mp h.1
  have h2 := Int32.not_lt.mp h.2
  exact absurd (Int32.le_trans h1 h2) (by decide)
theorem zi_ge {x y : Int32} (h : ¬ x < y) : y ≤ x := Int32.not_lt.mp h
section ZO
variable {p : Program} {l : Launch} {e : Env} {R : Room} {s : State} {m : MethodId} {args : Array Value} {below : List Frame} {meth : Method} {c : Code} {H : Heap} {locs : List Loc} {cells slots : Nat} {Q : State → Prop} {pc : Nat} {ls : Array Slot} {rest : List Value}
theorem zo_i {x v : Int32} (h : x = v) (k : W p l e R s m args below meth c H locs cells slots Q (F0 m pc ls (.int v :: rest))) : W p l e R s m args below meth c H locs cells slots Q (F0 m pc ls (.int x :: rest)) := by rw [h]; exact k
theorem zo_l {x v : Int64} (h : x = v) (k : W p l e R s m args below meth c H locs cells slots Q (F0 m pc ls (.long v :: rest))) : W p l e R s m args below meth c H locs cells slots Q (F0 m pc ls (.long x :: rest)) := by rw [h]; exact k
theorem zo_q {x v : Value} (h : x = v) (k : W p l e R s m args below meth c H locs cells slots Q (F0 m pc ls (v :: rest))) : W p l e R s m args below meth c H locs cells slots Q (F0 m pc ls (x :: rest)) := by rw [h]; exact k
end ZO

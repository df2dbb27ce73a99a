/-! Words of this claim's own: the links between nest mates, a contract's start, how a world is carried over a call. -/
def zNF : List (String × Nat × String × String × String × String) := [("java/util/ArrayList$Itr", 28, "java/util/ArrayList", "size", "I", "java/util/ArrayList"), ("LockRoomsModel", 24, "LockRoomsModel$Room", "locks", "Ljava/util/ArrayList;", "LockRoomsModel"), ("LockRoomsModel", 38, "LockRoomsModel$Room", "things", "Ljava/util/ArrayList;", "LockRoomsModel"), ("LockRoomsModel", 59, "LockRoomsModel$Room", "players", "Ljava/util/ArrayList;", "LockRoomsModel"), ("LockRoomsModel", 52, "LockRoomsModel$Room", "exit", "I", "LockRoomsModel"), ("LockRoomsModel", 78, "LockRoomsModel$Room", "now", "I", "LockRoomsModel"), ("LockRoomsModel", 45, "LockRoomsModel$Room", "isRunning", "Z", "LockRoomsModel"), ("LockRoomsModel", 69, "LockRoomsModel$Room", "time", "I", "LockRoomsModel"), ("LockRoomsModel", 72, "LockRoomsModel$Room", "hints", "I", "LockRoomsModel"), ("LockRoomsModel", 122, "LockRoomsModel$Room", "solved", "I", "LockRoomsModel"), ("LockRoomsModel", 125, "LockRoomsModel$Room", "lost", "I", "LockRoomsModel"), ("LockRoomsModel", 128, "LockRoomsModel$Room", "record", "I", "LockRoomsModel"), ("LockRoomsModel", 75, "LockRoomsModel$Room", "coins", "I", "LockRoomsModel"), ("LockRoomsModel", 137, "LockRoomsModel$Room", "idled", "I", "LockRoomsModel"), ("LockRoomsModel", 143, "LockRoomsModel$Room", "scores", "I", "LockRoomsModel")]
def zNM : List (String × Nat × MethodName × String) := [("LockRooms$Room", 31, yX0_init, "LockRooms"), ("LockRooms$Room", 44, yX1_init, "LockRooms"), ("LockRooms$Room", 45, yX5_init, "LockRooms"), ("LockRooms$Room", 46, yX2_init, "LockRooms"), ("LockRooms", 21, yX4_init, "LockRooms"), ("LockRooms$Room", 111, yX6_isIn, "LockRooms"), ("LockRooms$Stands", 54, yX6_isIn, "LockRooms"), ("LockRooms$Stands", 30, yX6_oneIf, "LockRooms"), ("LockRooms$Room", 147, yX6_oneIf, "LockRooms"), ("LockRoomsModel", 9, yX7_init, "LockRoomsModel")]
def zAO : List String := ["LockRooms$Lock", "LockRooms$Player", "LockRooms$Thing", "java/lang/Object"]
def zN (U : State) : Prop := (∀ q ∈ zNF, va_Nw (.fieldLinkNest q.1 q.2.1 q.2.2.1 q.2.2.2.1 q.2.2.2.2.1 q.2.2.2.2.2) U) ∧ (∀ q ∈ zNM, va_Nw (.methodLinkNest q.1 q.2.1 q.2.2.1 q.2.2.2) U) ∧ ∀ C ∈ zAO, va_AO C U
theorem zN.moved {s U : State} (hW : s.WarmedH U.vm) (h : zN s) : zN U := ⟨fun q hq => va_Nw.warmF hW (h.1 q hq), fun q hq => va_Nw.warmM hW (h.2.1 q hq), fun C hC => va_AO.moved hW.alike (h.2.2 C hC)⟩
theorem zN.same {u U : State} (hvm : u.vm = U.vm) (h : zN u) : zN U := ⟨fun q hq => va_Nw.same rfl hvm (h.1 q hq), fun q hq => va_Nw.same rfl hvm (h.2.1 q hq), fun C hC => va_AO.moved (by rw [hvm]; exact Vm.Alike.refl _) (h.2.2 C hC)⟩
/-- a contract's start: the cells that it reads, the cells that it owns -/
def zB (dC : Nat → ClassId) (dI : Nat → Nat → Nat) (sz : Nat) (wr wc : va_W) (tys : List (ClassId × FieldType)) (U : State) : Prop :=
  U.heap.size = sz ∧ va_P (dC, dI) vwCl wr U.heap ∧ va_P (dC, dI) vwCl wc U.heap ∧ va_K (dC, dI) vwCl tys U ∧ va_D (fun _ => True) wc ∧ zN U
theorem zb_mk {dC : Nat → ClassId} {dI : Nat → Nat → Nat} {H : Heap} {wr wc : va_W} {tys : List (ClassId × FieldType)} {A : Nat → Prop} {s U : State} (hU : U.heap = H) (hW : s.WarmedH U.vm) (hR : va_P (dC, dI) vwCl wr H) (hP : va_P (dC, dI) vwCl wc H) (hK : va_K (dC, dI) vwCl tys s) (hD : va_D A wc) (hN : zN s) : zB dC dI H.size wr wc tys U :=
  ⟨by rw [hU], by rw [hU]; exact hR, by rw [hU]; exact hP, va_K.moved hW.alike hK, hD.weaken (fun _ _ _ _ => trivial), hN.moved hW⟩
theorem zb_blind {av : List Value} {dC : Nat → ClassId} {dI : Nat → Nat → Nat} {sz : Nat} {wr wc : va_W} {tys : List (ClassId × FieldType)} : FrameBlind (va_Pc av (zB dC dI sz wr wc tys)) := by
  intro a U g mk q
  obtain ⟨q0, q1, q2, q3, q4, q5, q6⟩ := q
  exact ⟨q0, q1, q2, q3, va_K.moved (u := U) (U := U.calling g mk a) (Vm.Alike.refl U.vm) q4, q5, q6.same rfl⟩
/-- cells that were there at a method's start, and that it doesn't own -/
theorem zo_R {D : va_G} {cl : List vw_C} {ws : va_W} {H0 H : Heap} {A : Nat → Prop} {locs : List Loc} (h : va_P D cl ws H0) (hS : va_S A H0 H locs) (hA : ∀ q, A q → H0.size ≤ q) : va_P D cl ws H :=
  fun k q hk => (h k q hk).kept (hS.2.1 q.1 (h k q hk).lt (fun z => absurd (hA q.1 z) (Nat.not_le.mpr (h k q hk).lt)))
/-- .. behind a call that owns none of them -/
theorem zo_K {D : va_G} {cl : List vw_C} {ws : va_W} {H H1 : Heap} (h : va_P D cl ws H) (hk : ∀ q : Nat, q < H.size → ¬ va_A [] H.size q → H1[q]? = H[q]?) : va_P D cl ws H1 :=
  fun k q hq => (h k q hq).kept (hk q.1 (h k q hq).lt (fun z => z.elim (fun ⟨_, _, z⟩ => by simp at z) (fun z => absurd z (Nat.not_le.mpr (h k q hq).lt))))
theorem zo_A0 {sz q : Nat} (h : va_A [] sz q) : sz ≤ q := h.elim (fun ⟨_, _, z⟩ => by simp at z) id
theorem zo_nil {D : va_G} {cl : List vw_C} {H : Heap} : va_P D cl [] H := fun k q h => by simp at h
theorem zo_cons {D : va_G} {cl : List vw_C} {ws : va_W} {q0 : Nat × va_E} {H : Heap} (h : va_at D cl q0 H) (hP : va_P D cl ws H) : va_P D cl (q0 :: ws) H := fun k q hq => by
  cases k with
  | zero => cases Option.some.inj hq; exact h
  | succ k => exact hP k q hq
theorem zi_ge {x y : Int32} (h : ¬ x < y) : y ≤ x := Int32.not_lt.mp h
section ZO
variable {p : Program} {l : Launch} {e : Env} {R : Room} {s : State} {m : MethodId} {args : Array Value} {below : List Frame} {meth : Method} {c : Code} {H : Heap} {locs : List Loc} {cells slots : Nat} {Q : State → Prop} {pc : Nat} {ls : Array Slot} {rest : List Value}
theorem zo_i {x v : Int32} (h : x = v) (k : W p l e R s m args below meth c H locs cells slots Q (F0 m pc ls (.int v :: rest))) : W p l e R s m args below meth c H locs cells slots Q (F0 m pc ls (.int x :: rest)) := by rw [h]; exact k
theorem zo_l {x v : Int64} (h : x = v) (k : W p l e R s m args below meth c H locs cells slots Q (F0 m pc ls (.long v :: rest))) : W p l e R s m args below meth c H locs cells slots Q (F0 m pc ls (.long x :: rest)) := by rw [h]; exact k
theorem zo_q {x v : Value} (h : x = v) (k : W p l e R s m args below meth c H locs cells slots Q (F0 m pc ls (v :: rest))) : W p l e R s m args below meth c H locs cells slots Q (F0 m pc ls (x :: rest)) := by rw [h]; exact k
end ZO

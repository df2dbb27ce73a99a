def zS : Array Value := ((List.range 2976).map (fun j => Value.int (zxs j))).toArray
def zab : State := start1.aboutOf zS
theorem zS_size : zS.size = 2976 := by simp [zS]
theorem zS_get {j : Nat} (h : j < 2976) : zS[j]? = some (.int (zxs j)) := by simp [zS, h]
theorem zab_vm (u v : Array Value) : (start1.aboutOf u).vm = (start1.aboutOf v).vm := rfl
theorem zab_vm0 : zab.vm = start1.about.vm := zab_vm zS start1.cells0
theorem zab_isArr : zab.isArrayOf { cls := 38, slots := zS, vm := .none } .int := ⟨(fun k h => by cases h), _, rfl, 37, rfl⟩
theorem zab_arr : zab.arrayAt? 0 = some { cls := 38, slots := zS, vm := .none } := rfl
theorem zab_X : va_X 0 2976 zxs zab zab.heap := ⟨{ cls := 38, slots := zS, vm := .none }, rfl, zab_isArr, (fun h => by cases h), zS_size, fun j h => zS_get h⟩
/-- words that read the tables alone (the kit's, and four more) -/
def zTb : Cond → Bool
  | .stringRef .. => true
  | .arrayClass _ => true
  | .arrayOver _ => true
  | .interfaceEntry .. => true
  | c => c.onTables
theorem zTb_vm {A A' : Array Value} {U U' : State} (vm₁ : Vm) : ∀ c : Cond, zTb c = true → c.before A (U.setVm vm₁) = c.before A' (U'.setVm vm₁) := by
  intro c hc
  cases c <;> first | rfl | (simp [zTb, Cond.onTables] at hc)
set_option maxRecDepth 100000 in
theorem zab_tabs : (Cond.code x code maxLocals ret :: tables_1).all (fun c => zTb c || c.before start1.args0 zab) = true := by decide +kernel
theorem zab_words : ∀ c ∈ (Cond.code x code maxLocals ret :: tables_1), c.before start1.args0 zab = true := fun c hc => by
  have h1 := start1.words c hc
  have h3 : (zTb c || c.before start1.args0 zab) = true := List.all_eq_true.mp zab_tabs c hc
  rw [Bool.or_eq_true] at h3
  rcases h3 with h | h
  · have h2 := zTb_vm (A := start1.args0) (A' := start1.args0) (U := zab) (U' := start1.about) start1.about.vm c h
    exact h2.trans h1
  · exact h
theorem zab_heap : zab.heap.toList = ({ cls := 38, slots := zS, vm := .none } : Cell) :: start1.about.heap.toList.tail := rfl
theorem zab_cell {u v : State} (h : u.vm = v.vm) (c : Cell) : cellFits u c = cellFits v c := by
  unfold cellFits State.fitsSlot State.slotType?
  rw [h]
theorem zab_slot (i : Nat) (z : Int32) : zab.fitsSlot 38 .none i (.int z) = true := rfl
set_option maxRecDepth 100000 in
theorem zab_fits0 : heapFits start1.about = true := by decide +kernel
theorem zab_fits : heapFits zab = true := by
  have h0 : start1.about.heap.toList.all (cellFits start1.about) = true := by rw [Array.all_toList]; exact zab_fits0
  show zab.heap.all (cellFits zab) = true
  rw [← Array.all_toList, zab_heap, List.all_cons, Bool.and_eq_true]
  refine ⟨?_, List.all_eq_true.mpr (fun c hc => (zab_cell zab_vm0 c).trans (List.all_eq_true.mp h0 c (List.mem_of_mem_tail hc)))⟩
  unfold cellFits
  refine List.all_eq_true.mpr (fun i hi => ?_)
  have hi2 : i < 2976 := by
    have h4 := List.mem_range.mp hi
    rw [zS_size] at h4
    exact h4
  dsimp only
  rw [zS_get hi2]
  exact zab_slot i (zxs i)
set_option maxRecDepth 100000 in
theorem zab_true : zab.slotsTrue = true := by decide +kernel
theorem zab_at {i : Nat} (h : i < 2976) : (Cond.isInt (.elem (.arg 0) (.index 0))).value start1.args0 zab none zab [i] = some true := by
  have h3 : ¬ Int32.ofNat i < 0 := Int32.ofNat_not_neg (by omega)
  have h4 : (Int32.ofNat i).toNatClampNeg = i := nI_clamp (by omega)
  have h5 : (Term.elem (.arg 0) (.index 0)).eval start1.args0 zab none [i] zab = some (.int (zxs i)) := by
    simp [Term.eval, start1.args0, zab_arr, h3, h4, zS_get h]
  simp only [Cond.value, h5, Option.map_some]
theorem zab_len : (Cond.isInt (.length (.arg 0))).before start1.args0 zab = true := by
  simp [Cond.before, Cond.holds, Cond.value, Term.eval, start1.args0, zab_arr, zS_size]
theorem zab_all : (Cond.all (.arg 0) (Cond.isInt (.elem (.arg 0) (.index 0)))).before start1.args0 zab = true := by
  have h : (Cond.all (.arg 0) (Cond.isInt (.elem (.arg 0) (.index 0)))).value start1.args0 zab none zab [] = some true :=
    Cond.all_intro (a := 0) (cell := { cls := 38, slots := zS, vm := .none }) rfl zab_arr (fun i hi => zab_at (by rw [zS_size] at hi; exact hi))
  show (Cond.value _ _ _ _ _ _ == some true) = true
  rw [h]
  rfl
theorem zab_rest : rest_1_c.before start1.args0 zab = true := by
  unfold rest_1_c
  rw [Cond.before_and, Bool.and_eq_true]
  exact ⟨zab_len, zab_all⟩
set_option maxRecDepth 100000 in
theorem zab_given : given_1.before start1.args0 zab = true := by decide +kernel
set_option maxRecDepth 100000 in
theorem zab_n1 : narrow_1_1.before start1.args0 zab = true := by decide +kernel
set_option maxRecDepth 100000 in
theorem zab_n2 : narrow_1_2.before start1.args0 zab = true := by decide +kernel
set_option maxRecDepth 100000 in
theorem zab_n3 : narrow_1_3.before start1.args0 zab = true := by decide +kernel
theorem zab_and {a b : Jvm.Cond} (h1 : a.before start1.args0 zab = true) (h2 : b.before start1.args0 zab = true) : (Jvm.Cond.and a b).before start1.args0 zab = true := by rw [Cond.before_and, Bool.and_eq_true]; exact ⟨h1, h2⟩
theorem zab_narrow : narrow_1.before start1.args0 zab = true := by
  unfold narrow_1
  exact zab_and zab_n1 (zab_and zab_n2 zab_n3)
set_option maxRecDepth 100000 in
theorem zab_app (R : Room) (h1 : zab.frames.length + R.frames ≤ launch0.maxFrames) (h2 : zab.heap.size + R.cells ≤ launch0.maxCells) (h3 : zab.slotsUsed + R.slots ≤ launch0.maxSlots) (h4 : zab.localsInUse + R.locals ≤ launch0.maxStackSlots - stackMargin) (h5 : zab.localsInUse + R.locals + stackMargin ≤ realStackBytes / 8) :
    (headSpec (Cond.code x code maxLocals ret :: tables_1) R).applies x start1.e0.platform zab = true :=
  (Spec.applies_iff rfl).mpr ⟨rfl, rfl, rfl, by decide +kernel, by decide +kernel, by decide +kernel, launch0.hasRoom_least _ R h1 h2 h3 h4 zab_true rfl h5, atoms_intro zab_words⟩
set_option maxRecDepth 100000 in
/-- THE STATEMENT IS FALSE AS PRINTED: on the script two locks, ten things, 484 times digest() the run makes more slots than the Statement grants -/
theorem zz_refuted : ¬ Claimed_1_1 :=
  zz_core (p := start1.p0) (e := start1.e0) (s := zab) (m := ⟨0, 0⟩) (below := Lib.HandBits.below0) (b := 0) lists_1 (launch0.admits_env _ _ _) fairChoices_fair.cas fairChoices_fair.clock rfl (by decide +kernel) zab_fits
    (zab_app room_1 (by decide +kernel) (by decide +kernel) (by decide +kernel) (by decide +kernel) (by decide +kernel))
    (zab_app room_z (by decide +kernel) (by decide +kernel) (by decide +kernel) (by decide +kernel) (by decide +kernel))
    zab_rest (zab_and zab_given zab_narrow) zab_X (by decide +kernel) (zab_and zab_given zab_narrow)
theorem zz_not : ¬ (Claimed_1_1 ∧ Claimed_1_2) := fun h => zz_refuted h.1
set_option maxRecDepth 100000 in
theorem zab_start : AtStart classFile x code maxLocals ret World_1 tables_1 room_1 Calls_1 rest_1 Pre_1 launch0 start1.p0 start1.e0 zab ⟨0, 0⟩ #[.ref 0] Lib.HandBits.below0 :=
  ⟨lists_1, trivial, launch0.admits_env _ _ _, launch0.least_env, fairChoices_fair.cas, fairChoices_fair.clock, rfl, by decide +kernel, zab_fits,
    zab_app room_1 (by decide +kernel) (by decide +kernel) (by decide +kernel) (by decide +kernel) (by decide +kernel), trivial, zab_rest, zab_and zab_given zab_narrow⟩
set_option maxRecDepth 100000 in
/-- the Statement's own word for its falling (RefutedClaimed_1_1): a start that it allows, on the least machine of which it speaks, whose run ends and breaks what is claimed -/
theorem zz_falls : RefutedClaimed_1_1 := by
  obtain ⟨n, o, hw, hr, he, hq⟩ := zr_walk launch0 rfl 0 start1.p0 start1.e0 (launch0.admits_env _ _ _) fairChoices_fair.cas fairChoices_fair.clock zab ⟨0, 0⟩ #[.ref 0] Lib.HandBits.below0 rfl
    ((Spec.applies_iff_loose (s := zab) (m := ⟨0, 0⟩) (args := #[.ref 0]) (below := Lib.HandBits.below0) rfl).mp (zab_app room_z (by decide +kernel) (by decide +kernel) (by decide +kernel) (by decide +kernel) (by decide +kernel))).1
    ⟨rfl, zab_X, by decide +kernel, zab_and zab_given zab_narrow⟩ trivial
  refine ⟨launch0, start1.p0, start1.e0, zab, ⟨0, 0⟩, #[.ref 0], Lib.HandBits.below0, rfl, zab_start, n, o, hw, hr, he, fun hpost => ?_⟩
  obtain ⟨-, hbd⟩ := hpost
  have hfr := hbd.1
  have hsl := hfr.2.2.2.2.2.2.1
  have hsl2 : zc_S zab.heap.size (stepsAlone start1.p0.tables start1.e0 n zab).heap ≤ room_1.slots := hsl
  have hq2 : 8921088 ≤ zc_S zab.heap.size (stepsAlone start1.p0.tables start1.e0 n zab).heap := hq
  exact absurd (Nat.le_trans hq2 hsl2) (by decide)
/-- the whole cut asks for this name; nothing above stands on it, and it is not proved: it is false -/
theorem i_vc : Claimed_1_1 ∧ Claimed_1_2 := sorry

theorem q_0and {x : Int32} : 0 &&& x = 0 := Int32.zero_and
theorem q_and0 {x : Int32} : x &&& 0 = 0 := Int32.and_zero
/-- an element that comes back to what it was -/
theorem q_back {f : Nat → Int32} {i : Nat} {x v : Int32} (h : f i = v) : upd (upd f i x) i v = f := by
  funext j
  by_cases e : j = i
  · subst e; exact pk_us.trans h.symm
  · exact (pk_un e).trans (pk_un e)
def zIsIn (a b : Int32) : Int32 := if b = -1 then 0 else if (a >>> (b &&& 31)) &&& 1 = 1 then 1 else 0
theorem q_fill {f : Nat → Int32} {i : Nat} (hf : ∀ j : Nat, j < i → f j = -1) : ∀ j : Nat, j < i + 1 → upd f i (-1) j = -1 := by
  intro j h
  by_cases e : j = i
  · subst e; exact pk_us
  · exact (pk_un e).trans (hf j (by omega))
/-- how many slots the cells from n on have -/
def zc_S (n : Nat) (H : Heap) : Nat := ((H.toList.drop n).map (fun c => c.slots.size)).sum
theorem zc_le {a b : Nat} (h : a ≤ b) (H : Heap) : zc_S b H ≤ zc_S a H := by
  obtain ⟨k, rfl⟩ := Nat.le.dest h
  clear h
  unfold zc_S
  rw [← List.drop_drop]
  generalize H.toList.drop a = L
  induction k generalizing L with
  | zero => exact Nat.le_refl _
  | succ k ih =>
    cases L with
    | nil => exact Nat.le_refl _
    | cons c t =>
      show ((t.drop k).map (fun c => c.slots.size)).sum ≤ ((c :: t).map (fun c => c.slots.size)).sum
      rw [List.map_cons, List.sum_cons]
      exact Nat.le_trans (ih t) (Nat.le_add_left _ _)
/-- behind a call that leaves the cells from n on as they are: its new cells come to them -/
theorem zc_add {n : Nat} {H H1 : Heap} (hn : n ≤ H.size) (hs : H.size ≤ H1.size) (hk : ∀ q : Nat, n ≤ q → q < H.size → H1[q]? = H[q]?) : zc_S n H1 = zc_S n H + zc_S H.size H1 := by
  have h : H1.toList.drop n = H.toList.drop n ++ H1.toList.drop H.size := by
    apply List.ext_getElem?
    intro i
    rw [List.getElem?_drop, Array.getElem?_toList]
    by_cases hi : n + i < H.size
    · rw [hk (n + i) (Nat.le_add_right _ _) hi, List.getElem?_append_left (by rw [List.length_drop, Array.length_toList]; omega), List.getElem?_drop, Array.getElem?_toList]
    · rw [List.getElem?_append_right (by rw [List.length_drop, Array.length_toList]; omega), List.getElem?_drop, Array.getElem?_toList, List.length_drop, Array.length_toList]
      congr 1
      omega
  unfold zc_S
  rw [h, List.map_append, List.sum_append]
theorem zc_pig (b : Nat) : ∀ (L : List Nat) (k : Nat) (is : List Nat), is.Nodup → (∀ i ∈ is, k ≤ i ∧ ∃ v, L[i - k]? = some v ∧ b ≤ v) → b * is.length ≤ L.sum := by
  intro L
  induction L with
  | nil =>
    intro k is _ h
    cases is with
    | nil => exact Nat.le_refl _
    | cons i t =>
      obtain ⟨_, v, hv, _⟩ := h i List.mem_cons_self
      simp at hv
  | cons a t ih =>
    intro k is hn h
    have step : ∀ i ∈ is, i ≠ k → k + 1 ≤ i ∧ ∃ v, t[i - (k + 1)]? = some v ∧ b ≤ v := fun i hi hne => by
      obtain ⟨h1, v, h2, h3⟩ := h i hi
      refine ⟨by omega, v, ?_, h3⟩
      rw [show i - k = (i - (k + 1)) + 1 from by omega, List.getElem?_cons_succ] at h2
      exact h2
    rw [List.sum_cons]
    by_cases hm : k ∈ is
    · have h1 : (is.erase k).length = is.length - 1 := List.length_erase_of_mem hm
      have h0 : 0 < is.length := List.length_pos_of_mem hm
      have h2 := ih (k + 1) (is.erase k) (hn.erase _) (fun i hi => step i (List.mem_of_mem_erase hi) (fun e => by rw [e] at hi; exact hn.not_mem_erase hi))
      obtain ⟨_, v, h3, h4⟩ := h k hm
      rw [Nat.sub_self, List.getElem?_cons_zero] at h3
      cases Option.some.inj h3
      rw [h1] at h2
      obtain ⟨m, hm2⟩ : ∃ m, is.length = m + 1 := ⟨is.length - 1, by omega⟩
      rw [hm2, Nat.add_sub_cancel] at h2
      rw [hm2, Nat.mul_succ]
      omega
    · exact Nat.le_trans (ih (k + 1) is hn (fun i hi => step i hi (fun e => hm (by rw [← e]; exact hi)))) (Nat.le_add_left _ _)
def zc_row (q : Nat × va_E) : Prop := ∃ (cA : ClassId) (f : Nat → Int32), q.2 = .inl (cA, 1024, .inl f)
/-- rows of 1,024 that are known, apart and new: so many slots at the least -/
theorem zc_cnt {D : va_G} {cl : List vw_C} {wc wc' ws : va_W} {H : Heap} {n : Nat} (hP : va_P D cl (wc' ++ ws) H) (hD : va_D (va_A wc n) (wc' ++ ws)) (hm : wc'.map (fun p => p.1) = wc.map (fun p => p.1)) (hr : ∀ q ∈ ws, zc_row q) : 1024 * ws.length ≤ zc_S n H := by
  have hix : ∀ j : Nat, (wc' ++ ws)[wc'.length + j]? = ws[j]? := fun j => by
    rw [List.getElem?_append_right (Nat.le_add_right _ _), Nat.add_sub_cancel_left]
  have hnew : ∀ (j : Nat) (q : Nat × va_E), ws[j]? = some q → n ≤ q.1 := fun j q hj => by
    rcases hD.2 (wc'.length + j) q ((hix j).trans hj) with ⟨i, e, hi⟩ | h
    · exfalso
      have h1 : (wc.map (fun p => p.1))[i]? = some q.1 := by rw [List.getElem?_map, hi]; rfl
      rw [← hm, List.getElem?_map] at h1
      cases hc : wc'[i]? with
      | none => rw [hc] at h1; cases h1
      | some p =>
        rw [hc] at h1
        have h2 : p.1 = q.1 := Option.some.inj h1
        have h3 : i < wc'.length := (List.getElem?_eq_some_iff.mp hc).1
        have := hD.1 i (wc'.length + j) p q (by rw [List.getElem?_append_left h3]; exact hc) ((hix j).trans hj) h2
        omega
    · exact h
  have h1 : (ws.map (fun p => p.1)).Nodup := by
    unfold List.Nodup
    rw [List.pairwise_iff_getElem]
    intro i j hi hj hij e
    have hi' : i < ws.length := by rw [List.length_map] at hi; exact hi
    have hj' : j < ws.length := by rw [List.length_map] at hj; exact hj
    rw [List.getElem_map, List.getElem_map] at e
    have := hD.1 (wc'.length + i) (wc'.length + j) _ _ ((hix i).trans (List.getElem?_eq_getElem hi')) ((hix j).trans (List.getElem?_eq_getElem hj')) e
    omega
  have h2 := zc_pig 1024 ((H.toList.drop n).map (fun c => c.slots.size)) n (ws.map (fun p => p.1)) h1 (fun x hx => by
    obtain ⟨p, hp, rfl⟩ := List.mem_map.mp hx
    obtain ⟨j, hj⟩ := List.getElem?_of_mem hp
    have h3 := hnew j p hj
    refine ⟨h3, 1024, ?_, Nat.le_refl _⟩
    obtain ⟨cA, f, he⟩ := hr p hp
    have h4 : va_at D cl p H := hP (wc'.length + j) p ((hix j).trans hj)
    unfold va_at at h4
    rw [he] at h4
    have h5 : H[p.1]? = some (vp_cell cA (1024, .inl f)) := h4
    rw [List.getElem?_map, List.getElem?_drop, show n + (p.1 - n) = p.1 from by omega, Array.getElem?_toList, h5, vp_cell_i]
    show some (arrV cA 1024 _).slots.size = some 1024
    rw [arrV_size])
  rw [List.length_map] at h2
  exact h2
/-- all addresses of a world lie below n -/
def zc_L (n : Nat) (ws : va_W) : Prop := ∀ p ∈ ws, p.1 < n
theorem zc_keep {n : Nat} {wc : va_W} {H H1 : Heap} (hl : zc_L n wc) (hk : ∀ q : Nat, q < H.size → ¬ va_A wc H.size q → H1[q]? = H[q]?) : ∀ q : Nat, n ≤ q → q < H.size → H1[q]? = H[q]? := fun q h1 h2 => hk q h2 (fun z => by
  rcases z with ⟨k, e, h⟩ | h
  · exact absurd (hl (q, e) (List.mem_of_getElem? h)) (Nat.not_lt.mpr h1)
  · omega)
theorem zc_Lof {D : va_G} {cl : List vw_C} {ws : va_W} {H : Heap} (hP : va_P D cl ws H) : zc_L H.size ws := fun p hp => by
  obtain ⟨j, hj⟩ := List.getElem?_of_mem hp
  exact (hP j p hj).lt
theorem zc_Lsub {n : Nat} {ws wc : va_W} (h : zc_L n ws) (is : List Nat) (hs : is.map (fun i => (ws[i]?).map (fun p => p.1)) = wc.map (fun p => some p.1)) : zc_L n wc := fun p hp => by
  obtain ⟨j, hj⟩ := List.getElem?_of_mem hp
  have h1 : (is.map (fun i => (ws[i]?).map (fun p => p.1)))[j]? = some (some p.1) := by rw [hs, List.getElem?_map, hj]; rfl
  rw [List.getElem?_map] at h1
  cases hi : is[j]? with
  | none => rw [hi] at h1; cases h1
  | some i =>
    rw [hi] at h1
    have h2 : (ws[i]?).map (fun p => p.1) = some p.1 := Option.some.inj h1
    cases hq : ws[i]? with
    | none => rw [hq] at h2; cases h2
    | some q =>
      rw [hq] at h2
      have h3 : q.1 = p.1 := Option.some.inj h2
      rw [← h3]
      exact h q (List.mem_of_getElem? hq)

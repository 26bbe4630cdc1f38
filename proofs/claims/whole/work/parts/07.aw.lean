/-! locals by their places -/
def la : Nat → List (Option Value) → List (Nat × Value)
  | _, [] => []
  | k, none :: l => la (k + 1) l
  | k, some v :: l => (k, v) :: la (k + 1) l
theorem la_mem : ∀ (l : List (Option Value)) (k i : Nat) (v : Value), (i, v) ∈ la k l ↔ k ≤ i ∧ l[i - k]? = some (some v)
  | [], k, i, v => by simp [la]
  | none :: l, k, i, v => by
    rw [la, la_mem l (k + 1) i v]
    by_cases h : i = k
    · subst h; simp; intro h; omega
    · by_cases h2 : k ≤ i
      · rw [show i - k = (i - (k + 1)) + 1 by omega, List.getElem?_cons_succ]
        exact ⟨fun q => ⟨h2, q.2⟩, fun q => ⟨by omega, q.2⟩⟩
      · exact ⟨fun q => absurd q.1 (by omega), fun q => absurd q.1 h2⟩
  | some w :: l, k, i, v => by
    rw [la, List.mem_cons, la_mem l (k + 1) i v]
    by_cases h : i = k
    · subst h
      simp
      exact ⟨fun h => h.elim (fun e => e.symm) (fun e => absurd e.1 (by omega)), fun h => Or.inl h.symm⟩
    · by_cases h2 : k ≤ i
      · rw [show i - k = (i - (k + 1)) + 1 by omega, List.getElem?_cons_succ]
        exact ⟨fun q => ⟨h2, q.elim (fun e => absurd (Prod.mk.inj e).1 h) (fun e => e.2)⟩, fun q => Or.inr ⟨by omega, q.2⟩⟩
      · exact ⟨fun q => absurd (q.elim (fun e => Nat.le_of_eq (Prod.mk.inj e).1.symm) (fun e => by omega)) h2, fun q => absurd q.1 h2⟩
def LV (n : Nat) (lsa : Array Slot) (ls : List (Option Value)) : Prop := lv_has lsa n (la 0 ls)
theorem LV.at {n : Nat} {lsa : Array Slot} {ls : List (Option Value)} (h : LV n lsa ls) {i : Nat} {v : Value} (e : ls[i]? = some (some v)) : lsa[i]? = some (.val v) := h.2.2 (i, v) ((la_mem ls 0 i v).mpr ⟨Nat.zero_le _, e⟩)
def c2 (o : Option Value) : Bool := match o with
  | some (.long _) => true
  | some (.double _) => true
  | _ => false
theorem c2_cat {v : Value} : c2 (some v) = true ↔ v.category = 2 := by cases v <;> simp [c2, Value.category]
def st1 : List (Option Value) → Nat → Value → List (Option Value)
  | [], _, _ => []
  | _ :: l, 0, v => some v :: l
  | o :: l, 1, v => (bif c2 o then none else o) :: st1 l 0 v
  | o :: l, i + 2, v => o :: st1 l (i + 1) v
def st2 : List (Option Value) → Nat → Value → List (Option Value)
  | [], _, _ => []
  | [_], 0, v => [some v]
  | _ :: _ :: l, 0, v => some v :: none :: l
  | o :: l, 1, v => (bif c2 o then none else o) :: st2 l 0 v
  | o :: l, i + 2, v => o :: st2 l (i + 1) v
theorem st1_at : ∀ (l : List (Option Value)) (i : Nat) (v : Value) (j : Nat) (w : Value), (st1 l i v)[j]? = some (some w) → (j = i ∧ w = v) ∨ (j ≠ i ∧ l[j]? = some (some w) ∧ ¬ (j + 1 = i ∧ w.category = 2))
  | [], i, v, j, w, h => by simp [st1] at h
  | o :: l, 0, v, 0, w, h => by simp [st1] at h; exact Or.inl ⟨rfl, h.symm⟩
  | o :: l, 0, v, j + 1, w, h => by simp [st1] at h; exact Or.inr ⟨by omega, by simpa using h, by omega⟩
  | o :: l, 1, v, 0, w, h => by
    cases ho : c2 o with
    | true => simp [st1, ho] at h
    | false =>
      simp [st1, ho] at h
      subst h
      refine Or.inr ⟨by omega, by simp, fun q => ?_⟩
      rw [c2_cat.mpr q.2] at ho
      cases ho
  | o :: l, 1, v, j + 1, w, h => by
    have h' : (st1 l 0 v)[j]? = some (some w) := by simpa [st1] using h
    rcases st1_at l 0 v j w h' with ⟨a, b⟩ | ⟨a, b, c⟩
    · exact Or.inl ⟨by omega, b⟩
    · exact Or.inr ⟨by omega, by simpa using b, by omega⟩
  | o :: l, i + 2, v, 0, w, h => by
    have h' : o = some w := by simpa [st1] using h
    exact Or.inr ⟨by omega, by simp [h'], by omega⟩
  | o :: l, i + 2, v, j + 1, w, h => by
    have h' : (st1 l (i + 1) v)[j]? = some (some w) := by simpa [st1] using h
    rcases st1_at l (i + 1) v j w h' with ⟨a, b⟩ | ⟨a, b, c⟩
    · exact Or.inl ⟨by omega, b⟩
    · exact Or.inr ⟨by omega, by simpa using b, fun q => c ⟨by omega, q.2⟩⟩
theorem st2_at : ∀ (l : List (Option Value)) (i : Nat) (v : Value) (j : Nat) (w : Value), (st2 l i v)[j]? = some (some w) → (j = i ∧ w = v) ∨ (j ≠ i ∧ j ≠ i + 1 ∧ l[j]? = some (some w) ∧ ¬ (j + 1 = i ∧ w.category = 2))
  | [], i, v, j, w, h => by simp [st2] at h
  | [o], 0, v, 0, w, h => by simp [st2] at h; exact Or.inl ⟨rfl, h.symm⟩
  | [o], 0, v, j + 1, w, h => by simp [st2] at h
  | o :: o2 :: l, 0, v, 0, w, h => by simp [st2] at h; exact Or.inl ⟨rfl, h.symm⟩
  | o :: o2 :: l, 0, v, 1, w, h => by simp [st2] at h
  | o :: o2 :: l, 0, v, j + 2, w, h => by simp [st2] at h; exact Or.inr ⟨by omega, by omega, by simpa using h, by omega⟩
  | o :: l, 1, v, 0, w, h => by
    cases ho : c2 o with
    | true => simp [st2, ho] at h
    | false =>
      simp [st2, ho] at h
      subst h
      refine Or.inr ⟨by omega, by omega, by simp, fun q => ?_⟩
      rw [c2_cat.mpr q.2] at ho
      cases ho
  | o :: l, 1, v, j + 1, w, h => by
    have h' : (st2 l 0 v)[j]? = some (some w) := by simpa [st2] using h
    rcases st2_at l 0 v j w h' with ⟨a, b⟩ | ⟨a, a2, b, c⟩
    · exact Or.inl ⟨by omega, b⟩
    · exact Or.inr ⟨by omega, by omega, by simpa using b, by omega⟩
  | o :: l, i + 2, v, 0, w, h => by
    have h' : o = some w := by simpa [st2] using h
    exact Or.inr ⟨by omega, by omega, by simp [h'], by omega⟩
  | o :: l, i + 2, v, j + 1, w, h => by
    have h' : (st2 l (i + 1) v)[j]? = some (some w) := by simpa [st2] using h
    rcases st2_at l (i + 1) v j w h' with ⟨a, b⟩ | ⟨a, a2, b, c⟩
    · exact Or.inl ⟨by omega, b⟩
    · exact Or.inr ⟨by omega, by omega, by simpa using b, fun q => c ⟨by omega, q.2⟩⟩
theorem LV.st1 {n i : Nat} {lsa lsb : Array Slot} {ls ls' : List (Option Value)} {v : Value} (hb : lv_has lsb n ((i, v) :: (la 0 ls).filter (fun q => !(q.1 == i) && !(q.1 + 1 == i && q.2.category == 2)))) (e : Jvm.Pilot.@@N@@.st1 ls i v = ls') : LV n lsb ls' := by
  refine ⟨hb.1, hb.2.1, fun q hq => hb.2.2 q ?_⟩
  obtain ⟨j, w⟩ := q
  have h1 := ((la_mem ls' 0 j w).mp hq).2
  rw [← e] at h1
  rcases st1_at ls i v j w h1 with ⟨a, b⟩ | ⟨a, b, c⟩
  · subst a; subst b; exact List.mem_cons_self
  · refine List.mem_cons_of_mem _ (List.mem_filter.mpr ⟨(la_mem ls 0 j w).mpr ⟨Nat.zero_le _, b⟩, ?_⟩)
    simp only [Bool.and_eq_true, Bool.not_eq_true', beq_eq_false_iff_ne, ne_eq, Bool.and_eq_false_iff]
    refine ⟨a, ?_⟩
    by_cases q : j + 1 = i
    · exact Or.inr (fun z => c ⟨q, z⟩)
    · exact Or.inl q
theorem LV.st2 {n i : Nat} {lsa lsb : Array Slot} {ls ls' : List (Option Value)} {v : Value} (hb : lv_has lsb n ((i, v) :: (la 0 ls).filter (fun q => !(q.1 == i) && (!(q.1 == i + 1) && !(q.1 + 1 == i && q.2.category == 2))))) (e : Jvm.Pilot.@@N@@.st2 ls i v = ls') : LV n lsb ls' := by
  refine ⟨hb.1, hb.2.1, fun q hq => hb.2.2 q ?_⟩
  obtain ⟨j, w⟩ := q
  have h1 := ((la_mem ls' 0 j w).mp hq).2
  rw [← e] at h1
  rcases st2_at ls i v j w h1 with ⟨a, b⟩ | ⟨a, a2, b, c⟩
  · subst a; subst b; exact List.mem_cons_self
  · refine List.mem_cons_of_mem _ (List.mem_filter.mpr ⟨(la_mem ls 0 j w).mpr ⟨Nat.zero_le _, b⟩, ?_⟩)
    simp only [Bool.and_eq_true, Bool.not_eq_true', beq_eq_false_iff_ne, ne_eq, Bool.and_eq_false_iff]
    refine ⟨a, a2, ?_⟩
    by_cases q : j + 1 = i
    · exact Or.inr (fun z => c ⟨q, z⟩)
    · exact Or.inl q
def en0 : List Value → List (Option Value)
  | [] => []
  | .long x :: l => some (.long x) :: none :: en0 l
  | .double x :: l => some (.double x) :: none :: en0 l
  | v :: l => some v :: en0 l
theorem en0_at : ∀ (vs : List Value) (n k j : Nat) (w : Value), (en0 vs ++ List.replicate n none)[j]? = some (some w) → (k + j, w) ∈ lv_args k vs
  | [], n, k, j, w, h => by simp [en0, List.getElem?_replicate] at h
  | v :: l, n, k, j, w, h => by
    have c1 : v.category = 1 → (some v :: (en0 l ++ List.replicate n none))[j]? = some (some w) → (k + j, w) ∈ lv_args k (v :: l) := by
      intro hc h
      rw [lv_args, if_neg (by omega)]
      cases j with
      | zero => simp at h; subst h; exact List.mem_cons_self
      | succ j => exact List.mem_cons_of_mem _ (by have := en0_at l n (k + 1) j w (by simpa using h); rw [show k + (j + 1) = k + 1 + j by omega]; exact this)
    have c2 : v.category = 2 → (some v :: none :: (en0 l ++ List.replicate n none))[j]? = some (some w) → (k + j, w) ∈ lv_args k (v :: l) := by
      intro hc h
      rw [lv_args, if_pos hc]
      match j, h with
      | 0, h => simp at h; subst h; exact List.mem_cons_self
      | 1, h => simp at h
      | j + 2, h => exact List.mem_cons_of_mem _ (by have := en0_at l n (k + 2) j w (by simpa using h); rw [show k + (j + 2) = k + 2 + j by omega]; exact this)
    cases v with
    | long x => exact c2 rfl (by simpa [en0] using h)
    | double x => exact c2 rfl (by simpa [en0] using h)
    | int x => exact c1 rfl (by simpa [en0] using h)
    | float x => exact c1 rfl (by simpa [en0] using h)
    | ref x => exact c1 rfl (by simpa [en0] using h)
    | null => exact c1 rfl (by simpa [en0] using h)
    | _ => exact c1 rfl (by simpa [en0] using h)
def en (as : List Value) (n : Nat) : List (Option Value) := en0 as ++ List.replicate (n - (lg_sl as).length) none
theorem LV.en {as : List Value} {n : Nat} (h : (lg_sl as).length ≤ n) : LV n (lg_sl as ++ List.replicate (n - (lg_sl as).length) Slot.unset).toArray (en as n) := by
  obtain ⟨h1, h2, h3⟩ := lv_entry as h
  refine ⟨h1, h2, fun q hq => ?_⟩
  obtain ⟨j, w⟩ := q
  have h4 := en0_at as _ 0 j w ((la_mem _ 0 j w).mp hq).2
  rw [Nat.zero_add] at h4
  exact h3 (j, w) h4

/-! the reference: a period begins, its states -/
def tp1 (P : St) (o : Int) (n : Nat) : St := fun f j => if f = 15 ∧ inc n o j then srt P j else P f j
def tp2 (P : St) (o q : Int) (n : Nat) : St := fun f j => if (f = 16 ∨ f = 17) ∧ inc n o j then shp P o q j else if f = 18 ∧ inc n o j then 0 else tp1 P o (nIm P) f j
def tp3 (X : St) (o : Int) (n : Nat) : St := fun f j => if f = 14 ∧ o * 8 + 4 ≤ j ∧ j < o * 8 + 4 + (n : Int) then 0 else X f j
theorem tp1_0 (P : St) (o : Int) : tp1 P o 0 = P := by
  funext f j; unfold tp1; rw [if_neg (fun z => by have := z.2; omega)]
theorem tp2_0 (P : St) (o q : Int) : tp2 P o q 0 = tp1 P o (nIm P) := by
  funext f j; unfold tp2; rw [if_neg (fun z => by have := z.2; omega), if_neg (fun z => by have := z.2; omega)]
theorem tp3_0 (X : St) (o : Int) : tp3 X o 0 = X := by
  funext f j; unfold tp3; rw [if_neg (fun z => by have := z.2; omega)]
theorem tp1_s (P : St) (o : Int) (k : Nat) {v : Int} (ho : 0 ≤ o ∧ o < 4) (hv : v = srt P (4 * (k : Int) + o)) : u1 (tp1 P o k) 15 (4 * (k : Int) + o) v = tp1 P o (k + 1) := by
  subst hv
  funext f j; rw [u1_at]; unfold tp1
  by_cases h : f = 15 ∧ j = 4 * (k : Int) + o
  · rw [if_pos h, if_pos ⟨h.1, by omega⟩, h.2]
  · rw [if_neg h]
    by_cases h2 : f = 15 ∧ inc k o j
    · rw [if_pos h2, if_pos ⟨h2.1, by have := h2.2; omega⟩]
    · rw [if_neg h2, if_neg]
      intro z
      have z2 := z.2
      by_cases e : j = 4 * (k : Int) + o
      · exact h ⟨z.1, e⟩
      · exact h2 ⟨z.1, by omega⟩
theorem tp2_s (P : St) (o q : Int) (k : Nat) {v : Int} (ho : 0 ≤ o ∧ o < 4) (hv : v = shp P o q (4 * (k : Int) + o)) : u1 (u1 (u1 (tp2 P o q k) 16 (4 * (k : Int) + o) v) 17 (4 * (k : Int) + o) v) 18 (4 * (k : Int) + o) 0 = tp2 P o q (k + 1) := by
  subst hv
  funext f j; simp only [u1_at]; unfold tp2
  by_cases e : j = 4 * (k : Int) + o
  · by_cases h18 : f = 18
    · rw [if_pos ⟨h18, e⟩, if_neg (by omega), if_pos ⟨h18, by omega⟩]
    rw [if_neg (fun z => h18 z.1)]
    by_cases h17 : f = 17
    · rw [if_pos ⟨h17, e⟩, if_pos ⟨Or.inr h17, by omega⟩, e]
    rw [if_neg (fun z => h17 z.1)]
    by_cases h16 : f = 16
    · rw [if_pos ⟨h16, e⟩, if_pos ⟨Or.inl h16, by omega⟩, e]
    rw [if_neg (fun z => h16 z.1), if_neg (fun z => z.1.elim h16 h17), if_neg (fun z => h18 z.1), if_neg (fun z => z.1.elim h16 h17), if_neg (fun z => h18 z.1)]
  · rw [if_neg (fun z => e z.2), if_neg (fun z => e z.2), if_neg (fun z => e z.2)]
    by_cases hi : inc k o j
    · have hi2 : inc (k + 1) o j := by omega
      by_cases h : f = 16 ∨ f = 17
      · rw [if_pos ⟨h, hi⟩, if_pos ⟨h, hi2⟩]
      · by_cases h18 : f = 18
        · rw [if_neg (fun z => h z.1), if_pos ⟨h18, hi⟩, if_neg (fun z => h z.1), if_pos ⟨h18, hi2⟩]
        · rw [if_neg (fun z => h z.1), if_neg (fun z => h18 z.1), if_neg (fun z => h z.1), if_neg (fun z => h18 z.1)]
    · have hi2 : ¬ inc (k + 1) o j := by omega
      rw [if_neg (fun z => hi z.2), if_neg (fun z => hi z.2), if_neg (fun z => hi2 z.2), if_neg (fun z => hi2 z.2)]
theorem tp3_s (X : St) (o : Int) (k : Nat) : u1 (tp3 X o k) 14 (o * 8 + (4 + (k : Int))) 0 = tp3 X o (k + 1) := by
  funext f j; rw [u1_at]; unfold tp3
  by_cases h : f = 14 ∧ j = o * 8 + (4 + (k : Int))
  · rw [if_pos h, if_pos ⟨h.1, by omega⟩]
  · rw [if_neg h]
    by_cases h2 : f = 14 ∧ o * 8 + 4 ≤ j ∧ j < o * 8 + 4 + (k : Int)
    · rw [if_pos h2, if_pos ⟨h2.1, by omega⟩]
    · rw [if_neg h2, if_neg]
      intro z
      by_cases e : j = o * 8 + (4 + (k : Int))
      · exact h ⟨z.1, e⟩
      · exact h2 ⟨z.1, by omega⟩

theorem tp_15 (P : St) {o q : Int} {n : Nat} {i : Int} (hi : 0 ≤ i ∧ i < P 27 0) (ho : 0 ≤ o ∧ o < 4) : tp2 P o q n 15 (4 * i + o) = srt P (4 * i + o) := by
  unfold tp2; rw [if_neg (fun z => absurd z.1 (by decide)), if_neg (fun z => absurd z.1 (by decide))]; unfold tp1
  rw [if_pos ⟨rfl, by unfold nIm; omega⟩]
theorem tp_allT (P : St) {o q : Int} {n : Nat} (ho : 0 ≤ o ∧ o < 4) : ∀ m : Nat, (m : Int) ≤ P 27 0 → allT (tp2 P o q n) o m = allP P o m
  | 0, _ => rfl
  | m + 1, h => by
    have ih := tp_allT P (q := q) (n := n) ho m (by omega)
    unfold allT at ih ⊢; unfold allP at ih ⊢
    rw [sm, sm, ih]
    show _ + (if tp2 P o q n 15 (4 * (m : Int) + o) = 1 then old P (4 * (m : Int) + o) else 0) = _
    rw [tp_15 P (by omega) ho]
theorem tp_shr (P : St) {o q : Int} {n : Nat} {i : Int} (hi : 0 ≤ i ∧ i < P 27 0) (ho : 0 ≤ o ∧ o < 4) : shr (tp2 P o q n) i o (P 0 0) q = shp P o q (4 * i + o) := by
  have e := tp_allT P (q := q) (n := n) ho (nIm P) (by unfold nIm; omega)
  unfold shr shp
  rw [tp_15 P hi ho]
  show (if _ then poa _ _ (allT (tp2 P o q n) o (nIm P)) else 0) = _
  rw [e]; rfl
theorem yws_old {P : St} (h0 : Inv0 P) {p : Int} (hp : 0 ≤ p ∧ p < 32) (h : 1 ≤ yws P p) : 0 < old P p := by
  have a0 := h0.2.2.2 (p * 3 + 0) (by omega) (by omega)
  have a1 := h0.2.2.2 (p * 3 + 1) (by omega) (by omega)
  have a2 := h0.2.2.2 (p * 3 + 2) (by omega) (by omega)
  have c0 := b1_c (0 < P 2 (p * 3 + 0))
  have c1 := b1_c (0 < P 2 (p * 3 + 1))
  have c2 := b1_c (0 < P 2 (p * 3 + 2))
  unfold yws at h; unfold old
  omega
theorem tp_pos {P : St} (h0 : Inv0 P) (h5 : 1 ≤ P 0 5) {o q : Int} {n : Nat} {i : Int} (hi : 0 ≤ i ∧ i < P 27 0) (ho : 0 ≤ o ∧ o < 4) (h : tp2 P o q n 15 (4 * i + o) = 1) : 0 < allT (tp2 P o q n) o (nIm (tp2 P o q n)) := by
  have b27 := h0.2.2.1
  rw [tp_15 P hi ho] at h
  have e := tp_allT P (q := q) (n := n) ho (nIm P) (by unfold nIm; omega)
  show 0 < allT (tp2 P o q n) o (nIm P)
  rw [e]
  have hs : P 0 5 ≤ yws P (4 * i + o) := by
    unfold srt at h; by_cases z : P 0 5 ≤ yws P (4 * i + o)
    · exact z
    · rw [if_neg z] at h; omega
  have ol := yws_old h0 (p := 4 * i + o) (by omega) (by omega)
  have s1 := sm_one (f := fun i => if srt P (4 * i + o) = 1 then old P (4 * i + o) else 0) (nIm P) (fun k hk => by
    have := h0.old (p := 4 * (k : Int) + o) (by unfold nIm at hk; omega)
    show 0 ≤ (if srt P (4 * (k : Int) + o) = 1 then old P (4 * (k : Int) + o) else 0)
    split <;> omega) i.toNat (by unfold nIm; omega)
  have s2 : (if srt P (4 * ((i.toNat : Nat) : Int) + o) = 1 then old P (4 * ((i.toNat : Nat) : Int) + o) else 0) ≤ allP P o (nIm P) := s1
  rw [show ((i.toNat : Nat) : Int) = i by omega, if_pos h] at s2
  omega
theorem tp1_R {P : St} (hR : Rg P) (o : Int) (n : Nat) : Rg (tp1 P o n) := by
  intro f hf j; unfold tp1; split
  · unfold srt; split <;> exact ⟨by decide, by decide⟩
  · exact hR f hf j
theorem tp2_R {P : St} (h : Inv0 P) {o q : Int} (ho : 0 ≤ o ∧ o < 4) (ht : 0 ≤ P 0 0 ∧ P 0 0 ≤ 100) (hq : 0 ≤ q ∧ q ≤ 99999) {n : Nat} (hn : n ≤ nIm P) : Rg (tp2 P o q n) := by
  intro f hf j; unfold tp2; split
  · rename_i z
    have b := h.shp (q := q) (j := j) ho (by have := z.2; omega) ht hq
    exact ⟨by omega, by omega⟩
  · split
    · exact ⟨by decide, by decide⟩
    · exact tp1_R h.1 o _ f hf j
theorem tp2_Z {P : St} (h : Inv0 P) {o q : Int} (ho : 0 ≤ o ∧ o < 4) (ht : 0 ≤ P 0 0 ∧ P 0 0 ≤ 100) (hq : 0 ≤ q ∧ q ≤ 99999) {n : Nat} (hn : n ≤ nIm P) : Inv0 (tp2 P o q n) := ⟨tp2_R h ho ht hq hn, h.2.1, h.2.2.1, h.2.2.2⟩


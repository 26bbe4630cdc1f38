/-! the reference: a year begins -/
abbrev dnP (O i o p : Int) : Prop := (p / 4 < i ∧ p % 4 < O) ∨ (p / 4 = i ∧ p % 4 < o)
def yrR (O : Int) (r : Int → Int) (i o : Int) : Int → Int := fun s => if (48 ≤ s ∧ s < 304) ∧ dnP O i o ((s - 48) / 8) then (if (s - 48) % 8 = 0 then r (s + 3) else if (s - 48) % 8 = 1 ∨ (s - 48) % 8 = 2 then r (s - 1) else if (s - 48) % 8 = 3 then 0 else r s) else r s
def yqR (O : Int) (r : Int → Int) (i o : Int) (q : Nat) : Int → Int := fun s => if s = 48 + 8 * (4 * i + o) + 2 ∧ 1 ≤ q then r (48 + 8 * (4 * i + o) + 1) else if s = 48 + 8 * (4 * i + o) + 1 ∧ 2 ≤ q then r (48 + 8 * (4 * i + o)) else yrR O r i o s
def zrR (r : Int → Int) (k : Nat) : Int → Int := fun s => if 312 ≤ s ∧ s < 312 + (k : Int) then 0 else r s
theorem yrR_00 (O : Int) (r : Int → Int) : yrR O r 0 0 = r := by
  funext s; unfold yrR; rw [if_neg (by omega)]
theorem yrR_lo (O : Int) (r : Int → Int) (i o : Int) {s : Int} (h : s < 48) : yrR O r i o s = r s := by unfold yrR; rw [if_neg (by omega)]
theorem yrR_at (O : Int) (r : Int → Int) {i o w : Int} (ho : 0 ≤ o ∧ o < 4) (hw : 0 ≤ w ∧ w < 8) : yrR O r i o (48 + 8 * (4 * i + o) + w) = r (48 + 8 * (4 * i + o) + w) := by unfold yrR; rw [if_neg (by omega)]
theorem yqR_0 (O : Int) (r : Int → Int) (i o : Int) : yqR O r i o 0 = yrR O r i o := by
  funext s; unfold yqR; rw [if_neg (by omega), if_neg (by omega)]
theorem yrR_up (O : Int) (r : Int → Int) {i : Int} (hO : 0 ≤ O ∧ O ≤ 4) : yrR O r i O = yrR O r (i + 1) 0 := by
  funext s; unfold yrR
  by_cases h : (48 ≤ s ∧ s < 304) ∧ dnP O i O ((s - 48) / 8)
  · have h' : (48 ≤ s ∧ s < 304) ∧ dnP O (i + 1) 0 ((s - 48) / 8) := ⟨h.1, by rcases h.2 with z | z <;> exact Or.inl (by omega)⟩
    rw [if_pos h, if_pos h']
  · rw [if_neg h, if_neg (fun z => h ⟨z.1, by rcases z.2 with y | y <;> omega⟩)]
theorem yqR_st0 (V : St) (O i o : Int) (ho : 0 ≤ o ∧ o < 4) : u1 (sset V 0 (yqR O (V 0) i o 0)) 0 (48 + 8 * (4 * i + o) + 2) (V 0 (48 + 8 * (4 * i + o) + 1)) = sset V 0 (yqR O (V 0) i o 1) := by
  rw [u1_sset]; congr 1; funext s; unfold uz yqR
  by_cases h : s = 48 + 8 * (4 * i + o) + 2
  · rw [if_pos h, if_pos ⟨h, Nat.le_refl _⟩]
  · rw [if_neg h, if_neg (fun z => h z.1), if_neg (fun z => absurd z.2 (by decide)), if_neg (fun z => h z.1), if_neg (fun z => absurd z.2 (by decide))]
theorem yqR_st1 (V : St) (O i o : Int) (ho : 0 ≤ o ∧ o < 4) : u1 (sset V 0 (yqR O (V 0) i o 1)) 0 (48 + 8 * (4 * i + o) + 1) (V 0 (48 + 8 * (4 * i + o))) = sset V 0 (yqR O (V 0) i o 2) := by
  rw [u1_sset]; congr 1; funext s; unfold uz yqR
  by_cases h : s = 48 + 8 * (4 * i + o) + 1
  · rw [if_pos h, if_neg (by omega), if_pos ⟨h, Nat.le_refl _⟩]
  · rw [if_neg h]
    by_cases h2 : s = 48 + 8 * (4 * i + o) + 2
    · rw [if_pos ⟨h2, Nat.le_refl _⟩, if_pos ⟨h2, by decide⟩]
    · rw [if_neg (fun z => h2 z.1), if_neg (fun z => h z.1), if_neg (fun z => h2 z.1), if_neg (fun z => h z.1)]
theorem yqR_st (V : St) (O i o : Int) (ho : 0 ≤ o ∧ o < 4) {q : Nat} (hq : q < 2) : u1 (sset V 0 (yqR O (V 0) i o q)) 0 (48 + 8 * (4 * i + o) + (0 + (2 - (q : Int)))) (V 0 (48 + 8 * (4 * i + o) + (0 + (2 - (q : Int)) - 1))) = sset V 0 (yqR O (V 0) i o (q + 1)) := by
  have e : q = 0 ∨ q = 1 := by omega
  rcases e with e | e
  · subst e
    have z := yqR_st0 V O i o ho
    rw [← z]; congr 2 <;> omega
  · subst e
    have z := yqR_st1 V O i o ho
    rw [← z]; congr 2 <;> omega
theorem yqR_rd (V : St) (O i o : Int) (ho : 0 ≤ o ∧ o < 4) {q : Nat} (hq : q < 2) : yqR O (V 0) i o q (48 + 8 * (4 * i + o) + (0 + (2 - (q : Int)) - 1)) = V 0 (48 + 8 * (4 * i + o) + (0 + (2 - (q : Int)) - 1)) := by
  unfold yqR; rw [if_neg (by omega), if_neg (by omega)]
  rw [show 48 + 8 * (4 * i + o) + (0 + (2 - (q : Int)) - 1) = 48 + 8 * (4 * i + o) + (1 - (q : Int)) by omega]
  exact yrR_at _ _ ho (by omega)
theorem yrR_st (V : St) (O i o : Int) (hi : 0 ≤ i ∧ i < 8) (ho : 0 ≤ o ∧ o < 4) : u1 (u1 (sset V 0 (yqR O (V 0) i o 2)) 0 (48 + 8 * (4 * i + o) + 0) (V 0 (48 + 8 * (4 * i + o) + 3))) 0 (48 + 8 * (4 * i + o) + 3) 0 = sset V 0 (yrR O (V 0) i (o + 1)) := by
  rw [u1_sset, u1_sset]; congr 1; funext s; unfold uz
  by_cases h3 : s = 48 + 8 * (4 * i + o) + 3
  · rw [if_pos h3]; unfold yrR; rw [if_pos (by omega), if_neg (by omega), if_neg (by omega), if_pos (by omega)]
  rw [if_neg h3]
  by_cases h0 : s = 48 + 8 * (4 * i + o) + 0
  · rw [if_pos h0]; unfold yrR; rw [if_pos (by omega), if_pos (by omega)]; congr 1; omega
  rw [if_neg h0]; unfold yqR
  by_cases h2 : s = 48 + 8 * (4 * i + o) + 2
  · rw [if_pos ⟨h2, by decide⟩]; unfold yrR; rw [if_pos (by omega), if_neg (by omega), if_pos (by omega)]; congr 1; omega
  rw [if_neg (fun z => h2 z.1)]
  by_cases h1 : s = 48 + 8 * (4 * i + o) + 1
  · rw [if_pos ⟨h1, by decide⟩]; unfold yrR; rw [if_pos (by omega), if_neg (by omega), if_pos (by omega)]; congr 1; omega
  rw [if_neg (fun z => h1 z.1)]; unfold yrR
  by_cases h : (48 ≤ s ∧ s < 304) ∧ dnP O i o ((s - 48) / 8)
  · have h' : (48 ≤ s ∧ s < 304) ∧ dnP O i (o + 1) ((s - 48) / 8) := ⟨h.1, by rcases h.2 with z | z; exact Or.inl z; exact Or.inr (by omega)⟩
    rw [if_pos h, if_pos h']
  · rw [if_neg h]
    by_cases h' : (48 ≤ s ∧ s < 304) ∧ dnP O i (o + 1) ((s - 48) / 8)
    · have e : (s - 48) / 8 = 4 * i + o := by
        rcases h'.2 with z | z
        · exact absurd ⟨h'.1, Or.inl z⟩ h
        · by_cases q : (s - 48) / 8 % 4 < o
          · exact absurd ⟨h'.1, Or.inr ⟨z.1, q⟩⟩ h
          · omega
      rw [if_pos h', if_neg (by omega), if_neg (by omega), if_neg (by omega)]
    · rw [if_neg h']
theorem zrR_0 (r : Int → Int) : zrR r 0 = r := by funext s; unfold zrR; rw [if_neg (by omega)]
theorem zrR_st (V : St) (r : Int → Int) (k : Nat) : u1 (sset V 0 (zrR r k)) 0 (312 + (k : Int)) 0 = sset V 0 (zrR r (k + 1)) := by
  rw [u1_sset]; congr 1; funext s; unfold uz zrR
  by_cases h : s = 312 + (k : Int)
  · rw [if_pos h, if_pos (by omega)]
  · rw [if_neg h]
    by_cases h2 : 312 ≤ s ∧ s < 312 + (k : Int)
    · rw [if_pos h2, if_pos (by omega)]
    · rw [if_neg h2, if_neg (by omega)]
theorem yr_in {V : St} (hL : RgL V) (O i o : Int) (q : Int) : inL (yrR O (V 0) i o q) := by
  unfold yrR; (repeat' split) <;> first | exact hL _ _ | exact ⟨by decide, by decide⟩
theorem yq_in {V : St} (hL : RgL V) (O i o : Int) (n : Nat) (q : Int) : inL (yqR O (V 0) i o n q) := by
  unfold yqR; (repeat' split) <;> first | exact hL _ _ | exact yr_in hL _ _ _ _
theorem zr_in {V : St} (hL : RgL V) (O i o : Int) (n : Nat) (q : Int) : inL (zrR (yrR O (V 0) i o) n q) := by
  unfold zrR; (repeat' split) <;> first | exact yr_in hL _ _ _ _ | exact ⟨by decide, by decide⟩
theorem turn_2 (A : St) {j : Int} (h : 0 ≤ j ∧ j < 96) : turnS A 2 j = if j % 3 = 0 then A 20 (j / 3) else A 2 (j - 1) := by
  unfold turnS yclS; rw [clS_at, if_neg (fun z => absurd z.1 (by decide)), clS_at, if_neg (fun z => absurd z.1 (by decide)), clS_at, if_neg (fun z => absurd z.1 (by decide)), ty_eq]
  show (if 0 ≤ j ∧ j < 3 * ((32 : Nat) : Int) then _ else _) = _
  rw [if_pos (by omega)]
theorem turn_20 (A : St) {j : Int} (h : 0 ≤ j ∧ j < 32) : turnS A 20 j = 0 := by
  unfold turnS yclS; rw [clS_at, if_neg (fun z => absurd z.1 (by decide)), clS_at, if_neg (fun z => absurd z.1 (by decide)), clS_at, if_pos ⟨rfl, by omega⟩]
theorem turn_21 (A : St) {j : Int} (h : 0 ≤ j ∧ j < 96) : turnS A 21 j = 0 := by
  unfold turnS yclS; rw [clS_at, if_neg (fun z => absurd z.1 (by decide)), clS_at, if_pos ⟨rfl, by omega⟩]
theorem turn_22 (A : St) {j : Int} (h : 0 ≤ j ∧ j < 48) : turnS A 22 j = 0 := by
  unfold turnS yclS; rw [clS_at, if_pos ⟨rfl, by omega⟩]

theorem plY_0 {A : St} (b : bd A) {i : Int} (h : 0 ≤ i ∧ i < 6) : ¬ (312 ≤ i ∧ i < 312 + ((144 : Nat) : Int)) ∧ (48 ≤ i ∧ i < 304 → 4 ≤ (i - 48) % 8) := by
  obtain ⟨b1, b2, b3, b4⟩ := b
  refine ⟨by omega, fun z => by omega⟩
theorem plY_1 {A : St} (b : bd A) {i : Int} (h : 0 ≤ i ∧ i < A 26 0) : ¬ (312 ≤ 16 + 8 * i ∧ 16 + 8 * i < 312 + ((144 : Nat) : Int)) ∧ (48 ≤ 16 + 8 * i ∧ 16 + 8 * i < 304 → 4 ≤ (16 + 8 * i - 48) % 8) := by
  obtain ⟨b1, b2, b3, b4⟩ := b
  refine ⟨by omega, fun z => by omega⟩
theorem plY_4 {A : St} (b : bd A) {i : Int} (h : 0 ≤ i ∧ i < A 28 0) : ¬ (312 ≤ 456 + 10 * i + 0 ∧ 456 + 10 * i + 0 < 312 + ((144 : Nat) : Int)) ∧ (48 ≤ 456 + 10 * i + 0 ∧ 456 + 10 * i + 0 < 304 → 4 ≤ (456 + 10 * i + 0 - 48) % 8) := by
  obtain ⟨b1, b2, b3, b4⟩ := b
  refine ⟨by omega, fun z => by omega⟩
theorem plY_5 {A : St} (b : bd A) {i : Int} (h : 0 ≤ i ∧ i < A 28 0) : ¬ (312 ≤ 456 + 10 * i + 1 ∧ 456 + 10 * i + 1 < 312 + ((144 : Nat) : Int)) ∧ (48 ≤ 456 + 10 * i + 1 ∧ 456 + 10 * i + 1 < 304 → 4 ≤ (456 + 10 * i + 1 - 48) % 8) := by
  obtain ⟨b1, b2, b3, b4⟩ := b
  refine ⟨by omega, fun z => by omega⟩
theorem plY_6 {A : St} (b : bd A) {i : Int} (h : 0 ≤ i ∧ i < A 28 0) : ¬ (312 ≤ 456 + 10 * i + 2 ∧ 456 + 10 * i + 2 < 312 + ((144 : Nat) : Int)) ∧ (48 ≤ 456 + 10 * i + 2 ∧ 456 + 10 * i + 2 < 304 → 4 ≤ (456 + 10 * i + 2 - 48) % 8) := by
  obtain ⟨b1, b2, b3, b4⟩ := b
  refine ⟨by omega, fun z => by omega⟩
theorem plY_7 {A : St} (b : bd A) {i : Int} (h : 0 ≤ i ∧ i < A 28 0) : ¬ (312 ≤ 456 + 10 * i + 3 ∧ 456 + 10 * i + 3 < 312 + ((144 : Nat) : Int)) ∧ (48 ≤ 456 + 10 * i + 3 ∧ 456 + 10 * i + 3 < 304 → 4 ≤ (456 + 10 * i + 3 - 48) % 8) := by
  obtain ⟨b1, b2, b3, b4⟩ := b
  refine ⟨by omega, fun z => by omega⟩
theorem plY_8 {A : St} (b : bd A) {i : Int} (h : 0 ≤ i ∧ i < A 28 0) : ¬ (312 ≤ 456 + 10 * i + 6 ∧ 456 + 10 * i + 6 < 312 + ((144 : Nat) : Int)) ∧ (48 ≤ 456 + 10 * i + 6 ∧ 456 + 10 * i + 6 < 304 → 4 ≤ (456 + 10 * i + 6 - 48) % 8) := by
  obtain ⟨b1, b2, b3, b4⟩ := b
  refine ⟨by omega, fun z => by omega⟩
theorem plY_9 {A : St} (b : bd A) {i : Int} (h : 0 ≤ i ∧ i < A 28 0) : ¬ (312 ≤ 456 + 10 * i + 4 ∧ 456 + 10 * i + 4 < 312 + ((144 : Nat) : Int)) ∧ (48 ≤ 456 + 10 * i + 4 ∧ 456 + 10 * i + 4 < 304 → 4 ≤ (456 + 10 * i + 4 - 48) % 8) := by
  obtain ⟨b1, b2, b3, b4⟩ := b
  refine ⟨by omega, fun z => by omega⟩
theorem plY_10 {A : St} (b : bd A) {i : Int} (h : 0 ≤ i ∧ i < A 28 0) : ¬ (312 ≤ 456 + 10 * i + 5 ∧ 456 + 10 * i + 5 < 312 + ((144 : Nat) : Int)) ∧ (48 ≤ 456 + 10 * i + 5 ∧ 456 + 10 * i + 5 < 304 → 4 ≤ (456 + 10 * i + 5 - 48) % 8) := by
  obtain ⟨b1, b2, b3, b4⟩ := b
  refine ⟨by omega, fun z => by omega⟩
theorem plY_11 {A : St} (b : bd A) {i : Int} (h : 0 ≤ i ∧ i < A 28 0) : ¬ (312 ≤ 456 + 10 * i + 7 ∧ 456 + 10 * i + 7 < 312 + ((144 : Nat) : Int)) ∧ (48 ≤ 456 + 10 * i + 7 ∧ 456 + 10 * i + 7 < 304 → 4 ≤ (456 + 10 * i + 7 - 48) % 8) := by
  obtain ⟨b1, b2, b3, b4⟩ := b
  refine ⟨by omega, fun z => by omega⟩
theorem plY_12 {A : St} (b : bd A) {i : Int} (h : 0 ≤ i ∧ i < A 28 0) : ¬ (312 ≤ 456 + 10 * i + 8 ∧ 456 + 10 * i + 8 < 312 + ((144 : Nat) : Int)) ∧ (48 ≤ 456 + 10 * i + 8 ∧ 456 + 10 * i + 8 < 304 → 4 ≤ (456 + 10 * i + 8 - 48) % 8) := by
  obtain ⟨b1, b2, b3, b4⟩ := b
  refine ⟨by omega, fun z => by omega⟩
theorem plY_13 {A : St} (b : bd A) {i : Int} (h : 0 ≤ i ∧ i < A 28 0) : ¬ (312 ≤ 456 + 10 * i + 9 ∧ 456 + 10 * i + 9 < 312 + ((144 : Nat) : Int)) ∧ (48 ≤ 456 + 10 * i + 9 ∧ 456 + 10 * i + 9 < 304 → 4 ≤ (456 + 10 * i + 9 - 48) % 8) := by
  obtain ⟨b1, b2, b3, b4⟩ := b
  refine ⟨by omega, fun z => by omega⟩
theorem plY_14 {A : St} (b : bd A) {i : Int} (h : 0 ≤ i ∧ i < 8 * A 26 0 ∧ ¬ i % 8 = 0) : ¬ (312 ≤ 16 + i ∧ 16 + i < 312 + ((144 : Nat) : Int)) ∧ (48 ≤ 16 + i ∧ 16 + i < 304 → 4 ≤ (16 + i - 48) % 8) := by
  obtain ⟨b1, b2, b3, b4⟩ := b
  refine ⟨by omega, fun z => by omega⟩
theorem plY_15 {A : St} (b : bd A) {i : Int} (h : 0 ≤ i ∧ i / 4 < A 27 0 ∧ i % 4 < A 26 0) : ¬ (312 ≤ 48 + 8 * i + 4 ∧ 48 + 8 * i + 4 < 312 + ((144 : Nat) : Int)) ∧ (48 ≤ 48 + 8 * i + 4 ∧ 48 + 8 * i + 4 < 304 → 4 ≤ (48 + 8 * i + 4 - 48) % 8) := by
  obtain ⟨b1, b2, b3, b4⟩ := b
  refine ⟨by omega, fun z => by omega⟩
theorem plY_16 {A : St} (b : bd A) {i : Int} (h : 0 ≤ i ∧ i / 4 < A 27 0 ∧ i % 4 < A 26 0) : ¬ (312 ≤ 48 + 8 * i + 5 ∧ 48 + 8 * i + 5 < 312 + ((144 : Nat) : Int)) ∧ (48 ≤ 48 + 8 * i + 5 ∧ 48 + 8 * i + 5 < 304 → 4 ≤ (48 + 8 * i + 5 - 48) % 8) := by
  obtain ⟨b1, b2, b3, b4⟩ := b
  refine ⟨by omega, fun z => by omega⟩
theorem plY_17 {A : St} (b : bd A) {i : Int} (h : 0 ≤ i ∧ i / 4 < A 27 0 ∧ i % 4 < A 26 0) : ¬ (312 ≤ 48 + 8 * i + 6 ∧ 48 + 8 * i + 6 < 312 + ((144 : Nat) : Int)) ∧ (48 ≤ 48 + 8 * i + 6 ∧ 48 + 8 * i + 6 < 304 → 4 ≤ (48 + 8 * i + 6 - 48) % 8) := by
  obtain ⟨b1, b2, b3, b4⟩ := b
  refine ⟨by omega, fun z => by omega⟩
theorem plY_18 {A : St} (b : bd A) {i : Int} (h : 0 ≤ i ∧ i / 4 < A 27 0 ∧ i % 4 < A 26 0) : ¬ (312 ≤ 48 + 8 * i + 7 ∧ 48 + 8 * i + 7 < 312 + ((144 : Nat) : Int)) ∧ (48 ≤ 48 + 8 * i + 7 ∧ 48 + 8 * i + 7 < 304 → 4 ≤ (48 + 8 * i + 7 - 48) % 8) := by
  obtain ⟨b1, b2, b3, b4⟩ := b
  refine ⟨by omega, fun z => by omega⟩
theorem plY_19 {A : St} (b : bd A) {i : Int} (h : 0 ≤ i ∧ i / 20 < A 29 0 ∧ i % 20 / 5 < A 26 0) : ¬ (312 ≤ 1056 + i ∧ 1056 + i < 312 + ((144 : Nat) : Int)) ∧ (48 ≤ 1056 + i ∧ 1056 + i < 304 → 4 ≤ (1056 + i - 48) % 8) := by
  obtain ⟨b1, b2, b3, b4⟩ := b
  refine ⟨by omega, fun z => by omega⟩
theorem plY_23 {A : St} (b : bd A) {i : Int} (h : 0 ≤ i ∧ i < A 27 0) : ¬ (312 ≤ 304 + i ∧ 304 + i < 312 + ((144 : Nat) : Int)) ∧ (48 ≤ 304 + i ∧ 304 + i < 304 → 4 ≤ (304 + i - 48) % 8) := by
  obtain ⟨b1, b2, b3, b4⟩ := b
  refine ⟨by omega, fun z => by omega⟩
theorem plY_24 {A : St} (b : bd A) {i : Int} (h : 0 ≤ i ∧ i < 5) : ¬ (312 ≤ 11 + i ∧ 11 + i < 312 + ((144 : Nat) : Int)) ∧ (48 ≤ 11 + i ∧ 11 + i < 304 → 4 ≤ (11 + i - 48) % 8) := by
  obtain ⟨b1, b2, b3, b4⟩ := b
  refine ⟨by omega, fun z => by omega⟩
theorem plY_25 {A : St} (b : bd A) {i : Int} (h : i = 0) : ¬ (312 ≤ (9 : Int) ∧ (9 : Int) < 312 + ((144 : Nat) : Int)) ∧ (48 ≤ (9 : Int) ∧ (9 : Int) < 304 → 4 ≤ ((9 : Int) - 48) % 8) := by
  obtain ⟨b1, b2, b3, b4⟩ := b
  refine ⟨by omega, fun z => by omega⟩
theorem plY_26 {A : St} (b : bd A) {i : Int} (h : i = 0) : ¬ (312 ≤ (6 : Int) ∧ (6 : Int) < 312 + ((144 : Nat) : Int)) ∧ (48 ≤ (6 : Int) ∧ (6 : Int) < 304 → 4 ≤ ((6 : Int) - 48) % 8) := by
  obtain ⟨b1, b2, b3, b4⟩ := b
  refine ⟨by omega, fun z => by omega⟩
theorem plY_27 {A : St} (b : bd A) {i : Int} (h : i = 0) : ¬ (312 ≤ (7 : Int) ∧ (7 : Int) < 312 + ((144 : Nat) : Int)) ∧ (48 ≤ (7 : Int) ∧ (7 : Int) < 304 → 4 ≤ ((7 : Int) - 48) % 8) := by
  obtain ⟨b1, b2, b3, b4⟩ := b
  refine ⟨by omega, fun z => by omega⟩
theorem plY_28 {A : St} (b : bd A) {i : Int} (h : i = 0) : ¬ (312 ≤ (8 : Int) ∧ (8 : Int) < 312 + ((144 : Nat) : Int)) ∧ (48 ≤ (8 : Int) ∧ (8 : Int) < 304 → 4 ≤ ((8 : Int) - 48) % 8) := by
  obtain ⟨b1, b2, b3, b4⟩ := b
  refine ⟨by omega, fun z => by omega⟩
theorem plY_29 {A : St} (b : bd A) {i : Int} (h : i = 0) : ¬ (312 ≤ (10 : Int) ∧ (10 : Int) < 312 + ((144 : Nat) : Int)) ∧ (48 ≤ (10 : Int) ∧ (10 : Int) < 304 → 4 ≤ ((10 : Int) - 48) % 8) := by
  obtain ⟨b1, b2, b3, b4⟩ := b
  refine ⟨by omega, fun z => by omega⟩
theorem pl_yr {A : St} (b : bd A) : ∀ (f : Nat) (i : Int), us A f i → f ≠ 2 → f ≠ 20 → f ≠ 21 → f ≠ 22 → ¬ (312 ≤ pl f i ∧ pl f i < 312 + ((144 : Nat) : Int)) ∧ (48 ≤ pl f i ∧ pl f i < 304 → 4 ≤ (pl f i - 48) % 8)
  | 0, i, h, _, _, _, _ => plY_0 b h
  | 1, i, h, _, _, _, _ => plY_1 b h
  | 2, i, h, h2, h20, h21, h22 => absurd rfl h2
  | 3, i, h, _, _, _, _ => absurd h (fun z => z)
  | 4, i, h, _, _, _, _ => plY_4 b (show (0 ≤ i ∧ i < A 28 0) ∧ _ from h).1
  | 5, i, h, _, _, _, _ => plY_5 b (show (0 ≤ i ∧ i < A 28 0) ∧ _ from h).1
  | 6, i, h, _, _, _, _ => plY_6 b (show (0 ≤ i ∧ i < A 28 0) ∧ _ from h).1
  | 7, i, h, _, _, _, _ => plY_7 b (show (0 ≤ i ∧ i < A 28 0) ∧ _ from h).1
  | 8, i, h, _, _, _, _ => plY_8 b (show (0 ≤ i ∧ i < A 28 0) ∧ _ from h).1
  | 9, i, h, _, _, _, _ => plY_9 b (show (0 ≤ i ∧ i < A 28 0) ∧ _ from h).1
  | 10, i, h, _, _, _, _ => plY_10 b (show (0 ≤ i ∧ i < A 28 0) ∧ _ from h).1
  | 11, i, h, _, _, _, _ => plY_11 b (show (0 ≤ i ∧ i < A 28 0) ∧ _ from h).1
  | 12, i, h, _, _, _, _ => plY_12 b (show (0 ≤ i ∧ i < A 28 0) ∧ _ from h).1
  | 13, i, h, _, _, _, _ => plY_13 b (show (0 ≤ i ∧ i < A 28 0) ∧ _ from h).1
  | 14, i, h, _, _, _, _ => plY_14 b h
  | 15, i, h, _, _, _, _ => plY_15 b h
  | 16, i, h, _, _, _, _ => plY_16 b h
  | 17, i, h, _, _, _, _ => plY_17 b h
  | 18, i, h, _, _, _, _ => plY_18 b h
  | 19, i, h, _, _, _, _ => plY_19 b h
  | 20, i, h, h2, h20, h21, h22 => absurd rfl h20
  | 21, i, h, h2, h20, h21, h22 => absurd rfl h21
  | 22, i, h, h2, h20, h21, h22 => absurd rfl h22
  | 23, i, h, _, _, _, _ => plY_23 b h
  | 24, i, h, _, _, _, _ => plY_24 b h
  | 25, i, h, _, _, _, _ => plY_25 b (show 25 ≤ 29 ∧ i = 0 from h).2
  | 26, i, h, _, _, _, _ => plY_26 b (show 26 ≤ 29 ∧ i = 0 from h).2
  | 27, i, h, _, _, _, _ => plY_27 b (show 27 ≤ 29 ∧ i = 0 from h).2
  | 28, i, h, _, _, _, _ => plY_28 b (show 28 ≤ 29 ∧ i = 0 from h).2
  | 29, i, h, _, _, _, _ => plY_29 b (show 29 ≤ 29 ∧ i = 0 from h).2
  | n + 30, i, h, _, _, _, _ => absurd (us_30 h) (fun z => z)
theorem yearA {A : St} {r : Int → Int} (hA : Ag A r) (b : bd A) : Ag (turnS A) (zrR (yrR (A 26 0) r (A 27 0) 0) 144) := by
  obtain ⟨b1, b2, b3, b4⟩ := id b
  intro f i hu
  have hu2 : us A f i := by
    rw [us_cg (B := A) (turn_ne A (by decide) (by decide) (by decide) (by decide)) (congrFun (turn_ne A (by decide) (by decide) (by decide) (by decide)) 0) (congrFun (turn_ne A (by decide) (by decide) (by decide) (by decide)) 0) (congrFun (turn_ne A (by decide) (by decide) (by decide) (by decide)) 0) (congrFun (turn_ne A (by decide) (by decide) (by decide) (by decide)) 0)] at hu
    exact hu
  by_cases h2 : f = 2
  · subst h2
    have u : 0 ≤ i ∧ i / 3 / 4 < A 27 0 ∧ i / 3 % 4 < A 26 0 := hu2
    rw [turn_2 A (by omega)]
    show zrR _ 144 (48 + 8 * (i / 3) + i % 3) = _
    unfold zrR; rw [if_neg (by omega)]; unfold yrR; rw [if_pos ⟨by omega, Or.inl (by omega)⟩]
    by_cases h3 : i % 3 = 0
    · rw [if_pos h3, if_pos (by omega), ← hA 20 (i / 3) (show 0 ≤ i / 3 ∧ i / 3 / 4 < A 27 0 ∧ i / 3 % 4 < A 26 0 by omega)]
      congr 1; show _ = 48 + 8 * (i / 3) + 3; omega
    · rw [if_neg h3, if_neg (by omega), if_pos (by omega), ← hA 2 (i - 1) (show 0 ≤ i - 1 ∧ (i - 1) / 3 / 4 < A 27 0 ∧ (i - 1) / 3 % 4 < A 26 0 by omega)]
      congr 1; show _ = 48 + 8 * ((i - 1) / 3) + (i - 1) % 3; omega
  by_cases h20 : f = 20
  · subst h20
    have u : 0 ≤ i ∧ i / 4 < A 27 0 ∧ i % 4 < A 26 0 := hu2
    rw [turn_20 A (by omega)]
    show zrR _ 144 (48 + 8 * i + 3) = _
    unfold zrR; rw [if_neg (by omega)]; unfold yrR; rw [if_pos ⟨by omega, Or.inl (by omega)⟩, if_neg (by omega), if_neg (by omega), if_pos (by omega)]
  by_cases h21 : f = 21
  · subst h21
    have u : 0 ≤ i ∧ i < 12 * A 27 0 := hu2
    rw [turn_21 A (by omega)]
    show zrR _ 144 (312 + i) = _
    unfold zrR; rw [if_pos (by omega)]
  by_cases h22 : f = 22
  · subst h22
    have u : 0 ≤ i ∧ i < 12 * A 26 0 := hu2
    rw [turn_22 A (by omega)]
    show zrR _ 144 (408 + i) = _
    unfold zrR; rw [if_pos (by omega)]
  rw [congrFun (turn_ne A h2 h20 h21 h22) i, ← hA f i hu2]
  have pz := pl_yr b f i hu2 h2 h20 h21 h22
  unfold zrR; rw [if_neg pz.1]; unfold yrR
  by_cases h : (48 ≤ pl f i ∧ pl f i < 304) ∧ dnP (A 26 0) (A 27 0) 0 ((pl f i - 48) / 8)
  · rw [if_pos h]
    have p3 := pz.2 h.1
    rw [if_neg (by omega), if_neg (by omega), if_neg (by omega)]
  · rw [if_neg h]

set_option maxHeartbeats 1000000 in
theorem c_X11_yearBegins {Γ : GT} {S T U V A : St} {G : Gw} {nx d : Nat} {Q : QT} (hnx : 52 ≤ nx) (hA : Ag A (V 0)) (hb : bd A) (hL : RgL V)  (hQ : ∀ V2, VX V V2 → RgL V2 → Ag (turnS A) (V2 0) → Q none (hp Γ S T U V2 G) nx) : AM Γ MX11_yearBegins (d + 1, 0, 0) [rf Γ 43] (hp Γ S T U V G) nx Q := by
  refine am_of (by decide) (Nat.le_of_ble_eq_true rfl) (ls := [some (rf Γ 43), none, none, none]) rfl ?_
  obtain ⟨b1, b2, b3, b4⟩ := id hb
  have hL0 := hL
  have hkI : nIm A = (A 27 0).toNat := rfl
  have hkO : nOr A = (A 26 0).toNat := rfl
  refine aw_iconst dX11_yearBegins_0 ?_
  refine aw_istore_n (ls' := [some (rf Γ 43), some _, none, none]) dX11_yearBegins_1 (by decide) rfl ?_
  refine aw_hp (V' := sset V 0 (yrR (A 26 0) (V 0) ((0 : Nat) : Int) 0)) rfl rfl rfl ((by rw [show ((0 : Nat) : Int) = 0 from rfl, yrR_00]; exact sset_id V rfl)) rfl ?_
  refine loopN (nIm A) (P := fun k =>  AW Γ MX11_yearBegins _ _ (0, 0) 2 [some (rf Γ 43), some (vi (k : Int)), none, none] [] (hp Γ S T U (sset V 0 (yrR (A 26 0) (V 0) k 0)) G) nx) (fun k hk ih => ?_) 0 (Nat.zero_le _) 
  refine aw_iload_n dX11_yearBegins_2 rfl ?_
  replace hL := hL0.sset (f := 0) (a := yrR (A 26 0) (V 0) k 0) (fun q => yr_in hL0 _ _ _ q)
  refine aw_aload_n dX11_yearBegins_3 rfl ?_
  refine aw_bipush dX11_yearBegins_4 rfl ?_
  refine aw_callV (As := [_]) (ρ := (_, 0, 0)) (kn' := (0, 0)) cv_X11_164 dX11_yearBegins_6 rfl rfl (hc43 hnx) rfl rfl (Nat.le_of_ble_eq_true rfl) (rmR _ _ _) ⟨Nat.le_refl _, Nat.le_refl _⟩ rfl (c_X11_many hnx hL (by omega) (fun r6 h6 => ?_))
  replace h6 : r6 = A 27 0 := h6.trans (by rw [sset_eq, yrR_lo _ _ _ _ (by omega)]; exact hA.c7)
  refine aw_icmp_ge (tgt := 110) dX11_yearBegins_9 rfl (by omega) (fun c9 => ?_) (fun c9 => ?_)
  · skip
    have ek : (k : Int) = A 27 0 := by omega
    refine aw_sipush dX11_yearBegins_110 rfl ?_
    refine aw_istore_n (ls' := [some (rf Γ 43), some _, none, none]) dX11_yearBegins_113 (by decide) rfl ?_
    refine aw_hp (V' := sset V 0 (zrR (yrR (A 26 0) (V 0) (A 27 0) 0) 0)) rfl rfl rfl ((by rw [zrR_0, ek])) rfl ?_
    refine loopN (144) (P := fun k => ∀ (m : Int) , m = 312 + (k : Int) →  AW Γ MX11_yearBegins _ _ (0, 0) 114 [some (rf Γ 43), some (vi m), none, none] [] (hp Γ S T U (sset V 0 (zrR (yrR (A 26 0) (V 0) (A 27 0) 0) k)) G) nx) (fun k hk ih => ?_) 0 (Nat.zero_le _) _ (by omega)
    intro m i114_0
    refine aw_iload_n dX11_yearBegins_114 rfl ?_
    replace hL := hL0.sset (f := 0) (a := zrR (yrR (A 26 0) (V 0) (A 27 0) 0) k) (fun q => zr_in hL0 _ _ _ k q)
    refine aw_sipush dX11_yearBegins_115 rfl ?_
    refine aw_icmp_ge (tgt := 134) dX11_yearBegins_118 rfl (by omega) (fun c118 => ?_) (fun c118 => ?_)
    · skip
      obtain rfl : k = 144 := by omega
      exact aw_return dX11_yearBegins_134 rfl ⟨Nat.le_refl _, Nat.le_refl _⟩ (hQ _ (fun f hf => by rw [sset_ne _ _ hf]) hL (yearA hA hb))
    · skip
      subst i114_0
      refine aw_aload_n dX11_yearBegins_121 rfl ?_
      refine aw_getf fg_X11_9 dX11_yearBegins_122 (hc43 hnx) rfl ?_
      refine aw_iload_n dX11_yearBegins_125 rfl ?_
      refine aw_lconst0 dX11_yearBegins_126 ?_
      refine aw_lastV dX11_yearBegins_127 (hc44 hnx) (by omega) (by decide) hL (by omega) (fun _ => hu44) (fun hL => ?_)
      refine aw_hp (V' := sset V 0 (zrR (yrR (A 26 0) (V 0) (A 27 0) 0) (k + 1))) rfl rfl rfl ((zrR_st V _ k).symm) rfl ?_
      refine aw_iinc (ls' := [some (rf Γ 43), some _, none, none]) dX11_yearBegins_128 rfl (by decide) rfl ?_
      refine aw_goto (tgt := 114) dX11_yearBegins_131 rfl ?_
      exact ih (by omega) _  (by omega)
  · skip
    refine aw_iconst dX11_yearBegins_12 ?_
    refine aw_istore_n (ls' := [some (rf Γ 43), some _, some _, none]) dX11_yearBegins_13 (by decide) rfl ?_
    refine loopN (nOr A) (P := fun j =>  AW Γ MX11_yearBegins _ _ (0, 0) 14 [some (rf Γ 43), some (vi (k : Int)), some (vi (j : Int)), none] [] (hp Γ S T U (sset V 0 (yrR (A 26 0) (V 0) k j)) G) nx) (fun j hj ihj => ?_) 0 (Nat.zero_le _) 
    refine aw_iload_n dX11_yearBegins_14 rfl ?_
    replace hL := hL0.sset (f := 0) (a := yrR (A 26 0) (V 0) k j) (fun q => yr_in hL0 _ _ _ q)
    refine aw_aload_n dX11_yearBegins_15 rfl ?_
    refine aw_bipush dX11_yearBegins_16 rfl ?_
    refine aw_callV (As := [_]) (ρ := (_, 0, 0)) (kn' := (0, 0)) cv_X11_164 dX11_yearBegins_18 rfl rfl (hc43 hnx) rfl rfl (Nat.le_of_ble_eq_true rfl) (rmR _ _ _) ⟨Nat.le_refl _, Nat.le_refl _⟩ rfl (c_X11_many hnx hL (by omega) (fun r18 h18 => ?_))
    replace h18 : r18 = A 26 0 := h18.trans (by rw [sset_eq, yrR_lo _ _ _ _ (by omega)]; exact hA.c6)
    refine aw_icmp_ge (tgt := 104) dX11_yearBegins_21 rfl (by omega) (fun c21 => ?_) (fun c21 => ?_)
    · skip
      have ej : (j : Int) = A 26 0 := by omega
      refine aw_hp (V' := sset V 0 (yrR (A 26 0) (V 0) ((k : Int) + 1) 0)) rfl rfl rfl ((by rw [ej, yrR_up _ _ (by omega)])) rfl ?_
      refine aw_iinc (ls' := [some (rf Γ 43), some _, some _, none]) dX11_yearBegins_104 rfl (by decide) rfl ?_
      refine aw_goto (tgt := 2) dX11_yearBegins_107 rfl ?_
      refine aw_fg [true, true, false, true] (ls' := [some (rf Γ 43), some _, none, none]) rfl ?_
      exact ih (by omega)   
    · skip
      refine aw_iconst dX11_yearBegins_24 ?_
      refine aw_istore_n (ls' := [some (rf Γ 43), some _, some _, some _]) dX11_yearBegins_25 (by decide) rfl ?_
      refine aw_hp (V' := sset V 0 (yqR (A 26 0) (V 0) k j 0)) rfl rfl rfl ((by rw [yqR_0])) rfl ?_
      refine loopN (2) (P := fun q => ∀ (y : Int) , y = 2 - (q : Int) →  AW Γ MX11_yearBegins _ _ (0, 0) 26 [some (rf Γ 43), some (vi (k : Int)), some (vi (j : Int)), some (vi y)] [] (hp Γ S T U (sset V 0 (yqR (A 26 0) (V 0) k j q)) G) nx) (fun q hq ihq => ?_) 0 (Nat.zero_le _) _ (by omega)
      intro y i26_0
      refine aw_iload_n dX11_yearBegins_26 rfl ?_
      replace hL := hL0.sset (f := 0) (a := yqR (A 26 0) (V 0) k j q) (fun z => yq_in hL0 _ _ _ q z)
      refine aw_if_le (tgt := 64) dX11_yearBegins_27 rfl (by omega) (fun c27 => ?_) (fun c27 => ?_)
      · skip
        obtain rfl : q = 2 := by omega
        refine aw_aload_n dX11_yearBegins_64 rfl ?_
        refine aw_getf fg_X11_9 dX11_yearBegins_65 (hc43 hnx) rfl ?_
        refine aw_iload_n dX11_yearBegins_68 rfl ?_
        refine aw_iload_n dX11_yearBegins_69 rfl ?_
        refine aw_iconst dX11_yearBegins_70 ?_
        refine aw_callS (As := [_, _, _]) (ρ := (_, 0, 0)) (kn' := (0, 0)) cs_X11_44 dX11_yearBegins_71 rfl rfl (Nat.le_of_ble_eq_true rfl) (rmR _ _ _) ⟨Nat.le_refl _, Nat.le_refl _⟩ rfl (c_X11_pairAt hnx  (fun r71 h71 => ?_))
        subst h71
        refine aw_aload_n dX11_yearBegins_74 rfl ?_
        refine aw_getf fg_X11_9 dX11_yearBegins_75 (hc43 hnx) rfl ?_
        refine aw_iload_n dX11_yearBegins_78 rfl ?_
        refine aw_iload_n dX11_yearBegins_79 rfl ?_
        refine aw_iconst dX11_yearBegins_80 ?_
        refine aw_callS (As := [_, _, _]) (ρ := (_, 0, 0)) (kn' := (0, 0)) cs_X11_44 dX11_yearBegins_81 rfl rfl (Nat.le_of_ble_eq_true rfl) (rmR _ _ _) ⟨Nat.le_refl _, Nat.le_refl _⟩ rfl (c_X11_pairAt hnx  (fun r81 h81 => ?_))
        subst h81
        refine aw_laldr dX11_yearBegins_84 (hc44 hnx) (by omega) (by decide) (hL 0) (fun q84 => ?_)
        refine aw_svl (a := V 0 (48 + 8 * (4 * (k : Int) + j) + 3)) ((by rw [sset_eq]; unfold yqR; rw [if_neg (by omega), if_neg (by omega), yrR_at _ _ (by omega) (by omega)])) ?_
        have rv := hL0 0 (48 + 8 * (4 * (k : Int) + j) + 3)
        refine aw_lastV dX11_yearBegins_85 (hc44 hnx) (by omega) (by decide) hL (by omega) (fun _ => hu44) (fun hL => ?_)
        refine aw_aload_n dX11_yearBegins_86 rfl ?_
        refine aw_getf fg_X11_9 dX11_yearBegins_87 (hc43 hnx) rfl ?_
        refine aw_iload_n dX11_yearBegins_90 rfl ?_
        refine aw_iload_n dX11_yearBegins_91 rfl ?_
        refine aw_iconst dX11_yearBegins_92 ?_
        refine aw_callS (As := [_, _, _]) (ρ := (_, 0, 0)) (kn' := (0, 0)) cs_X11_44 dX11_yearBegins_93 rfl rfl (Nat.le_of_ble_eq_true rfl) (rmR _ _ _) ⟨Nat.le_refl _, Nat.le_refl _⟩ rfl (c_X11_pairAt hnx  (fun r93 h93 => ?_))
        subst h93
        refine aw_lconst0 dX11_yearBegins_96 ?_
        refine aw_lastV dX11_yearBegins_97 (hc44 hnx) (by omega) (by decide) hL (by omega) (fun _ => hu44) (fun hL => ?_)
        refine aw_hp (V' := sset V 0 (yrR (A 26 0) (V 0) k ((j : Int) + 1))) rfl rfl rfl ((yrR_st V (A 26 0) k j (by omega) (by omega)).symm) rfl ?_
        refine aw_iinc (ls' := [some (rf Γ 43), some _, some _, some _]) dX11_yearBegins_98 rfl (by decide) rfl ?_
        refine aw_goto (tgt := 14) dX11_yearBegins_101 rfl ?_
        refine aw_fg [true, true, true, false] (ls' := [some (rf Γ 43), some _, some _, none]) rfl ?_
        exact ihj (by omega)   
      · skip
        subst i26_0
        refine aw_aload_n dX11_yearBegins_30 rfl ?_
        refine aw_getf fg_X11_9 dX11_yearBegins_31 (hc43 hnx) rfl ?_
        refine aw_iload_n dX11_yearBegins_34 rfl ?_
        refine aw_iload_n dX11_yearBegins_35 rfl ?_
        refine aw_iconst dX11_yearBegins_36 ?_
        refine aw_iload_n dX11_yearBegins_37 rfl ?_
        refine aw_iadd dX11_yearBegins_38 ?_
        refine aw_callS (As := [_, _, _]) (ρ := (_, 0, 0)) (kn' := (0, 0)) cs_X11_44 dX11_yearBegins_39 rfl rfl (Nat.le_of_ble_eq_true rfl) (rmR _ _ _) ⟨Nat.le_refl _, Nat.le_refl _⟩ rfl (c_X11_pairAt hnx  (fun r39 h39 => ?_))
        subst h39
        refine aw_aload_n dX11_yearBegins_42 rfl ?_
        refine aw_getf fg_X11_9 dX11_yearBegins_43 (hc43 hnx) rfl ?_
        refine aw_iload_n dX11_yearBegins_46 rfl ?_
        refine aw_iload_n dX11_yearBegins_47 rfl ?_
        refine aw_iconst dX11_yearBegins_48 ?_
        refine aw_iload_n dX11_yearBegins_49 rfl ?_
        refine aw_iadd dX11_yearBegins_50 ?_
        refine aw_iconst dX11_yearBegins_51 ?_
        refine aw_isub dX11_yearBegins_52 ?_
        refine aw_callS (As := [_, _, _]) (ρ := (_, 0, 0)) (kn' := (0, 0)) cs_X11_44 dX11_yearBegins_53 rfl rfl (Nat.le_of_ble_eq_true rfl) (rmR _ _ _) ⟨Nat.le_refl _, Nat.le_refl _⟩ rfl (c_X11_pairAt hnx  (fun r53 h53 => ?_))
        subst h53
        refine aw_laldr dX11_yearBegins_56 (hc44 hnx) (by omega) (by decide) (hL 0) (fun q56 => ?_)
        refine aw_svl (a := V 0 (48 + 8 * (4 * (k : Int) + j) + (0 + (2 - (q : Int)) - 1))) ((by rw [sset_eq]; exact (yqR_rd V _ _ _ (by omega) (by omega)).symm)) ?_
        have rv := hL0 0 (48 + 8 * (4 * (k : Int) + j) + (0 + (2 - (q : Int)) - 1))
        refine aw_lastV dX11_yearBegins_57 (hc44 hnx) (by omega) (by decide) hL (by omega) (fun _ => hu44) (fun hL => ?_)
        refine aw_hp (V' := sset V 0 (yqR (A 26 0) (V 0) k j (q + 1))) rfl rfl rfl ((yqR_st V (A 26 0) k j (by omega) (by omega)).symm) rfl ?_
        refine aw_iinc (ls' := [some (rf Γ 43), some _, some _, some _]) dX11_yearBegins_58 rfl (by decide) rfl ?_
        refine aw_goto (tgt := 26) dX11_yearBegins_61 rfl ?_
        exact ihq (by omega) _  (by omega)


/-! a copy stands for the same row -/
theorem usO_0 {A : St} (b : bd A) {i : Int} (h : 0 ≤ i ∧ i < 6) : okF A 0 i := by
  obtain ⟨b1, b2, b3, b4⟩ := b
  exact ⟨by decide, by decide, by omega, by show i < 6; omega⟩
theorem usO_1 {A : St} (b : bd A) {i : Int} (h : 0 ≤ i ∧ i < A 26 0) : okF A 1 i := by
  obtain ⟨b1, b2, b3, b4⟩ := b
  exact ⟨by decide, by decide, by omega, by show i < 4; omega⟩
theorem usO_2 {A : St} (b : bd A) {i : Int} (h : 0 ≤ i ∧ i / 3 / 4 < A 27 0 ∧ i / 3 % 4 < A 26 0) : okF A 2 i := by
  obtain ⟨b1, b2, b3, b4⟩ := b
  exact ⟨by decide, by decide, by omega, by show i < 96; omega⟩
theorem usO_4 {A : St} (b : bd A) {i : Int} (h : 0 ≤ i ∧ i < A 28 0) : okF A 4 i := by
  obtain ⟨b1, b2, b3, b4⟩ := b
  exact ⟨by decide, by decide, by omega, by show i < A 28 0; omega⟩
theorem usO_5 {A : St} (b : bd A) {i : Int} (h : 0 ≤ i ∧ i < A 28 0) : okF A 5 i := by
  obtain ⟨b1, b2, b3, b4⟩ := b
  exact ⟨by decide, by decide, by omega, by show i < A 28 0; omega⟩
theorem usO_6 {A : St} (b : bd A) {i : Int} (h : 0 ≤ i ∧ i < A 28 0) : okF A 6 i := by
  obtain ⟨b1, b2, b3, b4⟩ := b
  exact ⟨by decide, by decide, by omega, by show i < A 28 0; omega⟩
theorem usO_7 {A : St} (b : bd A) {i : Int} (h : 0 ≤ i ∧ i < A 28 0) : okF A 7 i := by
  obtain ⟨b1, b2, b3, b4⟩ := b
  exact ⟨by decide, by decide, by omega, by show i < A 28 0; omega⟩
theorem usO_8 {A : St} (b : bd A) {i : Int} (h : 0 ≤ i ∧ i < A 28 0) : okF A 8 i := by
  obtain ⟨b1, b2, b3, b4⟩ := b
  exact ⟨by decide, by decide, by omega, by show i < A 28 0; omega⟩
theorem usO_9 {A : St} (b : bd A) {i : Int} (h : 0 ≤ i ∧ i < A 28 0) : okF A 9 i := by
  obtain ⟨b1, b2, b3, b4⟩ := b
  exact ⟨by decide, by decide, by omega, by show i < A 28 0; omega⟩
theorem usO_10 {A : St} (b : bd A) {i : Int} (h : 0 ≤ i ∧ i < A 28 0) : okF A 10 i := by
  obtain ⟨b1, b2, b3, b4⟩ := b
  exact ⟨by decide, by decide, by omega, by show i < A 28 0; omega⟩
theorem usO_11 {A : St} (b : bd A) {i : Int} (h : 0 ≤ i ∧ i < A 28 0) : okF A 11 i := by
  obtain ⟨b1, b2, b3, b4⟩ := b
  exact ⟨by decide, by decide, by omega, by show i < A 28 0; omega⟩
theorem usO_12 {A : St} (b : bd A) {i : Int} (h : 0 ≤ i ∧ i < A 28 0) : okF A 12 i := by
  obtain ⟨b1, b2, b3, b4⟩ := b
  exact ⟨by decide, by decide, by omega, by show i < A 28 0; omega⟩
theorem usO_13 {A : St} (b : bd A) {i : Int} (h : 0 ≤ i ∧ i < A 28 0) : okF A 13 i := by
  obtain ⟨b1, b2, b3, b4⟩ := b
  exact ⟨by decide, by decide, by omega, by show i < A 28 0; omega⟩
theorem usO_14 {A : St} (b : bd A) {i : Int} (h : 0 ≤ i ∧ i < 8 * A 26 0 ∧ ¬ i % 8 = 0) : okF A 14 i := by
  obtain ⟨b1, b2, b3, b4⟩ := b
  exact ⟨by decide, by decide, by omega, by show i < 32; omega⟩
theorem usO_15 {A : St} (b : bd A) {i : Int} (h : 0 ≤ i ∧ i / 4 < A 27 0 ∧ i % 4 < A 26 0) : okF A 15 i := by
  obtain ⟨b1, b2, b3, b4⟩ := b
  exact ⟨by decide, by decide, by omega, by show i < 32; omega⟩
theorem usO_16 {A : St} (b : bd A) {i : Int} (h : 0 ≤ i ∧ i / 4 < A 27 0 ∧ i % 4 < A 26 0) : okF A 16 i := by
  obtain ⟨b1, b2, b3, b4⟩ := b
  exact ⟨by decide, by decide, by omega, by show i < 32; omega⟩
theorem usO_17 {A : St} (b : bd A) {i : Int} (h : 0 ≤ i ∧ i / 4 < A 27 0 ∧ i % 4 < A 26 0) : okF A 17 i := by
  obtain ⟨b1, b2, b3, b4⟩ := b
  exact ⟨by decide, by decide, by omega, by show i < 32; omega⟩
theorem usO_18 {A : St} (b : bd A) {i : Int} (h : 0 ≤ i ∧ i / 4 < A 27 0 ∧ i % 4 < A 26 0) : okF A 18 i := by
  obtain ⟨b1, b2, b3, b4⟩ := b
  exact ⟨by decide, by decide, by omega, by show i < 32; omega⟩
theorem usO_19 {A : St} (b : bd A) {i : Int} (h : 0 ≤ i ∧ i / 20 < A 29 0 ∧ i % 20 / 5 < A 26 0) : okF A 19 i := by
  obtain ⟨b1, b2, b3, b4⟩ := b
  exact ⟨by decide, by decide, by omega, by show i < 160; omega⟩
theorem usO_20 {A : St} (b : bd A) {i : Int} (h : 0 ≤ i ∧ i / 4 < A 27 0 ∧ i % 4 < A 26 0) : okF A 20 i := by
  obtain ⟨b1, b2, b3, b4⟩ := b
  exact ⟨by decide, by decide, by omega, by show i < 32; omega⟩
theorem usO_21 {A : St} (b : bd A) {i : Int} (h : 0 ≤ i ∧ i < 12 * A 27 0) : okF A 21 i := by
  obtain ⟨b1, b2, b3, b4⟩ := b
  exact ⟨by decide, by decide, by omega, by show i < 96; omega⟩
theorem usO_22 {A : St} (b : bd A) {i : Int} (h : 0 ≤ i ∧ i < 12 * A 26 0) : okF A 22 i := by
  obtain ⟨b1, b2, b3, b4⟩ := b
  exact ⟨by decide, by decide, by omega, by show i < 48; omega⟩
theorem usO_23 {A : St} (b : bd A) {i : Int} (h : 0 ≤ i ∧ i < A 27 0) : okF A 23 i := by
  obtain ⟨b1, b2, b3, b4⟩ := b
  exact ⟨by decide, by decide, by omega, by show i < 8; omega⟩
theorem usO_24 {A : St} (b : bd A) {i : Int} (h : 0 ≤ i ∧ i < 5) : okF A 24 i := by
  obtain ⟨b1, b2, b3, b4⟩ := b
  exact ⟨by decide, by decide, by omega, by show i < 5; omega⟩
theorem usO_25 {A : St} (b : bd A) {i : Int} (h : i = 0) : okF A 25 i := by
  obtain ⟨b1, b2, b3, b4⟩ := b
  exact ⟨by decide, by decide, by omega, by show i < 1; omega⟩
theorem usO_26 {A : St} (b : bd A) {i : Int} (h : i = 0) : okF A 26 i := by
  obtain ⟨b1, b2, b3, b4⟩ := b
  exact ⟨by decide, by decide, by omega, by show i < 1; omega⟩
theorem usO_27 {A : St} (b : bd A) {i : Int} (h : i = 0) : okF A 27 i := by
  obtain ⟨b1, b2, b3, b4⟩ := b
  exact ⟨by decide, by decide, by omega, by show i < 1; omega⟩
theorem usO_28 {A : St} (b : bd A) {i : Int} (h : i = 0) : okF A 28 i := by
  obtain ⟨b1, b2, b3, b4⟩ := b
  exact ⟨by decide, by decide, by omega, by show i < 1; omega⟩
theorem usO_29 {A : St} (b : bd A) {i : Int} (h : i = 0) : okF A 29 i := by
  obtain ⟨b1, b2, b3, b4⟩ := b
  exact ⟨by decide, by decide, by omega, by show i < 1; omega⟩
theorem us_ok {A : St} (b : bd A) : ∀ (f : Nat) (i : Int), us A f i → okF A f i
  | 0, i, h => usO_0 b h
  | 1, i, h => usO_1 b h
  | 2, i, h => usO_2 b h
  | 3, i, h => absurd h (fun z => z)
  | 4, i, h => usO_4 b (show (0 ≤ i ∧ i < A 28 0) ∧ _ from h).1
  | 5, i, h => usO_5 b (show (0 ≤ i ∧ i < A 28 0) ∧ _ from h).1
  | 6, i, h => usO_6 b (show (0 ≤ i ∧ i < A 28 0) ∧ _ from h).1
  | 7, i, h => usO_7 b (show (0 ≤ i ∧ i < A 28 0) ∧ _ from h).1
  | 8, i, h => usO_8 b (show (0 ≤ i ∧ i < A 28 0) ∧ _ from h).1
  | 9, i, h => usO_9 b (show (0 ≤ i ∧ i < A 28 0) ∧ _ from h).1
  | 10, i, h => usO_10 b (show (0 ≤ i ∧ i < A 28 0) ∧ _ from h).1
  | 11, i, h => usO_11 b (show (0 ≤ i ∧ i < A 28 0) ∧ _ from h).1
  | 12, i, h => usO_12 b (show (0 ≤ i ∧ i < A 28 0) ∧ _ from h).1
  | 13, i, h => usO_13 b (show (0 ≤ i ∧ i < A 28 0) ∧ _ from h).1
  | 14, i, h => usO_14 b h
  | 15, i, h => usO_15 b h
  | 16, i, h => usO_16 b h
  | 17, i, h => usO_17 b h
  | 18, i, h => usO_18 b h
  | 19, i, h => usO_19 b h
  | 20, i, h => usO_20 b h
  | 21, i, h => usO_21 b h
  | 22, i, h => usO_22 b h
  | 23, i, h => usO_23 b h
  | 24, i, h => usO_24 b h
  | 25, i, h => usO_25 b (show 25 ≤ 29 ∧ i = 0 from h).2
  | 26, i, h => usO_26 b (show 26 ≤ 29 ∧ i = 0 from h).2
  | 27, i, h => usO_27 b (show 27 ≤ 29 ∧ i = 0 from h).2
  | 28, i, h => usO_28 b (show 28 ≤ 29 ∧ i = 0 from h).2
  | 29, i, h => usO_29 b (show 29 ≤ 29 ∧ i = 0 from h).2
  | n + 30, i, h => absurd (us_30 h) (fun z => z)
theorem Ag.cp {S X : St} {r : Int → Int} (hA : Ag S r) (b : bd S) : Ag (cpSt S X) r := by
  intro f i hu
  have e26 := cp_at S X 26 0 (usO_26 b rfl)
  have e27 := cp_at S X 27 0 (usO_27 b rfl)
  have e28 := cp_at S X 28 0 (usO_28 b rfl)
  have e29 := cp_at S X 29 0 (usO_29 b rfl)
  have hu2 : us S f i := by
    unfold us at hu ⊢
    rw [e26, e27, e28, e29] at hu
    by_cases h4 : 4 ≤ f ∧ f ≤ 13
    · rw [if_neg (by omega), if_neg (by omega), if_neg (by omega), if_neg (by omega), if_pos h4.2] at hu ⊢
      refine ⟨hu.1, fun z => ?_⟩
      have h1 := hu.2 z
      rw [cp_at S X 10 i (usO_10 b hu.1)] at h1
      exact h1
    · by_cases h13 : f ≤ 13
      · have cs : f = 0 ∨ f = 1 ∨ f = 2 ∨ f = 3 := by omega
        rcases cs with e | e | e | e <;> subst e <;> exact hu
      · simp only [if_neg h13] at hu ⊢; exact hu
  rw [cp_at S X f i (us_ok b f i hu2)]
  exact hA f i hu2


/-! the reference: stores -/
def dec (p : Int) : Nat × Int := if p < 6 then (0, p) else if p = 6 then (26, 0) else if p = 7 then (27, 0) else if p = 8 then (28, 0) else if p = 9 then (25, 0) else if p = 10 then (29, 0) else if p < 16 then (24, p - 11) else if p < 48 ∧ p % 8 = 0 then (1, (p - 16) / 8) else if p < 48 then (14, p - 16) else if p < 304 ∧ p % 8 < 3 then (2, (p - 48) / 8 * 3 + p % 8) else if p < 304 ∧ p % 8 = 3 then (20, (p - 48) / 8) else if p < 304 ∧ p % 8 = 4 then (15, (p - 48) / 8) else if p < 304 ∧ p % 8 = 5 then (16, (p - 48) / 8) else if p < 304 ∧ p % 8 = 6 then (17, (p - 48) / 8) else if p < 304 then (18, (p - 48) / 8) else if p < 312 then (23, p - 304) else if p < 408 then (21, p - 312) else if p < 456 then (22, p - 408) else if p < 1056 ∧ (p - 456) % 10 = 0 then (4, (p - 456) / 10) else if p < 1056 ∧ (p - 456) % 10 = 1 then (5, (p - 456) / 10) else if p < 1056 ∧ (p - 456) % 10 = 2 then (6, (p - 456) / 10) else if p < 1056 ∧ (p - 456) % 10 = 3 then (7, (p - 456) / 10) else if p < 1056 ∧ (p - 456) % 10 = 4 then (9, (p - 456) / 10) else if p < 1056 ∧ (p - 456) % 10 = 5 then (10, (p - 456) / 10) else if p < 1056 ∧ (p - 456) % 10 = 6 then (8, (p - 456) / 10) else if p < 1056 ∧ (p - 456) % 10 = 7 then (11, (p - 456) / 10) else if p < 1056 ∧ (p - 456) % 10 = 8 then (12, (p - 456) / 10) else if p < 1056 then (13, (p - 456) / 10) else (19, p - 1056)
def bd (A : St) : Prop := (0 ≤ A 26 0 ∧ A 26 0 ≤ 4) ∧ (0 ≤ A 27 0 ∧ A 27 0 ≤ 8) ∧ (0 ≤ A 28 0 ∧ A 28 0 ≤ 60) ∧ (0 ≤ A 29 0 ∧ A 29 0 ≤ 8)
theorem Inv.bd {c : Int} {A : St} (h : Inv c A) : Jvm.Pilot.@@N@@.bd A := by have i1 := h.i1; exact ⟨i1.1, i1.2.1, i1.2.2.1, i1.2.2.2.1⟩
theorem dec_0 {A : St} (b : bd A) {i : Int} (h : 0 ≤ i ∧ i < 6) : dec (i) = (0, i) ∧ (0 ≤ i ∧ i < 1216) ∧ (A 28 0 < 60 → ¬ (456 + 10 * A 28 0 ≤ i ∧ i < 466 + 10 * A 28 0)) := by
  obtain ⟨b1, b2, b3, b4⟩ := b
  refine ⟨?_, by omega, by omega⟩
  unfold dec
  rw [if_pos (by omega)]
theorem dec_1 {A : St} (b : bd A) {i : Int} (h : 0 ≤ i ∧ i < A 26 0) : dec (16 + 8 * i) = (1, i) ∧ (0 ≤ 16 + 8 * i ∧ 16 + 8 * i < 1216) ∧ (A 28 0 < 60 → ¬ (456 + 10 * A 28 0 ≤ 16 + 8 * i ∧ 16 + 8 * i < 466 + 10 * A 28 0)) := by
  obtain ⟨b1, b2, b3, b4⟩ := b
  refine ⟨?_, by omega, by omega⟩
  unfold dec
  rw [if_neg (by omega)]
  rw [if_neg (by omega)]
  rw [if_neg (by omega)]
  rw [if_neg (by omega)]
  rw [if_neg (by omega)]
  rw [if_neg (by omega)]
  rw [if_neg (by omega)]
  rw [if_pos (by omega)]
  exact Prod.ext rfl (by show ((16 + 8 * i) - 16) / 8 = i; omega)
theorem dec_2 {A : St} (b : bd A) {i : Int} (h : 0 ≤ i ∧ i / 3 / 4 < A 27 0 ∧ i / 3 % 4 < A 26 0) : dec (48 + 8 * (i / 3) + i % 3) = (2, i) ∧ (0 ≤ 48 + 8 * (i / 3) + i % 3 ∧ 48 + 8 * (i / 3) + i % 3 < 1216) ∧ (A 28 0 < 60 → ¬ (456 + 10 * A 28 0 ≤ 48 + 8 * (i / 3) + i % 3 ∧ 48 + 8 * (i / 3) + i % 3 < 466 + 10 * A 28 0)) := by
  obtain ⟨b1, b2, b3, b4⟩ := b
  refine ⟨?_, by omega, by omega⟩
  unfold dec
  rw [if_neg (by omega)]
  rw [if_neg (by omega)]
  rw [if_neg (by omega)]
  rw [if_neg (by omega)]
  rw [if_neg (by omega)]
  rw [if_neg (by omega)]
  rw [if_neg (by omega)]
  rw [if_neg (by omega)]
  rw [if_neg (by omega)]
  rw [if_pos (by omega)]
  exact Prod.ext rfl (by show ((48 + 8 * (i / 3) + i % 3) - 48) / 8 * 3 + (48 + 8 * (i / 3) + i % 3) % 8 = i; omega)
theorem dec_4 {A : St} (b : bd A) {i : Int} (h : 0 ≤ i ∧ i < A 28 0) : dec (456 + 10 * i + 0) = (4, i) ∧ (0 ≤ 456 + 10 * i + 0 ∧ 456 + 10 * i + 0 < 1216) ∧ (A 28 0 < 60 → ¬ (456 + 10 * A 28 0 ≤ 456 + 10 * i + 0 ∧ 456 + 10 * i + 0 < 466 + 10 * A 28 0)) := by
  obtain ⟨b1, b2, b3, b4⟩ := b
  refine ⟨?_, by omega, by omega⟩
  unfold dec
  rw [if_neg (by omega)]
  rw [if_neg (by omega)]
  rw [if_neg (by omega)]
  rw [if_neg (by omega)]
  rw [if_neg (by omega)]
  rw [if_neg (by omega)]
  rw [if_neg (by omega)]
  rw [if_neg (by omega)]
  rw [if_neg (by omega)]
  rw [if_neg (by omega)]
  rw [if_neg (by omega)]
  rw [if_neg (by omega)]
  rw [if_neg (by omega)]
  rw [if_neg (by omega)]
  rw [if_neg (by omega)]
  rw [if_neg (by omega)]
  rw [if_neg (by omega)]
  rw [if_neg (by omega)]
  rw [if_pos (by omega)]
  exact Prod.ext rfl (by show ((456 + 10 * i + 0) - 456) / 10 = i; omega)
theorem dec_5 {A : St} (b : bd A) {i : Int} (h : 0 ≤ i ∧ i < A 28 0) : dec (456 + 10 * i + 1) = (5, i) ∧ (0 ≤ 456 + 10 * i + 1 ∧ 456 + 10 * i + 1 < 1216) ∧ (A 28 0 < 60 → ¬ (456 + 10 * A 28 0 ≤ 456 + 10 * i + 1 ∧ 456 + 10 * i + 1 < 466 + 10 * A 28 0)) := by
  obtain ⟨b1, b2, b3, b4⟩ := b
  refine ⟨?_, by omega, by omega⟩
  unfold dec
  rw [if_neg (by omega)]
  rw [if_neg (by omega)]
  rw [if_neg (by omega)]
  rw [if_neg (by omega)]
  rw [if_neg (by omega)]
  rw [if_neg (by omega)]
  rw [if_neg (by omega)]
  rw [if_neg (by omega)]
  rw [if_neg (by omega)]
  rw [if_neg (by omega)]
  rw [if_neg (by omega)]
  rw [if_neg (by omega)]
  rw [if_neg (by omega)]
  rw [if_neg (by omega)]
  rw [if_neg (by omega)]
  rw [if_neg (by omega)]
  rw [if_neg (by omega)]
  rw [if_neg (by omega)]
  rw [if_neg (by omega)]
  rw [if_pos (by omega)]
  exact Prod.ext rfl (by show ((456 + 10 * i + 1) - 456) / 10 = i; omega)
theorem dec_6 {A : St} (b : bd A) {i : Int} (h : 0 ≤ i ∧ i < A 28 0) : dec (456 + 10 * i + 2) = (6, i) ∧ (0 ≤ 456 + 10 * i + 2 ∧ 456 + 10 * i + 2 < 1216) ∧ (A 28 0 < 60 → ¬ (456 + 10 * A 28 0 ≤ 456 + 10 * i + 2 ∧ 456 + 10 * i + 2 < 466 + 10 * A 28 0)) := by
  obtain ⟨b1, b2, b3, b4⟩ := b
  refine ⟨?_, by omega, by omega⟩
  unfold dec
  rw [if_neg (by omega)]
  rw [if_neg (by omega)]
  rw [if_neg (by omega)]
  rw [if_neg (by omega)]
  rw [if_neg (by omega)]
  rw [if_neg (by omega)]
  rw [if_neg (by omega)]
  rw [if_neg (by omega)]
  rw [if_neg (by omega)]
  rw [if_neg (by omega)]
  rw [if_neg (by omega)]
  rw [if_neg (by omega)]
  rw [if_neg (by omega)]
  rw [if_neg (by omega)]
  rw [if_neg (by omega)]
  rw [if_neg (by omega)]
  rw [if_neg (by omega)]
  rw [if_neg (by omega)]
  rw [if_neg (by omega)]
  rw [if_neg (by omega)]
  rw [if_pos (by omega)]
  exact Prod.ext rfl (by show ((456 + 10 * i + 2) - 456) / 10 = i; omega)
theorem dec_7 {A : St} (b : bd A) {i : Int} (h : 0 ≤ i ∧ i < A 28 0) : dec (456 + 10 * i + 3) = (7, i) ∧ (0 ≤ 456 + 10 * i + 3 ∧ 456 + 10 * i + 3 < 1216) ∧ (A 28 0 < 60 → ¬ (456 + 10 * A 28 0 ≤ 456 + 10 * i + 3 ∧ 456 + 10 * i + 3 < 466 + 10 * A 28 0)) := by
  obtain ⟨b1, b2, b3, b4⟩ := b
  refine ⟨?_, by omega, by omega⟩
  unfold dec
  rw [if_neg (by omega)]
  rw [if_neg (by omega)]
  rw [if_neg (by omega)]
  rw [if_neg (by omega)]
  rw [if_neg (by omega)]
  rw [if_neg (by omega)]
  rw [if_neg (by omega)]
  rw [if_neg (by omega)]
  rw [if_neg (by omega)]
  rw [if_neg (by omega)]
  rw [if_neg (by omega)]
  rw [if_neg (by omega)]
  rw [if_neg (by omega)]
  rw [if_neg (by omega)]
  rw [if_neg (by omega)]
  rw [if_neg (by omega)]
  rw [if_neg (by omega)]
  rw [if_neg (by omega)]
  rw [if_neg (by omega)]
  rw [if_neg (by omega)]
  rw [if_neg (by omega)]
  rw [if_pos (by omega)]
  exact Prod.ext rfl (by show ((456 + 10 * i + 3) - 456) / 10 = i; omega)
theorem dec_8 {A : St} (b : bd A) {i : Int} (h : 0 ≤ i ∧ i < A 28 0) : dec (456 + 10 * i + 6) = (8, i) ∧ (0 ≤ 456 + 10 * i + 6 ∧ 456 + 10 * i + 6 < 1216) ∧ (A 28 0 < 60 → ¬ (456 + 10 * A 28 0 ≤ 456 + 10 * i + 6 ∧ 456 + 10 * i + 6 < 466 + 10 * A 28 0)) := by
  obtain ⟨b1, b2, b3, b4⟩ := b
  refine ⟨?_, by omega, by omega⟩
  unfold dec
  rw [if_neg (by omega)]
  rw [if_neg (by omega)]
  rw [if_neg (by omega)]
  rw [if_neg (by omega)]
  rw [if_neg (by omega)]
  rw [if_neg (by omega)]
  rw [if_neg (by omega)]
  rw [if_neg (by omega)]
  rw [if_neg (by omega)]
  rw [if_neg (by omega)]
  rw [if_neg (by omega)]
  rw [if_neg (by omega)]
  rw [if_neg (by omega)]
  rw [if_neg (by omega)]
  rw [if_neg (by omega)]
  rw [if_neg (by omega)]
  rw [if_neg (by omega)]
  rw [if_neg (by omega)]
  rw [if_neg (by omega)]
  rw [if_neg (by omega)]
  rw [if_neg (by omega)]
  rw [if_neg (by omega)]
  rw [if_neg (by omega)]
  rw [if_neg (by omega)]
  rw [if_pos (by omega)]
  exact Prod.ext rfl (by show ((456 + 10 * i + 6) - 456) / 10 = i; omega)
theorem dec_9 {A : St} (b : bd A) {i : Int} (h : 0 ≤ i ∧ i < A 28 0) : dec (456 + 10 * i + 4) = (9, i) ∧ (0 ≤ 456 + 10 * i + 4 ∧ 456 + 10 * i + 4 < 1216) ∧ (A 28 0 < 60 → ¬ (456 + 10 * A 28 0 ≤ 456 + 10 * i + 4 ∧ 456 + 10 * i + 4 < 466 + 10 * A 28 0)) := by
  obtain ⟨b1, b2, b3, b4⟩ := b
  refine ⟨?_, by omega, by omega⟩
  unfold dec
  rw [if_neg (by omega)]
  rw [if_neg (by omega)]
  rw [if_neg (by omega)]
  rw [if_neg (by omega)]
  rw [if_neg (by omega)]
  rw [if_neg (by omega)]
  rw [if_neg (by omega)]
  rw [if_neg (by omega)]
  rw [if_neg (by omega)]
  rw [if_neg (by omega)]
  rw [if_neg (by omega)]
  rw [if_neg (by omega)]
  rw [if_neg (by omega)]
  rw [if_neg (by omega)]
  rw [if_neg (by omega)]
  rw [if_neg (by omega)]
  rw [if_neg (by omega)]
  rw [if_neg (by omega)]
  rw [if_neg (by omega)]
  rw [if_neg (by omega)]
  rw [if_neg (by omega)]
  rw [if_neg (by omega)]
  rw [if_pos (by omega)]
  exact Prod.ext rfl (by show ((456 + 10 * i + 4) - 456) / 10 = i; omega)
theorem dec_10 {A : St} (b : bd A) {i : Int} (h : 0 ≤ i ∧ i < A 28 0) : dec (456 + 10 * i + 5) = (10, i) ∧ (0 ≤ 456 + 10 * i + 5 ∧ 456 + 10 * i + 5 < 1216) ∧ (A 28 0 < 60 → ¬ (456 + 10 * A 28 0 ≤ 456 + 10 * i + 5 ∧ 456 + 10 * i + 5 < 466 + 10 * A 28 0)) := by
  obtain ⟨b1, b2, b3, b4⟩ := b
  refine ⟨?_, by omega, by omega⟩
  unfold dec
  rw [if_neg (by omega)]
  rw [if_neg (by omega)]
  rw [if_neg (by omega)]
  rw [if_neg (by omega)]
  rw [if_neg (by omega)]
  rw [if_neg (by omega)]
  rw [if_neg (by omega)]
  rw [if_neg (by omega)]
  rw [if_neg (by omega)]
  rw [if_neg (by omega)]
  rw [if_neg (by omega)]
  rw [if_neg (by omega)]
  rw [if_neg (by omega)]
  rw [if_neg (by omega)]
  rw [if_neg (by omega)]
  rw [if_neg (by omega)]
  rw [if_neg (by omega)]
  rw [if_neg (by omega)]
  rw [if_neg (by omega)]
  rw [if_neg (by omega)]
  rw [if_neg (by omega)]
  rw [if_neg (by omega)]
  rw [if_neg (by omega)]
  rw [if_pos (by omega)]
  exact Prod.ext rfl (by show ((456 + 10 * i + 5) - 456) / 10 = i; omega)
theorem dec_11 {A : St} (b : bd A) {i : Int} (h : 0 ≤ i ∧ i < A 28 0) : dec (456 + 10 * i + 7) = (11, i) ∧ (0 ≤ 456 + 10 * i + 7 ∧ 456 + 10 * i + 7 < 1216) ∧ (A 28 0 < 60 → ¬ (456 + 10 * A 28 0 ≤ 456 + 10 * i + 7 ∧ 456 + 10 * i + 7 < 466 + 10 * A 28 0)) := by
  obtain ⟨b1, b2, b3, b4⟩ := b
  refine ⟨?_, by omega, by omega⟩
  unfold dec
  rw [if_neg (by omega)]
  rw [if_neg (by omega)]
  rw [if_neg (by omega)]
  rw [if_neg (by omega)]
  rw [if_neg (by omega)]
  rw [if_neg (by omega)]
  rw [if_neg (by omega)]
  rw [if_neg (by omega)]
  rw [if_neg (by omega)]
  rw [if_neg (by omega)]
  rw [if_neg (by omega)]
  rw [if_neg (by omega)]
  rw [if_neg (by omega)]
  rw [if_neg (by omega)]
  rw [if_neg (by omega)]
  rw [if_neg (by omega)]
  rw [if_neg (by omega)]
  rw [if_neg (by omega)]
  rw [if_neg (by omega)]
  rw [if_neg (by omega)]
  rw [if_neg (by omega)]
  rw [if_neg (by omega)]
  rw [if_neg (by omega)]
  rw [if_neg (by omega)]
  rw [if_neg (by omega)]
  rw [if_pos (by omega)]
  exact Prod.ext rfl (by show ((456 + 10 * i + 7) - 456) / 10 = i; omega)
theorem dec_12 {A : St} (b : bd A) {i : Int} (h : 0 ≤ i ∧ i < A 28 0) : dec (456 + 10 * i + 8) = (12, i) ∧ (0 ≤ 456 + 10 * i + 8 ∧ 456 + 10 * i + 8 < 1216) ∧ (A 28 0 < 60 → ¬ (456 + 10 * A 28 0 ≤ 456 + 10 * i + 8 ∧ 456 + 10 * i + 8 < 466 + 10 * A 28 0)) := by
  obtain ⟨b1, b2, b3, b4⟩ := b
  refine ⟨?_, by omega, by omega⟩
  unfold dec
  rw [if_neg (by omega)]
  rw [if_neg (by omega)]
  rw [if_neg (by omega)]
  rw [if_neg (by omega)]
  rw [if_neg (by omega)]
  rw [if_neg (by omega)]
  rw [if_neg (by omega)]
  rw [if_neg (by omega)]
  rw [if_neg (by omega)]
  rw [if_neg (by omega)]
  rw [if_neg (by omega)]
  rw [if_neg (by omega)]
  rw [if_neg (by omega)]
  rw [if_neg (by omega)]
  rw [if_neg (by omega)]
  rw [if_neg (by omega)]
  rw [if_neg (by omega)]
  rw [if_neg (by omega)]
  rw [if_neg (by omega)]
  rw [if_neg (by omega)]
  rw [if_neg (by omega)]
  rw [if_neg (by omega)]
  rw [if_neg (by omega)]
  rw [if_neg (by omega)]
  rw [if_neg (by omega)]
  rw [if_neg (by omega)]
  rw [if_pos (by omega)]
  exact Prod.ext rfl (by show ((456 + 10 * i + 8) - 456) / 10 = i; omega)
theorem dec_13 {A : St} (b : bd A) {i : Int} (h : 0 ≤ i ∧ i < A 28 0) : dec (456 + 10 * i + 9) = (13, i) ∧ (0 ≤ 456 + 10 * i + 9 ∧ 456 + 10 * i + 9 < 1216) ∧ (A 28 0 < 60 → ¬ (456 + 10 * A 28 0 ≤ 456 + 10 * i + 9 ∧ 456 + 10 * i + 9 < 466 + 10 * A 28 0)) := by
  obtain ⟨b1, b2, b3, b4⟩ := b
  refine ⟨?_, by omega, by omega⟩
  unfold dec
  rw [if_neg (by omega)]
  rw [if_neg (by omega)]
  rw [if_neg (by omega)]
  rw [if_neg (by omega)]
  rw [if_neg (by omega)]
  rw [if_neg (by omega)]
  rw [if_neg (by omega)]
  rw [if_neg (by omega)]
  rw [if_neg (by omega)]
  rw [if_neg (by omega)]
  rw [if_neg (by omega)]
  rw [if_neg (by omega)]
  rw [if_neg (by omega)]
  rw [if_neg (by omega)]
  rw [if_neg (by omega)]
  rw [if_neg (by omega)]
  rw [if_neg (by omega)]
  rw [if_neg (by omega)]
  rw [if_neg (by omega)]
  rw [if_neg (by omega)]
  rw [if_neg (by omega)]
  rw [if_neg (by omega)]
  rw [if_neg (by omega)]
  rw [if_neg (by omega)]
  rw [if_neg (by omega)]
  rw [if_neg (by omega)]
  rw [if_neg (by omega)]
  rw [if_pos (by omega)]
  exact Prod.ext rfl (by show ((456 + 10 * i + 9) - 456) / 10 = i; omega)
theorem dec_14 {A : St} (b : bd A) {i : Int} (h : 0 ≤ i ∧ i < 8 * A 26 0 ∧ ¬ i % 8 = 0) : dec (16 + i) = (14, i) ∧ (0 ≤ 16 + i ∧ 16 + i < 1216) ∧ (A 28 0 < 60 → ¬ (456 + 10 * A 28 0 ≤ 16 + i ∧ 16 + i < 466 + 10 * A 28 0)) := by
  obtain ⟨b1, b2, b3, b4⟩ := b
  refine ⟨?_, by omega, by omega⟩
  unfold dec
  rw [if_neg (by omega)]
  rw [if_neg (by omega)]
  rw [if_neg (by omega)]
  rw [if_neg (by omega)]
  rw [if_neg (by omega)]
  rw [if_neg (by omega)]
  rw [if_neg (by omega)]
  rw [if_neg (by omega)]
  rw [if_pos (by omega)]
  exact Prod.ext rfl (by show (16 + i) - 16 = i; omega)
theorem dec_15 {A : St} (b : bd A) {i : Int} (h : 0 ≤ i ∧ i / 4 < A 27 0 ∧ i % 4 < A 26 0) : dec (48 + 8 * i + 4) = (15, i) ∧ (0 ≤ 48 + 8 * i + 4 ∧ 48 + 8 * i + 4 < 1216) ∧ (A 28 0 < 60 → ¬ (456 + 10 * A 28 0 ≤ 48 + 8 * i + 4 ∧ 48 + 8 * i + 4 < 466 + 10 * A 28 0)) := by
  obtain ⟨b1, b2, b3, b4⟩ := b
  refine ⟨?_, by omega, by omega⟩
  unfold dec
  rw [if_neg (by omega)]
  rw [if_neg (by omega)]
  rw [if_neg (by omega)]
  rw [if_neg (by omega)]
  rw [if_neg (by omega)]
  rw [if_neg (by omega)]
  rw [if_neg (by omega)]
  rw [if_neg (by omega)]
  rw [if_neg (by omega)]
  rw [if_neg (by omega)]
  rw [if_neg (by omega)]
  rw [if_pos (by omega)]
  exact Prod.ext rfl (by show ((48 + 8 * i + 4) - 48) / 8 = i; omega)
theorem dec_16 {A : St} (b : bd A) {i : Int} (h : 0 ≤ i ∧ i / 4 < A 27 0 ∧ i % 4 < A 26 0) : dec (48 + 8 * i + 5) = (16, i) ∧ (0 ≤ 48 + 8 * i + 5 ∧ 48 + 8 * i + 5 < 1216) ∧ (A 28 0 < 60 → ¬ (456 + 10 * A 28 0 ≤ 48 + 8 * i + 5 ∧ 48 + 8 * i + 5 < 466 + 10 * A 28 0)) := by
  obtain ⟨b1, b2, b3, b4⟩ := b
  refine ⟨?_, by omega, by omega⟩
  unfold dec
  rw [if_neg (by omega)]
  rw [if_neg (by omega)]
  rw [if_neg (by omega)]
  rw [if_neg (by omega)]
  rw [if_neg (by omega)]
  rw [if_neg (by omega)]
  rw [if_neg (by omega)]
  rw [if_neg (by omega)]
  rw [if_neg (by omega)]
  rw [if_neg (by omega)]
  rw [if_neg (by omega)]
  rw [if_neg (by omega)]
  rw [if_pos (by omega)]
  exact Prod.ext rfl (by show ((48 + 8 * i + 5) - 48) / 8 = i; omega)
theorem dec_17 {A : St} (b : bd A) {i : Int} (h : 0 ≤ i ∧ i / 4 < A 27 0 ∧ i % 4 < A 26 0) : dec (48 + 8 * i + 6) = (17, i) ∧ (0 ≤ 48 + 8 * i + 6 ∧ 48 + 8 * i + 6 < 1216) ∧ (A 28 0 < 60 → ¬ (456 + 10 * A 28 0 ≤ 48 + 8 * i + 6 ∧ 48 + 8 * i + 6 < 466 + 10 * A 28 0)) := by
  obtain ⟨b1, b2, b3, b4⟩ := b
  refine ⟨?_, by omega, by omega⟩
  unfold dec
  rw [if_neg (by omega)]
  rw [if_neg (by omega)]
  rw [if_neg (by omega)]
  rw [if_neg (by omega)]
  rw [if_neg (by omega)]
  rw [if_neg (by omega)]
  rw [if_neg (by omega)]
  rw [if_neg (by omega)]
  rw [if_neg (by omega)]
  rw [if_neg (by omega)]
  rw [if_neg (by omega)]
  rw [if_neg (by omega)]
  rw [if_neg (by omega)]
  rw [if_pos (by omega)]
  exact Prod.ext rfl (by show ((48 + 8 * i + 6) - 48) / 8 = i; omega)
theorem dec_18 {A : St} (b : bd A) {i : Int} (h : 0 ≤ i ∧ i / 4 < A 27 0 ∧ i % 4 < A 26 0) : dec (48 + 8 * i + 7) = (18, i) ∧ (0 ≤ 48 + 8 * i + 7 ∧ 48 + 8 * i + 7 < 1216) ∧ (A 28 0 < 60 → ¬ (456 + 10 * A 28 0 ≤ 48 + 8 * i + 7 ∧ 48 + 8 * i + 7 < 466 + 10 * A 28 0)) := by
  obtain ⟨b1, b2, b3, b4⟩ := b
  refine ⟨?_, by omega, by omega⟩
  unfold dec
  rw [if_neg (by omega)]
  rw [if_neg (by omega)]
  rw [if_neg (by omega)]
  rw [if_neg (by omega)]
  rw [if_neg (by omega)]
  rw [if_neg (by omega)]
  rw [if_neg (by omega)]
  rw [if_neg (by omega)]
  rw [if_neg (by omega)]
  rw [if_neg (by omega)]
  rw [if_neg (by omega)]
  rw [if_neg (by omega)]
  rw [if_neg (by omega)]
  rw [if_neg (by omega)]
  rw [if_pos (by omega)]
  exact Prod.ext rfl (by show ((48 + 8 * i + 7) - 48) / 8 = i; omega)
theorem dec_19 {A : St} (b : bd A) {i : Int} (h : 0 ≤ i ∧ i / 20 < A 29 0 ∧ i % 20 / 5 < A 26 0) : dec (1056 + i) = (19, i) ∧ (0 ≤ 1056 + i ∧ 1056 + i < 1216) ∧ (A 28 0 < 60 → ¬ (456 + 10 * A 28 0 ≤ 1056 + i ∧ 1056 + i < 466 + 10 * A 28 0)) := by
  obtain ⟨b1, b2, b3, b4⟩ := b
  refine ⟨?_, by omega, by omega⟩
  unfold dec
  rw [if_neg (by omega)]
  rw [if_neg (by omega)]
  rw [if_neg (by omega)]
  rw [if_neg (by omega)]
  rw [if_neg (by omega)]
  rw [if_neg (by omega)]
  rw [if_neg (by omega)]
  rw [if_neg (by omega)]
  rw [if_neg (by omega)]
  rw [if_neg (by omega)]
  rw [if_neg (by omega)]
  rw [if_neg (by omega)]
  rw [if_neg (by omega)]
  rw [if_neg (by omega)]
  rw [if_neg (by omega)]
  rw [if_neg (by omega)]
  rw [if_neg (by omega)]
  rw [if_neg (by omega)]
  rw [if_neg (by omega)]
  rw [if_neg (by omega)]
  rw [if_neg (by omega)]
  rw [if_neg (by omega)]
  rw [if_neg (by omega)]
  rw [if_neg (by omega)]
  rw [if_neg (by omega)]
  rw [if_neg (by omega)]
  rw [if_neg (by omega)]
  rw [if_neg (by omega)]
  exact Prod.ext rfl (by show (1056 + i) - 1056 = i; omega)
theorem dec_20 {A : St} (b : bd A) {i : Int} (h : 0 ≤ i ∧ i / 4 < A 27 0 ∧ i % 4 < A 26 0) : dec (48 + 8 * i + 3) = (20, i) ∧ (0 ≤ 48 + 8 * i + 3 ∧ 48 + 8 * i + 3 < 1216) ∧ (A 28 0 < 60 → ¬ (456 + 10 * A 28 0 ≤ 48 + 8 * i + 3 ∧ 48 + 8 * i + 3 < 466 + 10 * A 28 0)) := by
  obtain ⟨b1, b2, b3, b4⟩ := b
  refine ⟨?_, by omega, by omega⟩
  unfold dec
  rw [if_neg (by omega)]
  rw [if_neg (by omega)]
  rw [if_neg (by omega)]
  rw [if_neg (by omega)]
  rw [if_neg (by omega)]
  rw [if_neg (by omega)]
  rw [if_neg (by omega)]
  rw [if_neg (by omega)]
  rw [if_neg (by omega)]
  rw [if_neg (by omega)]
  rw [if_pos (by omega)]
  exact Prod.ext rfl (by show ((48 + 8 * i + 3) - 48) / 8 = i; omega)
theorem dec_21 {A : St} (b : bd A) {i : Int} (h : 0 ≤ i ∧ i < 12 * A 27 0) : dec (312 + i) = (21, i) ∧ (0 ≤ 312 + i ∧ 312 + i < 1216) ∧ (A 28 0 < 60 → ¬ (456 + 10 * A 28 0 ≤ 312 + i ∧ 312 + i < 466 + 10 * A 28 0)) := by
  obtain ⟨b1, b2, b3, b4⟩ := b
  refine ⟨?_, by omega, by omega⟩
  unfold dec
  rw [if_neg (by omega)]
  rw [if_neg (by omega)]
  rw [if_neg (by omega)]
  rw [if_neg (by omega)]
  rw [if_neg (by omega)]
  rw [if_neg (by omega)]
  rw [if_neg (by omega)]
  rw [if_neg (by omega)]
  rw [if_neg (by omega)]
  rw [if_neg (by omega)]
  rw [if_neg (by omega)]
  rw [if_neg (by omega)]
  rw [if_neg (by omega)]
  rw [if_neg (by omega)]
  rw [if_neg (by omega)]
  rw [if_neg (by omega)]
  rw [if_pos (by omega)]
  exact Prod.ext rfl (by show (312 + i) - 312 = i; omega)
theorem dec_22 {A : St} (b : bd A) {i : Int} (h : 0 ≤ i ∧ i < 12 * A 26 0) : dec (408 + i) = (22, i) ∧ (0 ≤ 408 + i ∧ 408 + i < 1216) ∧ (A 28 0 < 60 → ¬ (456 + 10 * A 28 0 ≤ 408 + i ∧ 408 + i < 466 + 10 * A 28 0)) := by
  obtain ⟨b1, b2, b3, b4⟩ := b
  refine ⟨?_, by omega, by omega⟩
  unfold dec
  rw [if_neg (by omega)]
  rw [if_neg (by omega)]
  rw [if_neg (by omega)]
  rw [if_neg (by omega)]
  rw [if_neg (by omega)]
  rw [if_neg (by omega)]
  rw [if_neg (by omega)]
  rw [if_neg (by omega)]
  rw [if_neg (by omega)]
  rw [if_neg (by omega)]
  rw [if_neg (by omega)]
  rw [if_neg (by omega)]
  rw [if_neg (by omega)]
  rw [if_neg (by omega)]
  rw [if_neg (by omega)]
  rw [if_neg (by omega)]
  rw [if_neg (by omega)]
  rw [if_pos (by omega)]
  exact Prod.ext rfl (by show (408 + i) - 408 = i; omega)
theorem dec_23 {A : St} (b : bd A) {i : Int} (h : 0 ≤ i ∧ i < A 27 0) : dec (304 + i) = (23, i) ∧ (0 ≤ 304 + i ∧ 304 + i < 1216) ∧ (A 28 0 < 60 → ¬ (456 + 10 * A 28 0 ≤ 304 + i ∧ 304 + i < 466 + 10 * A 28 0)) := by
  obtain ⟨b1, b2, b3, b4⟩ := b
  refine ⟨?_, by omega, by omega⟩
  unfold dec
  rw [if_neg (by omega)]
  rw [if_neg (by omega)]
  rw [if_neg (by omega)]
  rw [if_neg (by omega)]
  rw [if_neg (by omega)]
  rw [if_neg (by omega)]
  rw [if_neg (by omega)]
  rw [if_neg (by omega)]
  rw [if_neg (by omega)]
  rw [if_neg (by omega)]
  rw [if_neg (by omega)]
  rw [if_neg (by omega)]
  rw [if_neg (by omega)]
  rw [if_neg (by omega)]
  rw [if_neg (by omega)]
  rw [if_pos (by omega)]
  exact Prod.ext rfl (by show (304 + i) - 304 = i; omega)
theorem dec_24 {A : St} (b : bd A) {i : Int} (h : 0 ≤ i ∧ i < 5) : dec (11 + i) = (24, i) ∧ (0 ≤ 11 + i ∧ 11 + i < 1216) ∧ (A 28 0 < 60 → ¬ (456 + 10 * A 28 0 ≤ 11 + i ∧ 11 + i < 466 + 10 * A 28 0)) := by
  obtain ⟨b1, b2, b3, b4⟩ := b
  refine ⟨?_, by omega, by omega⟩
  unfold dec
  rw [if_neg (by omega)]
  rw [if_neg (by omega)]
  rw [if_neg (by omega)]
  rw [if_neg (by omega)]
  rw [if_neg (by omega)]
  rw [if_neg (by omega)]
  rw [if_pos (by omega)]
  exact Prod.ext rfl (by show (11 + i) - 11 = i; omega)
theorem dec_25 {A : St} (b : bd A) {i : Int} (h : i = 0) : dec ((9 : Int)) = (25, i) ∧ (0 ≤ (9 : Int) ∧ (9 : Int) < 1216) ∧ (A 28 0 < 60 → ¬ (456 + 10 * A 28 0 ≤ (9 : Int) ∧ (9 : Int) < 466 + 10 * A 28 0)) := by
  obtain ⟨b1, b2, b3, b4⟩ := b
  refine ⟨?_, by omega, by omega⟩
  unfold dec
  rw [if_neg (by omega)]
  rw [if_neg (by omega)]
  rw [if_neg (by omega)]
  rw [if_neg (by omega)]
  rw [if_pos (by omega)]
  exact Prod.ext rfl (by show 0 = i; omega)
theorem dec_26 {A : St} (b : bd A) {i : Int} (h : i = 0) : dec ((6 : Int)) = (26, i) ∧ (0 ≤ (6 : Int) ∧ (6 : Int) < 1216) ∧ (A 28 0 < 60 → ¬ (456 + 10 * A 28 0 ≤ (6 : Int) ∧ (6 : Int) < 466 + 10 * A 28 0)) := by
  obtain ⟨b1, b2, b3, b4⟩ := b
  refine ⟨?_, by omega, by omega⟩
  unfold dec
  rw [if_neg (by omega)]
  rw [if_pos (by omega)]
  exact Prod.ext rfl (by show 0 = i; omega)
theorem dec_27 {A : St} (b : bd A) {i : Int} (h : i = 0) : dec ((7 : Int)) = (27, i) ∧ (0 ≤ (7 : Int) ∧ (7 : Int) < 1216) ∧ (A 28 0 < 60 → ¬ (456 + 10 * A 28 0 ≤ (7 : Int) ∧ (7 : Int) < 466 + 10 * A 28 0)) := by
  obtain ⟨b1, b2, b3, b4⟩ := b
  refine ⟨?_, by omega, by omega⟩
  unfold dec
  rw [if_neg (by omega)]
  rw [if_neg (by omega)]
  rw [if_pos (by omega)]
  exact Prod.ext rfl (by show 0 = i; omega)
theorem dec_28 {A : St} (b : bd A) {i : Int} (h : i = 0) : dec ((8 : Int)) = (28, i) ∧ (0 ≤ (8 : Int) ∧ (8 : Int) < 1216) ∧ (A 28 0 < 60 → ¬ (456 + 10 * A 28 0 ≤ (8 : Int) ∧ (8 : Int) < 466 + 10 * A 28 0)) := by
  obtain ⟨b1, b2, b3, b4⟩ := b
  refine ⟨?_, by omega, by omega⟩
  unfold dec
  rw [if_neg (by omega)]
  rw [if_neg (by omega)]
  rw [if_neg (by omega)]
  rw [if_pos (by omega)]
  exact Prod.ext rfl (by show 0 = i; omega)
theorem dec_29 {A : St} (b : bd A) {i : Int} (h : i = 0) : dec ((10 : Int)) = (29, i) ∧ (0 ≤ (10 : Int) ∧ (10 : Int) < 1216) ∧ (A 28 0 < 60 → ¬ (456 + 10 * A 28 0 ≤ (10 : Int) ∧ (10 : Int) < 466 + 10 * A 28 0)) := by
  obtain ⟨b1, b2, b3, b4⟩ := b
  refine ⟨?_, by omega, by omega⟩
  unfold dec
  rw [if_neg (by omega)]
  rw [if_neg (by omega)]
  rw [if_neg (by omega)]
  rw [if_neg (by omega)]
  rw [if_neg (by omega)]
  rw [if_pos (by omega)]
  exact Prod.ext rfl (by show 0 = i; omega)
theorem us_30 {A : St} {n : Nat} {i : Int} (h : us A (n + 30) i) : False := by
  unfold us at h
  rw [if_neg (by omega), if_neg (by omega), if_neg (by omega), if_neg (by omega), if_neg (by omega), if_neg (by omega), if_neg (by omega), if_neg (by omega), if_neg (by omega), if_neg (by omega), if_neg (by omega), if_neg (by omega)] at h
  omega
theorem us_cg {A B : St} (h10 : A 10 = B 10) (h26 : A 26 0 = B 26 0) (h27 : A 27 0 = B 27 0) (h28 : A 28 0 = B 28 0) (h29 : A 29 0 = B 29 0) (f : Nat) (i : Int) : us A f i = us B f i := by
  unfold us; rw [h10, h26, h27, h28, h29]
theorem pl_all {A : St} (b : bd A) : ∀ (f : Nat) (i : Int), us A f i → dec (pl f i) = (f, i) ∧ (0 ≤ pl f i ∧ pl f i < 1216) ∧ (A 28 0 < 60 → ¬ (456 + 10 * A 28 0 ≤ pl f i ∧ pl f i < 466 + 10 * A 28 0))
  | 0, i, h => dec_0 b h
  | 1, i, h => dec_1 b h
  | 2, i, h => dec_2 b h
  | 3, i, h => absurd h (fun z => z)
  | 4, i, h => dec_4 b (show (0 ≤ i ∧ i < A 28 0) ∧ _ from h).1
  | 5, i, h => dec_5 b (show (0 ≤ i ∧ i < A 28 0) ∧ _ from h).1
  | 6, i, h => dec_6 b (show (0 ≤ i ∧ i < A 28 0) ∧ _ from h).1
  | 7, i, h => dec_7 b (show (0 ≤ i ∧ i < A 28 0) ∧ _ from h).1
  | 8, i, h => dec_8 b (show (0 ≤ i ∧ i < A 28 0) ∧ _ from h).1
  | 9, i, h => dec_9 b (show (0 ≤ i ∧ i < A 28 0) ∧ _ from h).1
  | 10, i, h => dec_10 b (show (0 ≤ i ∧ i < A 28 0) ∧ _ from h).1
  | 11, i, h => dec_11 b (show (0 ≤ i ∧ i < A 28 0) ∧ _ from h).1
  | 12, i, h => dec_12 b (show (0 ≤ i ∧ i < A 28 0) ∧ _ from h).1
  | 13, i, h => dec_13 b (show (0 ≤ i ∧ i < A 28 0) ∧ _ from h).1
  | 14, i, h => dec_14 b h
  | 15, i, h => dec_15 b h
  | 16, i, h => dec_16 b h
  | 17, i, h => dec_17 b h
  | 18, i, h => dec_18 b h
  | 19, i, h => dec_19 b h
  | 20, i, h => dec_20 b h
  | 21, i, h => dec_21 b h
  | 22, i, h => dec_22 b h
  | 23, i, h => dec_23 b h
  | 24, i, h => dec_24 b h
  | 25, i, h => dec_25 b (show 25 ≤ 29 ∧ i = 0 from h).2
  | 26, i, h => dec_26 b (show 26 ≤ 29 ∧ i = 0 from h).2
  | 27, i, h => dec_27 b (show 27 ≤ 29 ∧ i = 0 from h).2
  | 28, i, h => dec_28 b (show 28 ≤ 29 ∧ i = 0 from h).2
  | 29, i, h => dec_29 b (show 29 ≤ 29 ∧ i = 0 from h).2
  | n + 30, i, h => absurd (us_30 h) (fun z => z)
theorem pl_ne {A : St} (b : bd A) {f g : Nat} {i j p : Int} (hu : us A f i) (hd : dec p = (g, j)) (hn : ¬ (f = g ∧ i = j)) : pl f i ≠ p := by
  intro e
  have h := (pl_all b f i hu).1
  rw [e, hd] at h
  injection h with h1 h2
  exact hn ⟨h1.symm, h2.symm⟩
abbrev sf (f : Nat) : Prop := f ≠ 10 ∧ f ≠ 26 ∧ f ≠ 27 ∧ f ≠ 28 ∧ f ≠ 29
theorem us_u1 {A : St} {f : Nat} {i v : Int} (hf : sf f) (f' : Nat) (i' : Int) : us (u1 A f i v) f' i' = us A f' i' := by
  obtain ⟨h1, h2, h3, h4, h5⟩ := hf
  refine us_cg ?_ ?_ ?_ ?_ ?_ f' i' <;> unfold u1
  · exact sset_ne _ _ (Ne.symm h1)
  · exact congrFun (sset_ne _ _ (Ne.symm h2)) 0
  · exact congrFun (sset_ne _ _ (Ne.symm h3)) 0
  · exact congrFun (sset_ne _ _ (Ne.symm h4)) 0
  · exact congrFun (sset_ne _ _ (Ne.symm h5)) 0
theorem Ag.set {A : St} {r : Int → Int} (hA : Ag A r) (b : bd A) {f : Nat} {i v : Int} (hu : us A f i) (hf : sf f) : Ag (u1 A f i v) (uz r (pl f i) v) := by
  intro f' i' hu'
  rw [us_u1 hf] at hu'
  rw [u1_at]
  by_cases e : f' = f ∧ i' = i
  · rw [if_pos e, e.1, e.2, uz_s]
  · rw [if_neg e, uz_n _ _ (pl_ne b hu' (pl_all b f i hu).1 e), hA f' i' hu']
theorem Ag.close {A : St} {r : Int → Int} (hA : Ag A r) (b : bd A) {l h t : Int} (hl : 0 ≤ l ∧ l < A 28 0) (hh : ¬ h = 0) : Ag (closeS A l h t) (uz (uz r (456 + 10 * l + 5) h) (456 + 10 * l + 7) t) := by
  have d5 := (dec_10 b hl).1
  have d7 := (dec_11 b hl).1
  intro f i hu
  unfold closeS
  rw [u1_at, u1_at]
  by_cases e : f = 11 ∧ i = l
  · rw [if_pos e, e.1, e.2]; exact uz_s _ _ _
  · rw [if_neg e]
    by_cases e2 : f = 10 ∧ i = l
    · rw [if_pos e2, e2.1, e2.2]
      show uz (uz r (456 + 10 * l + 5) h) (456 + 10 * l + 7) t (456 + 10 * l + 5) = h
      rw [uz_n _ _ (by omega), uz_s]
    · rw [if_neg e2]
      have hu2 : us A f i := by
        by_cases e3 : f = 11
        · subst e3
          have w : (0 ≤ i ∧ i < A 28 0) ∧ ((11 : Nat) = 11 → ¬ closeS A l h t 10 i = 0) := hu
          refine ⟨w.1, fun _ => ?_⟩
          have w2 := w.2 rfl
          unfold closeS at w2
          rw [u1_at, if_neg (fun z => absurd z.1 (by decide)), u1_at, if_neg (fun z => e ⟨rfl, z.2⟩)] at w2
          exact w2
        · have e4 : us A f i = us (closeS A l h t) f i := by
            unfold us; simp only [e3, false_implies, and_true]
            rfl
          rw [e4]; exact hu
      rw [uz_n _ _ (pl_ne b hu2 d7 e), uz_n _ _ (pl_ne b hu2 d5 e2)]
      exact hA f i hu2


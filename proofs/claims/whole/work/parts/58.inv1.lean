/-! what always holds goes on to hold: smaller acts -/
theorem sm_diff2 {f g : Int → Int} {a b n : Nat} (ha : a < n) (hb : b < n) (hab : a ≠ b) (h : ∀ k : Nat, k < n → k ≠ a → k ≠ b → g k = f k) : sm g n = sm f n + (g a - f a) + (g b - f b) := by
  have h1 := sm_diff (f := f) (g := fun x : Int => if x = (a : Int) then g a else f x) a n ha (fun k _ hk => by show (if (k : Int) = (a : Int) then g a else f k) = f k; rw [if_neg (by omega)])
  have h2 := sm_diff (f := fun x : Int => if x = (a : Int) then g a else f x) (g := g) b n hb (fun k hk1 hk2 => by
    show g k = (if (k : Int) = (a : Int) then g a else f k)
    by_cases e : k = a
    · subst e; rw [if_pos rfl]
    · rw [if_neg (by omega), h k hk1 e hk2])
  simp only [if_true] at h1 h2
  rw [h2, h1, if_neg (show ¬ ((b : Nat) : Int) = (a : Int) by omega)]
theorem lefts_u1 (S : St) {i o v : Int} {n : Nat} (hi : 0 ≤ i ∧ i < n) : lefts (u1 S 17 (4 * i + o) v) o n = lefts S o n + (v - S 17 (4 * i + o)) := by
  unfold lefts
  rw [sm_diff (f := fun i => S 17 (4 * i + o)) i.toNat n (by omega) (fun k _ hk => by rw [u1_at, if_neg (by omega)]), u1_at, if_pos ⟨rfl, by omega⟩, show ((i.toNat : Nat) : Int) = i by omega]
theorem lefts_ne (S : St) {i o o2 v : Int} {n : Nat} (ho : 0 ≤ o ∧ o < 4) (ho2 : 0 ≤ o2 ∧ o2 < 4) (hne : o2 ≠ o) : lefts (u1 S 17 (4 * i + o) v) o2 n = lefts S o2 n := by
  unfold lefts
  exact sm_congr n (fun k _ => by rw [u1_at, if_neg (by omega)])
theorem Inv.up {c : Int} {S : St} (h : Inv c S) (hc : c ≤ 511) : Inv (c + 1) S := h.mono (by omega)

set_option maxHeartbeats 1000000 in
theorem Inv.widen {c : Int} {S : St} (h : Inv c S) {j q : Int} (hq : 0 ≤ q ∧ q ≤ 99999) : Inv (c) (u1 S 1 j q) := by
  have e0 : (u1 S 1 j q) 0 = S 0 := rfl
  have e2 : (u1 S 1 j q) 2 = S 2 := rfl
  have e3 : (u1 S 1 j q) 3 = S 3 := rfl
  have e4 : (u1 S 1 j q) 4 = S 4 := rfl
  have e5 : (u1 S 1 j q) 5 = S 5 := rfl
  have e6 : (u1 S 1 j q) 6 = S 6 := rfl
  have e7 : (u1 S 1 j q) 7 = S 7 := rfl
  have e8 : (u1 S 1 j q) 8 = S 8 := rfl
  have e9 : (u1 S 1 j q) 9 = S 9 := rfl
  have e10 : (u1 S 1 j q) 10 = S 10 := rfl
  have e11 : (u1 S 1 j q) 11 = S 11 := rfl
  have e12 : (u1 S 1 j q) 12 = S 12 := rfl
  have e13 : (u1 S 1 j q) 13 = S 13 := rfl
  have e14 : (u1 S 1 j q) 14 = S 14 := rfl
  have e15 : (u1 S 1 j q) 15 = S 15 := rfl
  have e16 : (u1 S 1 j q) 16 = S 16 := rfl
  have e17 : (u1 S 1 j q) 17 = S 17 := rfl
  have e18 : (u1 S 1 j q) 18 = S 18 := rfl
  have e19 : (u1 S 1 j q) 19 = S 19 := rfl
  have e20 : (u1 S 1 j q) 20 = S 20 := rfl
  have e21 : (u1 S 1 j q) 21 = S 21 := rfl
  have e22 : (u1 S 1 j q) 22 = S 22 := rfl
  have e23 : (u1 S 1 j q) 23 = S 23 := rfl
  have e24 : (u1 S 1 j q) 24 = S 24 := rfl
  have e25 : (u1 S 1 j q) 25 = S 25 := rfl
  have e26 : (u1 S 1 j q) 26 = S 26 := rfl
  have e27 : (u1 S 1 j q) 27 = S 27 := rfl
  have e28 : (u1 S 1 j q) 28 = S 28 := rfl
  have e29 : (u1 S 1 j q) 29 = S 29 := rfl
  refine ⟨h.R.u1 (by omega), h.cc, ?_, ?_, ?_, ?_, ?_, ?_, ?_, ?_, ?_, ?_, ?_⟩
  · have q := h.2.2.1
    simp only [Jvm.Pilot.@@N@@.inv1, e25, e26, e27, e28, e29] at q ⊢
    exact q
  · have q := h.2.2.2.1
    simp only [Jvm.Pilot.@@N@@.inv2, e0, e26] at q ⊢
    exact q
  · intro o h0 h1
    change o < S 26 0 at h1
    show 0 ≤ u1 S 1 j q 1 o ∧ u1 S 1 j q 1 o ≤ 99999
    rw [u1_at]
    split
    · exact hq
    · exact h.i3 o h0 h1
  · have q := h.2.2.2.2.2.1
    simp only [Jvm.Pilot.@@N@@.inv4, e2] at q ⊢
    exact q
  · have q := h.2.2.2.2.2.2.1
    simp only [Jvm.Pilot.@@N@@.inv5, Jvm.Pilot.@@N@@.LI, e4, e5, e6, e7, e8, e9, e10, e11, e12, e13, e25, e26, e27, e28] at q ⊢
    exact q
  · have q := h.2.2.2.2.2.2.2.1
    simp only [Jvm.Pilot.@@N@@.inv6, Jvm.Pilot.@@N@@.FI, Jvm.Pilot.@@N@@.lefts, Jvm.Pilot.@@N@@.rems, Jvm.Pilot.@@N@@.rem, Jvm.Pilot.@@N@@.nIm, Jvm.Pilot.@@N@@.nS, e14, e17, e25, e26, e27, e28, e6, e9, e10] at q ⊢
    exact q
  · have q := h.2.2.2.2.2.2.2.2.1
    simp only [Jvm.Pilot.@@N@@.inv7, Jvm.Pilot.@@N@@.PI, Jvm.Pilot.@@N@@.old, e15, e16, e17, e18, e2, e26, e27, e28] at q ⊢
    exact q
  · have q := h.2.2.2.2.2.2.2.2.2.1
    simp only [Jvm.Pilot.@@N@@.inv8, e20, e21, e22] at q ⊢
    exact q
  · have q := h.2.2.2.2.2.2.2.2.2.2.1
    simp only [Jvm.Pilot.@@N@@.inv9, Jvm.Pilot.@@N@@.rems, Jvm.Pilot.@@N@@.rem, Jvm.Pilot.@@N@@.nS, e24, e28, e6, e9, e10] at q ⊢
    exact q
  · have q := h.2.2.2.2.2.2.2.2.2.2.2.1
    simp only [Jvm.Pilot.@@N@@.inv10, Jvm.Pilot.@@N@@.nS, e6, e28] at q ⊢
    exact q
  · have q := h.2.2.2.2.2.2.2.2.2.2.2.2
    simp only [Jvm.Pilot.@@N@@.inv11, e23] at q ⊢
    exact q
set_option maxHeartbeats 1000000 in
theorem Inv.set {c : Int} {S : St} (h : Inv c S) {w n : Int} (hw : 0 ≤ w ∧ w ≤ 5) (hn : tL w ≤ n ∧ n ≤ tM w) : Inv (c) (u1 S 0 w n) := by
  have e1 : (u1 S 0 w n) 1 = S 1 := rfl
  have e2 : (u1 S 0 w n) 2 = S 2 := rfl
  have e3 : (u1 S 0 w n) 3 = S 3 := rfl
  have e4 : (u1 S 0 w n) 4 = S 4 := rfl
  have e5 : (u1 S 0 w n) 5 = S 5 := rfl
  have e6 : (u1 S 0 w n) 6 = S 6 := rfl
  have e7 : (u1 S 0 w n) 7 = S 7 := rfl
  have e8 : (u1 S 0 w n) 8 = S 8 := rfl
  have e9 : (u1 S 0 w n) 9 = S 9 := rfl
  have e10 : (u1 S 0 w n) 10 = S 10 := rfl
  have e11 : (u1 S 0 w n) 11 = S 11 := rfl
  have e12 : (u1 S 0 w n) 12 = S 12 := rfl
  have e13 : (u1 S 0 w n) 13 = S 13 := rfl
  have e14 : (u1 S 0 w n) 14 = S 14 := rfl
  have e15 : (u1 S 0 w n) 15 = S 15 := rfl
  have e16 : (u1 S 0 w n) 16 = S 16 := rfl
  have e17 : (u1 S 0 w n) 17 = S 17 := rfl
  have e18 : (u1 S 0 w n) 18 = S 18 := rfl
  have e19 : (u1 S 0 w n) 19 = S 19 := rfl
  have e20 : (u1 S 0 w n) 20 = S 20 := rfl
  have e21 : (u1 S 0 w n) 21 = S 21 := rfl
  have e22 : (u1 S 0 w n) 22 = S 22 := rfl
  have e23 : (u1 S 0 w n) 23 = S 23 := rfl
  have e24 : (u1 S 0 w n) 24 = S 24 := rfl
  have e25 : (u1 S 0 w n) 25 = S 25 := rfl
  have e26 : (u1 S 0 w n) 26 = S 26 := rfl
  have e27 : (u1 S 0 w n) 27 = S 27 := rfl
  have e28 : (u1 S 0 w n) 28 = S 28 := rfl
  have e29 : (u1 S 0 w n) 29 = S 29 := rfl
  refine ⟨h.R.u1 (by have := tLM_in hw; omega), h.cc, ?_, ?_, ?_, ?_, ?_, ?_, ?_, ?_, ?_, ?_, ?_⟩
  · have q := h.2.2.1
    simp only [Jvm.Pilot.@@N@@.inv1, e25, e26, e27, e28, e29] at q ⊢
    exact q
  · intro hk
    have t := h.tm hk
    show (0 ≤ u1 S 0 w n 0 0 ∧ u1 S 0 w n 0 0 ≤ 100) ∧ (1 ≤ u1 S 0 w n 0 1 ∧ u1 S 0 w n 0 1 ≤ 99999) ∧ (1 ≤ u1 S 0 w n 0 2 ∧ u1 S 0 w n 0 2 ≤ 90) ∧ (0 ≤ u1 S 0 w n 0 3 ∧ u1 S 0 w n 0 3 ≤ 100) ∧ (0 ≤ u1 S 0 w n 0 4 ∧ u1 S 0 w n 0 4 ≤ 2000) ∧ (1 ≤ u1 S 0 w n 0 5 ∧ u1 S 0 w n 0 5 ≤ 3)
    have hl : tL 0 = 0 ∧ tL 1 = 1 ∧ tL 2 = 1 ∧ tL 3 = 0 ∧ tL 4 = 0 ∧ tL 5 = 1 ∧ tM 0 = 100 ∧ tM 1 = 99999 ∧ tM 2 = 90 ∧ tM 3 = 100 ∧ tM 4 = 2000 ∧ tM 5 = 3 := by decide
    simp only [u1_at, true_and]
    rcases (show w = 0 ∨ w = 1 ∨ w = 2 ∨ w = 3 ∨ w = 4 ∨ w = 5 by omega) with rfl | rfl | rfl | rfl | rfl | rfl <;> simp only [if_true, show ¬ (0 : Int) = 1 by decide, show ¬ (0 : Int) = 2 by decide, show ¬ (0 : Int) = 3 by decide, show ¬ (0 : Int) = 4 by decide, show ¬ (0 : Int) = 5 by decide, show ¬ (1 : Int) = 0 by decide, show ¬ (1 : Int) = 2 by decide, show ¬ (1 : Int) = 3 by decide, show ¬ (1 : Int) = 4 by decide, show ¬ (1 : Int) = 5 by decide, show ¬ (2 : Int) = 0 by decide, show ¬ (2 : Int) = 1 by decide, show ¬ (2 : Int) = 3 by decide, show ¬ (2 : Int) = 4 by decide, show ¬ (2 : Int) = 5 by decide, show ¬ (3 : Int) = 0 by decide, show ¬ (3 : Int) = 1 by decide, show ¬ (3 : Int) = 2 by decide, show ¬ (3 : Int) = 4 by decide, show ¬ (3 : Int) = 5 by decide, show ¬ (4 : Int) = 0 by decide, show ¬ (4 : Int) = 1 by decide, show ¬ (4 : Int) = 2 by decide, show ¬ (4 : Int) = 3 by decide, show ¬ (4 : Int) = 5 by decide, show ¬ (5 : Int) = 0 by decide, show ¬ (5 : Int) = 1 by decide, show ¬ (5 : Int) = 2 by decide, show ¬ (5 : Int) = 3 by decide, show ¬ (5 : Int) = 4 by decide, if_false] <;> omega
  · have q := h.2.2.2.2.1
    simp only [Jvm.Pilot.@@N@@.inv3, e1, e26] at q ⊢
    exact q
  · have q := h.2.2.2.2.2.1
    simp only [Jvm.Pilot.@@N@@.inv4, e2] at q ⊢
    exact q
  · have q := h.2.2.2.2.2.2.1
    simp only [Jvm.Pilot.@@N@@.inv5, Jvm.Pilot.@@N@@.LI, e4, e5, e6, e7, e8, e9, e10, e11, e12, e13, e25, e26, e27, e28] at q ⊢
    exact q
  · have q := h.2.2.2.2.2.2.2.1
    simp only [Jvm.Pilot.@@N@@.inv6, Jvm.Pilot.@@N@@.FI, Jvm.Pilot.@@N@@.lefts, Jvm.Pilot.@@N@@.rems, Jvm.Pilot.@@N@@.rem, Jvm.Pilot.@@N@@.nIm, Jvm.Pilot.@@N@@.nS, e14, e17, e25, e26, e27, e28, e6, e9, e10] at q ⊢
    exact q
  · have q := h.2.2.2.2.2.2.2.2.1
    simp only [Jvm.Pilot.@@N@@.inv7, Jvm.Pilot.@@N@@.PI, Jvm.Pilot.@@N@@.old, e15, e16, e17, e18, e2, e26, e27, e28] at q ⊢
    exact q
  · have q := h.2.2.2.2.2.2.2.2.2.1
    simp only [Jvm.Pilot.@@N@@.inv8, e20, e21, e22] at q ⊢
    exact q
  · have q := h.2.2.2.2.2.2.2.2.2.2.1
    simp only [Jvm.Pilot.@@N@@.inv9, Jvm.Pilot.@@N@@.rems, Jvm.Pilot.@@N@@.rem, Jvm.Pilot.@@N@@.nS, e24, e28, e6, e9, e10] at q ⊢
    exact q
  · have q := h.2.2.2.2.2.2.2.2.2.2.2.1
    simp only [Jvm.Pilot.@@N@@.inv10, Jvm.Pilot.@@N@@.nS, e6, e28] at q ⊢
    exact q
  · have q := h.2.2.2.2.2.2.2.2.2.2.2.2
    simp only [Jvm.Pilot.@@N@@.inv11, e23] at q ⊢
    exact q
theorem lend_17 (S : St) (f t n j : Int) (hft : f ≠ t) : lendS S f t n 17 j = if j = t then S 17 t + n else if j = f then S 17 f - n else S 17 j := by
  unfold lendS; simp only [u1_at, true_and]
theorem lend_lefts (S : St) {i m o n : Int} {k : Nat} (hi : 0 ≤ i ∧ i < k) (hm : 0 ≤ m ∧ m < k) (him : i ≠ m) : lefts (lendS S (4 * i + o) (4 * m + o) n) o k = lefts S o k := by
  unfold lendS
  rw [lefts_u1 _ hm, lefts_u1 _ hi, u1_at, if_neg (by omega)]; omega

set_option maxHeartbeats 1000000 in
theorem Inv.lend {c : Int} {S : St} (h : Inv c S) {i m j n : Int} (hi : 0 ≤ i ∧ i < S 27 0) (hm : 0 ≤ m ∧ m < S 27 0) (hj : 0 ≤ j ∧ j < S 26 0) (him : i ≠ m) (hn : 0 ≤ n ∧ n ≤ S 17 (4 * i + j)) : Inv (c) (lendS S (4 * i + j) (4 * m + j) n) := by
  have lm : S 17 (4 * m + j) ≤ lefts S j (nIm S) := by
    have h1 := sm_one (f := fun i => S 17 (4 * i + j)) (nIm S) (fun k hk => (h.pr (i := k) (o := j) (by unfold nIm at hk; omega) hj).2.2.1) m.toNat (by unfold nIm; omega)
    have h1 : S 17 (4 * ((m.toNat : Nat) : Int) + j) ≤ lefts S j (nIm S) := h1
    rw [show ((m.toNat : Nat) : Int) = m by omega] at h1; exact h1
  have li : S 17 (4 * i + j) ≤ lefts S j (nIm S) := by
    have h1 := sm_one (f := fun i => S 17 (4 * i + j)) (nIm S) (fun k hk => (h.pr (i := k) (o := j) (by unfold nIm at hk; omega) hj).2.2.1) i.toNat (by unfold nIm; omega)
    have h1 : S 17 (4 * ((i.toNat : Nat) : Int) + j) ≤ lefts S j (nIm S) := h1
    rw [show ((i.toNat : Nat) : Int) = i by omega] at h1; exact h1
  have fg := h.fg hj
  have rs := h.rems
  have i1 := h.i1
  have pi := h.pr hi hj
  have pm := h.pr hm hj
  have e0 : (lendS S (4 * i + j) (4 * m + j) n) 0 = S 0 := rfl
  have e1 : (lendS S (4 * i + j) (4 * m + j) n) 1 = S 1 := rfl
  have e2 : (lendS S (4 * i + j) (4 * m + j) n) 2 = S 2 := rfl
  have e3 : (lendS S (4 * i + j) (4 * m + j) n) 3 = S 3 := rfl
  have e4 : (lendS S (4 * i + j) (4 * m + j) n) 4 = S 4 := rfl
  have e5 : (lendS S (4 * i + j) (4 * m + j) n) 5 = S 5 := rfl
  have e6 : (lendS S (4 * i + j) (4 * m + j) n) 6 = S 6 := rfl
  have e7 : (lendS S (4 * i + j) (4 * m + j) n) 7 = S 7 := rfl
  have e8 : (lendS S (4 * i + j) (4 * m + j) n) 8 = S 8 := rfl
  have e9 : (lendS S (4 * i + j) (4 * m + j) n) 9 = S 9 := rfl
  have e10 : (lendS S (4 * i + j) (4 * m + j) n) 10 = S 10 := rfl
  have e11 : (lendS S (4 * i + j) (4 * m + j) n) 11 = S 11 := rfl
  have e12 : (lendS S (4 * i + j) (4 * m + j) n) 12 = S 12 := rfl
  have e13 : (lendS S (4 * i + j) (4 * m + j) n) 13 = S 13 := rfl
  have e14 : (lendS S (4 * i + j) (4 * m + j) n) 14 = S 14 := rfl
  have e15 : (lendS S (4 * i + j) (4 * m + j) n) 15 = S 15 := rfl
  have e16 : (lendS S (4 * i + j) (4 * m + j) n) 16 = S 16 := rfl
  have e18 : (lendS S (4 * i + j) (4 * m + j) n) 18 = S 18 := rfl
  have e19 : (lendS S (4 * i + j) (4 * m + j) n) 19 = S 19 := rfl
  have e20 : (lendS S (4 * i + j) (4 * m + j) n) 20 = S 20 := rfl
  have e21 : (lendS S (4 * i + j) (4 * m + j) n) 21 = S 21 := rfl
  have e22 : (lendS S (4 * i + j) (4 * m + j) n) 22 = S 22 := rfl
  have e23 : (lendS S (4 * i + j) (4 * m + j) n) 23 = S 23 := rfl
  have e24 : (lendS S (4 * i + j) (4 * m + j) n) 24 = S 24 := rfl
  have e25 : (lendS S (4 * i + j) (4 * m + j) n) 25 = S 25 := rfl
  have e26 : (lendS S (4 * i + j) (4 * m + j) n) 26 = S 26 := rfl
  have e27 : (lendS S (4 * i + j) (4 * m + j) n) 27 = S 27 := rfl
  have e28 : (lendS S (4 * i + j) (4 * m + j) n) 28 = S 28 := rfl
  have e29 : (lendS S (4 * i + j) (4 * m + j) n) 29 = S 29 := rfl
  refine ⟨(h.R.u1 (by omega)).u1 (by omega), h.cc, ?_, ?_, ?_, ?_, ?_, ?_, ?_, ?_, ?_, ?_, ?_⟩
  · have q := h.2.2.1
    simp only [Jvm.Pilot.@@N@@.inv1, e25, e26, e27, e28, e29] at q ⊢
    exact q
  · have q := h.2.2.2.1
    simp only [Jvm.Pilot.@@N@@.inv2, e0, e26] at q ⊢
    exact q
  · have q := h.2.2.2.2.1
    simp only [Jvm.Pilot.@@N@@.inv3, e1, e26] at q ⊢
    exact q
  · have q := h.2.2.2.2.2.1
    simp only [Jvm.Pilot.@@N@@.inv4, e2] at q ⊢
    exact q
  · have q := h.2.2.2.2.2.2.1
    simp only [Jvm.Pilot.@@N@@.inv5, Jvm.Pilot.@@N@@.LI, e4, e5, e6, e7, e8, e9, e10, e11, e12, e13, e25, e26, e27, e28] at q ⊢
    exact q
  · intro o h0 h1
    change o < S 26 0 at h1
    have fo := h.i6 o h0 h1
    have i1 := h.i1
    unfold FI at fo ⊢
    have el : lefts (lendS S (4 * i + j) (4 * m + j) n) o (nIm S) = lefts S o (nIm S) := by
      by_cases e : o = j
      · subst e; exact lend_lefts S (by unfold nIm; omega) (by unfold nIm; omega) him
      · unfold lendS; rw [lefts_ne _ (by omega) (by omega) e, lefts_ne _ (by omega) (by omega) e]
    have er : Jvm.Pilot.@@N@@.rems (lendS S (4 * i + j) (4 * m + j) n) (nS S) = Jvm.Pilot.@@N@@.rems S (nS S) := rfl
    show _ ∧ _ ∧ _ ∧ _ ∧ _ ∧ _ ∧ _ ∧ S 14 (o * 8 + 3) + lefts (lendS S (4 * i + j) (4 * m + j) n) o (nIm S) + Jvm.Pilot.@@N@@.rems (lendS S (4 * i + j) (4 * m + j) n) (nS S) ≤ 99999 * (S 25 0 / 90 + 1 + S 28 0) ∧ S 14 (o * 8 + 7) + Jvm.Pilot.@@N@@.rems (lendS S (4 * i + j) (4 * m + j) n) (nS S) ≤ 99999 * S 28 0
    rw [el, er]
    exact fo
  · intro i2 o2 a1 a2 a3 a4
    have q := h.i7 i2 o2 a1 a2 a3 a4
    have pm := h.pr hm hj
    unfold PI at q ⊢
    show _ ∧ _ ∧ 0 ≤ lendS S (4 * i + j) (4 * m + j) n 17 (4 * i2 + o2) ∧ _ ∧ _
    refine ⟨q.1, q.2.1, ?_, q.2.2.2.1, q.2.2.2.2⟩
    rw [lend_17 _ _ _ _ _ (by omega)]
    have := q.2.2.1
    (repeat' split) <;> omega
  · have q := h.2.2.2.2.2.2.2.2.2.1
    simp only [Jvm.Pilot.@@N@@.inv8, e20, e21, e22] at q ⊢
    exact q
  · have q := h.2.2.2.2.2.2.2.2.2.2.1
    simp only [Jvm.Pilot.@@N@@.inv9, Jvm.Pilot.@@N@@.rems, Jvm.Pilot.@@N@@.rem, Jvm.Pilot.@@N@@.nS, e24, e28, e6, e9, e10] at q ⊢
    exact q
  · have q := h.2.2.2.2.2.2.2.2.2.2.2.1
    simp only [Jvm.Pilot.@@N@@.inv10, Jvm.Pilot.@@N@@.nS, e6, e28] at q ⊢
    exact q
  · have q := h.2.2.2.2.2.2.2.2.2.2.2.2
    simp only [Jvm.Pilot.@@N@@.inv11, e23] at q ⊢
    exact q
section EX
theorem ex_23 (S : St) (i o n v j : Int) : exS S i o n v 23 j = if j = i then owB S i n v else S 23 j := by unfold exS addS; simp only [u1_at]; simp
theorem ex_20 (S : St) (i o n v j : Int) : exS S i o n v 20 j = if j = 4 * i + o then S 20 (4 * i + o) + n else S 20 j := by unfold exS addS; simp only [u1_at]; simp
theorem ex_14 (S : St) (i o n v j : Int) : exS S i o n v 14 j = if j = o * 8 + 6 then S 14 (o * 8 + 6) + n else S 14 j := by unfold exS addS; simp only [u1_at]; simp
theorem ex_24 (S : St) (i o n v j : Int) : exS S i o n v 24 j = if j = 4 then S 24 4 + n else S 24 j := by unfold exS addS; simp only [u1_at]; simp
end EX

set_option maxHeartbeats 1000000 in
theorem Inv.exc {c : Int} {S : St} (h : Inv c S) {i j n v : Int} (hc : c ≤ 511) (hi : 0 ≤ i ∧ i < S 27 0) (hj : 0 ≤ j ∧ j < S 26 0) (hn : 1 ≤ n ∧ n ≤ 99999) (hv : 1 ≤ v ∧ v ≤ 9999) : Inv (c + 1) (exS S i j n v) := by
  have i1 := h.i1
  have y1 := (h.yr (k := 4 * i + j) (by omega)).1 (by omega)
  have fg := h.fg hj
  have i9 := h.i9
  unfold inv9 at i9
  have cc := h.cc
  have e0 : (exS S i j n v) 0 = S 0 := rfl
  have e1 : (exS S i j n v) 1 = S 1 := rfl
  have e2 : (exS S i j n v) 2 = S 2 := rfl
  have e3 : (exS S i j n v) 3 = S 3 := rfl
  have e4 : (exS S i j n v) 4 = S 4 := rfl
  have e5 : (exS S i j n v) 5 = S 5 := rfl
  have e6 : (exS S i j n v) 6 = S 6 := rfl
  have e7 : (exS S i j n v) 7 = S 7 := rfl
  have e8 : (exS S i j n v) 8 = S 8 := rfl
  have e9 : (exS S i j n v) 9 = S 9 := rfl
  have e10 : (exS S i j n v) 10 = S 10 := rfl
  have e11 : (exS S i j n v) 11 = S 11 := rfl
  have e12 : (exS S i j n v) 12 = S 12 := rfl
  have e13 : (exS S i j n v) 13 = S 13 := rfl
  have e15 : (exS S i j n v) 15 = S 15 := rfl
  have e16 : (exS S i j n v) 16 = S 16 := rfl
  have e17 : (exS S i j n v) 17 = S 17 := rfl
  have e18 : (exS S i j n v) 18 = S 18 := rfl
  have e19 : (exS S i j n v) 19 = S 19 := rfl
  have e21 : (exS S i j n v) 21 = S 21 := rfl
  have e22 : (exS S i j n v) 22 = S 22 := rfl
  have e25 : (exS S i j n v) 25 = S 25 := rfl
  have e26 : (exS S i j n v) 26 = S 26 := rfl
  have e27 : (exS S i j n v) 27 = S 27 := rfl
  have e28 : (exS S i j n v) 28 = S 28 := rfl
  have e29 : (exS S i j n v) 29 = S 29 := rfl
  refine ⟨((Rg.s23 h.R _).u1 (f := 20) (i := 4 * i + j) (v := S 20 (4 * i + j) + n) (by omega)).u1 (f := 14) (i := j * 8 + 6) (v := S 14 (j * 8 + 6) + n) (by omega) |>.u1 (by omega), ⟨by have := h.cc; omega, by omega⟩, ?_, ?_, ?_, ?_, ?_, ?_, ?_, ?_, ?_, ?_, ?_⟩
  · have q := h.2.2.1
    simp only [Jvm.Pilot.@@N@@.inv1, e25, e26, e27, e28, e29] at q ⊢
    exact q
  · have q := h.2.2.2.1
    simp only [Jvm.Pilot.@@N@@.inv2, e0, e26] at q ⊢
    exact q
  · have q := h.2.2.2.2.1
    simp only [Jvm.Pilot.@@N@@.inv3, e1, e26] at q ⊢
    exact q
  · exact (h.up hc).i4
  · have q := h.2.2.2.2.2.2.1
    simp only [Jvm.Pilot.@@N@@.inv5, Jvm.Pilot.@@N@@.LI, e4, e5, e6, e7, e8, e9, e10, e11, e12, e13, e25, e26, e27, e28] at q ⊢
    exact q
  · intro o h0 h1
    change o < S 26 0 at h1
    have fo := h.i6 o h0 h1
    unfold FI at fo ⊢
    have er : Jvm.Pilot.@@N@@.rems (exS S i j n v) (nS S) = Jvm.Pilot.@@N@@.rems S (nS S) := rfl
    have el : lefts (exS S i j n v) o (nIm S) = lefts S o (nIm S) := rfl
    have en : nS (exS S i j n v) = nS S := rfl
    have em : nIm (exS S i j n v) = nIm S := rfl
    rw [en, em, er, el, e25, e28]
    simp only [ex_14]
    have c6 : (o * 8 + 6 = j * 8 + 6) ↔ o = j := by omega
    rw [if_neg (show ¬ o * 8 + 1 = j * 8 + 6 by omega), if_neg (show ¬ o * 8 + 2 = j * 8 + 6 by omega), if_neg (show ¬ o * 8 + 3 = j * 8 + 6 by omega), if_neg (show ¬ o * 8 + 4 = j * 8 + 6 by omega), if_neg (show ¬ o * 8 + 5 = j * 8 + 6 by omega), if_neg (show ¬ o * 8 + 7 = j * 8 + 6 by omega)]
    by_cases e : o = j
    · subst e; rw [if_pos rfl]; omega
    · rw [if_neg (by omega)]; omega
  · have q := h.2.2.2.2.2.2.2.2.1
    simp only [Jvm.Pilot.@@N@@.inv7, Jvm.Pilot.@@N@@.PI, Jvm.Pilot.@@N@@.old, e15, e16, e17, e18, e2, e26, e27, e28] at q ⊢
    exact q
  · intro k k0
    have q := h.i8 k k0
    have q2 := (h.up hc).i8 k k0
    refine ⟨fun k1 => ?_, q2.2.1, q2.2.2⟩
    rw [ex_20]
    split
    · rename_i e; rw [← e]; have := q.1 k1; omega
    · exact q2.1 k1
  · have q := h.i9
    unfold inv9 at q ⊢
    have er : Jvm.Pilot.@@N@@.rems (exS S i j n v) (nS (exS S i j n v)) = Jvm.Pilot.@@N@@.rems S (nS S) := rfl
    rw [er, e28]
    simp only [ex_24]
    rw [if_neg (by decide), if_neg (by decide), if_neg (by decide), if_neg (by decide), if_true]
    omega
  · have q := h.2.2.2.2.2.2.2.2.2.2.2.1
    simp only [Jvm.Pilot.@@N@@.inv10, Jvm.Pilot.@@N@@.nS, e6, e28] at q ⊢
    exact q
  · intro k k0 k1
    rw [ex_23]
    split
    · exact (ow_add ⟨h.cc.1, hc⟩ (h.i11 i (by omega) (by omega)) (dueDn hn hv (by have := h.tm (h.pos7 hi); omega))).1
    · exact (h.up hc).i11 k k0 k1

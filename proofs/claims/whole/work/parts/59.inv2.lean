/-! what always holds goes on to hold: use -/
theorem cu_10 (S : St) (l t j : Int) : cuS S l t 10 j = if rem S l = 0 ∧ j = l then 1 else S 10 j := by
  unfold cuS closeS
  by_cases h : rem S l = 0
  · rw [if_pos h]; simp only [u1_at]; simp [h]
  · rw [if_neg h, if_neg (fun z => h z.1)]
theorem cu_11 (S : St) (l t j : Int) : cuS S l t 11 j = if rem S l = 0 ∧ j = l then t else S 11 j := by
  unfold cuS closeS
  by_cases h : rem S l = 0
  · rw [if_pos h]; simp only [u1_at]; simp [h]
  · rw [if_neg h, if_neg (fun z => h z.1)]
theorem us_rem {S : St} {l n : Int} (ho : S 10 l = 0) : rem (us1 S l n) l = S 6 l - S 9 l - n := by
  unfold rem
  rw [show us1 S l n 10 l = S 10 l from rfl, if_pos ho, show us1 S l n 6 l = S 6 l from rfl, show us1 S l n 9 l = S 9 l + n by unfold us1; simp [u1_at]]
  omega
section US
variable (S : St) (l n j : Int)
theorem us_cu (f : Nat) (h1 : f ≠ 20) (h2 : f ≠ 21) (h3 : f ≠ 22) (h4 : f ≠ 14) (h5 : f ≠ 24) : useS S l n f j = cuS (us1 S l n) l (S 25 0) f j := by
  unfold useS us2 addS
  rw [u1_at, if_neg (by omega), u1_at, if_neg (by omega), u1_at, if_neg (by omega), u1_at, if_neg (by omega), u1_at, if_neg (by omega)]
theorem us_ne (f : Nat) (h1 : f ≠ 20) (h2 : f ≠ 21) (h3 : f ≠ 22) (h4 : f ≠ 14) (h5 : f ≠ 24) (h6 : f ≠ 10) (h7 : f ≠ 11) (h8 : f ≠ 9) (h9 : f ≠ 13) : useS S l n f = S f := by
  funext j
  rw [us_cu S l n j f h1 h2 h3 h4 h5, cu_at _ _ _ _ _ h6 h7]
  unfold us1
  rw [u1_at, if_neg (by omega), u1_at, if_neg (by omega)]
theorem us_9 : useS S l n 9 j = if j = l then S 9 l + n else S 9 j := by
  rw [us_cu S l n j 9 (by decide) (by decide) (by decide) (by decide) (by decide), cu_at _ _ _ _ _ (by decide) (by decide)]
  unfold us1; simp only [u1_at]; simp
theorem us_13 : useS S l n 13 j = if j = l then S 13 l + n * (S 25 0 - S 7 l) else S 13 j := by
  rw [us_cu S l n j 13 (by decide) (by decide) (by decide) (by decide) (by decide), cu_at _ _ _ _ _ (by decide) (by decide)]
  unfold us1; simp only [u1_at]; simp
theorem us_10 (ho : S 10 l = 0) : useS S l n 10 j = if S 6 l - S 9 l - n = 0 ∧ j = l then 1 else S 10 j := by
  rw [us_cu S l n j 10 (by decide) (by decide) (by decide) (by decide) (by decide), cu_10, us_rem ho]; rfl
theorem us_11 (ho : S 10 l = 0) : useS S l n 11 j = if S 6 l - S 9 l - n = 0 ∧ j = l then S 25 0 else S 11 j := by
  rw [us_cu S l n j 11 (by decide) (by decide) (by decide) (by decide) (by decide), cu_11, us_rem ho]; rfl
theorem us_c20 (f : Nat) (h1 : f ≠ 10) (h2 : f ≠ 11) (h3 : f ≠ 9) (h4 : f ≠ 13) : cuS (us1 S l n) l (S 25 0) f j = S f j := by
  rw [cu_at _ _ _ _ _ h1 h2]
  unfold us1
  rw [u1_at, if_neg (by omega), u1_at, if_neg (by omega)]
theorem us_20 : useS S l n 20 j = if j = 4 * S 4 l + S 5 l then S 20 (4 * S 4 l + S 5 l) + n else S 20 j := by
  unfold useS us2 addS; simp only [u1_at]; simp; rw [us_c20 S l n j 20 (by decide) (by decide) (by decide) (by decide)]
theorem us_21 : useS S l n 21 j = if j = S 4 l * 12 + S 25 0 % 360 / 30 then S 21 (S 4 l * 12 + S 25 0 % 360 / 30) + n else S 21 j := by
  unfold useS us2 addS; simp only [u1_at]; simp; rw [us_c20 S l n j 21 (by decide) (by decide) (by decide) (by decide)]
theorem us_22 : useS S l n 22 j = if j = S 5 l * 12 + S 25 0 % 360 / 30 then S 22 (S 5 l * 12 + S 25 0 % 360 / 30) + n else S 22 j := by
  unfold useS us2 addS; simp only [u1_at]; simp; rw [us_c20 S l n j 22 (by decide) (by decide) (by decide) (by decide)]
theorem us_14 : useS S l n 14 j = if j = S 5 l * 8 + 5 then S 14 (S 5 l * 8 + 5) + n else S 14 j := by
  unfold useS us2 addS; simp only [u1_at]; simp; rw [us_c20 S l n j 14 (by decide) (by decide) (by decide) (by decide), us_c20 S l n _ 14 (by decide) (by decide) (by decide) (by decide)]
theorem us_24 : useS S l n 24 j = if j = 1 then S 24 1 + n else S 24 j := by
  unfold useS us2 addS; simp only [u1_at]; simp; rw [us_c20 S l n j 24 (by decide) (by decide) (by decide) (by decide)]
end US
theorem us_remj {S : St} {l n : Int} (ho : S 10 l = 0) (k : Int) : rem (useS S l n) k = if k = l then rem S l - n else rem S k := by
  have e6 : useS S l n 6 = S 6 := us_ne S l n 6 (by decide) (by decide) (by decide) (by decide) (by decide) (by decide) (by decide) (by decide) (by decide)
  unfold rem
  rw [e6, us_9, us_10 S l n k ho]
  by_cases hk : k = l
  · subst hk
    simp only [if_true, and_true]
    rw [if_pos ho]
    by_cases z : S 6 k - S 9 k - n = 0
    · rw [if_pos z, if_neg (by decide)]; omega
    · rw [if_neg z, if_pos ho]; omega
  · simp only [hk, and_false, if_false]
theorem us_rems {S : St} {l n : Int} (ho : S 10 l = 0) (hl : 0 ≤ l ∧ l < S 28 0) : rems (useS S l n) (nS S) = rems S (nS S) - n := by
  unfold rems
  rw [sm_diff (f := rem S) l.toNat (nS S) (by unfold nS; omega) (fun k _ hk => by rw [us_remj ho, if_neg (by omega)]), us_remj ho, if_pos (by omega), show ((l.toNat : Nat) : Int) = l by omega]
  omega
theorem us_R {S : St} (hR : Rg S) {l n : Int} (h9 : inI (S 9 l + n)) (h13 : inI (S 13 l + n * (S 25 0 - S 7 l))) (h20 : inI (S 20 (4 * S 4 l + S 5 l) + n)) (h21 : inI (S 21 (S 4 l * 12 + S 25 0 % 360 / 30) + n)) (h22 : inI (S 22 (S 5 l * 12 + S 25 0 % 360 / 30) + n)) (h14 : inI (S 14 (S 5 l * 8 + 5) + n)) (h24 : inI (S 24 1 + n)) (h25 : inI (S 25 0)) : Rg (useS S l n) := by
  have r1 : Rg (us1 S l n) := (hR.u1 h9).u1 h13
  have r2 : Rg (cuS (us1 S l n) l (S 25 0)) := by
    unfold cuS closeS; split
    · exact (r1.u1 (by omega)).u1 h25
    · exact r1
  unfold useS us2 addS
  refine ((((r2.u1 h20).u1 h21).u1 h22).u1 ?_).u1 h24
  rw [u1_at, if_neg (by omega), u1_at, if_neg (by omega), u1_at, if_neg (by omega), us_c20 S l n _ 14 (by decide) (by decide) (by decide) (by decide)]
  exact h14

set_option maxHeartbeats 1000000 in
theorem Inv.use {c : Int} {S : St} (h : Inv c S) {l n : Int} (hc : c ≤ 511) (hl : 0 ≤ l ∧ l < S 28 0) (ho : S 10 l = 0) (hn : 1 ≤ n ∧ n ≤ S 6 l - S 9 l) (hn2 : n ≤ 99999) : Inv (c + 1) (useS S l n) := by
  have i1 := h.i1
  have li := h.li hl
  have lo := h.lio hl ho
  have am := h.am hl
  have mn := mul_rg (a := n) (b := S 25 0 - S 7 l) (A := 5999940) (B := 89) (by omega) (by omega)
  have mm : n * (S 25 0 - S 7 l) ≤ n * 89 := Int.mul_le_mul_of_nonneg_left (by omega) (by omega)
  have fg := h.fg li.2.1
  have y1 := (h.yr (k := 4 * S 4 l + S 5 l) (by omega)).1 (by omega)
  have y2 := (h.yr (k := S 4 l * 12 + S 25 0 % 360 / 30) (by omega)).2.1 (by omega)
  have y3 := (h.yr (k := S 5 l * 12 + S 25 0 % 360 / 30) (by omega)).2.2 (by omega)
  have i9 := h.i9
  unfold inv9 at i9
  have cc := h.cc
  have er := us_rems (n := n) ho hl
  have rm := h.rem hl
  have rm1 := h.rem1 hl
  have ro : Jvm.Pilot.@@N@@.rem S l = S 6 l - S 9 l := by unfold Jvm.Pilot.@@N@@.rem; rw [if_pos ho]
  have e0 : (useS S l n) 0 = S 0 := us_ne S l n 0 (by decide) (by decide) (by decide) (by decide) (by decide) (by decide) (by decide) (by decide) (by decide)
  have e1 : (useS S l n) 1 = S 1 := us_ne S l n 1 (by decide) (by decide) (by decide) (by decide) (by decide) (by decide) (by decide) (by decide) (by decide)
  have e2 : (useS S l n) 2 = S 2 := us_ne S l n 2 (by decide) (by decide) (by decide) (by decide) (by decide) (by decide) (by decide) (by decide) (by decide)
  have e3 : (useS S l n) 3 = S 3 := us_ne S l n 3 (by decide) (by decide) (by decide) (by decide) (by decide) (by decide) (by decide) (by decide) (by decide)
  have e4 : (useS S l n) 4 = S 4 := us_ne S l n 4 (by decide) (by decide) (by decide) (by decide) (by decide) (by decide) (by decide) (by decide) (by decide)
  have e5 : (useS S l n) 5 = S 5 := us_ne S l n 5 (by decide) (by decide) (by decide) (by decide) (by decide) (by decide) (by decide) (by decide) (by decide)
  have e6 : (useS S l n) 6 = S 6 := us_ne S l n 6 (by decide) (by decide) (by decide) (by decide) (by decide) (by decide) (by decide) (by decide) (by decide)
  have e7 : (useS S l n) 7 = S 7 := us_ne S l n 7 (by decide) (by decide) (by decide) (by decide) (by decide) (by decide) (by decide) (by decide) (by decide)
  have e8 : (useS S l n) 8 = S 8 := us_ne S l n 8 (by decide) (by decide) (by decide) (by decide) (by decide) (by decide) (by decide) (by decide) (by decide)
  have e12 : (useS S l n) 12 = S 12 := us_ne S l n 12 (by decide) (by decide) (by decide) (by decide) (by decide) (by decide) (by decide) (by decide) (by decide)
  have e15 : (useS S l n) 15 = S 15 := us_ne S l n 15 (by decide) (by decide) (by decide) (by decide) (by decide) (by decide) (by decide) (by decide) (by decide)
  have e16 : (useS S l n) 16 = S 16 := us_ne S l n 16 (by decide) (by decide) (by decide) (by decide) (by decide) (by decide) (by decide) (by decide) (by decide)
  have e17 : (useS S l n) 17 = S 17 := us_ne S l n 17 (by decide) (by decide) (by decide) (by decide) (by decide) (by decide) (by decide) (by decide) (by decide)
  have e18 : (useS S l n) 18 = S 18 := us_ne S l n 18 (by decide) (by decide) (by decide) (by decide) (by decide) (by decide) (by decide) (by decide) (by decide)
  have e19 : (useS S l n) 19 = S 19 := us_ne S l n 19 (by decide) (by decide) (by decide) (by decide) (by decide) (by decide) (by decide) (by decide) (by decide)
  have e23 : (useS S l n) 23 = S 23 := us_ne S l n 23 (by decide) (by decide) (by decide) (by decide) (by decide) (by decide) (by decide) (by decide) (by decide)
  have e25 : (useS S l n) 25 = S 25 := us_ne S l n 25 (by decide) (by decide) (by decide) (by decide) (by decide) (by decide) (by decide) (by decide) (by decide)
  have e26 : (useS S l n) 26 = S 26 := us_ne S l n 26 (by decide) (by decide) (by decide) (by decide) (by decide) (by decide) (by decide) (by decide) (by decide)
  have e27 : (useS S l n) 27 = S 27 := us_ne S l n 27 (by decide) (by decide) (by decide) (by decide) (by decide) (by decide) (by decide) (by decide) (by decide)
  have e28 : (useS S l n) 28 = S 28 := us_ne S l n 28 (by decide) (by decide) (by decide) (by decide) (by decide) (by decide) (by decide) (by decide) (by decide)
  have e29 : (useS S l n) 29 = S 29 := us_ne S l n 29 (by decide) (by decide) (by decide) (by decide) (by decide) (by decide) (by decide) (by decide) (by decide)
  refine ⟨us_R h.R (by omega) (by omega) (by omega) (by omega) (by omega) (by omega) (by omega) (h.R 25 (by decide) 0), ⟨by have := h.cc; omega, by omega⟩, ?_, ?_, ?_, ?_, ?_, ?_, ?_, ?_, ?_, ?_, ?_⟩
  · have q := h.2.2.1
    simp only [Jvm.Pilot.@@N@@.inv1, e25, e26, e27, e28, e29] at q ⊢
    exact q
  · have q := h.2.2.2.1
    simp only [Jvm.Pilot.@@N@@.inv2, e0, e26] at q ⊢
    exact q
  · have q := h.2.2.2.2.1
    simp only [Jvm.Pilot.@@N@@.inv3, e1, e26] at q ⊢
    exact q
  · have q := (h.up hc).i4
    unfold inv4 at q ⊢
    rw [e2]
    exact q
  · intro k h0 h1
    rw [e28] at h1
    have lk := h.i5 k h0 h1
    unfold LI at lk ⊢
    simp only [e4, e5, e6, e7, e8, e12, e25, e26, e27]
    rw [us_9, us_13, us_10 S l n k ho, us_11 S l n k ho]
    by_cases hk : k = l
    · subst hk
      simp only [if_true, and_true]
      refine ⟨lk.1, lk.2.1, by omega, by omega, lk.2.2.2.2.1, lk.2.2.2.2.2.1, by split <;> omega, fun e => lo, fun e => by split at e <;> (first | (rw [if_pos (by assumption)]; omega) | (rw [if_neg (by assumption)]; exact absurd ho e)), lk.2.2.2.2.2.2.2.2.2⟩
    · simp only [hk, and_false, if_false]; exact lk
  · intro o h0 h1
    rw [e26] at h1
    have fo := h.i6 o h0 h1
    unfold FI at fo ⊢
    have en : nS (useS S l n) = nS S := by unfold nS; rw [e28]
    have em : nIm (useS S l n) = nIm S := by unfold nIm; rw [e27]
    have el : lefts (useS S l n) o (nIm S) = lefts S o (nIm S) := by unfold lefts; rw [e17]
    rw [en, em, el, er, e25, e28]
    simp only [us_14]
    rw [if_neg (show ¬ o * 8 + 1 = S 5 l * 8 + 5 by omega), if_neg (show ¬ o * 8 + 2 = S 5 l * 8 + 5 by omega), if_neg (show ¬ o * 8 + 3 = S 5 l * 8 + 5 by omega), if_neg (show ¬ o * 8 + 4 = S 5 l * 8 + 5 by omega), if_neg (show ¬ o * 8 + 6 = S 5 l * 8 + 5 by omega), if_neg (show ¬ o * 8 + 7 = S 5 l * 8 + 5 by omega)]
    by_cases e : o * 8 + 5 = S 5 l * 8 + 5
    · rw [if_pos e]; rw [e] at fo; omega
    · rw [if_neg e]; omega
  · have q := h.2.2.2.2.2.2.2.2.1
    simp only [Jvm.Pilot.@@N@@.inv7, Jvm.Pilot.@@N@@.PI, Jvm.Pilot.@@N@@.old, e15, e16, e17, e18, e2, e26, e27, e28] at q ⊢
    exact q
  · intro k k0
    have q := h.i8 k k0
    have q2 := (h.up hc).i8 k k0
    refine ⟨fun k1 => ?_, fun k1 => ?_, fun k1 => ?_⟩
    · rw [us_20]; split
      · rename_i e; rw [← e]; have := q.1 k1; omega
      · exact q2.1 k1
    · rw [us_21]; split
      · rename_i e; rw [← e]; have := q.2.1 k1; omega
      · exact q2.2.1 k1
    · rw [us_22]; split
      · rename_i e; rw [← e]; have := q.2.2 k1; omega
      · exact q2.2.2 k1
  · have q := h.i9
    unfold inv9 at q ⊢
    have en : nS (useS S l n) = nS S := by unfold nS; rw [e28]
    rw [en, er, e28]
    simp only [us_24]
    rw [if_neg (by decide), if_true, if_neg (by decide), if_neg (by decide), if_neg (by decide)]
    omega
  · have q := h.2.2.2.2.2.2.2.2.2.2.2.1
    simp only [Jvm.Pilot.@@N@@.inv10, Jvm.Pilot.@@N@@.nS, e6, e28] at q ⊢
    exact q
  · have q := (h.up hc).i11
    unfold inv11 at q ⊢
    rw [e23]
    exact q

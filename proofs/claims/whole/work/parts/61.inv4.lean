/-! what always holds goes on to hold: granted -/
section GR
variable (S : St) (i o n j : Int)
def g2 : St := gr2 S (gr1 S i o n) i o n
theorem g1_at (f : Nat) : gr1 S i o n f j = if f = 17 ∧ j = 4 * i + o ∧ S 15 (4 * i + o) = 1 then S 17 (4 * i + o) - n else if f = 14 ∧ j = o * 8 + 3 ∧ ¬ S 15 (4 * i + o) = 1 then S 14 (o * 8 + 3) - n else S f j := by
  unfold gr1
  by_cases t : S 15 (4 * i + o) = 1
  · rw [if_pos t, u1_at]; simp [t]
  · rw [if_neg t, add_at]
    by_cases a : f = 14 ∧ j = o * 8 + 3
    · obtain ⟨rfl, rfl⟩ := a
      rw [if_pos ⟨rfl, rfl⟩, if_neg (by omega), if_pos ⟨rfl, rfl, t⟩]; omega
    · rw [if_neg a, if_neg (fun z => t z.2.2), if_neg (fun z => a ⟨z.1, z.2.1⟩)]
theorem g2_ne (f : Nat) (h1 : f ≠ 14) (h2 : f ≠ 17) (h3 : f ≠ 18) (h4 : f ≠ 24) : g2 S i o n f = S f := by
  funext j
  unfold g2 gr2 addS
  rw [u1_at, if_neg (by omega), u1_at, if_neg (by omega), u1_at, if_neg (by omega), g1_at, if_neg (by omega), if_neg (by omega)]
theorem g2_14 : g2 S i o n 14 j = if j = o * 8 + 4 then S 14 (o * 8 + 4) + n else if j = o * 8 + 3 ∧ ¬ S 15 (4 * i + o) = 1 then S 14 (o * 8 + 3) - n else S 14 j := by
  unfold g2 gr2 addS
  rw [u1_at, if_neg (fun z => absurd z.1 (by decide)), u1_at]
  have e : ∀ x, u1 (gr1 S i o n) 18 (4 * i + o) (S 18 (4 * i + o) + n) 14 x = gr1 S i o n 14 x := fun x => by rw [u1_at, if_neg (fun z => absurd z.1 (by decide))]
  rw [e, e, g1_at, g1_at]
  simp only [show ¬ (14 : Nat) = 17 by decide, false_and, if_false, true_and]
  by_cases a : j = o * 8 + 4
  · subst a; rw [if_pos rfl, if_pos rfl, if_neg (by omega)]
  · rw [if_neg a, if_neg a]
theorem g2_17 : g2 S i o n 17 j = if j = 4 * i + o ∧ S 15 (4 * i + o) = 1 then S 17 (4 * i + o) - n else S 17 j := by
  unfold g2 gr2 addS
  rw [u1_at, if_neg (by omega), u1_at, if_neg (by omega), u1_at, if_neg (by omega), g1_at]
  simp
theorem g2_18 : g2 S i o n 18 j = if j = 4 * i + o then S 18 (4 * i + o) + n else S 18 j := by
  unfold g2 gr2 addS
  rw [u1_at, if_neg (by omega), u1_at, if_neg (by omega), u1_at, g1_at]
  simp
theorem g2_24 : g2 S i o n 24 j = if j = 0 then S 24 0 + n else S 24 j := by
  unfold g2 gr2 addS
  rw [u1_at, u1_at, if_neg (show ¬ ((24 : Nat) = 14 ∧ _) from fun z => absurd z.1 (by decide)), u1_at, if_neg (show ¬ ((24 : Nat) = 18 ∧ _) from fun z => absurd z.1 (by decide)), g1_at]
  simp
theorem gs_eq : grS S i o n = issS (g2 S i o n) i o n (S 25 0) (lastD S) (-1) := rfl
theorem gs_ne (f : Nat) (h1 : f ≠ 4) (h2 : f ≠ 5) (h3 : f ≠ 6) (h4 : f ≠ 7) (h5 : f ≠ 8) (h6 : f ≠ 9) (h7 : f ≠ 10) (h8 : f ≠ 11) (h9 : f ≠ 12) (h10 : f ≠ 13) (h11 : f ≠ 28) : grS S i o n f = g2 S i o n f := by
  rw [gs_eq, iss_ne _ _ _ _ _ _ _ f h1 h2 h3 h4 h5 h6 h7 h8 h9 h10 h11]
theorem g2_28 (z : Int) : g2 S i o n 28 z = S 28 z := by rw [g2_ne S i o n 28 (by decide) (by decide) (by decide) (by decide)]
theorem gs_28 (z : Int) : grS S i o n 28 z = S 28 0 + 1 := by rw [gs_eq, iss_28, g2_28]

theorem gs_4 : grS S i o n 4 j = if j = S 28 0 then i else S 4 j := by rw [gs_eq, iss_4, g2_28, g2_ne S i o n 4 (by decide) (by decide) (by decide) (by decide)]
theorem gs_5 : grS S i o n 5 j = if j = S 28 0 then o else S 5 j := by rw [gs_eq, iss_5, g2_28, g2_ne S i o n 5 (by decide) (by decide) (by decide) (by decide)]
theorem gs_6 : grS S i o n 6 j = if j = S 28 0 then n else S 6 j := by rw [gs_eq, iss_6, g2_28, g2_ne S i o n 6 (by decide) (by decide) (by decide) (by decide)]
theorem gs_7 : grS S i o n 7 j = if j = S 28 0 then S 25 0 else S 7 j := by rw [gs_eq, iss_7, g2_28, g2_ne S i o n 7 (by decide) (by decide) (by decide) (by decide)]
theorem gs_8 : grS S i o n 8 j = if j = S 28 0 then lastD S else S 8 j := by rw [gs_eq, iss_8, g2_28, g2_ne S i o n 8 (by decide) (by decide) (by decide) (by decide)]
theorem gs_9 : grS S i o n 9 j = if j = S 28 0 then 0 else S 9 j := by rw [gs_eq, iss_9, g2_28, g2_ne S i o n 9 (by decide) (by decide) (by decide) (by decide)]
theorem gs_10 : grS S i o n 10 j = if j = S 28 0 then 0 else S 10 j := by rw [gs_eq, iss_10, g2_28, g2_ne S i o n 10 (by decide) (by decide) (by decide) (by decide)]
theorem gs_11 : grS S i o n 11 j = if j = S 28 0 then -1 else S 11 j := by rw [gs_eq, iss_11, g2_28, g2_ne S i o n 11 (by decide) (by decide) (by decide) (by decide)]
theorem gs_12 : grS S i o n 12 j = if j = S 28 0 then -1 else S 12 j := by rw [gs_eq, iss_12, g2_28, g2_ne S i o n 12 (by decide) (by decide) (by decide) (by decide)]
theorem gs_13 : grS S i o n 13 j = if j = S 28 0 then 0 else S 13 j := by rw [gs_eq, iss_13, g2_28, g2_ne S i o n 13 (by decide) (by decide) (by decide) (by decide)]
end GR
theorem gs_rem (S : St) (i o n k : Int) : rem (grS S i o n) k = if k = S 28 0 then n else rem S k := by
  unfold rem
  rw [gs_6, gs_9, gs_10]; (repeat' split) <;> omega
theorem gs_sums {S : St} (i o n : Int) (hz : 0 ≤ S 28 0) : rems (grS S i o n) (nS S + 1) = rems S (nS S) + n ∧ sm (grS S i o n 6) (nS S + 1) = sm (S 6) (nS S) + n := by
  have e2 : ((nS S : Nat) : Int) = S 28 0 := by unfold nS; omega
  constructor
  · unfold rems
    rw [sm, gs_rem, e2, if_pos rfl, sm_congr (f := rem (grS S i o n)) (g := rem S) (nS S) (fun k hk => by rw [gs_rem, if_neg (by omega)])]
  · rw [sm, gs_6, e2, if_pos rfl, sm_congr (f := grS S i o n 6) (g := S 6) (nS S) (fun k hk => by rw [gs_6, if_neg (by omega)])]
theorem gs_left {S : St} {i o n : Int} {m : Nat} (o2 : Int) (hi : 0 ≤ i ∧ i < m) (ho : 0 ≤ o ∧ o < 4) (ho2 : 0 ≤ o2 ∧ o2 < 4) : lefts (grS S i o n) o2 m = if o2 = o ∧ S 15 (4 * i + o) = 1 then lefts S o2 m - n else lefts S o2 m := by
  have e : lefts (grS S i o n) o2 m = if S 15 (4 * i + o) = 1 then lefts (u1 S 17 (4 * i + o) (S 17 (4 * i + o) - n)) o2 m else lefts S o2 m := by
    unfold lefts
    rw [gs_ne S i o n 17 (by decide) (by decide) (by decide) (by decide) (by decide) (by decide) (by decide) (by decide) (by decide) (by decide) (by decide)]
    split
    · exact sm_congr m (fun k _ => by rw [g2_17, u1_at]; simp [*])
    · exact sm_congr m (fun k _ => by rw [g2_17, if_neg (fun z => absurd z.2 (by assumption))])
  rw [e]
  by_cases t : S 15 (4 * i + o) = 1
  · rw [if_pos t]
    by_cases q : o2 = o
    · subst q; rw [if_pos ⟨rfl, t⟩, lefts_u1 S hi]; omega
    · rw [if_neg (fun z => q z.1), lefts_ne S ho ho2 q]
  · rw [if_neg t, if_neg (fun z => t z.2)]
theorem gs_R {S : St} (hR : Rg S) {i o n : Int} (h17 : S 15 (4 * i + o) = 1 → inI (S 17 (4 * i + o) - n)) (h3 : ¬ S 15 (4 * i + o) = 1 → inI (S 14 (o * 8 + 3) - n)) (h18 : inI (S 18 (4 * i + o) + n)) (h4 : inI (S 14 (o * 8 + 4) + n)) (h24 : inI (S 24 0 + n)) (h : inI i ∧ inI o ∧ inI n ∧ inI (S 25 0) ∧ inI (lastD S) ∧ inI (-1)) (hz : inI (S 28 0 + 1)) : Rg (grS S i o n) := by
  have r : Rg (g2 S i o n) := by
    intro f hf j
    by_cases a : f = 14
    · subst a; rw [g2_14]; split
      · exact h4
      · split
        · rename_i z; exact h3 z.2
        · exact hR 14 hf j
    · by_cases b : f = 17
      · subst b; rw [g2_17]; split
        · rename_i z; exact h17 z.2
        · exact hR 17 hf j
      · by_cases c : f = 18
        · subst c; rw [g2_18]; split
          · exact h18
          · exact hR 18 hf j
        · by_cases d : f = 24
          · subst d; rw [g2_24]; split
            · exact h24
            · exact hR 24 hf j
          · rw [g2_ne S i o n f a b c d]; exact hR f hf j
  rw [gs_eq]
  exact r.iss h (by rw [g2_28]; exact hz)

set_option maxHeartbeats 1000000 in
theorem Inv.grant {c : Int} {S : St} (h : Inv c S) {i j n : Int} (hi : 0 ≤ i ∧ i < S 27 0) (hj : 0 ≤ j ∧ j < S 26 0) (hz : S 28 0 < 60) (hn : 1 ≤ n ∧ n ≤ 99999) (ht : S 15 (4 * i + j) = 1 → n ≤ S 17 (4 * i + j)) (hp : ¬ S 15 (4 * i + j) = 1 → n ≤ S 14 (j * 8 + 3)) : Inv (c) (grS S i j n) := by
  have li : S 17 (4 * i + j) ≤ lefts S j (nIm S) := by
    have h1 := sm_one (f := fun i => S 17 (4 * i + j)) (nIm S) (fun k hk => (h.pr (i := k) (o := j) (by unfold nIm at hk; omega) hj).2.2.1) i.toNat (by unfold nIm; omega)
    have h1 : S 17 (4 * ((i.toNat : Nat) : Int) + j) ≤ lefts S j (nIm S) := h1
    rw [show ((i.toNat : Nat) : Int) = i by omega] at h1; exact h1
  have i1 := h.i1
  have tm := h.tm (by omega)
  have fg := h.fg hj
  have pr := h.pr hi hj
  have i9 := h.i9
  unfold inv9 at i9
  have rs := h.rems
  have lf0 := h.lfs hj (nIm S) (Nat.le_refl _)
  have hs := gs_sums (S := S) i j n i1.2.2.1.1
  have en : nS (grS S i j n) = nS S + 1 := by unfold nS; rw [gs_28]; omega
  have em : nIm (grS S i j n) = nIm S := by unfold nIm; rw [gs_ne S i j n 27 (by decide) (by decide) (by decide) (by decide) (by decide) (by decide) (by decide) (by decide) (by decide) (by decide) (by decide), g2_ne S i j n 27 (by decide) (by decide) (by decide) (by decide)]
  have e0 : (grS S i j n) 0 = S 0 := (gs_ne S i j n 0 (by decide) (by decide) (by decide) (by decide) (by decide) (by decide) (by decide) (by decide) (by decide) (by decide) (by decide)).trans (g2_ne S i j n 0 (by decide) (by decide) (by decide) (by decide))
  have e1 : (grS S i j n) 1 = S 1 := (gs_ne S i j n 1 (by decide) (by decide) (by decide) (by decide) (by decide) (by decide) (by decide) (by decide) (by decide) (by decide) (by decide)).trans (g2_ne S i j n 1 (by decide) (by decide) (by decide) (by decide))
  have e2 : (grS S i j n) 2 = S 2 := (gs_ne S i j n 2 (by decide) (by decide) (by decide) (by decide) (by decide) (by decide) (by decide) (by decide) (by decide) (by decide) (by decide)).trans (g2_ne S i j n 2 (by decide) (by decide) (by decide) (by decide))
  have e3 : (grS S i j n) 3 = S 3 := (gs_ne S i j n 3 (by decide) (by decide) (by decide) (by decide) (by decide) (by decide) (by decide) (by decide) (by decide) (by decide) (by decide)).trans (g2_ne S i j n 3 (by decide) (by decide) (by decide) (by decide))
  have e15 : (grS S i j n) 15 = S 15 := (gs_ne S i j n 15 (by decide) (by decide) (by decide) (by decide) (by decide) (by decide) (by decide) (by decide) (by decide) (by decide) (by decide)).trans (g2_ne S i j n 15 (by decide) (by decide) (by decide) (by decide))
  have e16 : (grS S i j n) 16 = S 16 := (gs_ne S i j n 16 (by decide) (by decide) (by decide) (by decide) (by decide) (by decide) (by decide) (by decide) (by decide) (by decide) (by decide)).trans (g2_ne S i j n 16 (by decide) (by decide) (by decide) (by decide))
  have e19 : (grS S i j n) 19 = S 19 := (gs_ne S i j n 19 (by decide) (by decide) (by decide) (by decide) (by decide) (by decide) (by decide) (by decide) (by decide) (by decide) (by decide)).trans (g2_ne S i j n 19 (by decide) (by decide) (by decide) (by decide))
  have e20 : (grS S i j n) 20 = S 20 := (gs_ne S i j n 20 (by decide) (by decide) (by decide) (by decide) (by decide) (by decide) (by decide) (by decide) (by decide) (by decide) (by decide)).trans (g2_ne S i j n 20 (by decide) (by decide) (by decide) (by decide))
  have e21 : (grS S i j n) 21 = S 21 := (gs_ne S i j n 21 (by decide) (by decide) (by decide) (by decide) (by decide) (by decide) (by decide) (by decide) (by decide) (by decide) (by decide)).trans (g2_ne S i j n 21 (by decide) (by decide) (by decide) (by decide))
  have e22 : (grS S i j n) 22 = S 22 := (gs_ne S i j n 22 (by decide) (by decide) (by decide) (by decide) (by decide) (by decide) (by decide) (by decide) (by decide) (by decide) (by decide)).trans (g2_ne S i j n 22 (by decide) (by decide) (by decide) (by decide))
  have e23 : (grS S i j n) 23 = S 23 := (gs_ne S i j n 23 (by decide) (by decide) (by decide) (by decide) (by decide) (by decide) (by decide) (by decide) (by decide) (by decide) (by decide)).trans (g2_ne S i j n 23 (by decide) (by decide) (by decide) (by decide))
  have e25 : (grS S i j n) 25 = S 25 := (gs_ne S i j n 25 (by decide) (by decide) (by decide) (by decide) (by decide) (by decide) (by decide) (by decide) (by decide) (by decide) (by decide)).trans (g2_ne S i j n 25 (by decide) (by decide) (by decide) (by decide))
  have e26 : (grS S i j n) 26 = S 26 := (gs_ne S i j n 26 (by decide) (by decide) (by decide) (by decide) (by decide) (by decide) (by decide) (by decide) (by decide) (by decide) (by decide)).trans (g2_ne S i j n 26 (by decide) (by decide) (by decide) (by decide))
  have e27 : (grS S i j n) 27 = S 27 := (gs_ne S i j n 27 (by decide) (by decide) (by decide) (by decide) (by decide) (by decide) (by decide) (by decide) (by decide) (by decide) (by decide)).trans (g2_ne S i j n 27 (by decide) (by decide) (by decide) (by decide))
  have e29 : (grS S i j n) 29 = S 29 := (gs_ne S i j n 29 (by decide) (by decide) (by decide) (by decide) (by decide) (by decide) (by decide) (by decide) (by decide) (by decide) (by decide)).trans (g2_ne S i j n 29 (by decide) (by decide) (by decide) (by decide))
  refine ⟨gs_R h.R (by omega) (by omega) (by omega) (by omega) (by omega) ⟨by omega, by omega, by omega, h.R 25 (by decide) 0, by unfold lastD; omega, by omega⟩ (by omega), h.cc, ?_, ?_, ?_, ?_, ?_, ?_, ?_, ?_, ?_, ?_, ?_⟩
  · have q := h.2.2.1
    unfold inv1 at q ⊢
    rw [e25, e26, e27, e29, gs_28]
    exact ⟨q.1, q.2.1, by omega, q.2.2.2.1, q.2.2.2.2.1, fun z => absurd z (by omega)⟩
  · have q := h.2.2.2.1
    simp only [Jvm.Pilot.@@N@@.inv2, e0, e26] at q ⊢
    exact q
  · have q := h.2.2.2.2.1
    simp only [Jvm.Pilot.@@N@@.inv3, e1, e26] at q ⊢
    exact q
  · have q := h.2.2.2.2.2.1
    simp only [Jvm.Pilot.@@N@@.inv4, e2] at q ⊢
    exact q
  · intro k h0 h1
    rw [gs_28] at h1
    unfold LI
    rw [gs_4, gs_5, gs_6, gs_7, gs_8, gs_9, gs_10, gs_11, gs_12, gs_13, e25, e26, e27]
    by_cases b : k = S 28 0
    · simp only [b, if_true]
      exact ⟨hi, hj, by omega, by omega, by omega, by unfold lastD; omega, by omega, fun _ => by unfold lastD; omega, fun z => absurd trivial z, by omega⟩
    · simp only [b, if_false]
      exact h.i5 k h0 (by omega)
  · intro o h0 h1
    rw [e26] at h1
    have fo := h.i6 o h0 h1
    have gl := gs_left (S := S) (i := i) (o := j) (n := n) (m := nIm S) o (by unfold nIm; omega) (by omega) (by omega)
    unfold FI at fo ⊢
    rw [en, em, hs.1, gl, e25, gs_28]
    rw [gs_ne S i j n 14 (by decide) (by decide) (by decide) (by decide) (by decide) (by decide) (by decide) (by decide) (by decide) (by decide) (by decide)]
    simp only [g2_14]
    rw [if_neg (show ¬ o * 8 + 1 = j * 8 + 4 by omega), if_neg (show ¬ (o * 8 + 1 = j * 8 + 3 ∧ ¬ S 15 (4 * i + j) = 1) by omega), if_neg (show ¬ o * 8 + 2 = j * 8 + 4 by omega), if_neg (show ¬ (o * 8 + 2 = j * 8 + 3 ∧ ¬ S 15 (4 * i + j) = 1) by omega), if_neg (show ¬ o * 8 + 3 = j * 8 + 4 by omega), if_neg (show ¬ (o * 8 + 4 = j * 8 + 3 ∧ ¬ S 15 (4 * i + j) = 1) by omega), if_neg (show ¬ o * 8 + 5 = j * 8 + 4 by omega), if_neg (show ¬ (o * 8 + 5 = j * 8 + 3 ∧ ¬ S 15 (4 * i + j) = 1) by omega), if_neg (show ¬ o * 8 + 6 = j * 8 + 4 by omega), if_neg (show ¬ (o * 8 + 6 = j * 8 + 3 ∧ ¬ S 15 (4 * i + j) = 1) by omega), if_neg (show ¬ o * 8 + 7 = j * 8 + 4 by omega), if_neg (show ¬ (o * 8 + 7 = j * 8 + 3 ∧ ¬ S 15 (4 * i + j) = 1) by omega)]
    have lf := h.lfs ⟨h0, h1⟩ (nIm S) (Nat.le_refl _)
    by_cases e : o = j
    · subst e
      by_cases t : S 15 (4 * i + o) = 1
      · simp only [t, if_true, and_true, not_true, and_false, if_false]; omega
      · simp only [t, if_true, and_true, not_false_iff, and_false, if_false]; omega
    · have a1 : ¬ o * 8 + 4 = j * 8 + 4 := by omega
      have a2 : ¬ o * 8 + 3 = j * 8 + 3 := by omega
      simp only [e, a1, a2, false_and, if_false]; omega
  · intro i2 o2 a1 a2 a3 a4
    rw [e27] at a2
    rw [e26] at a4
    have q := h.i7 i2 o2 a1 a2 a3 a4
    unfold PI at q ⊢
    unfold Jvm.Pilot.@@N@@.old at q ⊢
    rw [e15, e16, e2, gs_28, gs_ne S i j n 17 (by decide) (by decide) (by decide) (by decide) (by decide) (by decide) (by decide) (by decide) (by decide) (by decide) (by decide), gs_ne S i j n 18 (by decide) (by decide) (by decide) (by decide) (by decide) (by decide) (by decide) (by decide) (by decide) (by decide) (by decide), g2_17, g2_18]
    refine ⟨q.1, q.2.1, ?_, ?_, q.2.2.2.2⟩
    · split
      · rename_i z; have := ht z.2; omega
      · exact q.2.2.1
    · split
      · rename_i z; have := h.pr hi hj; omega
      · omega
  · have q := h.2.2.2.2.2.2.2.2.2.1
    simp only [Jvm.Pilot.@@N@@.inv8, e20, e21, e22] at q ⊢
    exact q
  · have q := h.i9
    unfold inv9 at q ⊢
    rw [en, hs.1, gs_28, gs_ne S i j n 24 (by decide) (by decide) (by decide) (by decide) (by decide) (by decide) (by decide) (by decide) (by decide) (by decide) (by decide)]
    simp only [g2_24]
    rw [if_true, if_neg (by decide), if_neg (by decide), if_neg (by decide), if_neg (by decide)]
    omega
  · have q := h.i10
    unfold inv10 at q ⊢
    rw [en, hs.2, gs_28]
    omega
  · have q := h.2.2.2.2.2.2.2.2.2.2.2.2
    simp only [Jvm.Pilot.@@N@@.inv11, e23] at q ⊢
    exact q

/-! a licence that ends into the pool -/
theorem sm_diff {f g : Int → Int} (l : Nat) : ∀ n : Nat, l < n → (∀ k : Nat, k < n → k ≠ l → g k = f k) → sm g n = sm f n + (g l - f l)
  | 0, h, _ => by omega
  | n + 1, h, hk => by
    rw [sm, sm]
    by_cases e : l = n
    · subst e
      rw [sm_congr (f := g) (g := f) l (fun k h' => hk k (by omega) (by omega))]; omega
    · rw [sm_diff l n (by omega) (fun k h' => hk k (by omega)), hk n (by omega) (by omega)]; omega
def giveS (S : St) (l h : Int) : St := u1 (cipS S l h) 24 h (S 24 h + rem S l)
theorem cip_at (S : St) (l h : Int) (f : Nat) (j : Int) : cipS S l h f j = if f = 10 ∧ j = l then h else if f = 11 ∧ j = l then S 25 0 else if f = 14 ∧ j = S 5 l * 8 + 3 then S 14 j + rem S l else if f = 14 ∧ j = S 5 l * 8 + 7 ∧ ¬ S 7 l / 90 = S 25 0 / 90 then S 14 j + rem S l else S f j := by
  unfold cipS cip closeS
  by_cases hp : S 7 l / 90 = S 25 0 / 90
  · rw [if_pos hp, add_at, u1_at, u1_at]
    by_cases h1 : f = 14 ∧ j = S 5 l * 8 + 3
    · obtain ⟨rfl, rfl⟩ := h1
      simp [u1_at]
    · rw [if_neg h1]
      by_cases h2 : f = 11 ∧ j = l
      · obtain ⟨rfl, rfl⟩ := h2; simp [u1_at]
      · by_cases h3 : f = 10 ∧ j = l
        · obtain ⟨rfl, rfl⟩ := h3; simp [u1_at]
        · simp [u1_at, h1, h2, h3, hp]
  · rw [if_neg hp, add_at, add_at, add_at, u1_at, u1_at]
    by_cases h0 : f = 14 ∧ j = S 5 l * 8 + 7
    · obtain ⟨rfl, rfl⟩ := h0
      have e : ¬ S 5 l * 8 + 7 = S 5 l * 8 + 3 := by omega
      simp [u1_at, hp, e]
    · rw [if_neg h0]
      by_cases h1 : f = 14 ∧ j = S 5 l * 8 + 3
      · obtain ⟨rfl, rfl⟩ := h1
        simp [u1_at]
      · rw [if_neg h1]
        by_cases h2 : f = 11 ∧ j = l
        · obtain ⟨rfl, rfl⟩ := h2; simp [u1_at]
        · by_cases h3 : f = 10 ∧ j = l
          · obtain ⟨rfl, rfl⟩ := h3; simp [u1_at]
          · have h4 : ¬ (f = 14 ∧ j = S 5 l * 8 + 7 ∧ ¬ S 7 l / 90 = S 25 0 / 90) := fun a => h0 ⟨a.1, a.2.1⟩
            simp only [u1_at, h1, h2, h3, h4, if_false]
theorem give_at (S : St) (l h : Int) (f : Nat) (j : Int) : giveS S l h f j = if f = 24 ∧ j = h then S 24 h + rem S l else cipS S l h f j := u1_at _ _ _ _ _ _
theorem give_ne (S : St) (l h : Int) {f : Nat} (h1 : f ≠ 10) (h2 : f ≠ 11) (h3 : f ≠ 14) (h4 : f ≠ 24) : giveS S l h f = S f := by
  funext j
  rw [give_at, if_neg (by omega), cip_at, if_neg (by omega), if_neg (by omega), if_neg (by omega), if_neg (by omega)]
theorem give_rem (S : St) (l h : Int) (hh : h ≠ 0) (k : Int) : rem (giveS S l h) k = if k = l then 0 else rem S k := by
  have e6 : giveS S l h 6 = S 6 := give_ne S l h (by decide) (by decide) (by decide) (by decide)
  have e9 : giveS S l h 9 = S 9 := give_ne S l h (by decide) (by decide) (by decide) (by decide)
  unfold rem; rw [e6, e9, give_at, if_neg (show ¬ ((10 : Nat) = 24 ∧ k = h) from fun a => absurd a.1 (by decide)), cip_at]
  by_cases hk : k = l
  · subst hk; simp [hh]
  · simp [hk]
theorem give_rems (S : St) (l : Nat) (h : Int) (hh : h ≠ 0) (n : Nat) (hl : l < n) : rems (giveS S l h) n = rems S n - rem S l := by
  unfold rems
  rw [sm_diff (f := rem S) l n hl (fun k _ hkl => by rw [give_rem S l h hh, if_neg (by omega)]), give_rem S l h hh, if_pos rfl]; omega
theorem Rg.give {S : St} (hR : Rg S) {l h : Int} (hh : inI h) (h1 : inI (S 14 (S 5 l * 8 + 3) + rem S l)) (h2 : inI (S 14 (S 5 l * 8 + 7) + rem S l)) (h3 : inI (S 24 h + rem S l)) : Rg (giveS S l h) := by
  intro f hf j
  rw [give_at, cip_at]
  have r25 := hR 25 (by decide) 0
  by_cases a1 : f = 24 ∧ j = h
  · rw [if_pos a1]; exact h3
  · rw [if_neg a1]
    by_cases a2 : f = 10 ∧ j = l
    · rw [if_pos a2]; exact hh
    · rw [if_neg a2]
      by_cases a3 : f = 11 ∧ j = l
      · rw [if_pos a3]; exact r25
      · rw [if_neg a3]
        by_cases a4 : f = 14 ∧ j = S 5 l * 8 + 3
        · rw [if_pos a4, a4.2]; exact h1
        · rw [if_neg a4]
          by_cases a5 : f = 14 ∧ j = S 5 l * 8 + 7 ∧ ¬ S 7 l / 90 = S 25 0 / 90
          · rw [if_pos a5, a5.2.1]; exact h2
          · rw [if_neg a5]; exact hR f hf j

set_option maxHeartbeats 1000000 in
theorem Inv.give {c : Int} {S : St} (h : Inv c S) {l w : Int} (hl : 0 ≤ l ∧ l < S 28 0) (ho : S 10 l = 0) (hw : w = 2 ∨ w = 3) : Inv (c) (giveS S l w) := by
  have li := h.li hl
  have rm := h.rem hl
  have rs := h.rems
  have rm1 := h.rem1 hl
  have am := h.am hl
  have fg := h.fg li.2.1
  have lf := h.lfs li.2.1 0 (Nat.zero_le _)
  have lf2 := h.lfs li.2.1 (nIm S) (Nat.le_refl _)
  have i1 := h.i1
  have i9 := h.i9
  unfold inv9 at i9
  have hln : l.toNat < nS S := by unfold nS; omega
  have hlc : ((l.toNat : Nat) : Int) = l := by omega
  have er : Jvm.Pilot.@@N@@.rems (giveS S l w) (nS S) = Jvm.Pilot.@@N@@.rems S (nS S) - Jvm.Pilot.@@N@@.rem S l := by have := give_rems S l.toNat w (by omega) (nS S) hln; rwa [hlc] at this
  have r24 : inI (S 24 w + Jvm.Pilot.@@N@@.rem S l) := by rcases hw with rfl | rfl <;> omega
  have e0 : (giveS S l w) 0 = S 0 := give_ne S l w (by decide) (by decide) (by decide) (by decide)
  have e1 : (giveS S l w) 1 = S 1 := give_ne S l w (by decide) (by decide) (by decide) (by decide)
  have e2 : (giveS S l w) 2 = S 2 := give_ne S l w (by decide) (by decide) (by decide) (by decide)
  have e3 : (giveS S l w) 3 = S 3 := give_ne S l w (by decide) (by decide) (by decide) (by decide)
  have e4 : (giveS S l w) 4 = S 4 := give_ne S l w (by decide) (by decide) (by decide) (by decide)
  have e5 : (giveS S l w) 5 = S 5 := give_ne S l w (by decide) (by decide) (by decide) (by decide)
  have e6 : (giveS S l w) 6 = S 6 := give_ne S l w (by decide) (by decide) (by decide) (by decide)
  have e7 : (giveS S l w) 7 = S 7 := give_ne S l w (by decide) (by decide) (by decide) (by decide)
  have e8 : (giveS S l w) 8 = S 8 := give_ne S l w (by decide) (by decide) (by decide) (by decide)
  have e9 : (giveS S l w) 9 = S 9 := give_ne S l w (by decide) (by decide) (by decide) (by decide)
  have e12 : (giveS S l w) 12 = S 12 := give_ne S l w (by decide) (by decide) (by decide) (by decide)
  have e13 : (giveS S l w) 13 = S 13 := give_ne S l w (by decide) (by decide) (by decide) (by decide)
  have e15 : (giveS S l w) 15 = S 15 := give_ne S l w (by decide) (by decide) (by decide) (by decide)
  have e16 : (giveS S l w) 16 = S 16 := give_ne S l w (by decide) (by decide) (by decide) (by decide)
  have e17 : (giveS S l w) 17 = S 17 := give_ne S l w (by decide) (by decide) (by decide) (by decide)
  have e18 : (giveS S l w) 18 = S 18 := give_ne S l w (by decide) (by decide) (by decide) (by decide)
  have e19 : (giveS S l w) 19 = S 19 := give_ne S l w (by decide) (by decide) (by decide) (by decide)
  have e20 : (giveS S l w) 20 = S 20 := give_ne S l w (by decide) (by decide) (by decide) (by decide)
  have e21 : (giveS S l w) 21 = S 21 := give_ne S l w (by decide) (by decide) (by decide) (by decide)
  have e22 : (giveS S l w) 22 = S 22 := give_ne S l w (by decide) (by decide) (by decide) (by decide)
  have e23 : (giveS S l w) 23 = S 23 := give_ne S l w (by decide) (by decide) (by decide) (by decide)
  have e25 : (giveS S l w) 25 = S 25 := give_ne S l w (by decide) (by decide) (by decide) (by decide)
  have e26 : (giveS S l w) 26 = S 26 := give_ne S l w (by decide) (by decide) (by decide) (by decide)
  have e27 : (giveS S l w) 27 = S 27 := give_ne S l w (by decide) (by decide) (by decide) (by decide)
  have e28 : (giveS S l w) 28 = S 28 := give_ne S l w (by decide) (by decide) (by decide) (by decide)
  have e29 : (giveS S l w) 29 = S 29 := give_ne S l w (by decide) (by decide) (by decide) (by decide)
  refine ⟨h.R.give (by omega) (by omega) (by omega) r24, h.cc, ?_, ?_, ?_, ?_, ?_, ?_, ?_, ?_, ?_, ?_, ?_⟩
  · have q := h.2.2.1
    simp only [Jvm.Pilot.@@N@@.inv1, e25, e26, e27, e28, e29] at q ⊢
    exact q
  · have q := h.2.2.2.1
    simp only [Jvm.Pilot.@@N@@.inv2, e0, e26] at q ⊢
    exact q
  · have q := h.2.2.2.2.1
    simp only [Jvm.Pilot.@@N@@.inv3, e1, e26] at q ⊢
    exact q
  · have q := h.2.2.2.2.2.1
    simp only [Jvm.Pilot.@@N@@.inv4, e2] at q ⊢
    exact q
  · intro k h0 h1
    rw [e28] at h1
    have lk := h.i5 k h0 h1
    unfold LI at lk ⊢
    simp only [e4, e5, e6, e7, e8, e9, e12, e13, e25, e26, e27]
    have a10 : giveS S l w 10 k = if k = l then w else S 10 k := by rw [give_at, if_neg (by omega), cip_at]; simp
    have a11 : giveS S l w 11 k = if k = l then S 25 0 else S 11 k := by rw [give_at, if_neg (by omega), cip_at]; simp
    by_cases hk : k = l
    · rw [if_pos hk] at a10 a11; rw [a10, a11]; subst hk; refine ⟨lk.1, lk.2.1, lk.2.2.1, lk.2.2.2.1, lk.2.2.2.2.1, lk.2.2.2.2.2.1, by omega, fun e => by omega, fun _ => by omega, lk.2.2.2.2.2.2.2.2.2⟩
    · rw [if_neg hk] at a10 a11; rw [a10, a11]; exact lk
  · intro o h0 h1
    rw [e26] at h1
    have fo := h.i6 o h0 h1
    have lfo := h.lfs ⟨h0, h1⟩ (nIm S) (Nat.le_refl _)
    unfold FI at fo ⊢
    have en : nS (giveS S l w) = nS S := by unfold nS; rw [e28]
    have em : nIm (giveS S l w) = nIm S := by unfold nIm; rw [e27]
    have el : lefts (giveS S l w) o (nIm S) = lefts S o (nIm S) := by unfold lefts; rw [e17]
    rw [en, em, el, er, e25, e28]
    have a : ∀ w2 : Int, 0 ≤ w2 → w2 < 8 → giveS S l w 14 (o * 8 + w2) = if o = S 5 l ∧ w2 = 3 then S 14 (o * 8 + w2) + Jvm.Pilot.@@N@@.rem S l else if o = S 5 l ∧ w2 = 7 ∧ ¬ S 7 l / 90 = S 25 0 / 90 then S 14 (o * 8 + w2) + Jvm.Pilot.@@N@@.rem S l else S 14 (o * 8 + w2) := by
      intro w2 b0 b8
      rw [give_at, if_neg (by omega), cip_at, if_neg (by omega), if_neg (by omega)]
      have c1 : (o * 8 + w2 = S 5 l * 8 + 3) ↔ (o = S 5 l ∧ w2 = 3) := by omega
      have c2 : (o * 8 + w2 = S 5 l * 8 + 7 ∧ ¬ S 7 l / 90 = S 25 0 / 90) ↔ (o = S 5 l ∧ w2 = 7 ∧ ¬ S 7 l / 90 = S 25 0 / 90) := by omega
      simp only [true_and, c1, c2]
    have a1 := a 1 (by omega) (by omega); have a2 := a 2 (by omega) (by omega); have a3 := a 3 (by omega) (by omega); have a4 := a 4 (by omega) (by omega); have a5 := a 5 (by omega) (by omega); have a6 := a 6 (by omega) (by omega); have a7 := a 7 (by omega) (by omega)
    rw [if_neg (by omega), if_neg (by omega)] at a1 a2 a4 a5 a6
    rw [if_neg (show ¬ (o = S 5 l ∧ (7 : Int) = 3) by omega)] at a7
    rw [if_neg (show ¬ (o = S 5 l ∧ (3 : Int) = 7 ∧ ¬ S 7 l / 90 = S 25 0 / 90) by omega)] at a3
    rw [a1, a2, a4, a5, a6]
    clear a a1 a2 a4 a5 a6
    by_cases ho : o = S 5 l
    · rw [if_pos (by omega)] at a3
      by_cases hp : S 7 l / 90 = S 25 0 / 90
      · rw [if_neg (by omega)] at a7; rw [a3, a7]; omega
      · rw [if_pos (by omega)] at a7; rw [a3, a7]; omega
    · rw [if_neg (by omega)] at a3 a7; rw [a3, a7]; omega
  · have q := h.2.2.2.2.2.2.2.2.1
    simp only [Jvm.Pilot.@@N@@.inv7, Jvm.Pilot.@@N@@.PI, Jvm.Pilot.@@N@@.old, e15, e16, e17, e18, e2, e26, e27, e28] at q ⊢
    exact q
  · have q := h.2.2.2.2.2.2.2.2.2.1
    simp only [Jvm.Pilot.@@N@@.inv8, e20, e21, e22] at q ⊢
    exact q
  · unfold inv9
    have en : nS (giveS S l w) = nS S := by unfold nS; rw [e28]
    rw [en, er, e28]
    have a : ∀ w2 : Int, giveS S l w 24 w2 = if w2 = w then S 24 w + Jvm.Pilot.@@N@@.rem S l else S 24 w2 := by intro w2; rw [give_at, cip_at]; simp
    rcases hw with rfl | rfl
    · rw [a 0, a 1, a 2, a 3, a 4]; simp only [show ¬ (0 : Int) = 2 by omega, show ¬ (1 : Int) = 2 by omega, show ¬ (3 : Int) = 2 by omega, show ¬ (4 : Int) = 2 by omega, if_true, if_false]; omega
    · rw [a 0, a 1, a 2, a 3, a 4]; simp only [show ¬ (0 : Int) = 3 by omega, show ¬ (1 : Int) = 3 by omega, show ¬ (2 : Int) = 3 by omega, show ¬ (4 : Int) = 3 by omega, if_true, if_false]; omega
  · have q := h.2.2.2.2.2.2.2.2.2.2.2.1
    simp only [Jvm.Pilot.@@N@@.inv10, Jvm.Pilot.@@N@@.nS, e6, e28] at q ⊢
    exact q
  · have q := h.2.2.2.2.2.2.2.2.2.2.2.2
    simp only [Jvm.Pilot.@@N@@.inv11, e23] at q ⊢
    exact q

/-! what is copied keeps what always holds -/
theorem Inv.cg {c : Int} {S R : St} (h : Inv c S) (hR : Rg R) (he : ∀ (f : Nat) (j : Int), okF S f j → R f j = S f j) : Inv c R := by
  have i1 := h.i1
  obtain ⟨_, hc, g1, g2, g3, g4, g5, g6, g7, g8, g9, g10, g11⟩ := id h
  have e25 : R 25 0 = S 25 0 := he 25 0 ⟨by decide, by decide, by decide, by show (0 : Int) < 1; decide⟩
  have e26 : R 26 0 = S 26 0 := he 26 0 ⟨by decide, by decide, by decide, by show (0 : Int) < 1; decide⟩
  have e27 : R 27 0 = S 27 0 := he 27 0 ⟨by decide, by decide, by decide, by show (0 : Int) < 1; decide⟩
  have e28 : R 28 0 = S 28 0 := he 28 0 ⟨by decide, by decide, by decide, by show (0 : Int) < 1; decide⟩
  have e29 : R 29 0 = S 29 0 := he 29 0 ⟨by decide, by decide, by decide, by show (0 : Int) < 1; decide⟩
  have t0 : R 0 0 = S 0 0 := he 0 0 ⟨by decide, by decide, by decide, by show (0 : Int) < 6; decide⟩
  have t1 : R 0 1 = S 0 1 := he 0 1 ⟨by decide, by decide, by decide, by show (1 : Int) < 6; decide⟩
  have t2 : R 0 2 = S 0 2 := he 0 2 ⟨by decide, by decide, by decide, by show (2 : Int) < 6; decide⟩
  have t3 : R 0 3 = S 0 3 := he 0 3 ⟨by decide, by decide, by decide, by show (3 : Int) < 6; decide⟩
  have t4 : R 0 4 = S 0 4 := he 0 4 ⟨by decide, by decide, by decide, by show (4 : Int) < 6; decide⟩
  have t5 : R 0 5 = S 0 5 := he 0 5 ⟨by decide, by decide, by decide, by show (5 : Int) < 6; decide⟩
  have w0 : R 24 0 = S 24 0 := he 24 0 ⟨by decide, by decide, by decide, by show (0 : Int) < 5; decide⟩
  have w1 : R 24 1 = S 24 1 := he 24 1 ⟨by decide, by decide, by decide, by show (1 : Int) < 5; decide⟩
  have w2 : R 24 2 = S 24 2 := he 24 2 ⟨by decide, by decide, by decide, by show (2 : Int) < 5; decide⟩
  have w3 : R 24 3 = S 24 3 := he 24 3 ⟨by decide, by decide, by decide, by show (3 : Int) < 5; decide⟩
  have w4 : R 24 4 = S 24 4 := he 24 4 ⟨by decide, by decide, by decide, by show (4 : Int) < 5; decide⟩
  have eS : nS R = nS S := by unfold nS; rw [e28]
  have eI : nIm R = nIm S := by unfold nIm; rw [e27]
  have hL : ∀ (f : Nat), 4 ≤ f → f ≤ 13 → ∀ l : Int, 0 ≤ l → l < S 28 0 → R f l = S f l := by
    intro f h4 h13 l h0 hl
    refine he f l ⟨by omega, by omega, h0, ?_⟩
    unfold lnF; rw [if_neg (by omega), if_neg (by omega), if_neg (by omega), if_pos ⟨h4, h13⟩]; exact hl
  have hF : ∀ (f : Nat), 14 ≤ f → f ≤ 18 → ∀ j : Int, 0 ≤ j → j < 32 → R f j = S f j := by
    intro f h4 h13 l h0 hl
    refine he f l ⟨by omega, by omega, h0, ?_⟩
    unfold lnF; rw [if_neg (by omega), if_neg (by omega), if_neg (by omega), if_neg (by omega), if_pos ⟨h4, h13⟩]; exact hl
  have h2 : ∀ j : Int, 0 ≤ j → j < 96 → R 2 j = S 2 j := fun j a b => he 2 j ⟨by decide, by decide, a, b⟩
  have hrem : ∀ l : Int, 0 ≤ l → l < S 28 0 → Jvm.Pilot.@@N@@.rem R l = Jvm.Pilot.@@N@@.rem S l := by
    intro l h0 hl; unfold Jvm.Pilot.@@N@@.rem
    rw [hL 10 (by decide) (by decide) l h0 hl, hL 6 (by decide) (by decide) l h0 hl, hL 9 (by decide) (by decide) l h0 hl]
  have hrs : Jvm.Pilot.@@N@@.rems R (nS S) = Jvm.Pilot.@@N@@.rems S (nS S) := sm_congr _ (fun k hk => hrem k (by omega) (by unfold nS at hk; omega))
  have hlf : ∀ o : Int, 0 ≤ o → o < S 26 0 → lefts R o (nIm S) = lefts S o (nIm S) := fun o h0 h1 => sm_congr _ (fun k hk => hF 17 (by decide) (by decide) _ (by omega) (by unfold nIm at hk; omega))
  have hs6 : sm (R 6) (nS S) = sm (S 6) (nS S) := sm_congr _ (fun k hk => hL 6 (by decide) (by decide) k (by omega) (by unfold nS at hk; omega))
  refine ⟨hR, hc, ?_, ?_, ?_, ?_, ?_, ?_, ?_, ?_, ?_, ?_, ?_⟩
  · unfold inv1 at g1 ⊢; rw [e25, e26, e27, e28, e29]; exact g1
  · unfold inv2 at g2 ⊢; rw [e26, t0, t1, t2, t3, t4, t5]; exact g2
  · intro o h0 h1
    rw [e26] at h1
    rw [he 1 o ⟨by decide, by decide, h0, by show o < (4 : Int); omega⟩]; exact g3 o h0 h1
  · intro k h0 h1; rw [h2 k h0 h1]; exact g4 k h0 h1
  · intro l h0 h1
    rw [e28] at h1
    have q := g5 l h0 h1
    unfold LI at q ⊢
    rw [hL 4 (by decide) (by decide) l h0 h1, hL 5 (by decide) (by decide) l h0 h1, hL 6 (by decide) (by decide) l h0 h1, hL 7 (by decide) (by decide) l h0 h1, hL 8 (by decide) (by decide) l h0 h1, hL 9 (by decide) (by decide) l h0 h1, hL 10 (by decide) (by decide) l h0 h1, hL 11 (by decide) (by decide) l h0 h1, hL 12 (by decide) (by decide) l h0 h1, hL 13 (by decide) (by decide) l h0 h1, e25, e26, e27]
    exact q
  · intro o h0 h1
    rw [e26] at h1
    have q := g6 o h0 h1
    unfold FI at q ⊢
    rw [hF 14 (by decide) (by decide) (o * 8 + 1) (by omega) (by omega), hF 14 (by decide) (by decide) (o * 8 + 2) (by omega) (by omega), hF 14 (by decide) (by decide) (o * 8 + 3) (by omega) (by omega), hF 14 (by decide) (by decide) (o * 8 + 4) (by omega) (by omega), hF 14 (by decide) (by decide) (o * 8 + 5) (by omega) (by omega), hF 14 (by decide) (by decide) (o * 8 + 6) (by omega) (by omega), hF 14 (by decide) (by decide) (o * 8 + 7) (by omega) (by omega), eI, eS, hlf o h0 h1, hrs, e25, e28]
    exact q
  · intro i o h0 h1 h3 h4
    rw [e27] at h1; rw [e26] at h4
    have q := g7 i o h0 h1 h3 h4
    unfold PI at q ⊢
    have eo : Jvm.Pilot.@@N@@.old R (4 * i + o) = Jvm.Pilot.@@N@@.old S (4 * i + o) := by
      unfold Jvm.Pilot.@@N@@.old; rw [h2 _ (by omega) (by omega), h2 _ (by omega) (by omega), h2 _ (by omega) (by omega)]
    rw [hF 15 (by decide) (by decide) (4 * i + o) (by omega) (by omega), hF 16 (by decide) (by decide) (4 * i + o) (by omega) (by omega), hF 17 (by decide) (by decide) (4 * i + o) (by omega) (by omega), hF 18 (by decide) (by decide) (4 * i + o) (by omega) (by omega), e28, eo]
    exact q
  · intro k h0
    have q := g8 k h0
    refine ⟨fun h1 => ?_, fun h1 => ?_, fun h1 => ?_⟩
    · rw [he 20 k ⟨by decide, by decide, h0, h1⟩]; exact q.1 h1
    · rw [he 21 k ⟨by decide, by decide, h0, h1⟩]; exact q.2.1 h1
    · rw [he 22 k ⟨by decide, by decide, h0, h1⟩]; exact q.2.2 h1
  · unfold inv9 at g9 ⊢; rw [w0, w1, w2, w3, w4, e28, eS, hrs]; exact g9
  · unfold inv10 at g10 ⊢; rw [eS, hs6, e28]; exact g10
  · intro i h0 h1; rw [he 23 i ⟨by decide, by decide, h0, h1⟩]; exact g11 i h0 h1
theorem Inv.cp {c : Int} {S X : St} (h : Inv c S) (hR : Rg (cpSt S X)) : Inv c (cpSt S X) := h.cg hR (fun f j hk => cp_at S X f j hk)


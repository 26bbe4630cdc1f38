/-! a day -/
def dyA (S : St) : St := u0 (lapA S (nS S)) 25 (S 25 0 + 1)
def dyB (S : St) : St := if (S 25 0 + 1) % 360 = 0 then turnS (dyA S) else dyA S
def dayS (S : St) : St := if (S 25 0 + 1) % 90 = 0 then prdF (logS (dyB S)) (nOr (logS (dyB S))) else dyB S
def lapN (S : St) : Int := lapA S (nS S) 24 3 - S 24 3
theorem u1_self (S : St) (f : Nat) (i : Int) : u1 S f i (S f i) = S := by
  funext f' i'; rw [u1_at]; split
  · rename_i h; rw [h.1, h.2]
  · rfl
theorem u1_u1 (S : St) (f : Nat) (i v w : Int) : u1 (u1 S f i v) f i w = u1 S f i w := by
  funext f' i'; rw [u1_at, u1_at, u1_at]; split <;> rfl
theorem cip_u24 (A : St) (l h v : Int) : cipS (u1 A 24 3 v) l h = u1 (cipS A l h) 24 3 v := by
  funext f j
  rw [cip_at, u1_at (cipS A l h) 24 3 v f j, cip_at]
  simp only [show ∀ i, u1 A 24 3 v 25 i = A 25 i from fun _ => rfl, show ∀ i, u1 A 24 3 v 5 i = A 5 i from fun _ => rfl, show ∀ i, u1 A 24 3 v 7 i = A 7 i from fun _ => rfl, show ∀ i, u1 A 24 3 v 14 i = A 14 i from fun _ => rfl, show ∀ i, rem (u1 A 24 3 v) i = rem A i from fun _ => rfl]
  by_cases h : f = 24 ∧ j = 3
  · obtain ⟨rfl, rfl⟩ := h; simp [u1_at]
  · rw [u1_at, if_neg h, if_neg h]
theorem lap_s1 (S : St) (k : Nat) (v : Int) (h1 : lapA S k 10 k = 0) (h2 : S 8 k = S 25 0) : cipS (u1 (lapA S k) 24 3 v) k 3 = u1 (lapA S (k + 1)) 24 3 v := by
  rw [lapA, if_pos ⟨h1, h2⟩, giveS, u1_u1, cip_u24]
theorem lap_s0 (S : St) (k : Nat) (h : ¬ (lapA S k 10 k = 0 ∧ S 8 k = S 25 0)) : lapA S (k + 1) = lapA S k := by rw [lapA, if_neg h]
theorem lap_t1 (S : St) (k : Nat) (h1 : lapA S k 10 k = 0) (h2 : S 8 k = S 25 0) : lapA S (k + 1) 24 3 = lapA S k 24 3 + rem (lapA S k) k := by
  rw [lapA, if_pos ⟨h1, h2⟩, giveS, u1_at, if_pos ⟨rfl, rfl⟩]
theorem turn_ne (S : St) {f : Nat} (h1 : f ≠ 2) (h2 : f ≠ 20) (h3 : f ≠ 21) (h4 : f ≠ 22) : turnS S f = S f := by
  funext j
  unfold turnS yclS
  rw [clS_at, if_neg (by omega), clS_at, if_neg (by omega), clS_at, if_neg (by omega), ty_eq]
  unfold tyF; rw [if_neg h1]
theorem dyB_ne (S : St) {f : Nat} (h1 : f ≠ 2) (h2 : f ≠ 20) (h3 : f ≠ 21) (h4 : f ≠ 22) : dyB S f = dyA S f := by
  unfold dyB; split
  · exact turn_ne _ h1 h2 h3 h4
  · rfl

set_option maxHeartbeats 1000000 in
theorem Inv.next {c : Int} {S : St} (h : Inv c S) (hd : S 25 0 < 3600) (hs : ∀ l : Int, 0 ≤ l → l < S 28 0 → S 10 l = 0 → S 8 l ≠ S 25 0) : Inv (c) (u0 S 25 (S 25 0 + 1)) := by
  have r25 := h.R 25 (by decide) 0
  have e0 : (u0 S 25 (S 25 0 + 1)) 0 = S 0 := rfl
  have e1 : (u0 S 25 (S 25 0 + 1)) 1 = S 1 := rfl
  have e2 : (u0 S 25 (S 25 0 + 1)) 2 = S 2 := rfl
  have e3 : (u0 S 25 (S 25 0 + 1)) 3 = S 3 := rfl
  have e4 : (u0 S 25 (S 25 0 + 1)) 4 = S 4 := rfl
  have e5 : (u0 S 25 (S 25 0 + 1)) 5 = S 5 := rfl
  have e6 : (u0 S 25 (S 25 0 + 1)) 6 = S 6 := rfl
  have e7 : (u0 S 25 (S 25 0 + 1)) 7 = S 7 := rfl
  have e8 : (u0 S 25 (S 25 0 + 1)) 8 = S 8 := rfl
  have e9 : (u0 S 25 (S 25 0 + 1)) 9 = S 9 := rfl
  have e10 : (u0 S 25 (S 25 0 + 1)) 10 = S 10 := rfl
  have e11 : (u0 S 25 (S 25 0 + 1)) 11 = S 11 := rfl
  have e12 : (u0 S 25 (S 25 0 + 1)) 12 = S 12 := rfl
  have e13 : (u0 S 25 (S 25 0 + 1)) 13 = S 13 := rfl
  have e14 : (u0 S 25 (S 25 0 + 1)) 14 = S 14 := rfl
  have e15 : (u0 S 25 (S 25 0 + 1)) 15 = S 15 := rfl
  have e16 : (u0 S 25 (S 25 0 + 1)) 16 = S 16 := rfl
  have e17 : (u0 S 25 (S 25 0 + 1)) 17 = S 17 := rfl
  have e18 : (u0 S 25 (S 25 0 + 1)) 18 = S 18 := rfl
  have e19 : (u0 S 25 (S 25 0 + 1)) 19 = S 19 := rfl
  have e20 : (u0 S 25 (S 25 0 + 1)) 20 = S 20 := rfl
  have e21 : (u0 S 25 (S 25 0 + 1)) 21 = S 21 := rfl
  have e22 : (u0 S 25 (S 25 0 + 1)) 22 = S 22 := rfl
  have e23 : (u0 S 25 (S 25 0 + 1)) 23 = S 23 := rfl
  have e24 : (u0 S 25 (S 25 0 + 1)) 24 = S 24 := rfl
  have e26 : (u0 S 25 (S 25 0 + 1)) 26 = S 26 := rfl
  have e27 : (u0 S 25 (S 25 0 + 1)) 27 = S 27 := rfl
  have e28 : (u0 S 25 (S 25 0 + 1)) 28 = S 28 := rfl
  have e29 : (u0 S 25 (S 25 0 + 1)) 29 = S 29 := rfl
  refine ⟨h.R.u0 (by omega), h.cc, ?_, ?_, ?_, ?_, ?_, ?_, ?_, ?_, ?_, ?_, ?_⟩
  · have i1 := h.i1
    have iz := h.i1z
    exact ⟨i1.1, i1.2.1, i1.2.2.1, i1.2.2.2.1, (show 0 ≤ S 25 0 + 1 ∧ S 25 0 + 1 ≤ 3600 by omega), iz⟩
  · have q := h.2.2.2.1
    simp only [Jvm.Pilot.@@N@@.inv2, e0, e26] at q ⊢
    exact q
  · have q := h.2.2.2.2.1
    simp only [Jvm.Pilot.@@N@@.inv3, e1, e26] at q ⊢
    exact q
  · have q := h.2.2.2.2.2.1
    simp only [Jvm.Pilot.@@N@@.inv4, e2] at q ⊢
    exact q
  · intro l h0 h1
    change l < S 28 0 at h1
    have q := h.i5 l h0 h1
    have lo := hs l h0 h1
    unfold LI at q ⊢
    exact ⟨q.1, q.2.1, q.2.2.1, q.2.2.2.1, (show 0 ≤ S 7 l ∧ S 7 l ≤ S 25 0 + 1 by have := q.2.2.2.2.1; omega), q.2.2.2.2.2.1, q.2.2.2.2.2.2.1, (fun e => show S 25 0 + 1 ≤ S 8 l by have a := q.2.2.2.2.2.2.2.1 e; have b := lo e; omega), (fun e => show 0 ≤ S 11 l ∧ S 11 l ≤ S 25 0 + 1 by have a := q.2.2.2.2.2.2.2.2.1 e; omega), q.2.2.2.2.2.2.2.2.2⟩
  · intro o h0 h1
    have q := h.i6 o h0 h1
    unfold FI at q ⊢
    exact ⟨q.1, q.2.1, q.2.2.1, q.2.2.2.1, q.2.2.2.2.1, q.2.2.2.2.2.1, q.2.2.2.2.2.2.1, (show S 14 (o * 8 + 3) + lefts S o (nIm S) + Jvm.Pilot.@@N@@.rems S (nS S) ≤ 99999 * ((S 25 0 + 1) / 90 + 1 + S 28 0) by have a := q.2.2.2.2.2.2.2.1; omega), q.2.2.2.2.2.2.2.2⟩
  · have q := h.2.2.2.2.2.2.2.2.1
    simp only [Jvm.Pilot.@@N@@.inv7, Jvm.Pilot.@@N@@.PI, Jvm.Pilot.@@N@@.old, e15, e16, e17, e18, e2, e26, e27, e28] at q ⊢
    exact q
  · have q := h.2.2.2.2.2.2.2.2.2.1
    simp only [Jvm.Pilot.@@N@@.inv8, e20, e21, e22] at q ⊢
    exact q
  · have q := h.2.2.2.2.2.2.2.2.2.2.1
    simp only [Jvm.Pilot.@@N@@.inv9, Jvm.Pilot.@@N@@.rems, Jvm.Pilot.@@N@@.rem, Jvm.Pilot.@@N@@.nS, e24, e28, e6, e9, e10] at q ⊢
    exact q
  · have q := h.2.2.2.2.2.2.2.2.2.2.2.1
    simp only [Jvm.Pilot.@@N@@.inv10, Jvm.Pilot.@@N@@.nS, e6, e28] at q ⊢
    exact q
  · have q := h.2.2.2.2.2.2.2.2.2.2.2.2
    simp only [Jvm.Pilot.@@N@@.inv11, e23] at q ⊢
    exact q
theorem Inv.dyA {c : Int} {S : St} (h : Inv c S) (hd : S 25 0 < 3600) : Inv c (dyA S) := by
  have hL := h.lap (nS S) (Nat.le_refl _)
  have e25 : lapA S (nS S) 25 = S 25 := lap_ne S (by decide) (by decide) (by decide) (by decide) _
  have e28 : lapA S (nS S) 28 = S 28 := lap_ne S (by decide) (by decide) (by decide) (by decide) _
  have e8 : lapA S (nS S) 8 = S 8 := lap_ne S (by decide) (by decide) (by decide) (by decide) _
  have q := hL.next (by rw [e25]; exact hd) (fun l h0 h1 h2 => by
    rw [e8, e25]
    rw [e28] at h1
    have := lap_shut S (nS S) l.toNat (by unfold nS; omega) (by rw [show ((l.toNat : Nat) : Int) = l by omega]; exact h2)
    rwa [show ((l.toNat : Nat) : Int) = l by omega] at this)
  rw [e25] at q
  exact q
theorem Inv.toQ {c : Int} {S : St} (h : Inv c S) (hs : S 25 0 % 90 = 0) (hb : ∀ o : Int, 0 ≤ o → o < S 26 0 → S 14 (o * 8 + 3) + lefts S o (nIm S) + Jvm.Pilot.@@N@@.rems S (nS S) ≤ 99999 * (S 25 0 / 90 + S 28 0)) : InvQ c (logS S) := by
  have i1 := h.i1; have rs := h.rems
  have r29 := min (S 29 0 + 1) 8
  refine ⟨(h.R.sset (lg2_in h.R 20)).u0 (by omega), h.cc, ⟨i1.1, i1.2.1, i1.2.2.1, (show 0 ≤ min (S 29 0 + 1) 8 ∧ min (S 29 0 + 1) 8 ≤ 8 by omega), i1.2.2.2.2, h.i1z⟩, h.i2, h.i3, h.i4, h.i5, fun o a b => ?_, h.i8, h.i9, h.i10, h.i11⟩
  change o < S 26 0 at b
  have q1 := hb o a b
  have q2 := h.fg ⟨a, b⟩
  have q3 := h.lfs ⟨a, b⟩ (nIm S) (Nat.le_refl _)
  show (0 ≤ cr S o ∧ cr S o ≤ 10199898) ∧ cr S o + Jvm.Pilot.@@N@@.rems S (nS S) ≤ 99999 * (S 25 0 / 90 + S 28 0)
  unfold cr leftI
  split <;> omega
theorem Inv.toQ2' {c : Int} {S T : St} (h : Inv c S) (hs : S 25 0 % 360 = 0) (hRt : Rg T) (e : ∀ f, f ≠ 2 → f ≠ 20 → f ≠ 21 → f ≠ 22 → T f = S f) (ek : ∀ k : Int, 0 ≤ k → k < 96 → T 2 k = if k % 3 = 0 then S 20 (k / 3) else S 2 (k - 1)) (yc : ∀ f : Nat, (f = 20 ∨ f = 21 ∨ f = 22) → ∀ n : Nat, (f = 20 → n = 32) → (f = 21 → n = 96) → (f = 22 → n = 48) → ∀ k : Int, 0 ≤ k → k < n → T f k = 0) : InvQ c (logS T) := by
  have i1 := h.i1; have rs := h.rems
  have e0 := e 0 (by decide) (by decide) (by decide) (by decide)
  have e1 := e 1 (by decide) (by decide) (by decide) (by decide)
  have e4 := e 4 (by decide) (by decide) (by decide) (by decide)
  have e5 := e 5 (by decide) (by decide) (by decide) (by decide)
  have e6 := e 6 (by decide) (by decide) (by decide) (by decide)
  have e7 := e 7 (by decide) (by decide) (by decide) (by decide)
  have e8 := e 8 (by decide) (by decide) (by decide) (by decide)
  have e9 := e 9 (by decide) (by decide) (by decide) (by decide)
  have e10 := e 10 (by decide) (by decide) (by decide) (by decide)
  have e11 := e 11 (by decide) (by decide) (by decide) (by decide)
  have e12 := e 12 (by decide) (by decide) (by decide) (by decide)
  have e13 := e 13 (by decide) (by decide) (by decide) (by decide)
  have e23 := e 23 (by decide) (by decide) (by decide) (by decide)
  have e24 := e 24 (by decide) (by decide) (by decide) (by decide)
  have e25 := e 25 (by decide) (by decide) (by decide) (by decide)
  have e26 := e 26 (by decide) (by decide) (by decide) (by decide)
  have e27 := e 27 (by decide) (by decide) (by decide) (by decide)
  have e28 := e 28 (by decide) (by decide) (by decide) (by decide)
  have e29 := e 29 (by decide) (by decide) (by decide) (by decide)
  have er : Jvm.Pilot.@@N@@.rems (T) (nS (T)) = Jvm.Pilot.@@N@@.rems S (nS S) := by
    unfold Jvm.Pilot.@@N@@.rems nS
    rw [e28]
    exact sm_congr _ (fun k _ => by unfold Jvm.Pilot.@@N@@.rem; rw [e6, e9, e10])
  have c0 := h.cc
  refine ⟨(hRt.sset (lg2_in hRt 20)).u0 (by have := hRt 29 (by decide) 0; omega), h.cc, ?_, ?_, ?_, ?_, ?_, fun o a b => ?_, fun k k0 => ?_, ?_, ?_, ?_⟩
  · show (0 ≤ T 26 0 ∧ T 26 0 ≤ 4) ∧ (0 ≤ T 27 0 ∧ T 27 0 ≤ 8) ∧ (0 ≤ T 28 0 ∧ T 28 0 ≤ 60) ∧ (0 ≤ min (T 29 0 + 1) 8 ∧ min (T 29 0 + 1) 8 ≤ 8) ∧ (0 ≤ T 25 0 ∧ T 25 0 ≤ 3600) ∧ (T 26 0 = 0 → T 27 0 = 0 ∧ T 28 0 = 0)
    rw [e25, e26, e27, e28, e29]
    exact ⟨i1.1, i1.2.1, i1.2.2.1, by omega, i1.2.2.2.2, h.i1z⟩
  · show inv2 (T)
    have q := h.i2; unfold inv2 at q ⊢; rw [e0, e26]; exact q
  · show inv3 (T)
    have q := h.i3; unfold inv3 at q ⊢; rw [e1, e26]; exact q
  · intro k k0 k1
    show 0 ≤ T 2 k ∧ T 2 k ≤ 99999 * c
    rw [ek k k0 k1]
    split
    · exact (h.yr (k := k / 3) (by omega)).1 (by omega)
    · exact h.i4 (k - 1) (by omega) (by omega)
  · show inv5 (T)
    have q := h.i5; unfold inv5 LI at q ⊢; rw [e4, e5, e6, e7, e8, e9, e10, e11, e12, e13, e25, e26, e27, e28]; exact q
  · show (0 ≤ cr (T) o ∧ cr (T) o ≤ 10199898) ∧ cr (T) o + Jvm.Pilot.@@N@@.rems (T) (nS (T)) ≤ 99999 * (T 25 0 / 90 + T 28 0)
    have ec : cr (T) o = 0 := by unfold cr; rw [e25, if_pos hs]
    rw [ec, er, e25, e28]; omega
  · show (k < 32 → 0 ≤ T 20 k ∧ T 20 k ≤ 99999 * c) ∧ (k < 96 → 0 ≤ T 21 k ∧ T 21 k ≤ 99999 * c) ∧ (k < 48 → 0 ≤ T 22 k ∧ T 22 k ≤ 99999 * c)
    refine ⟨fun k1 => ?_, fun k1 => ?_, fun k1 => ?_⟩
    · rw [yc 20 (by omega) 32 (by omega) (by omega) (by omega) k k0 k1]; omega
    · rw [yc 21 (by omega) 96 (by omega) (by omega) (by omega) k k0 k1]; omega
    · rw [yc 22 (by omega) 48 (by omega) (by omega) (by omega) k k0 k1]; omega
  · show inv9 c (T)
    have q := h.i9; unfold inv9 at q ⊢; rw [er, e24, e28]; exact q
  · show inv10 (T)
    have q := h.i10; unfold inv10 nS at q ⊢; rw [e6, e28]; exact q
  · show inv11 c (T)
    have q := h.i11; unfold inv11 at q ⊢; rw [e23]; exact q
theorem Inv.toQ2 {c : Int} {S : St} (h : Inv c S) (hs : S 25 0 % 360 = 0) : InvQ c (logS (turnS S)) := by
  have yc : ∀ f : Nat, (f = 20 ∨ f = 21 ∨ f = 22) → ∀ n : Nat, (f = 20 → n = 32) → (f = 21 → n = 96) → (f = 22 → n = 48) → ∀ k : Int, 0 ≤ k → k < n → turnS S f k = 0 := by
    intro f hf n h20 h21 h22 k k0 k1
    unfold turnS yclS
    rw [clS_at, clS_at, clS_at]
    by_cases a : f = 22
    · rw [if_pos (by have := h22 a; omega)]
    · rw [if_neg (by omega)]
      by_cases b : f = 21
      · rw [if_pos (by have := h21 b; omega)]
      · rw [if_neg (by omega), if_pos (by have := h20 (by omega); omega)]
  exact h.toQ2' hs ((((h.R.ty 32).cl (by decide)).cl (by decide)).cl (by decide)) (fun f h1 h2 h3 h4 => turn_ne S h1 h2 h3 h4) (fun k k0 k1 => by
      unfold turnS yclS
      rw [clS_at, if_neg (by omega), clS_at, if_neg (by omega), clS_at, if_neg (by omega), ty_eq]
      show (if 0 ≤ k ∧ k < 3 * ((32 : Nat) : Int) then (if k % 3 = 0 then S 20 (k / 3) else S 2 (k - 1)) else S 2 k) = _
      rw [if_pos (by omega)]) yc
theorem lap_left {c : Int} {S : St} (h : Inv c S) (o : Int) (ho : 0 ≤ o ∧ o < S 26 0) : dyA S 14 (o * 8 + 3) + lefts (dyA S) o (nIm (dyA S)) + rems (dyA S) (nS (dyA S)) ≤ 99999 * (S 25 0 / 90 + 1 + S 28 0) := by
  have hL := h.lap (nS S) (Nat.le_refl _)
  have e25 : lapA S (nS S) 25 = S 25 := lap_ne S (by decide) (by decide) (by decide) (by decide) _
  have e26 : lapA S (nS S) 26 = S 26 := lap_ne S (by decide) (by decide) (by decide) (by decide) _
  have e28 : lapA S (nS S) 28 = S 28 := lap_ne S (by decide) (by decide) (by decide) (by decide) _
  have q := (hL.fg (o := o) (by rw [e26]; exact ho)).2.2.2.2.2.2.2.1
  rw [e25, e28] at q
  exact q
theorem Inv.dayQ {c : Int} {S : St} (h : Inv c S) (hd : S 25 0 < 3600) (hp : (S 25 0 + 1) % 90 = 0) : InvQ c (logS (dyB S)) := by
  have hA := h.dyA hd
  have i1 := h.i1
  have a25 : Jvm.Pilot.@@N@@.dyA S 25 0 = S 25 0 + 1 := rfl
  have e26 : Jvm.Pilot.@@N@@.dyA S 26 = S 26 := lap_ne S (by decide) (by decide) (by decide) (by decide) _
  have e28 : Jvm.Pilot.@@N@@.dyA S 28 = S 28 := lap_ne S (by decide) (by decide) (by decide) (by decide) _
  unfold dyB
  split
  · exact hA.toQ2 (by rw [a25]; assumption)
  · refine hA.toQ (by rw [a25]; exact hp) (fun o a b => ?_)
    rw [e26] at b
    have q := lap_left h o ⟨a, b⟩
    rw [a25, e28]
    omega
theorem Inv.day {c : Int} {S : St} (h : Inv c S) (hd : S 25 0 < 3600) (hk : 0 < S 26 0) : Inv c (dayS S) := by
  have e26 : Jvm.Pilot.@@N@@.dyA S 26 = S 26 := lap_ne S (by decide) (by decide) (by decide) (by decide) _
  have eB : dyB S 26 = Jvm.Pilot.@@N@@.dyA S 26 := dyB_ne S (by decide) (by decide) (by decide) (by decide)
  unfold dayS
  split
  · rename_i hp
    refine (h.dayQ hd hp).prd ?_
    show 0 < dyB S 26 0
    rw [eB, e26]; exact hk
  · rename_i hp
    rw [dyB, if_neg (by omega)]
    exact h.dyA hd
theorem nOr_dy (S : St) : nOr (logS (dyB S)) = nOr S := by
  show (dyB S 26 0).toNat = (S 26 0).toNat
  rw [dyB_ne S (by decide) (by decide) (by decide) (by decide)]
  show (lapA S (nS S) 26 0).toNat = _
  rw [lap_ne S (by decide) (by decide) (by decide) (by decide)]


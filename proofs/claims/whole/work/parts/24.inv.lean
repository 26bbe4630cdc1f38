/-! what always holds of a state after c calls -/
theorem sm_rg {f : Int → Int} {B : Int} : ∀ n : Nat, (∀ k : Nat, k < n → 0 ≤ f k ∧ f k ≤ B) → 0 ≤ sm f n ∧ sm f n ≤ n * B :=
  fun n h => ⟨sm_nonneg n (fun k hk => (h k hk).1), sm_c n (fun k hk => (h k hk).2)⟩
theorem sm_one {f : Int → Int} : ∀ n : Nat, (∀ k : Nat, k < n → 0 ≤ f k) → ∀ j : Nat, j < n → f j ≤ sm f n
  | 0, _, j, hj => by omega
  | n + 1, h, j, hj => by
    have h1 := sm_nonneg n (fun k hk => h k (by omega)); have h2 := h n (by omega)
    rw [sm]
    by_cases e : j = n
    · subst e; omega
    · have := sm_one n (fun k hk => h k (by omega)) j (by omega); omega
def nIm (S : St) : Nat := (S 27 0).toNat
def nOr (S : St) : Nat := (S 26 0).toNat
def lefts (S : St) (o : Int) (n : Nat) : Int := sm (fun i => S 17 (4 * i + o)) n
def rems (S : St) (n : Nat) : Int := sm (rem S) n
def inv1 (S : St) : Prop := (0 ≤ S 26 0 ∧ S 26 0 ≤ 4) ∧ (0 ≤ S 27 0 ∧ S 27 0 ≤ 8) ∧ (0 ≤ S 28 0 ∧ S 28 0 ≤ 60) ∧ (0 ≤ S 29 0 ∧ S 29 0 ≤ 8) ∧ (0 ≤ S 25 0 ∧ S 25 0 ≤ 3600) ∧ (S 26 0 = 0 → S 27 0 = 0 ∧ S 28 0 = 0)
def inv2 (S : St) : Prop := 0 < S 26 0 → (0 ≤ S 0 0 ∧ S 0 0 ≤ 100) ∧ (1 ≤ S 0 1 ∧ S 0 1 ≤ 99999) ∧ (1 ≤ S 0 2 ∧ S 0 2 ≤ 90) ∧ (0 ≤ S 0 3 ∧ S 0 3 ≤ 100) ∧ (0 ≤ S 0 4 ∧ S 0 4 ≤ 2000) ∧ (1 ≤ S 0 5 ∧ S 0 5 ≤ 3)
def inv3 (S : St) : Prop := ∀ o : Int, 0 ≤ o → o < S 26 0 → 0 ≤ S 1 o ∧ S 1 o ≤ 99999
def inv4 (c : Int) (S : St) : Prop := ∀ k : Int, 0 ≤ k → k < 96 → 0 ≤ S 2 k ∧ S 2 k ≤ 99999 * c
def LI (S : St) (l : Int) : Prop := (0 ≤ S 4 l ∧ S 4 l < S 27 0) ∧ (0 ≤ S 5 l ∧ S 5 l < S 26 0) ∧ (0 ≤ S 9 l ∧ S 9 l ≤ S 6 l) ∧ (0 ≤ S 13 l ∧ S 13 l ≤ 89 * S 9 l) ∧ (0 ≤ S 7 l ∧ S 7 l ≤ S 25 0) ∧ (S 7 l ≤ S 8 l ∧ S 8 l ≤ S 7 l + 89) ∧ (0 ≤ S 10 l ∧ S 10 l ≤ 3) ∧ (S 10 l = 0 → S 25 0 ≤ S 8 l) ∧ (¬ S 10 l = 0 → 0 ≤ S 11 l ∧ S 11 l ≤ S 25 0) ∧ (-1 ≤ S 12 l ∧ S 12 l < l)
def inv5 (S : St) : Prop := ∀ l : Int, 0 ≤ l → l < S 28 0 → LI S l
def FI (c : Int) (S : St) (o : Int) : Prop := (0 ≤ S 14 (o * 8 + 1) ∧ S 14 (o * 8 + 1) ≤ 99999) ∧ (0 ≤ S 14 (o * 8 + 2) ∧ S 14 (o * 8 + 2) ≤ 10199898) ∧ 0 ≤ S 14 (o * 8 + 3) ∧ (0 ≤ S 14 (o * 8 + 4) ∧ S 14 (o * 8 + 4) ≤ 99999 * S 28 0) ∧ (0 ≤ S 14 (o * 8 + 5) ∧ S 14 (o * 8 + 5) ≤ 99999 * c) ∧ (0 ≤ S 14 (o * 8 + 6) ∧ S 14 (o * 8 + 6) ≤ 99999 * c) ∧ 0 ≤ S 14 (o * 8 + 7) ∧ S 14 (o * 8 + 3) + lefts S o (nIm S) + rems S (nS S) ≤ 99999 * (S 25 0 / 90 + 1 + S 28 0) ∧ S 14 (o * 8 + 7) + rems S (nS S) ≤ 99999 * S 28 0
def inv6 (c : Int) (S : St) : Prop := ∀ o : Int, 0 ≤ o → o < S 26 0 → FI c S o
def PI (S : St) (p : Int) : Prop := (S 15 p = 0 ∨ S 15 p = 1) ∧ (0 ≤ S 16 p ∧ S 16 p ≤ 99999) ∧ 0 ≤ S 17 p ∧ (0 ≤ S 18 p ∧ S 18 p ≤ 99999 * S 28 0) ∧ (S 15 p = 1 → 0 < old S p)
def inv7 (S : St) : Prop := ∀ i o : Int, 0 ≤ i → i < S 27 0 → 0 ≤ o → o < S 26 0 → PI S (4 * i + o)
def inv8 (c : Int) (S : St) : Prop := ∀ k : Int, 0 ≤ k → (k < 32 → 0 ≤ S 20 k ∧ S 20 k ≤ 99999 * c) ∧ (k < 96 → 0 ≤ S 21 k ∧ S 21 k ≤ 99999 * c) ∧ (k < 48 → 0 ≤ S 22 k ∧ S 22 k ≤ 99999 * c)
def inv9 (c : Int) (S : St) : Prop := (0 ≤ S 24 0 ∧ S 24 0 ≤ 99999 * S 28 0) ∧ (0 ≤ S 24 1 ∧ S 24 1 ≤ 99999 * c) ∧ 0 ≤ S 24 2 ∧ 0 ≤ S 24 3 ∧ (0 ≤ S 24 4 ∧ S 24 4 ≤ 99999 * c) ∧ S 24 2 + S 24 3 + rems S (nS S) ≤ 99999 * S 28 0
def inv10 (S : St) : Prop := sm (S 6) (nS S) ≤ 99999 * S 28 0
def OW (c x : Int) : Prop := 0 ≤ x ∧ x < (1060 + c) * 4503599627370496 ∧ (x = 0 ∨ 1000 * 4503599627370496 ≤ x)
def inv11 (c : Int) (S : St) : Prop := ∀ i : Int, 0 ≤ i → i < 8 → OW c (S 23 i)
def Inv (c : Int) (S : St) : Prop := Rg S ∧ (0 ≤ c ∧ c ≤ 512) ∧ inv1 S ∧ inv2 S ∧ inv3 S ∧ inv4 c S ∧ inv5 S ∧ inv6 c S ∧ inv7 S ∧ inv8 c S ∧ inv9 c S ∧ inv10 S ∧ inv11 c S
section INV
variable {c : Int} {S : St}
theorem Inv.R (h : Inv c S) : Rg S := h.1
theorem Inv.cc (h : Inv c S) : 0 ≤ c ∧ c ≤ 512 := h.2.1
theorem Inv.i1 (h : Inv c S) : (0 ≤ S 26 0 ∧ S 26 0 ≤ 4) ∧ (0 ≤ S 27 0 ∧ S 27 0 ≤ 8) ∧ (0 ≤ S 28 0 ∧ S 28 0 ≤ 60) ∧ (0 ≤ S 29 0 ∧ S 29 0 ≤ 8) ∧ (0 ≤ S 25 0 ∧ S 25 0 ≤ 3600) := ⟨h.2.2.1.1, h.2.2.1.2.1, h.2.2.1.2.2.1, h.2.2.1.2.2.2.1, h.2.2.1.2.2.2.2.1⟩
theorem Inv.i1z (h : Inv c S) : S 26 0 = 0 → S 27 0 = 0 ∧ S 28 0 = 0 := h.2.2.1.2.2.2.2.2
theorem Inv.pos (h : Inv c S) {l : Int} (hl : 0 ≤ l ∧ l < S 28 0) : 0 < S 26 0 := by
  have h1 := h.i1z; have h2 := h.2.2.1.1; omega
theorem Inv.pos7 (h : Inv c S) {l : Int} (hl : 0 ≤ l ∧ l < S 27 0) : 0 < S 26 0 := by
  have h1 := h.i1z; have h2 := h.2.2.1.1; omega
theorem Inv.i2 (h : Inv c S) : inv2 S := h.2.2.2.1
theorem Inv.i3 (h : Inv c S) : inv3 S := h.2.2.2.2.1
theorem Inv.i4 (h : Inv c S) : inv4 c S := h.2.2.2.2.2.1
theorem Inv.i5 (h : Inv c S) : inv5 S := h.2.2.2.2.2.2.1
theorem Inv.i6 (h : Inv c S) : inv6 c S := h.2.2.2.2.2.2.2.1
theorem Inv.i7 (h : Inv c S) : inv7 S := h.2.2.2.2.2.2.2.2.1
theorem Inv.i8 (h : Inv c S) : inv8 c S := h.2.2.2.2.2.2.2.2.2.1
theorem Inv.i9 (h : Inv c S) : inv9 c S := h.2.2.2.2.2.2.2.2.2.2.1
theorem Inv.i10 (h : Inv c S) : inv10 S := h.2.2.2.2.2.2.2.2.2.2.2.1
theorem Inv.i11 (h : Inv c S) : inv11 c S := h.2.2.2.2.2.2.2.2.2.2.2.2
theorem Inv.tm (h : Inv c S) (hk : 0 < S 26 0) : (0 ≤ S 0 0 ∧ S 0 0 ≤ 100) ∧ (1 ≤ S 0 1 ∧ S 0 1 ≤ 99999) ∧ (1 ≤ S 0 2 ∧ S 0 2 ≤ 90) ∧ (0 ≤ S 0 3 ∧ S 0 3 ≤ 100) ∧ (0 ≤ S 0 4 ∧ S 0 4 ≤ 2000) ∧ (1 ≤ S 0 5 ∧ S 0 5 ≤ 3) := h.i2 hk
theorem Inv.qu (h : Inv c S) {o : Int} (ho : 0 ≤ o ∧ o < S 26 0) : 0 ≤ S 1 o ∧ S 1 o ≤ 99999 := h.i3 o ho.1 ho.2
theorem Inv.ps (h : Inv c S) {k : Int} (hk : 0 ≤ k ∧ k < 96) : 0 ≤ S 2 k ∧ S 2 k ≤ 51199488 := by
  have h1 := h.i4 k hk.1 hk.2; have h2 := h.cc; omega
theorem Inv.old (h : Inv c S) {p : Int} (hk : 0 ≤ p ∧ p < 32) : 0 ≤ old S p ∧ old S p ≤ 153598464 := by
  have h0 := h.ps (k := p * 3 + 0) (by omega); have h1 := h.ps (k := p * 3 + 1) (by omega); have h2 := h.ps (k := p * 3 + 2) (by omega)
  unfold Jvm.Pilot.@@N@@.old; omega
theorem Inv.li (h : Inv c S) {l : Int} (hl : 0 ≤ l ∧ l < S 28 0) : (0 ≤ S 4 l ∧ S 4 l < S 27 0) ∧ (0 ≤ S 5 l ∧ S 5 l < S 26 0) ∧ (0 ≤ S 9 l ∧ S 9 l ≤ S 6 l) ∧ (0 ≤ S 13 l ∧ S 13 l ≤ 89 * S 9 l) ∧ (0 ≤ S 7 l ∧ S 7 l ≤ S 25 0) ∧ (S 7 l ≤ S 8 l ∧ S 8 l ≤ S 7 l + 89) ∧ (0 ≤ S 10 l ∧ S 10 l ≤ 3) ∧ (-1 ≤ S 12 l ∧ S 12 l < l) := by
  have q := h.i5 l hl.1 hl.2
  exact ⟨q.1, q.2.1, q.2.2.1, q.2.2.2.1, q.2.2.2.2.1, q.2.2.2.2.2.1, q.2.2.2.2.2.2.1, q.2.2.2.2.2.2.2.2.2⟩
theorem Inv.lio (h : Inv c S) {l : Int} (hl : 0 ≤ l ∧ l < S 28 0) (e : S 10 l = 0) : S 25 0 ≤ S 8 l := (h.i5 l hl.1 hl.2).2.2.2.2.2.2.2.1 e
theorem Inv.lie (h : Inv c S) {l : Int} (hl : 0 ≤ l ∧ l < S 28 0) (e : ¬ S 10 l = 0) : 0 ≤ S 11 l ∧ S 11 l ≤ S 25 0 := (h.i5 l hl.1 hl.2).2.2.2.2.2.2.2.2.1 e
theorem Inv.am (h : Inv c S) {l : Int} (hl : 0 ≤ l ∧ l < S 28 0) : S 6 l ≤ 99999 * S 28 0 := by
  have h1 := sm_one (f := S 6) (nS S) (fun k hk => by have h2 := (h.li (l := k) (by unfold nS at hk; omega)).2.2.1; omega) l.toNat (by unfold nS; omega)
  have h2 : sm (S 6) (nS S) ≤ 99999 * S 28 0 := h.i10
  rw [show ((l.toNat : Nat) : Int) = l by omega] at h1
  omega
theorem Inv.rem (h : Inv c S) {l : Int} (hl : 0 ≤ l ∧ l < S 28 0) : 0 ≤ rem S l ∧ rem S l ≤ S 6 l := by
  have h1 := (h.li hl).2.2.1
  unfold Jvm.Pilot.@@N@@.rem; split <;> omega
theorem Inv.rems (h : Inv c S) : 0 ≤ rems S (nS S) ∧ rems S (nS S) ≤ 99999 * S 28 0 := by
  have h0 : 0 ≤ Jvm.Pilot.@@N@@.rems S (nS S) := sm_nonneg _ (fun k hk => (h.rem (l := k) (by unfold nS at hk; omega)).1)
  have h1 := h.i9.2.2.2.2.2
  have h2 := h.i9.2.2.1; have h3 := h.i9.2.2.2.1
  exact ⟨h0, by omega⟩
theorem Inv.rem1 (h : Inv c S) {l : Int} (hl : 0 ≤ l ∧ l < S 28 0) : Jvm.Pilot.@@N@@.rem S l ≤ Jvm.Pilot.@@N@@.rems S (nS S) := by
  have h1 := sm_one (f := Jvm.Pilot.@@N@@.rem S) (nS S) (fun k hk => (h.rem (l := k) (by unfold nS at hk; omega)).1) l.toNat (by unfold nS; omega)
  rwa [show ((l.toNat : Nat) : Int) = l by omega] at h1
theorem Inv.pr (h : Inv c S) {i o : Int} (hi : 0 ≤ i ∧ i < S 27 0) (ho : 0 ≤ o ∧ o < S 26 0) : (0 ≤ S 15 (4 * i + o) ∧ S 15 (4 * i + o) ≤ 1) ∧ (0 ≤ S 16 (4 * i + o) ∧ S 16 (4 * i + o) ≤ 99999) ∧ 0 ≤ S 17 (4 * i + o) ∧ (0 ≤ S 18 (4 * i + o) ∧ S 18 (4 * i + o) ≤ 99999 * S 28 0) := by
  have q := h.i7 i o hi.1 hi.2 ho.1 ho.2
  exact ⟨by have := q.1; omega, q.2.1, q.2.2.1, q.2.2.2.1⟩
theorem Inv.pro (h : Inv c S) {i o : Int} (hi : 0 ≤ i ∧ i < S 27 0) (ho : 0 ≤ o ∧ o < S 26 0) (e : S 15 (4 * i + o) = 1) : 0 < Jvm.Pilot.@@N@@.old S (4 * i + o) := (h.i7 i o hi.1 hi.2 ho.1 ho.2).2.2.2.2 e
theorem Inv.lfs (h : Inv c S) {o : Int} (ho : 0 ≤ o ∧ o < S 26 0) (n : Nat) (hn : n ≤ nIm S) : 0 ≤ lefts S o n ∧ lefts S o n ≤ lefts S o (nIm S) := by
  have hp : ∀ k : Nat, k < nIm S → 0 ≤ S 17 (4 * (k : Int) + o) := fun k hk => (h.pr (i := k) (o := o) (by unfold nIm at hk; omega) ho).2.2.1
  exact ⟨sm_nonneg n (fun k hk => hp k (by omega)), sm_mono (nIm S) hn hp⟩
theorem Inv.fg (h : Inv c S) {o : Int} (ho : 0 ≤ o ∧ o < S 26 0) : (0 ≤ S 14 (o * 8 + 1) ∧ S 14 (o * 8 + 1) ≤ 99999) ∧ (0 ≤ S 14 (o * 8 + 2) ∧ S 14 (o * 8 + 2) ≤ 10199898) ∧ 0 ≤ S 14 (o * 8 + 3) ∧ (0 ≤ S 14 (o * 8 + 4) ∧ S 14 (o * 8 + 4) ≤ 99999 * S 28 0) ∧ (0 ≤ S 14 (o * 8 + 5) ∧ S 14 (o * 8 + 5) ≤ 99999 * c) ∧ (0 ≤ S 14 (o * 8 + 6) ∧ S 14 (o * 8 + 6) ≤ 99999 * c) ∧ 0 ≤ S 14 (o * 8 + 7) ∧ S 14 (o * 8 + 3) + lefts S o (nIm S) + Jvm.Pilot.@@N@@.rems S (nS S) ≤ 99999 * (S 25 0 / 90 + 1 + S 28 0) ∧ S 14 (o * 8 + 7) + Jvm.Pilot.@@N@@.rems S (nS S) ≤ 99999 * S 28 0 := h.i6 o ho.1 ho.2
theorem Inv.yr (h : Inv c S) {k : Int} (hk : 0 ≤ k) : (k < 32 → 0 ≤ S 20 k ∧ S 20 k ≤ 99999 * c) ∧ (k < 96 → 0 ≤ S 21 k ∧ S 21 k ≤ 99999 * c) ∧ (k < 48 → 0 ≤ S 22 k ∧ S 22 k ≤ 99999 * c) := h.i8 k hk
theorem Inv.imI (h : Inv c S) {i : Int} (hi : 0 ≤ i ∧ i < 8) (n : Nat) (hn : n ≤ 12) : 0 ≤ imI S i n ∧ imI S i n ≤ 614393856 := by
  have h1 := sm_rg (f := fun m => S 21 (i * 12 + m)) (B := 51199488) n (fun k hk => by
    have h2 := (h.yr (k := i * 12 + k) (by omega)).2.1 (by omega)
    have h3 := h.cc
    exact ⟨h2.1, by omega⟩)
  unfold Jvm.Pilot.@@N@@.imI; omega
theorem Inv.imO (h : Inv c S) {o a : Int} (hi : 0 ≤ o ∧ o < 4) (n : Nat) (ha : 0 ≤ a ∧ a + n ≤ 12) : 0 ≤ imO S o a n ∧ imO S o a n ≤ 614393856 := by
  have h1 := sm_rg (f := fun m => S 22 (o * 12 + (a + m))) (B := 51199488) n (fun k hk => by
    have h2 := (h.yr (k := o * 12 + (a + k)) (by omega)).2.2 (by omega)
    have h3 := h.cc
    exact ⟨h2.1, by omega⟩)
  unfold Jvm.Pilot.@@N@@.imO; omega
theorem Inv.mono (h : Inv c S) {c' : Int} (hc : c ≤ c' ∧ c' ≤ 512) : Inv c' S := by
  obtain ⟨h1, h2, h3, h4, h5, h6, h7, h8, h9, h10, h11, h12, h13⟩ := h
  refine ⟨h1, ⟨by omega, hc.2⟩, h3, h4, h5, fun k a b => ?_, h7, fun o a b => ?_, h9, fun k a => ?_, ?_, h12, fun i a b => ?_⟩
  · have := h6 k a b; omega
  · have := h8 o a b
    unfold FI at this ⊢
    refine ⟨this.1, this.2.1, this.2.2.1, this.2.2.2.1, ?_, ?_, this.2.2.2.2.2.2⟩ <;> omega
  · have := h10 k a
    refine ⟨fun b => ?_, fun b => ?_, fun b => ?_⟩
    · have := this.1 b; omega
    · have := this.2.1 b; omega
    · have := this.2.2 b; omega
  · unfold inv9 at h11 ⊢; omega
  · have := h13 i a b; unfold OW at this ⊢; omega
end INV


/-! the reference: a period begun for one origin more -/
theorem Ag.cg {A B : St} {r : Int → Int} (hA : Ag A r) (h10 : A 10 = B 10) (h26 : A 26 0 = B 26 0) (h27 : A 27 0 = B 27 0) (h28 : A 28 0 = B 28 0) (h29 : A 29 0 = B 29 0) (h : ∀ (f : Nat) (i : Int), us B f i → A f i = B f i) : Ag B r := by
  intro f i hu
  rw [← h f i hu]
  refine hA f i ?_
  rw [us_cg h10 h26 h27 h28 h29]; exact hu
def tpX (A : St) (k : Nat) : St := u1 (u1 (u1 (tp2 (prdF A k) k (A 1 k) (nIm A)) 14 ((k : Int) * 8 + 1) (A 1 k)) 14 ((k : Int) * 8 + 2) (cr A k)) 14 ((k : Int) * 8 + 3) (A 1 k + cr A k - prt A k (A 1 k) (nIm A))
theorem tpX_ne (A : St) (k : Nat) {f : Nat} (h : f ≠ 14) (i : Int) : tp3 (tpX A k) k 4 f i = tp2 (prdF A k) k (A 1 k) (nIm A) f i := by
  unfold tp3; rw [if_neg (fun z => h z.1)]; unfold tpX
  rw [u1_at, if_neg (fun z => h z.1), u1_at, if_neg (fun z => h z.1), u1_at, if_neg (fun z => h z.1)]
theorem tp2_ne (P : St) (o q : Int) (n : Nat) {f : Nat} (h15 : f ≠ 15) (h16 : f ≠ 16) (h17 : f ≠ 17) (h18 : f ≠ 18) (i : Int) : tp2 P o q n f i = P f i := by
  unfold tp2; rw [if_neg (fun z => z.1.elim h16 h17), if_neg (fun z => h18 z.1)]; unfold tp1; rw [if_neg (fun z => h15 z.1)]
theorem per_14 (A : St) (k : Nat) {i : Int} (h0 : 0 ≤ i) (h8 : ¬ i % 8 = 0) : tp3 (tpX A k) k 4 14 i = prdF A (k + 1) 14 i := by
  show _ = (if 0 ≤ i ∧ i < 8 * ((k + 1 : Nat) : Int) then figF A (i / 8) (i % 8) else A 14 i)
  have e0 : tp2 (prdF A k) k (A 1 k) (nIm A) 14 i = if 0 ≤ i ∧ i < 8 * (k : Int) then figF A (i / 8) (i % 8) else A 14 i := by
    rw [tp2_ne _ _ _ _ (by decide) (by decide) (by decide) (by decide)]; rfl
  by_cases a : i / 8 = (k : Int)
  · rw [if_pos (by omega), a]
    unfold tp3
    by_cases h4 : (k : Int) * 8 + 4 ≤ i
    · rw [if_pos ⟨rfl, by omega⟩]; unfold figF; rw [if_neg (by omega), if_neg (by omega), if_neg (by omega)]
    rw [if_neg (fun z => h4 z.2.1)]; unfold tpX figF
    by_cases h3 : i = (k : Int) * 8 + 3
    · rw [u1_at, if_pos ⟨rfl, h3⟩, if_neg (by omega), if_neg (by omega), if_pos (by omega)]; omega
    rw [u1_at, if_neg (fun z => h3 z.2)]
    by_cases h2 : i = (k : Int) * 8 + 2
    · rw [u1_at, if_pos ⟨rfl, h2⟩, if_neg (by omega), if_pos (by omega)]
    rw [u1_at, if_neg (fun z => h2 z.2), u1_at, if_pos ⟨rfl, by omega⟩, if_pos (by omega)]
  · have e : tp3 (tpX A k) k 4 14 i = tp2 (prdF A k) k (A 1 k) (nIm A) 14 i := by
      unfold tp3; rw [if_neg (by omega)]; unfold tpX
      rw [u1_at, if_neg (by omega), u1_at, if_neg (by omega), u1_at, if_neg (by omega)]
    rw [e, e0]
    by_cases h : 0 ≤ i ∧ i < 8 * (k : Int)
    · rw [if_pos h, if_pos (by omega)]
    · rw [if_neg h, if_neg (by omega)]
theorem per_15 (A : St) (k : Nat) (hk : k < 4) (i : Int) : tp3 (tpX A k) k 4 15 i = prdF A (k + 1) 15 i := by
  rw [tpX_ne A k (by decide)]
  show tp2 (prdF A k) k (A 1 k) (nIm A) 15 i = (if incn (k + 1) (nIm A) i then srt A i else A 15 i)
  unfold tp2; rw [if_neg (fun z => absurd z.1 (by decide)), if_neg (fun z => absurd z.1 (by decide))]; unfold tp1
  by_cases h : inc (nIm A) k i
  · rw [if_pos ⟨rfl, h⟩, if_pos (by omega)]; rfl
  · rw [if_neg (fun z => h z.2)]
    show (if incn k (nIm A) i then srt A i else A 15 i) = _
    by_cases h2 : incn k (nIm A) i
    · rw [if_pos h2, if_pos (by omega)]
    · rw [if_neg h2, if_neg (by omega)]
theorem per_18 (A : St) (k : Nat) (hk : k < 4) (i : Int) : tp3 (tpX A k) k 4 18 i = prdF A (k + 1) 18 i := by
  rw [tpX_ne A k (by decide)]
  show tp2 (prdF A k) k (A 1 k) (nIm A) 18 i = (if incn (k + 1) (nIm A) i then 0 else A 18 i)
  unfold tp2; rw [if_neg (fun z => absurd z.1 (by decide))]
  by_cases h : inc (nIm A) k i
  · rw [if_pos ⟨rfl, h⟩, if_pos (by omega)]
  · rw [if_neg (fun z => h z.2)]; unfold tp1; rw [if_neg (fun z => absurd z.1 (by decide))]
    show (if incn k (nIm A) i then 0 else A 18 i) = _
    by_cases h2 : incn k (nIm A) i
    · rw [if_pos h2, if_pos (by omega)]
    · rw [if_neg h2, if_neg (by omega)]

theorem per_16 (A : St) (k : Nat) (hk : k < 4) (i : Int) : tp3 (tpX A k) k 4 16 i = prdF A (k + 1) 16 i := by
  rw [tpX_ne A k (by decide)]
  show tp2 (prdF A k) k (A 1 k) (nIm A) 16 i = (if incn (k + 1) (nIm A) i then shp A (i % 4) (A 1 (i % 4)) i else A 16 i)
  unfold tp2
  by_cases h : inc (nIm A) k i
  · rw [if_pos ⟨by decide, h⟩, if_pos (by omega), show i % 4 = (k : Int) by omega]; rfl
  · rw [if_neg (fun z => h z.2), if_neg (fun z => h z.2)]; unfold tp1; rw [if_neg (fun z => absurd z.1 (by decide))]
    show (if incn k (nIm A) i then shp A (i % 4) (A 1 (i % 4)) i else A 16 i) = _
    by_cases h2 : incn k (nIm A) i
    · rw [if_pos h2, if_pos (by omega)]
    · rw [if_neg h2, if_neg (by omega)]
theorem per_17 (A : St) (k : Nat) (hk : k < 4) (i : Int) : tp3 (tpX A k) k 4 17 i = prdF A (k + 1) 17 i := by
  rw [tpX_ne A k (by decide)]
  show tp2 (prdF A k) k (A 1 k) (nIm A) 17 i = (if incn (k + 1) (nIm A) i then shp A (i % 4) (A 1 (i % 4)) i else A 17 i)
  unfold tp2
  by_cases h : inc (nIm A) k i
  · rw [if_pos ⟨by decide, h⟩, if_pos (by omega), show i % 4 = (k : Int) by omega]; rfl
  · rw [if_neg (fun z => h z.2), if_neg (fun z => h z.2)]; unfold tp1; rw [if_neg (fun z => absurd z.1 (by decide))]
    show (if incn k (nIm A) i then shp A (i % 4) (A 1 (i % 4)) i else A 17 i) = _
    by_cases h2 : incn k (nIm A) i
    · rw [if_pos h2, if_pos (by omega)]
    · rw [if_neg h2, if_neg (by omega)]
theorem prd_ne2 (A : St) (n : Nat) {f : Nat} (h14 : f ≠ 14) (h15 : f ≠ 15) (h16 : f ≠ 16) (h17 : f ≠ 17) (h18 : f ≠ 18) (i : Int) : prdF A n f i = A f i := by
  unfold prdF; rw [if_neg h14, if_neg h15, if_neg h18, if_neg h16, if_neg h17]
theorem perA1 {A : St} {r : Int → Int} {k : Nat} (hk : k < 4) (hA : Ag (tp3 (tpX A k) k 4) r) : Ag (prdF A (k + 1)) r := by
  refine hA.cg rfl rfl rfl rfl rfl (fun f i hu => ?_)
  by_cases h14 : f = 14
  · subst h14
    have u : 0 ≤ i ∧ _ ∧ ¬ i % 8 = 0 := hu
    exact per_14 A k u.1 u.2.2
  by_cases h15 : f = 15
  · subst h15; exact per_15 A k hk i
  by_cases h16 : f = 16
  · subst h16; exact per_16 A k hk i
  by_cases h17 : f = 17
  · subst h17; exact per_17 A k hk i
  by_cases h18 : f = 18
  · subst h18; exact per_18 A k hk i
  rw [tpX_ne A k h14, tp2_ne _ _ _ _ h15 h16 h17 h18, prd_ne2 A k h14 h15 h16 h17 h18, prd_ne2 A (k + 1) h14 h15 h16 h17 h18]


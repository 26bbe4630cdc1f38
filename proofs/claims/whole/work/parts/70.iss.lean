/-! the reference: acts -/
section AWT
variable {Γ : GT} {M : MD} {R : Room} {Φ : PH} {kn : Nat × Nat} {pc : Nat} {ls : List (Option Value)} {st : List Value} {S T U V V0 A : St} {G : Gw} {nx : Nat} {f : Nat} {i v a x : Int}
theorem aw_rdA (hd : decode M.2.1 pc = .ok (.laload, 1)) (hnx : 52 ≤ nx) (hL : RgL V) (hA : Ag A (V 0)) (hb : bd A) (hu : us A f i) (ha : a = pl f i) (hv : A f i = v) (k : inL v → AW Γ M R Φ kn (pc + 1) ls (vl v :: st) (hp Γ S T U V G) nx) : AW Γ M R Φ kn pc ls (vi a :: rf Γ 44 :: st) (hp Γ S T U V G) nx := by
  subst ha
  refine aw_laldr hd (hc44 hnx) (pl_all hb f i hu).2.1 (by decide) (hL 0) (fun q => ?_)
  rw [hA f i hu, hv] at q ⊢
  exact k q
theorem aw_stA (hd : decode M.2.1 pc = .ok (.lastore, 1)) (hnx : 52 ≤ nx) (hX : VX V0 V) (hL : RgL V) (hA : Ag A (V 0)) (hb : bd A) (hu : us A f i) (hf : sf f) (ha : a = pl f i) (hx : x = v) (hv : inL v) (k : ∀ V2, VX V0 V2 → RgL V2 → Ag (u1 A f i v) (V2 0) → AW Γ M R Φ kn (pc + 1) ls st (hp Γ S T U V2 G) nx) : AW Γ M R Φ kn pc ls (vl x :: vi a :: rf Γ 44 :: st) (hp Γ S T U V G) nx := by
  subst ha; subst hx
  exact aw_lastV hd (hc44 hnx) (pl_all hb f i hu).2.1 (by decide) hL hv (fun _ => hu44) (fun hL2 => k _ (hX.trans (fun g hg => sset_ne _ _ hg)) hL2 (hA.set hb hu hf))
end AWT
section US
variable {A : St} {i o l w m : Int}
theorem un_14 (ho : 0 ≤ o ∧ o < A 26 0) (hw : 1 ≤ w ∧ w ≤ 7) : us A 14 (o * 8 + w) := show 0 ≤ o * 8 + w ∧ o * 8 + w < 8 * A 26 0 ∧ ¬ (o * 8 + w) % 8 = 0 by omega
theorem un_21 (hi : 0 ≤ i ∧ i < A 27 0) (hm : 0 ≤ m ∧ m < 12) : us A 21 (i * 12 + m) := show 0 ≤ i * 12 + m ∧ i * 12 + m < 12 * A 27 0 by omega
theorem un_22 (ho : 0 ≤ o ∧ o < A 26 0) (hm : 0 ≤ m ∧ m < 12) : us A 22 (o * 12 + m) := show 0 ≤ o * 12 + m ∧ o * 12 + m < 12 * A 26 0 by omega
theorem un_23 (hi : 0 ≤ i ∧ i < A 27 0) : us A 23 i := hi
theorem un_24 (hw : 0 ≤ w ∧ w < 5) : us A 24 w := hw
theorem un_0 (hw : 0 ≤ w ∧ w < 6) : us A 0 w := hw
theorem un_1 (ho : 0 ≤ o ∧ o < A 26 0) : us A 1 o := ho
theorem un_25 : us A 25 0 := ⟨by decide, rfl⟩
theorem un_28 : us A 28 0 := ⟨by decide, rfl⟩
theorem un_15 (b : bd A) (hi : 0 ≤ i ∧ i < A 27 0) (ho : 0 ≤ o ∧ o < A 26 0) : us A 15 (4 * i + o) := show 0 ≤ 4 * i + o ∧ (4 * i + o) / 4 < A 27 0 ∧ (4 * i + o) % 4 < A 26 0 by have := b.1; omega
theorem un_16 (b : bd A) (hi : 0 ≤ i ∧ i < A 27 0) (ho : 0 ≤ o ∧ o < A 26 0) : us A 16 (4 * i + o) := show 0 ≤ 4 * i + o ∧ (4 * i + o) / 4 < A 27 0 ∧ (4 * i + o) % 4 < A 26 0 by have := b.1; omega
theorem un_17 (b : bd A) (hi : 0 ≤ i ∧ i < A 27 0) (ho : 0 ≤ o ∧ o < A 26 0) : us A 17 (4 * i + o) := show 0 ≤ 4 * i + o ∧ (4 * i + o) / 4 < A 27 0 ∧ (4 * i + o) % 4 < A 26 0 by have := b.1; omega
theorem un_18 (b : bd A) (hi : 0 ≤ i ∧ i < A 27 0) (ho : 0 ≤ o ∧ o < A 26 0) : us A 18 (4 * i + o) := show 0 ≤ 4 * i + o ∧ (4 * i + o) / 4 < A 27 0 ∧ (4 * i + o) % 4 < A 26 0 by have := b.1; omega
theorem un_20 (b : bd A) (hi : 0 ≤ i ∧ i < A 27 0) (ho : 0 ≤ o ∧ o < A 26 0) : us A 20 (4 * i + o) := show 0 ≤ 4 * i + o ∧ (4 * i + o) / 4 < A 27 0 ∧ (4 * i + o) % 4 < A 26 0 by have := b.1; omega
theorem un_4 (hl : 0 ≤ l ∧ l < A 28 0) : us A 4 l := ⟨hl, fun z => absurd z (by decide)⟩
theorem un_5 (hl : 0 ≤ l ∧ l < A 28 0) : us A 5 l := ⟨hl, fun z => absurd z (by decide)⟩
theorem un_6 (hl : 0 ≤ l ∧ l < A 28 0) : us A 6 l := ⟨hl, fun z => absurd z (by decide)⟩
theorem un_7 (hl : 0 ≤ l ∧ l < A 28 0) : us A 7 l := ⟨hl, fun z => absurd z (by decide)⟩
theorem un_8 (hl : 0 ≤ l ∧ l < A 28 0) : us A 8 l := ⟨hl, fun z => absurd z (by decide)⟩
theorem un_9 (hl : 0 ≤ l ∧ l < A 28 0) : us A 9 l := ⟨hl, fun z => absurd z (by decide)⟩
theorem un_10 (hl : 0 ≤ l ∧ l < A 28 0) : us A 10 l := ⟨hl, fun z => absurd z (by decide)⟩
theorem un_12 (hl : 0 ≤ l ∧ l < A 28 0) : us A 12 l := ⟨hl, fun z => absurd z (by decide)⟩
theorem un_13 (hl : 0 ≤ l ∧ l < A 28 0) : us A 13 l := ⟨hl, fun z => absurd z (by decide)⟩
end US
theorem uz11 {r : Int → Int} {m x0 x1 x2 x3 x4 x5 x6 x7 x8 x9 c p : Int} (h8 : p ≠ 8) (h : ¬ (456 + 10 * m ≤ p ∧ p < 466 + 10 * m)) : uz (uz (uz (uz (uz (uz (uz (uz (uz (uz (uz r (456 + 10 * m + 0) x0) (456 + 10 * m + 1) x1) (456 + 10 * m + 2) x2) (456 + 10 * m + 3) x3) (456 + 10 * m + 4) x4) (456 + 10 * m + 5) x5) (456 + 10 * m + 6) x6) (456 + 10 * m + 7) x7) (456 + 10 * m + 8) x8) (456 + 10 * m + 9) x9) 8 c p = r p := by
  rw [uz_n _ _ h8]
  iterate 10 rw [uz_n _ _ (by omega)]
theorem uz10 {r : Int → Int} {m x0 x1 x2 x3 x4 x5 x6 x7 x8 x9 c : Int} (hm : 0 ≤ m) (w : Int) (hw : 0 ≤ w ∧ w < 10) : uz (uz (uz (uz (uz (uz (uz (uz (uz (uz (uz r (456 + 10 * m + 0) x0) (456 + 10 * m + 1) x1) (456 + 10 * m + 2) x2) (456 + 10 * m + 3) x3) (456 + 10 * m + 4) x4) (456 + 10 * m + 5) x5) (456 + 10 * m + 6) x6) (456 + 10 * m + 7) x7) (456 + 10 * m + 8) x8) (456 + 10 * m + 9) x9) 8 c (456 + 10 * m + w) = if w = 0 then x0 else if w = 1 then x1 else if w = 2 then x2 else if w = 3 then x3 else if w = 4 then x4 else if w = 5 then x5 else if w = 6 then x6 else if w = 7 then x7 else if w = 8 then x8 else x9 := by
  rw [uz_n _ _ (by omega)]
  have e : w = 0 ∨ w = 1 ∨ w = 2 ∨ w = 3 ∨ w = 4 ∨ w = 5 ∨ w = 6 ∨ w = 7 ∨ w = 8 ∨ w = 9 := by omega
  rcases e with e | e | e | e | e | e | e | e | e | e <;> subst e
  · iterate 9 rw [uz_n _ _ (by omega)]
    rw [uz_s]; rfl
  · iterate 8 rw [uz_n _ _ (by omega)]
    rw [uz_s]; rfl
  · iterate 7 rw [uz_n _ _ (by omega)]
    rw [uz_s]; rfl
  · iterate 6 rw [uz_n _ _ (by omega)]
    rw [uz_s]; rfl
  · iterate 5 rw [uz_n _ _ (by omega)]
    rw [uz_s]; rfl
  · iterate 4 rw [uz_n _ _ (by omega)]
    rw [uz_s]; rfl
  · iterate 3 rw [uz_n _ _ (by omega)]
    rw [uz_s]; rfl
  · iterate 2 rw [uz_n _ _ (by omega)]
    rw [uz_s]; rfl
  · iterate 1 rw [uz_n _ _ (by omega)]
    rw [uz_s]; rfl
  · rw [uz_s]; rfl
theorem isr_ne (A : St) (i o n t last g : Int) {f : Nat} (h : ¬ (4 ≤ f ∧ f ≤ 13)) (h2 : f ≠ 28) (j : Int) : issS A i o n t last g f j = A f j := by
  unfold issS
  iterate 10 rw [u1_at, if_neg (fun z => h (by omega))]
  unfold u0; rw [sset_ne _ _ h2]
theorem isr_old (A : St) (i o n t last g : Int) {f : Nat} (h2 : f ≠ 28) {j : Int} (hj : j ≠ A 28 0) : issS A i o n t last g f j = A f j := by
  unfold issS
  iterate 10 rw [u1_at, if_neg (fun z => hj z.2)]
  unfold u0; rw [sset_ne _ _ h2]
theorem isr_28 (A : St) (i o n t last g : Int) : issS A i o n t last g 28 0 = A 28 0 + 1 := by
  unfold issS
  iterate 10 rw [u1_at, if_neg (fun z => absurd z.1 (by decide))]
  unfold u0; rw [sset_eq]; rfl
theorem Ag.iss {A : St} {r : Int → Int} (hA : Ag A r) (b : bd A) (i o n t last g : Int) (hm : A 28 0 < 60) : Ag (issS A i o n t last g) (uz (uz (uz (uz (uz (uz (uz (uz (uz (uz (uz r (456 + 10 * A 28 0 + 0) i) (456 + 10 * A 28 0 + 1) o) (456 + 10 * A 28 0 + 2) n) (456 + 10 * A 28 0 + 3) t) (456 + 10 * A 28 0 + 4) 0) (456 + 10 * A 28 0 + 5) 0) (456 + 10 * A 28 0 + 6) last) (456 + 10 * A 28 0 + 7) 0) (456 + 10 * A 28 0 + 8) g) (456 + 10 * A 28 0 + 9) 0) 8 (A 28 0 + 1)) := by
  have b3 := b.2.2.1
  intro f j hu
  by_cases h28 : f = 28
  · subst h28
    have e : j = 0 := (show 28 ≤ 29 ∧ j = 0 from hu).2
    subst e
    rw [isr_28]; exact uz_s _ _ _
  by_cases hl : 4 ≤ f ∧ f ≤ 13 ∧ j = A 28 0
  · obtain ⟨h4, h13, rfl⟩ := hl
    have cs : f = 4 ∨ f = 5 ∨ f = 6 ∨ f = 7 ∨ f = 8 ∨ f = 9 ∨ f = 10 ∨ f = 11 ∨ f = 12 ∨ f = 13 := by omega
    rcases cs with e | e | e | e | e | e | e | e | e | e <;> subst e
    · have e : issS A i o n t last g 4 (A 28 0) = i := by unfold issS; rw [u1_at, if_neg (fun z => absurd z.1 (by decide)), u1_at, if_neg (fun z => absurd z.1 (by decide)), u1_at, if_neg (fun z => absurd z.1 (by decide)), u1_at, if_neg (fun z => absurd z.1 (by decide)), u1_at, if_neg (fun z => absurd z.1 (by decide)), u1_at, if_neg (fun z => absurd z.1 (by decide)), u1_at, if_neg (fun z => absurd z.1 (by decide)), u1_at, if_neg (fun z => absurd z.1 (by decide)), u1_at, if_neg (fun z => absurd z.1 (by decide)), u1_at, if_pos ⟨rfl, rfl⟩]
      rw [e, show pl 4 (A 28 0) = 456 + 10 * A 28 0 + 0 from rfl, uz10 b3.1 0 (by decide)]; rfl
    · have e : issS A i o n t last g 5 (A 28 0) = o := by unfold issS; rw [u1_at, if_neg (fun z => absurd z.1 (by decide)), u1_at, if_neg (fun z => absurd z.1 (by decide)), u1_at, if_neg (fun z => absurd z.1 (by decide)), u1_at, if_neg (fun z => absurd z.1 (by decide)), u1_at, if_neg (fun z => absurd z.1 (by decide)), u1_at, if_neg (fun z => absurd z.1 (by decide)), u1_at, if_neg (fun z => absurd z.1 (by decide)), u1_at, if_neg (fun z => absurd z.1 (by decide)), u1_at, if_pos ⟨rfl, rfl⟩]
      rw [e, show pl 5 (A 28 0) = 456 + 10 * A 28 0 + 1 from rfl, uz10 b3.1 1 (by decide)]; rfl
    · have e : issS A i o n t last g 6 (A 28 0) = n := by unfold issS; rw [u1_at, if_neg (fun z => absurd z.1 (by decide)), u1_at, if_neg (fun z => absurd z.1 (by decide)), u1_at, if_neg (fun z => absurd z.1 (by decide)), u1_at, if_neg (fun z => absurd z.1 (by decide)), u1_at, if_neg (fun z => absurd z.1 (by decide)), u1_at, if_neg (fun z => absurd z.1 (by decide)), u1_at, if_neg (fun z => absurd z.1 (by decide)), u1_at, if_pos ⟨rfl, rfl⟩]
      rw [e, show pl 6 (A 28 0) = 456 + 10 * A 28 0 + 2 from rfl, uz10 b3.1 2 (by decide)]; rfl
    · have e : issS A i o n t last g 7 (A 28 0) = t := by unfold issS; rw [u1_at, if_neg (fun z => absurd z.1 (by decide)), u1_at, if_neg (fun z => absurd z.1 (by decide)), u1_at, if_neg (fun z => absurd z.1 (by decide)), u1_at, if_neg (fun z => absurd z.1 (by decide)), u1_at, if_neg (fun z => absurd z.1 (by decide)), u1_at, if_neg (fun z => absurd z.1 (by decide)), u1_at, if_pos ⟨rfl, rfl⟩]
      rw [e, show pl 7 (A 28 0) = 456 + 10 * A 28 0 + 3 from rfl, uz10 b3.1 3 (by decide)]; rfl
    · have e : issS A i o n t last g 8 (A 28 0) = last := by unfold issS; rw [u1_at, if_neg (fun z => absurd z.1 (by decide)), u1_at, if_neg (fun z => absurd z.1 (by decide)), u1_at, if_neg (fun z => absurd z.1 (by decide)), u1_at, if_neg (fun z => absurd z.1 (by decide)), u1_at, if_neg (fun z => absurd z.1 (by decide)), u1_at, if_pos ⟨rfl, rfl⟩]
      rw [e, show pl 8 (A 28 0) = 456 + 10 * A 28 0 + 6 from rfl, uz10 b3.1 6 (by decide)]; rfl
    · have e : issS A i o n t last g 9 (A 28 0) = 0 := by unfold issS; rw [u1_at, if_neg (fun z => absurd z.1 (by decide)), u1_at, if_neg (fun z => absurd z.1 (by decide)), u1_at, if_neg (fun z => absurd z.1 (by decide)), u1_at, if_pos ⟨rfl, rfl⟩]
      rw [e, show pl 9 (A 28 0) = 456 + 10 * A 28 0 + 4 from rfl, uz10 b3.1 4 (by decide)]; rfl
    · have e : issS A i o n t last g 10 (A 28 0) = 0 := by unfold issS; rw [u1_at, if_neg (fun z => absurd z.1 (by decide)), u1_at, if_neg (fun z => absurd z.1 (by decide)), u1_at, if_pos ⟨rfl, rfl⟩]
      rw [e, show pl 10 (A 28 0) = 456 + 10 * A 28 0 + 5 from rfl, uz10 b3.1 5 (by decide)]; rfl
    · exfalso
      have w : (0 ≤ A 28 0 ∧ _) ∧ ((11 : Nat) = 11 → ¬ issS A i o n t last g 10 (A 28 0) = 0) := hu
      exact w.2 rfl (by unfold issS; rw [u1_at, if_neg (fun z => absurd z.1 (by decide)), u1_at, if_neg (fun z => absurd z.1 (by decide)), u1_at, if_pos ⟨rfl, rfl⟩])
    · have e : issS A i o n t last g 12 (A 28 0) = g := by unfold issS; rw [u1_at, if_neg (fun z => absurd z.1 (by decide)), u1_at, if_neg (fun z => absurd z.1 (by decide)), u1_at, if_neg (fun z => absurd z.1 (by decide)), u1_at, if_neg (fun z => absurd z.1 (by decide)), u1_at, if_pos ⟨rfl, rfl⟩]
      rw [e, show pl 12 (A 28 0) = 456 + 10 * A 28 0 + 8 from rfl, uz10 b3.1 8 (by decide)]; rfl
    · have e : issS A i o n t last g 13 (A 28 0) = 0 := by unfold issS; rw [u1_at, if_pos ⟨rfl, rfl⟩]
      rw [e, show pl 13 (A 28 0) = 456 + 10 * A 28 0 + 9 from rfl, uz10 b3.1 9 (by decide)]; rfl
  have e2 : issS A i o n t last g f j = A f j := by
    by_cases h4 : 4 ≤ f ∧ f ≤ 13
    · exact isr_old A i o n t last g h28 (fun z => hl ⟨h4.1, h4.2, z⟩)
    · exact isr_ne A i o n t last g h4 h28 j
  have hu2 : us A f j := by
    unfold us at hu ⊢
    rw [isr_ne A i o n t last g (f := 26) (by decide) (by decide), isr_ne A i o n t last g (f := 27) (by decide) (by decide), isr_ne A i o n t last g (f := 29) (by decide) (by decide), isr_28] at hu
    by_cases h4 : 4 ≤ f ∧ f ≤ 13
    · rw [if_neg (by omega), if_neg (by omega), if_neg (by omega), if_neg (by omega), if_pos h4.2] at hu ⊢
      refine ⟨⟨hu.1.1, ?_⟩, fun z => ?_⟩
      · have h1 := hu.1.2
        have h2 : j ≠ A 28 0 := fun z => hl ⟨h4.1, h4.2, z⟩
        omega
      · have h1 := hu.2 z
        rw [isr_old A i o n t last g (by decide) (fun z => hl ⟨h4.1, h4.2, z⟩)] at h1
        exact h1
    · by_cases h13 : f ≤ 13
      · have cs : f = 0 ∨ f = 1 ∨ f = 2 ∨ f = 3 := by omega
        rcases cs with e | e | e | e <;> subst e <;> exact hu
      · simp only [if_neg h13] at hu ⊢; exact hu
  have pa := pl_all b f j hu2
  rw [e2, uz11 (pl_ne b hu2 (show dec 8 = (28, 0) by decide) (fun z => h28 z.1)) (pa.2.2 hm)]
  exact hA f j hu2


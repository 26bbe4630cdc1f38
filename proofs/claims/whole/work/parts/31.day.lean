/-! a day passes: what it makes of a state -/
def lapA (S : St) : Nat → St
  | 0 => S
  | k + 1 => if lapA S k 10 k = 0 ∧ S 8 k = S 25 0 then giveS (lapA S k) k 3 else lapA S k
theorem lap_ne (S : St) {f : Nat} (h1 : f ≠ 10) (h2 : f ≠ 11) (h3 : f ≠ 14) (h4 : f ≠ 24) : ∀ n : Nat, lapA S n f = S f
  | 0 => rfl
  | n + 1 => by
    rw [lapA]; split
    · rw [give_ne _ _ _ h1 h2 h3 h4, lap_ne S h1 h2 h3 h4 n]
    · exact lap_ne S h1 h2 h3 h4 n
theorem Inv.lap {c : Int} {S : St} (h : Inv c S) : ∀ n : Nat, n ≤ nS S → Inv c (lapA S n)
  | 0, _ => h
  | n + 1, hn => by
    have ih := Inv.lap h n (by omega)
    rw [lapA]; split
    · rename_i e
      refine ih.give ?_ e.1 (Or.inr rfl)
      rw [lap_ne S (by decide) (by decide) (by decide) (by decide)]
      unfold nS at hn; omega
    · exact ih
theorem lap_shut (S : St) : ∀ n l : Nat, l < n → lapA S n 10 l = 0 → S 8 l ≠ S 25 0
  | 0, l, hl, _ => by omega
  | n + 1, l, hl, h0 => by
    rw [lapA] at h0
    split at h0
    · rw [give_at, if_neg (by omega), cip_at] at h0
      by_cases e : l = n
      · subst e; simp at h0
      · rw [if_neg (by omega), if_neg (by omega), if_neg (by omega), if_neg (by omega)] at h0
        exact lap_shut S n l (by omega) h0
    · rename_i e
      by_cases e2 : l = n
      · subst e2; exact fun e3 => e ⟨h0, e3⟩
      · exact lap_shut S n l (by omega) h0
def tyF (S : St) (n : Nat) : St := fun f j => if f = 2 then (if 0 ≤ j ∧ j < 3 * (n : Int) then (if j % 3 = 0 then S 20 (j / 3) else S 2 (j - 1)) else S 2 j) else S f j
theorem ty_eq (S : St) : ∀ n : Nat, tyS S n = tyF S n
  | 0 => by
    funext f j; unfold tyS tyF
    by_cases h : f = 2
    · subst h; rw [if_pos rfl, if_neg (by omega)]
    · rw [if_neg h]
  | n + 1 => by
    rw [tyS, ty_eq S n]
    funext f j
    unfold growS
    rw [u1_at, u1_at, u1_at]
    by_cases h : f = 2
    · subst h
      show _ = if 0 ≤ j ∧ j < 3 * ((n + 1 : Nat) : Int) then (if j % 3 = 0 then S 20 (j / 3) else S 2 (j - 1)) else S 2 j
      have t : ∀ i, tyF S n 2 i = if 0 ≤ i ∧ i < 3 * (n : Int) then (if i % 3 = 0 then S 20 (i / 3) else S 2 (i - 1)) else S 2 i := fun _ => rfl
      by_cases h0 : j = (n : Int) * 3 + 0
      · subst h0; rw [if_pos ⟨rfl, rfl⟩, if_pos (by omega), if_pos (by omega), show ((n : Int) * 3 + 0) / 3 = n by omega]; rfl
      · rw [if_neg (by omega)]
        by_cases h1 : j = (n : Int) * 3 + 1
        · subst h1; rw [if_pos ⟨rfl, rfl⟩, t, if_neg (by omega), if_pos (by omega), if_neg (by omega)]
          congr 1; omega
        · rw [if_neg (by omega)]
          by_cases h2 : j = (n : Int) * 3 + 2
          · subst h2; rw [if_pos ⟨rfl, rfl⟩, t, if_neg (by omega), if_pos (by omega), if_neg (by omega)]
            congr 1; omega
          · rw [if_neg (by omega), t]
            by_cases h3 : 0 ≤ j ∧ j < 3 * (n : Int)
            · rw [if_pos h3, if_pos (show 0 ≤ j ∧ j < 3 * ((n + 1 : Nat) : Int) by omega)]
            · rw [if_neg h3, if_neg (by omega)]
    · rw [if_neg (by omega), if_neg (by omega), if_neg (by omega)]
      unfold tyF; rw [if_neg h, if_neg h]
theorem sm_mulr (f : Int → Int) (a : Int) : ∀ n : Nat, sm (fun i => f i * a) n = sm f n * a
  | 0 => by simp [sm]
  | n + 1 => by rw [sm, sm, sm_mulr f a n, Int.add_mul]
theorem sm_mull (f : Int → Int) (a : Int) : ∀ n : Nat, sm (fun i => a * f i) n = a * sm f n
  | 0 => by simp [sm]
  | n + 1 => by rw [sm, sm, sm_mull f a n, Int.mul_add]
theorem prt_le {S : St} (h : Inv0 S) {o q : Int} (ho : 0 ≤ o ∧ o < 4) (ht : 0 ≤ S 0 0 ∧ S 0 0 ≤ 100) (hq : 0 ≤ q ∧ q ≤ 99999) : prt S o q (nIm S) ≤ q := by
  have hm := mul_rg ht hq
  have hm2 : S 0 0 * q ≤ 100 * q := Int.mul_le_mul_of_nonneg_right ht.2 hq.1
  have h27 := h.2.2.1
  have hkk : nIm S = (S 27 0).toNat := rfl
  by_cases ha : 0 < allP S o (nIm S)
  · have h1 : sm (fun i => shp S o q (4 * i + o) * allP S o (nIm S)) (nIm S) ≤ sm (fun i => (S 0 0 * q / 100) * (if srt S (4 * i + o) = 1 then old S (4 * i + o) else 0)) (nIm S) := by
      refine sm_le _ (fun k hk => ?_)
      unfold shp poa
      rw [if_pos ha]
      by_cases e : srt S (4 * (k : Int) + o) = 1
      · simp only [e, if_true]
        exact Int.ediv_mul_le _ (by omega)
      · simp only [e, if_false]; omega
    rw [sm_mulr, sm_mull] at h1
    have h2 : prt S o q (nIm S) ≤ S 0 0 * q / 100 := Int.le_of_mul_le_mul_right h1 ha
    omega
  · have h1 : prt S o q (nIm S) ≤ (nIm S : Int) * 0 := sm_c _ (fun k hk => by
      unfold shp poa; rw [if_neg ha]; split <;> omega)
    omega
/-- what must hold as a period begins -/
def InvQ (c : Int) (S : St) : Prop := Rg S ∧ (0 ≤ c ∧ c ≤ 512) ∧ inv1 S ∧ inv2 S ∧ inv3 S ∧ inv4 c S ∧ inv5 S ∧ (∀ o : Int, 0 ≤ o → o < S 26 0 → (0 ≤ cr S o ∧ cr S o ≤ 10199898) ∧ cr S o + rems S (nS S) ≤ 99999 * (S 25 0 / 90 + S 28 0)) ∧ inv8 c S ∧ inv9 c S ∧ inv10 S ∧ inv11 c S
theorem InvQ.p {c : Int} {S : St} (h : InvQ c S) (hk : 0 < S 26 0) : InvP S := by
  obtain ⟨h1, h2, h3, h4, h5, h6, h7, h8, h9, h10, h11, h12⟩ := h
  refine ⟨⟨h1, h3.1, h3.2.1, fun k a b => ?_⟩, (h4 hk).1, h5, h3.2.2.2.2.1, fun o a b => ?_⟩
  · have := h6 k a b; omega
  · have := (h8 o a b).1; omega
theorem lefts_prd (S : St) (o : Int) (ho : 0 ≤ o ∧ o < (nOr S : Int)) (h4 : S 26 0 ≤ 4) : lefts (prdF S (nOr S)) o (nIm S) = prt S o (S 1 o) (nIm S) := by
  unfold lefts prt
  refine sm_congr _ (fun i hi => ?_)
  have hk : nOr S = (S 26 0).toNat := rfl
  show (if incn (nOr S) (nIm S) (4 * (i : Int) + o) then shp S ((4 * (i : Int) + o) % 4) (S 1 ((4 * (i : Int) + o) % 4)) (4 * (i : Int) + o) else S 17 (4 * (i : Int) + o)) = _
  rw [if_pos (by unfold incn; omega), show (4 * (i : Int) + o) % 4 = o by omega]
theorem InvQ.prd {c : Int} {S : St} (h : InvQ c S) (hk : 0 < S 26 0) : Inv c (prdF S (nOr S)) := by
  have hP := h.p hk
  obtain ⟨h1, h2, h3, h4, h5, h6, h7, h8, h9, h10, h11, h12⟩ := h
  have hko : nOr S = (S 26 0).toNat := rfl
  have hki : nIm S = (S 27 0).toNat := rfl
  have h31 := h3.1; have h32 := h3.2.1; have h33 := h3.2.2.1; have h35 := h3.2.2.2.2.1
  have h10' := h10; unfold inv9 at h10'
  refine ⟨prd_in hP (by omega), h2, h3, h4, h5, h6, h7, fun o a b => ?_, fun i o a b a2 b2 => ?_, h9, h10, h11, h12⟩
  · change o < S 26 0 at b
    have q1 := h5 o a b
    have q2 := h8 o a b
    have q3 := prt_in hP.1 (o := o) (q := S 1 o) (by omega) hP.2.1 q1
    have q4 := prt_le hP.1 (o := o) (q := S 1 o) (by omega) hP.2.1 q1
    have fg : ∀ w : Int, 0 ≤ w → w < 8 → prdF S (nOr S) 14 (o * 8 + w) = figF S o w := by
      intro w w0 w8
      show (if 0 ≤ o * 8 + w ∧ o * 8 + w < 8 * ((nOr S : Nat) : Int) then figF S ((o * 8 + w) / 8) ((o * 8 + w) % 8) else S 14 (o * 8 + w)) = _
      rw [if_pos (by omega), show (o * 8 + w) / 8 = o by omega, show (o * 8 + w) % 8 = w by omega]
    unfold FI
    rw [fg 1 (by omega) (by omega), fg 2 (by omega) (by omega), fg 3 (by omega) (by omega), fg 4 (by omega) (by omega), fg 5 (by omega) (by omega), fg 6 (by omega) (by omega), fg 7 (by omega) (by omega)]
    have el : lefts (prdF S (nOr S)) o (nIm (prdF S (nOr S))) = prt S o (S 1 o) (nIm S) := lefts_prd S o (by omega) h31.2
    have er : rems (prdF S (nOr S)) (nS (prdF S (nOr S))) = rems S (nS S) := rfl
    have e25 : prdF S (nOr S) 25 0 = S 25 0 := rfl
    have e28 : prdF S (nOr S) 28 0 = S 28 0 := rfl
    rw [el, er, e25, e28]
    simp only [figF]
    simp only [show ¬ (2 : Int) = 1 by omega, show ¬ (3 : Int) = 1 by omega, show ¬ (3 : Int) = 2 by omega, show ¬ (4 : Int) = 1 by omega, show ¬ (4 : Int) = 2 by omega, show ¬ (4 : Int) = 3 by omega, show ¬ (5 : Int) = 1 by omega, show ¬ (5 : Int) = 2 by omega, show ¬ (5 : Int) = 3 by omega, show ¬ (6 : Int) = 1 by omega, show ¬ (6 : Int) = 2 by omega, show ¬ (6 : Int) = 3 by omega, show ¬ (7 : Int) = 1 by omega, show ¬ (7 : Int) = 2 by omega, show ¬ (7 : Int) = 3 by omega, if_true, if_false]
    clear h3 h4 h6 h7 h8 h9 h10 h11 h12 hP fg el er e25 e28 h1
    omega
  · change i < S 27 0 at b
    change o < S 26 0 at b2
    have hin : incn (nOr S) (nIm S) (4 * i + o) := by unfold incn; omega
    have hm : (4 * i + o) % 4 = o := by omega
    have e15 : prdF S (nOr S) 15 (4 * i + o) = srt S (4 * i + o) := if_pos hin
    have e18 : prdF S (nOr S) 18 (4 * i + o) = 0 := if_pos hin
    have e16 : prdF S (nOr S) 16 (4 * i + o) = shp S o (S 1 o) (4 * i + o) := by
      show (if incn (nOr S) (nIm S) (4 * i + o) then shp S ((4 * i + o) % 4) (S 1 ((4 * i + o) % 4)) (4 * i + o) else S 16 (4 * i + o)) = _
      rw [if_pos hin, hm]
    have e17 : prdF S (nOr S) 17 (4 * i + o) = shp S o (S 1 o) (4 * i + o) := by
      show (if incn (nOr S) (nIm S) (4 * i + o) then shp S ((4 * i + o) % 4) (S 1 ((4 * i + o) % 4)) (4 * i + o) else S 17 (4 * i + o)) = _
      rw [if_pos hin, hm]
    have q1 := h5 o a2 b2
    have q2 := hP.1.shp (o := o) (q := S 1 o) (j := 4 * i + o) (by omega) (by unfold inc; omega) hP.2.1 q1
    have q3 := srt_in S (4 * i + o)
    unfold PI
    rw [e15, e16, e17, e18]
    refine ⟨q3, by omega, by omega, ⟨by omega, ?_⟩, fun e => ?_⟩
    · show 0 ≤ 99999 * S 28 0
      omega
    · show 0 < old S (4 * i + o)
      have q5 := (h4 hk).2.2.2.2.2
      have q6 := h6 ((4 * i + o) * 3 + 0) (by omega) (by omega); have q7 := h6 ((4 * i + o) * 3 + 1) (by omega) (by omega); have q8 := h6 ((4 * i + o) * 3 + 2) (by omega) (by omega)
      unfold srt yws b1 at e
      unfold old
      clear h3 h4 h6 h7 h8 h9 h10 h11 h12 hP h1 e15 e16 e17 e18 hin
      repeat' split at e
      all_goals omega


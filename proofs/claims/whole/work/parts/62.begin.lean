/-! a scheme that was told is in order -/
def VT (T : St) : Prop := (1 ≤ T 26 0 ∧ T 26 0 ≤ 4) ∧ (0 ≤ T 27 0 ∧ T 27 0 ≤ 8) ∧ (∀ w : Int, 0 ≤ w → w ≤ 5 → tL w ≤ T 0 w ∧ T 0 w ≤ tM w) ∧ (∀ o : Int, 0 ≤ o → o < T 26 0 → 0 ≤ T 1 o ∧ T 1 o ≤ 99999) ∧ (∀ k : Int, 0 ≤ k → k < 96 → 0 ≤ T 2 k ∧ T 2 k ≤ 99999)
theorem s0_0 (T S : St) {k : Int} (h : k < 6) : st0S T S 0 k = T 0 k := by
  show (if k < ((6 : Nat) : Int) then T 0 k else S 0 k) = _; rw [if_pos (by omega)]
theorem s0_1 (T S : St) {k : Int} (h : k < 4) : st0S T S 1 k = T 1 k := by
  show (if k < ((4 : Nat) : Int) then T 1 k else S 1 k) = _; rw [if_pos (by omega)]
theorem s0_2 (T S : St) {k : Int} (h : k < 96) : st0S T S 2 k = T 2 k := by
  show (if k < ((96 : Nat) : Int) then T 2 k else S 2 k) = _; rw [if_pos (by omega)]
theorem s0_20 (T S : St) {k : Int} (h0 : 0 ≤ k) (h : k < 32) : st0S T S 20 k = 0 := by
  show clS (clS (clS (u0 (u0 (cpSch T S) 28 0) 29 0) 20 32) 21 96) 22 48 20 k = 0
  rw [clS_at, if_neg (by omega), clS_at, if_neg (by omega), clS_at, if_pos (by omega)]
theorem s0_21 (T S : St) {k : Int} (h0 : 0 ≤ k) (h : k < 96) : st0S T S 21 k = 0 := by
  show clS (clS (clS (u0 (u0 (cpSch T S) 28 0) 29 0) 20 32) 21 96) 22 48 21 k = 0
  rw [clS_at, if_neg (by omega), clS_at, if_pos (by omega)]
theorem s0_22 (T S : St) {k : Int} (h0 : 0 ≤ k) (h : k < 48) : st0S T S 22 k = 0 := by
  show clS (clS (clS (u0 (u0 (cpSch T S) 28 0) 29 0) 20 32) 21 96) 22 48 22 k = 0
  rw [clS_at, if_pos (by omega)]
theorem s0_23 (T S : St) {k : Int} (h0 : 0 ≤ k) (h : k < 8) : st0S T S 23 k = 0 := by
  show (if 0 ≤ k ∧ k < ((8 : Nat) : Int) then 0 else S 23 k) = 0
  rw [if_pos (by omega)]
theorem s0_24 (T S : St) {k : Int} (h0 : 0 ≤ k) (h : k < 5) : st0S T S 24 k = 0 := by
  show clS (sset (yclS (u0 (u0 (cpSch T S) 28 0) 29 0)) 23 (fl (S 23) 8 0)) 24 5 24 k = 0
  rw [clS_at, if_pos (by omega)]
theorem Rg.st0 {T S : St} (hT : Rg T) (hS : Rg S) : Rg (st0S T S) :=
  ((Rg.s23 ((((((hT.cpSch hS).u0 (by omega)).u0 (by omega)).cl (by decide)).cl (by decide)).cl (by decide)) (fl (S 23) 8 0)).cl (f := 24) (n := 5) (by decide)).u0 (by omega)
theorem beg_Q {T S : St} {c : Int} (hT : Rg T) (hS : Rg S) (hc : 1 ≤ c ∧ c ≤ 512) (v : VT T) : InvQ c (st0S T S) := by
  obtain ⟨v1, v2, v3, v4, v5⟩ := v
  have e26 : st0S T S 26 0 = T 26 0 := rfl
  have e27 : st0S T S 27 0 = T 27 0 := rfl
  have e28 : st0S T S 28 0 = 0 := rfl
  have e29 : st0S T S 29 0 = 0 := rfl
  have e25 : st0S T S 25 0 = 0 := rfl
  have en : nS (st0S T S) = 0 := rfl
  have hl : tL 0 = 0 ∧ tL 1 = 1 ∧ tL 2 = 1 ∧ tL 3 = 0 ∧ tL 4 = 0 ∧ tL 5 = 1 ∧ tM 0 = 100 ∧ tM 1 = 99999 ∧ tM 2 = 90 ∧ tM 3 = 100 ∧ tM 4 = 2000 ∧ tM 5 = 3 := by decide
  refine ⟨hT.st0 hS, by omega, ?_, ?_, ?_, ?_, ?_, ?_, ?_, ?_, ?_, ?_⟩
  · unfold inv1; rw [e26, e27, e28, e29, e25]
    exact ⟨by omega, v2, by omega, by omega, by omega, fun z => absurd z (by omega)⟩
  · intro _
    rw [s0_0 T S (by omega), s0_0 T S (by omega), s0_0 T S (by omega), s0_0 T S (by omega), s0_0 T S (by omega), s0_0 T S (by omega)]
    have a0 := v3 0 (by omega) (by omega); have a1 := v3 1 (by omega) (by omega); have a2 := v3 2 (by omega) (by omega)
    have a3 := v3 3 (by omega) (by omega); have a4 := v3 4 (by omega) (by omega); have a5 := v3 5 (by omega) (by omega)
    omega
  · intro o0 h0 h1
    rw [e26] at h1
    rw [s0_1 T S (by omega)]
    exact v4 o0 h0 h1
  · intro k h0 h1
    rw [s0_2 T S h1]
    have := v5 k h0 h1; omega
  · intro l h0 h1
    rw [e28] at h1; omega
  · intro o0 h0 h1
    have ec : cr (st0S T S) o0 = 0 := by unfold cr; rw [e25, if_pos (by decide)]
    rw [ec, en, e25, e28]
    show (0 ≤ (0 : Int) ∧ (0 : Int) ≤ 10199898) ∧ 0 + (0 : Int) ≤ 99999 * (0 / 90 + 0)
    decide
  · intro k k0
    refine ⟨fun k1 => ?_, fun k1 => ?_, fun k1 => ?_⟩
    · rw [s0_20 T S k0 k1]; omega
    · rw [s0_21 T S k0 k1]; omega
    · rw [s0_22 T S k0 k1]; omega
  · unfold inv9
    rw [s0_24 T S (by omega) (by omega), s0_24 T S (by omega) (by omega), s0_24 T S (by omega) (by omega), s0_24 T S (by omega) (by omega), s0_24 T S (by omega) (by omega), en, e28]
    show (0 ≤ (0 : Int) ∧ (0 : Int) ≤ 99999 * 0) ∧ (0 ≤ (0 : Int) ∧ (0 : Int) ≤ 99999 * c) ∧ 0 ≤ (0 : Int) ∧ 0 ≤ (0 : Int) ∧ (0 ≤ (0 : Int) ∧ (0 : Int) ≤ 99999 * c) ∧ 0 + 0 + (0 : Int) ≤ 99999 * 0
    omega
  · unfold inv10; rw [en, e28]; show (0 : Int) ≤ _; omega
  · intro k k0 k1
    rw [s0_23 T S k0 k1]
    unfold OW
    omega
theorem Inv.beg {T S : St} {c : Int} (hT : Rg T) (hS : Rg S) (hc : 1 ≤ c ∧ c ≤ 512) (v : VT T) : Inv c (begS T S) ∧ InvP (st0S T S) := by
  have q := beg_Q hT hS hc v
  have h26 : 0 < st0S T S 26 0 := by show 0 < T 26 0; have := v.1; omega
  exact ⟨q.prd h26, q.p h26⟩
/-- what is read is in order, as far as it goes -/
def PV (m : Int) (p : Int × Int × St) : Prop := p.2.1 = 0 → (∀ w : Int, 0 ≤ w → w < m → tL w ≤ p.2.2 0 w ∧ p.2.2 0 w ≤ tM w) ∧ (∀ o : Int, 0 ≤ o → o < p.2.2 26 0 → 0 ≤ p.2.2 1 o ∧ p.2.2 1 o ≤ 99999) ∧ (∀ k : Int, 0 ≤ k → k < 96 → 0 ≤ p.2.2 2 k ∧ p.2.2 2 k ≤ 99999)
theorem trm_V {B : Int → Int} {n : Int} (hn : n ≤ 400) {p : Int × Int × St} (h : PIn n p) (hv : PV 0 p) : ∀ k : Nat, PV k (trm B n p k)
  | 0 => hv
  | k + 1 => by
    have q := trm_V (B := B) hn h hv k
    have hk := trm_in (B := B) hn h k
    intro hf
    have ok := nV_ok (B := B) (n := n) (lo := tL k) (hi := tM k) (a := (trm B n p k).1) (f := (trm B n p k).2.1) hf hk.1
    obtain ⟨a, b, c⟩ := q ok.1
    refine ⟨fun w h0 h1 => ?_, b, c⟩
    show tL w ≤ u1 (trm B n p k).2.2 0 k _ 0 w ∧ u1 (trm B n p k).2.2 0 k _ 0 w ≤ tM w
    rw [u1_at]
    by_cases e : w = k
    · subst e; rw [if_pos ⟨rfl, rfl⟩]; exact ok.2
    · rw [if_neg (fun z => e z.2)]; exact a w h0 (by omega)
theorem pc1_V {B : Int → Int} {n : Int} (hn : n ≤ 400) {T : St} {s e : Int} (hs : 0 ≤ s ∧ s ≤ n) (he : 0 ≤ e ∧ e ≤ n) (h26 : 0 ≤ T 26 0 ∧ T 26 0 ≤ 4) (h27 : 0 ≤ T 27 0 ∧ T 27 0 ≤ 8) (hv : PV 6 (e, 0, T)) : PV 6 (pc1 B n T s e) := by
  obtain ⟨a, b, c⟩ := hv rfl
  unfold pc1
  split
  · intro hf
    have hf : orgF B n T s e = 0 := hf
    show (∀ w : Int, 0 ≤ w → w < 6 → tL w ≤ orgT B n T e 0 w ∧ orgT B n T e 0 w ≤ tM w) ∧ (∀ o : Int, 0 ≤ o → o < orgT B n T e 26 0 → 0 ≤ orgT B n T e 1 o ∧ orgT B n T e 1 o ≤ 99999) ∧ (∀ k : Int, 0 ≤ k → k < 96 → 0 ≤ orgT B n T e 2 k ∧ orgT B n T e 2 k ≤ 99999)
    unfold orgF at hf
    by_cases h4 : 4 ≤ T 26 0
    · rw [if_pos h4] at hf; omega
    · rw [if_neg h4] at hf
      have ok := nV_ok hf he
      unfold orgT
      rw [if_neg h4]
      refine ⟨a, fun o0 h0 h1 => ?_, c⟩
      have h1 : o0 < T 26 0 + 1 := h1
      show 0 ≤ u1 T 1 (T 26 0) (nV B n 0 99999 e 0) 1 o0 ∧ u1 T 1 (T 26 0) (nV B n 0 99999 e 0) 1 o0 ≤ 99999
      rw [u1_at]
      by_cases z : o0 = T 26 0
      · rw [if_pos ⟨rfl, z⟩]; exact ok.2
      · rw [if_neg (fun q => z q.2)]; exact b o0 h0 (by show o0 < T 26 0; omega)
  · split
    · intro hf
      have hf : impF T s = 0 := hf
      show (∀ w : Int, 0 ≤ w → w < 6 → tL w ≤ impT T 0 w ∧ impT T 0 w ≤ tM w) ∧ (∀ o : Int, 0 ≤ o → o < impT T 26 0 → 0 ≤ impT T 1 o ∧ impT T 1 o ≤ 99999) ∧ (∀ k : Int, 0 ≤ k → k < 96 → 0 ≤ impT T 2 k ∧ impT T 2 k ≤ 99999)
      unfold impT
      split <;> exact ⟨a, b, c⟩
    · split
      · intro hf
        have hf : (ps5 B n T e).2 = 0 := hf
        have ok := ps_ok he hn hf
        show (∀ w : Int, 0 ≤ w → w < 6 → tL w ≤ pstT B n T e 0 w ∧ pstT B n T e 0 w ≤ tM w) ∧ (∀ o : Int, 0 ≤ o → o < pstT B n T e 26 0 → 0 ≤ pstT B n T e 1 o ∧ pstT B n T e 1 o ≤ 99999) ∧ (∀ k : Int, 0 ≤ k → k < 96 → 0 ≤ pstT B n T e 2 k ∧ pstT B n T e 2 k ≤ 99999)
        unfold pstT
        rw [if_pos hf]
        refine ⟨a, b, fun k h0 h1 => ?_⟩
        have := c k h0 h1
        simp only [u1_at]
        (repeat' split) <;> first | exact ok.2.2.1 | exact ok.2.2.2.1 | exact ok.2.2.2.2 | exact this
      · intro hf
        have hf : 8 * s + 1 = 0 := hf
        omega
theorem pce_V {B : Int → Int} {n : Int} (hn : n ≤ 400) {p : Int × Int × St} (h : PIn n p) (hv : PV 6 p) : PV 6 (pce B n p) := by
  obtain ⟨q1, q2, q3, q4, q5⟩ := h
  unfold pce; split
  · rename_i hf
    have s := skb_in (B := B) (n := n) (a := p.1) q1.2
    have e := ltr_in (B := B) (n := n) (a := skb B n p.1) s.2
    exact pc1_V hn (by omega) (by omega) q4 q5 (fun _ => hv hf)
  · exact hv
theorem lop_V {B : Int → Int} {n : Int} (hn : n ≤ 400) : ∀ (f : Nat) (p : Int × Int × St), PIn n p → PV 6 p → PV 6 (lop B n f p) ∧ PIn n (lop B n f p)
  | 0, p, h, hv => ⟨hv, h⟩
  | f + 1, p, h, hv => by
    obtain ⟨q1, q2, q3, q4, q5⟩ := h
    have s := skb_in (B := B) (n := n) (a := p.1) q1.2
    rw [lop]; split
    · rename_i hf
      split
      · exact ⟨fun _ => hv hf, ⟨by show 0 ≤ skb B n p.1; omega, s.2⟩, ⟨Int.le_refl 0, by show (0 : Int) ≤ 4000; decide⟩, q3, q4, q5⟩
      · have hs := sep_in (B := B) hn (T := p.2.2) (a := skb B n p.1) (by omega) q3 q4 q5
        exact lop_V hn f _ (pce_in hn hs).1 (pce_V hn hs (fun _ => hv hf))
    · exact ⟨hv, q1, q2, q3, q4, q5⟩
theorem rtx_V {B : Int → Int} {n : Int} (hn : 0 ≤ n ∧ n ≤ 400) {T : St} (hT : Rg T) (h : rdF n (rtx B n T) = 0) : VT (rtx B n T).2.2 ∧ Rg (rtx B n T).2.2 := by
  have c26 : clrT T 26 0 = 0 := rfl
  have c27 : clrT T 27 0 = 0 := rfl
  have h0 := tr0_in (B := B) hn.2 (T := clrT T) (a := 0) ⟨Int.le_refl 0, hn.1⟩ (clr_in hT) (by rw [c26]; decide) (by rw [c27]; decide)
  have v0 : PV 0 (tr0 B n (clrT T) 0) := by
    intro _
    refine ⟨fun w a b => by omega, fun o0 a b => ?_, fun k a b => ?_⟩
    · have b : o0 < 0 := b
      omega
    · show 0 ≤ clrT T 2 k ∧ clrT T 2 k ≤ 99999
      have e : clrT T 2 k = 0 := by
        show clS (clS (clS T 0 6) 1 4) 2 96 2 k = 0
        rw [clS_at, if_pos (by omega)]
      rw [e]; decide
  have h6 := trm_in (B := B) hn.2 h0 6
  have v6 := trm_V (B := B) hn.2 h0 v0 6
  have r := lop_V (B := B) hn.2 401 _ h6 v6
  have hr : PIn n (rtx B n T) := r.2
  have hv : PV 6 (rtx B n T) := r.1
  unfold rdF at h
  split at h
  · omega
  · rename_i z
    obtain ⟨a, b, c⟩ := hv h
    have h4 := hr.2.2.2.1
    exact ⟨⟨⟨by omega, h4.2⟩, hr.2.2.2.2, fun w a1 a2 => a w a1 (by omega), b, c⟩, hr.2.2.1⟩


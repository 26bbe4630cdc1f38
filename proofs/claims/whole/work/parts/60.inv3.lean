/-! what always holds goes on to hold: merged -/
section OV
variable (S : St) (l j t k : Int)
theorem ov_ne (f : Nat) (h1 : f ≠ 6) (h2 : f ≠ 9) (h3 : f ≠ 13) (h4 : f ≠ 10) (h5 : f ≠ 11) : overS S l j t f = S f := by
  funext k; unfold overS; rw [close_at _ _ _ _ _ _ h4 h5]
  simp only [u1_at, h1, h2, h3, false_and, if_false]
theorem ov_6 (hlj : l ≠ j) : overS S l j t 6 k = if k = j then 0 else if k = l then S 6 l + S 6 j else S 6 k := by
  unfold overS; rw [close_at _ _ _ _ _ _ (by decide) (by decide)]; simp only [u1_at]; simp
theorem ov_9 (hlj : l ≠ j) : overS S l j t 9 k = if k = j then 0 else if k = l then S 9 l + S 9 j else S 9 k := by
  unfold overS; rw [close_at _ _ _ _ _ _ (by decide) (by decide)]; simp only [u1_at]; simp
theorem ov_13 (hlj : l ≠ j) : overS S l j t 13 k = if k = j then 0 else if k = l then S 13 l + S 13 j else S 13 k := by
  unfold overS; rw [close_at _ _ _ _ _ _ (by decide) (by decide)]; simp only [u1_at]; simp
theorem ov_10 : overS S l j t 10 k = if k = j then 1 else S 10 k := by
  unfold overS closeS; simp only [u1_at]; simp
theorem ov_11 : overS S l j t 11 k = if k = j then t else S 11 k := by
  unfold overS closeS; simp only [u1_at]; simp
end OV
theorem ov_rem {S : St} {l j t : Int} (hlj : l ≠ j) (hl : S 10 l = 0) (hj : S 10 j = 0) (k : Int) : rem (overS S l j t) k = if k = j then 0 else if k = l then rem S l + rem S j else rem S k := by
  unfold rem
  rw [ov_6 S l j t k hlj, ov_9 S l j t k hlj, ov_10]
  by_cases a : k = j
  · simp [a]
  · by_cases b : k = l
    · subst b; simp only [a, if_false, if_true, hl, hj]; omega
    · simp only [a, b, if_false]
theorem ov_rems {S : St} {l j t : Int} (hlj : l ≠ j) (hl : S 10 l = 0) (hj : S 10 j = 0) (h1 : 0 ≤ l ∧ l < S 28 0) (h2 : 0 ≤ j ∧ j < S 28 0) : rems (overS S l j t) (nS S) = rems S (nS S) ∧ sm (overS S l j t 6) (nS S) = sm (S 6) (nS S) := by
  have e1 : ((l.toNat : Nat) : Int) = l := by omega
  have e2 : ((j.toNat : Nat) : Int) = j := by omega
  constructor
  · unfold rems
    rw [sm_diff2 (f := rem S) (a := l.toNat) (b := j.toNat) (by unfold nS; omega) (by unfold nS; omega) (by omega) (fun k _ ha hb => by rw [ov_rem hlj hl hj, if_neg (by omega), if_neg (by omega)]), ov_rem hlj hl hj, ov_rem hlj hl hj, e1, e2, if_neg hlj, if_pos rfl, if_pos rfl]
    omega
  · rw [sm_diff2 (f := S 6) (a := l.toNat) (b := j.toNat) (by unfold nS; omega) (by unfold nS; omega) (by omega) (fun k _ ha hb => by rw [ov_6 S l j t k hlj, if_neg (by omega), if_neg (by omega)]), ov_6 S l j t _ hlj, ov_6 S l j t _ hlj, e1, e2, if_neg hlj, if_pos rfl, if_pos rfl]
    omega

set_option maxHeartbeats 1000000 in
theorem Inv.over {c : Int} {S : St} (h : Inv c S) {l j : Int} (hl : 0 ≤ l ∧ l < S 28 0) (hj : 0 ≤ j ∧ j < S 28 0) (hlj : l ≠ j) (ol : S 10 l = 0) (oj : S 10 j = 0) : Inv (c) (overS S l j (S 25 0)) := by
  have i1 := h.i1
  have l1 := h.li hl
  have l2 := h.li hj
  have lo := h.lio hl ol
  have a1 := h.am hl
  have a2 := h.am hj
  have er := ov_rems (t := S 25 0) hlj ol oj hl hj
  have en : nS (overS S l j (S 25 0)) = nS S := by unfold nS; rw [ov_ne S l j (S 25 0) 28 (by decide) (by decide) (by decide) (by decide) (by decide)]
  have em : nIm (overS S l j (S 25 0)) = nIm S := by unfold nIm; rw [ov_ne S l j (S 25 0) 27 (by decide) (by decide) (by decide) (by decide) (by decide)]
  have e0 : (overS S l j (S 25 0)) 0 = S 0 := ov_ne S l j (S 25 0) 0 (by decide) (by decide) (by decide) (by decide) (by decide)
  have e1 : (overS S l j (S 25 0)) 1 = S 1 := ov_ne S l j (S 25 0) 1 (by decide) (by decide) (by decide) (by decide) (by decide)
  have e2 : (overS S l j (S 25 0)) 2 = S 2 := ov_ne S l j (S 25 0) 2 (by decide) (by decide) (by decide) (by decide) (by decide)
  have e3 : (overS S l j (S 25 0)) 3 = S 3 := ov_ne S l j (S 25 0) 3 (by decide) (by decide) (by decide) (by decide) (by decide)
  have e4 : (overS S l j (S 25 0)) 4 = S 4 := ov_ne S l j (S 25 0) 4 (by decide) (by decide) (by decide) (by decide) (by decide)
  have e5 : (overS S l j (S 25 0)) 5 = S 5 := ov_ne S l j (S 25 0) 5 (by decide) (by decide) (by decide) (by decide) (by decide)
  have e7 : (overS S l j (S 25 0)) 7 = S 7 := ov_ne S l j (S 25 0) 7 (by decide) (by decide) (by decide) (by decide) (by decide)
  have e8 : (overS S l j (S 25 0)) 8 = S 8 := ov_ne S l j (S 25 0) 8 (by decide) (by decide) (by decide) (by decide) (by decide)
  have e12 : (overS S l j (S 25 0)) 12 = S 12 := ov_ne S l j (S 25 0) 12 (by decide) (by decide) (by decide) (by decide) (by decide)
  have e14 : (overS S l j (S 25 0)) 14 = S 14 := ov_ne S l j (S 25 0) 14 (by decide) (by decide) (by decide) (by decide) (by decide)
  have e15 : (overS S l j (S 25 0)) 15 = S 15 := ov_ne S l j (S 25 0) 15 (by decide) (by decide) (by decide) (by decide) (by decide)
  have e16 : (overS S l j (S 25 0)) 16 = S 16 := ov_ne S l j (S 25 0) 16 (by decide) (by decide) (by decide) (by decide) (by decide)
  have e17 : (overS S l j (S 25 0)) 17 = S 17 := ov_ne S l j (S 25 0) 17 (by decide) (by decide) (by decide) (by decide) (by decide)
  have e18 : (overS S l j (S 25 0)) 18 = S 18 := ov_ne S l j (S 25 0) 18 (by decide) (by decide) (by decide) (by decide) (by decide)
  have e19 : (overS S l j (S 25 0)) 19 = S 19 := ov_ne S l j (S 25 0) 19 (by decide) (by decide) (by decide) (by decide) (by decide)
  have e20 : (overS S l j (S 25 0)) 20 = S 20 := ov_ne S l j (S 25 0) 20 (by decide) (by decide) (by decide) (by decide) (by decide)
  have e21 : (overS S l j (S 25 0)) 21 = S 21 := ov_ne S l j (S 25 0) 21 (by decide) (by decide) (by decide) (by decide) (by decide)
  have e22 : (overS S l j (S 25 0)) 22 = S 22 := ov_ne S l j (S 25 0) 22 (by decide) (by decide) (by decide) (by decide) (by decide)
  have e23 : (overS S l j (S 25 0)) 23 = S 23 := ov_ne S l j (S 25 0) 23 (by decide) (by decide) (by decide) (by decide) (by decide)
  have e24 : (overS S l j (S 25 0)) 24 = S 24 := ov_ne S l j (S 25 0) 24 (by decide) (by decide) (by decide) (by decide) (by decide)
  have e25 : (overS S l j (S 25 0)) 25 = S 25 := ov_ne S l j (S 25 0) 25 (by decide) (by decide) (by decide) (by decide) (by decide)
  have e26 : (overS S l j (S 25 0)) 26 = S 26 := ov_ne S l j (S 25 0) 26 (by decide) (by decide) (by decide) (by decide) (by decide)
  have e27 : (overS S l j (S 25 0)) 27 = S 27 := ov_ne S l j (S 25 0) 27 (by decide) (by decide) (by decide) (by decide) (by decide)
  have e28 : (overS S l j (S 25 0)) 28 = S 28 := ov_ne S l j (S 25 0) 28 (by decide) (by decide) (by decide) (by decide) (by decide)
  have e29 : (overS S l j (S 25 0)) 29 = S 29 := ov_ne S l j (S 25 0) 29 (by decide) (by decide) (by decide) (by decide) (by decide)
  refine ⟨(((((((h.R.u1 (by omega)).u1 (by omega)).u1 (by omega)).u1 (by omega)).u1 (by omega)).u1 (by omega)).u1 (by omega)).u1 (h.R 25 (by decide) 0), h.cc, ?_, ?_, ?_, ?_, ?_, ?_, ?_, ?_, ?_, ?_, ?_⟩
  · have q := h.2.2.1
    simp only [Jvm.Pilot.@@N@@.inv1, e25, e26, e27, e28, e29] at q ⊢
    exact q
  · have q := h.2.2.2.1
    simp only [Jvm.Pilot.@@N@@.inv2, e0, e26] at q ⊢
    exact q
  · have q := h.2.2.2.2.1
    simp only [Jvm.Pilot.@@N@@.inv3, e1, e26] at q ⊢
    exact q
  · have q := h.2.2.2.2.2.1
    simp only [Jvm.Pilot.@@N@@.inv4, e2] at q ⊢
    exact q
  · intro k h0 h1
    rw [e28] at h1
    have lk := h.i5 k h0 h1
    unfold LI at lk ⊢
    simp only [e4, e5, e7, e8, e12, e25, e26, e27]
    rw [ov_6 S l j (S 25 0) k hlj, ov_9 S l j (S 25 0) k hlj, ov_13 S l j (S 25 0) k hlj, ov_10, ov_11]
    by_cases a : k = j
    · simp only [a, if_true]; subst a; exact ⟨lk.1, lk.2.1, by omega, by omega, lk.2.2.2.2.1, lk.2.2.2.2.2.1, by omega, fun z => by omega, fun _ => by omega, lk.2.2.2.2.2.2.2.2.2⟩
    · by_cases b : k = l
      · simp only [a, if_false]; subst b; simp only [if_true]; exact ⟨lk.1, lk.2.1, by omega, by omega, lk.2.2.2.2.1, lk.2.2.2.2.2.1, by omega, fun _ => lo, fun z => absurd ol z, lk.2.2.2.2.2.2.2.2.2⟩
      · simp only [a, b, if_false]; exact lk
  · intro o h0 h1
    rw [e26] at h1
    have fo := h.i6 o h0 h1
    unfold FI at fo ⊢
    rw [en, em, er.1, e14, e25, e28, show lefts (overS S l j (S 25 0)) o (nIm S) = lefts S o (nIm S) by unfold lefts; rw [e17]]
    exact fo
  · have q := h.2.2.2.2.2.2.2.2.1
    simp only [Jvm.Pilot.@@N@@.inv7, Jvm.Pilot.@@N@@.PI, Jvm.Pilot.@@N@@.old, e15, e16, e17, e18, e2, e26, e27, e28] at q ⊢
    exact q
  · have q := h.2.2.2.2.2.2.2.2.2.1
    simp only [Jvm.Pilot.@@N@@.inv8, e20, e21, e22] at q ⊢
    exact q
  · have q := h.i9
    unfold inv9 at q ⊢
    rw [en, er.1, e24, e28]
    exact q
  · have q := h.i10
    unfold inv10 at q ⊢
    rw [en, er.2, e28]
    exact q
  · have q := h.2.2.2.2.2.2.2.2.2.2.2.2
    simp only [Jvm.Pilot.@@N@@.inv11, e23] at q ⊢
    exact q
/-! handed on -/
section HD
variable (S : St) (l i n t k : Int)
def hdX : St := u1 (issS S i (S 5 l) n (S 7 l) (S 8 l) l) 6 l (S 6 l - n)
theorem iss_ne (a b c d e g : Int) (f : Nat) (h1 : f ≠ 4) (h2 : f ≠ 5) (h3 : f ≠ 6) (h4 : f ≠ 7) (h5 : f ≠ 8) (h6 : f ≠ 9) (h7 : f ≠ 10) (h8 : f ≠ 11) (h9 : f ≠ 12) (h10 : f ≠ 13) (h11 : f ≠ 28) : issS S a b c d e g f = S f := by
  funext k; unfold issS; simp only [u1_at, u0_at, h1, h2, h3, h4, h5, h6, h7, h8, h9, h10, h11, false_and, if_false]
theorem iss_4 (a b c d e g : Int) : issS S a b c d e g 4 k = if k = S 28 0 then a else S 4 k := by unfold issS; simp only [u1_at, u0_at]; simp
theorem iss_5 (a b c d e g : Int) : issS S a b c d e g 5 k = if k = S 28 0 then b else S 5 k := by unfold issS; simp only [u1_at, u0_at]; simp
theorem iss_6 (a b c d e g : Int) : issS S a b c d e g 6 k = if k = S 28 0 then c else S 6 k := by unfold issS; simp only [u1_at, u0_at]; simp
theorem iss_7 (a b c d e g : Int) : issS S a b c d e g 7 k = if k = S 28 0 then d else S 7 k := by unfold issS; simp only [u1_at, u0_at]; simp
theorem iss_8 (a b c d e g : Int) : issS S a b c d e g 8 k = if k = S 28 0 then e else S 8 k := by unfold issS; simp only [u1_at, u0_at]; simp
theorem iss_9 (a b c d e g : Int) : issS S a b c d e g 9 k = if k = S 28 0 then 0 else S 9 k := by unfold issS; simp only [u1_at, u0_at]; simp
theorem iss_10 (a b c d e g : Int) : issS S a b c d e g 10 k = if k = S 28 0 then 0 else S 10 k := by unfold issS; simp only [u1_at, u0_at]; simp
theorem iss_11 (a b c d e g : Int) : issS S a b c d e g 11 k = if k = S 28 0 then -1 else S 11 k := by unfold issS; simp only [u1_at, u0_at]; simp
theorem iss_12 (a b c d e g : Int) : issS S a b c d e g 12 k = if k = S 28 0 then g else S 12 k := by unfold issS; simp only [u1_at, u0_at]; simp
theorem iss_13 (a b c d e g : Int) : issS S a b c d e g 13 k = if k = S 28 0 then 0 else S 13 k := by unfold issS; simp only [u1_at, u0_at]; simp
theorem iss_28 (a b c d e g : Int) : issS S a b c d e g 28 k = S 28 0 + 1 := by unfold issS; simp only [u1_at, u0_at]; simp
theorem Rg.iss {S : St} (hR : Rg S) {a b c d e g : Int} (h : inI a ∧ inI b ∧ inI c ∧ inI d ∧ inI e ∧ inI g) (hz : inI (S 28 0 + 1)) : Rg (issS S a b c d e g) :=
  ((((((((((hR.u0 hz).u1 h.1).u1 h.2.1).u1 h.2.2.1).u1 h.2.2.2.1).u1 h.2.2.2.2.1).u1 h.2.2.2.2.2).u1 (by omega)).u1 (by omega)).u1 (by omega)).u1 (by omega)
theorem hd_eq : handS S l i n t = cuS (hdX S l i n) l t := rfl
theorem hd_f (f : Nat) (h6 : f ≠ 6) (h10 : f ≠ 10) (h11 : f ≠ 11) : handS S l i n t f k = issS S i (S 5 l) n (S 7 l) (S 8 l) l f k := by
  rw [hd_eq, cu_at _ _ _ _ _ h10 h11]; unfold hdX; rw [u1_at, if_neg (by omega)]
theorem hdX_f (f : Nat) (h6 : f ≠ 6) : hdX S l i n f k = issS S i (S 5 l) n (S 7 l) (S 8 l) l f k := by
  unfold hdX; rw [u1_at, if_neg (fun z => h6 z.1)]
theorem hd_6 : handS S l i n t 6 k = if k = l then S 6 l - n else if k = S 28 0 then n else S 6 k := by
  rw [hd_eq, cu_at _ _ _ _ _ (by decide) (by decide)]; unfold hdX; rw [u1_at, iss_6]; simp
end HD
theorem hd_rem0 {S : St} {l i n : Int} (hl : l < S 28 0) (ho : S 10 l = 0) : rem (hdX S l i n) l = S 6 l - n - S 9 l := by
  unfold rem
  have a10 : hdX S l i n 10 l = 0 := by rw [hdX_f S l i n l 10 (by decide), iss_10, if_neg (by omega)]; exact ho
  have a6 : hdX S l i n 6 l = S 6 l - n := by unfold hdX; rw [u1_at, if_pos ⟨rfl, rfl⟩]
  have a9 : hdX S l i n 9 l = S 9 l := by rw [hdX_f S l i n l 9 (by decide), iss_9, if_neg (by omega)]
  rw [a10, a6, a9, if_pos rfl]
theorem hd_10 {S : St} {l i n t : Int} (hl : l < S 28 0) (ho : S 10 l = 0) (k : Int) : handS S l i n t 10 k = if S 6 l - n - S 9 l = 0 ∧ k = l then 1 else if k = S 28 0 then 0 else S 10 k := by
  rw [hd_eq, cu_10, hd_rem0 hl ho]; rw [hdX_f S l i n k 10 (by decide), iss_10]
theorem hd_11 {S : St} {l i n t : Int} (hl : l < S 28 0) (ho : S 10 l = 0) (k : Int) : handS S l i n t 11 k = if S 6 l - n - S 9 l = 0 ∧ k = l then t else if k = S 28 0 then -1 else S 11 k := by
  rw [hd_eq, cu_11, hd_rem0 hl ho]; rw [hdX_f S l i n k 11 (by decide), iss_11]
theorem hd_rem {S : St} {l i n t : Int} (hl : l < S 28 0) (ho : S 10 l = 0) (k : Int) : rem (handS S l i n t) k = if k = l then rem S l - n else if k = S 28 0 then n else rem S k := by
  have f6 := hd_6 S l i n t k
  have f9 := hd_f S l i n t k 9 (by decide) (by decide) (by decide)
  rw [iss_9] at f9
  have f10 := hd_10 (i := i) (n := n) (t := t) hl ho k
  unfold rem
  rw [f6, f9, f10]
  by_cases a : k = l
  · subst a; (repeat' split) <;> omega
  · (repeat' split) <;> omega
theorem hd_sums {S : St} {l i n t : Int} (hz : 0 ≤ S 28 0) (hl : 0 ≤ l ∧ l < S 28 0) (ho : S 10 l = 0) : rems (handS S l i n t) (nS S + 1) = rems S (nS S) ∧ sm (handS S l i n t 6) (nS S + 1) = sm (S 6) (nS S) := by
  have e1 : ((l.toNat : Nat) : Int) = l := by omega
  have e2 : ((nS S : Nat) : Int) = S 28 0 := by unfold nS; omega
  constructor
  · unfold rems
    rw [sm, sm_diff (f := rem S) l.toNat (nS S) (by unfold nS; omega) (fun k hk ha => by rw [hd_rem hl.2 ho, if_neg (by omega), if_neg (by omega)]), hd_rem hl.2 ho, hd_rem hl.2 ho, e1, e2, if_pos rfl, if_neg (by omega), if_pos rfl]
    omega
  · rw [sm, sm_diff (f := S 6) l.toNat (nS S) (by unfold nS; omega) (fun k hk ha => by rw [hd_6, if_neg (by omega), if_neg (by omega)]), hd_6, hd_6, e1, e2, if_pos rfl, if_neg (by omega), if_pos rfl]
    omega

set_option maxHeartbeats 1000000 in
theorem Inv.hand {c : Int} {S : St} (h : Inv c S) {l i n : Int} (hl : 0 ≤ l ∧ l < S 28 0) (hi : 0 ≤ i ∧ i < S 27 0) (ho : S 10 l = 0) (hz : S 28 0 < 60) (hn : 1 ≤ n ∧ n ≤ S 6 l - S 9 l) (hn2 : n ≤ 99999) : Inv (c) (handS S l i n (S 25 0)) := by
  have i1 := h.i1
  have l1 := h.li hl
  have lo := h.lio hl ho
  have a1 := h.am hl
  have hs := hd_sums (i := i) (n := n) (t := S 25 0) i1.2.2.1.1 hl ho
  have e28 : ∀ z, (handS S l i n (S 25 0)) 28 z = S 28 0 + 1 := fun z => by rw [hd_f S l i n (S 25 0) z 28 (by decide) (by decide) (by decide), iss_28]
  have en : nS (handS S l i n (S 25 0)) = nS S + 1 := by unfold nS; rw [e28]; omega
  have em : nIm (handS S l i n (S 25 0)) = nIm S := by unfold nIm; rw [hd_f S l i n (S 25 0) 0 27 (by decide) (by decide) (by decide), iss_ne S i (S 5 l) n (S 7 l) (S 8 l) l 27 (by decide) (by decide) (by decide) (by decide) (by decide) (by decide) (by decide) (by decide) (by decide) (by decide) (by decide)]
  have rR : Rg (hdX S l i n) := (h.R.iss ⟨by omega, h.R 5 (by decide) l, by omega, h.R 7 (by decide) l, h.R 8 (by decide) l, by omega⟩ (by omega)).u1 (by omega)
  have e0 : (handS S l i n (S 25 0)) 0 = S 0 := by funext k; rw [hd_f S l i n (S 25 0) k 0 (by decide) (by decide) (by decide), iss_ne S i (S 5 l) n (S 7 l) (S 8 l) l 0 (by decide) (by decide) (by decide) (by decide) (by decide) (by decide) (by decide) (by decide) (by decide) (by decide) (by decide)]
  have e1 : (handS S l i n (S 25 0)) 1 = S 1 := by funext k; rw [hd_f S l i n (S 25 0) k 1 (by decide) (by decide) (by decide), iss_ne S i (S 5 l) n (S 7 l) (S 8 l) l 1 (by decide) (by decide) (by decide) (by decide) (by decide) (by decide) (by decide) (by decide) (by decide) (by decide) (by decide)]
  have e2 : (handS S l i n (S 25 0)) 2 = S 2 := by funext k; rw [hd_f S l i n (S 25 0) k 2 (by decide) (by decide) (by decide), iss_ne S i (S 5 l) n (S 7 l) (S 8 l) l 2 (by decide) (by decide) (by decide) (by decide) (by decide) (by decide) (by decide) (by decide) (by decide) (by decide) (by decide)]
  have e3 : (handS S l i n (S 25 0)) 3 = S 3 := by funext k; rw [hd_f S l i n (S 25 0) k 3 (by decide) (by decide) (by decide), iss_ne S i (S 5 l) n (S 7 l) (S 8 l) l 3 (by decide) (by decide) (by decide) (by decide) (by decide) (by decide) (by decide) (by decide) (by decide) (by decide) (by decide)]
  have e14 : (handS S l i n (S 25 0)) 14 = S 14 := by funext k; rw [hd_f S l i n (S 25 0) k 14 (by decide) (by decide) (by decide), iss_ne S i (S 5 l) n (S 7 l) (S 8 l) l 14 (by decide) (by decide) (by decide) (by decide) (by decide) (by decide) (by decide) (by decide) (by decide) (by decide) (by decide)]
  have e15 : (handS S l i n (S 25 0)) 15 = S 15 := by funext k; rw [hd_f S l i n (S 25 0) k 15 (by decide) (by decide) (by decide), iss_ne S i (S 5 l) n (S 7 l) (S 8 l) l 15 (by decide) (by decide) (by decide) (by decide) (by decide) (by decide) (by decide) (by decide) (by decide) (by decide) (by decide)]
  have e16 : (handS S l i n (S 25 0)) 16 = S 16 := by funext k; rw [hd_f S l i n (S 25 0) k 16 (by decide) (by decide) (by decide), iss_ne S i (S 5 l) n (S 7 l) (S 8 l) l 16 (by decide) (by decide) (by decide) (by decide) (by decide) (by decide) (by decide) (by decide) (by decide) (by decide) (by decide)]
  have e17 : (handS S l i n (S 25 0)) 17 = S 17 := by funext k; rw [hd_f S l i n (S 25 0) k 17 (by decide) (by decide) (by decide), iss_ne S i (S 5 l) n (S 7 l) (S 8 l) l 17 (by decide) (by decide) (by decide) (by decide) (by decide) (by decide) (by decide) (by decide) (by decide) (by decide) (by decide)]
  have e18 : (handS S l i n (S 25 0)) 18 = S 18 := by funext k; rw [hd_f S l i n (S 25 0) k 18 (by decide) (by decide) (by decide), iss_ne S i (S 5 l) n (S 7 l) (S 8 l) l 18 (by decide) (by decide) (by decide) (by decide) (by decide) (by decide) (by decide) (by decide) (by decide) (by decide) (by decide)]
  have e19 : (handS S l i n (S 25 0)) 19 = S 19 := by funext k; rw [hd_f S l i n (S 25 0) k 19 (by decide) (by decide) (by decide), iss_ne S i (S 5 l) n (S 7 l) (S 8 l) l 19 (by decide) (by decide) (by decide) (by decide) (by decide) (by decide) (by decide) (by decide) (by decide) (by decide) (by decide)]
  have e20 : (handS S l i n (S 25 0)) 20 = S 20 := by funext k; rw [hd_f S l i n (S 25 0) k 20 (by decide) (by decide) (by decide), iss_ne S i (S 5 l) n (S 7 l) (S 8 l) l 20 (by decide) (by decide) (by decide) (by decide) (by decide) (by decide) (by decide) (by decide) (by decide) (by decide) (by decide)]
  have e21 : (handS S l i n (S 25 0)) 21 = S 21 := by funext k; rw [hd_f S l i n (S 25 0) k 21 (by decide) (by decide) (by decide), iss_ne S i (S 5 l) n (S 7 l) (S 8 l) l 21 (by decide) (by decide) (by decide) (by decide) (by decide) (by decide) (by decide) (by decide) (by decide) (by decide) (by decide)]
  have e22 : (handS S l i n (S 25 0)) 22 = S 22 := by funext k; rw [hd_f S l i n (S 25 0) k 22 (by decide) (by decide) (by decide), iss_ne S i (S 5 l) n (S 7 l) (S 8 l) l 22 (by decide) (by decide) (by decide) (by decide) (by decide) (by decide) (by decide) (by decide) (by decide) (by decide) (by decide)]
  have e23 : (handS S l i n (S 25 0)) 23 = S 23 := by funext k; rw [hd_f S l i n (S 25 0) k 23 (by decide) (by decide) (by decide), iss_ne S i (S 5 l) n (S 7 l) (S 8 l) l 23 (by decide) (by decide) (by decide) (by decide) (by decide) (by decide) (by decide) (by decide) (by decide) (by decide) (by decide)]
  have e24 : (handS S l i n (S 25 0)) 24 = S 24 := by funext k; rw [hd_f S l i n (S 25 0) k 24 (by decide) (by decide) (by decide), iss_ne S i (S 5 l) n (S 7 l) (S 8 l) l 24 (by decide) (by decide) (by decide) (by decide) (by decide) (by decide) (by decide) (by decide) (by decide) (by decide) (by decide)]
  have e25 : (handS S l i n (S 25 0)) 25 = S 25 := by funext k; rw [hd_f S l i n (S 25 0) k 25 (by decide) (by decide) (by decide), iss_ne S i (S 5 l) n (S 7 l) (S 8 l) l 25 (by decide) (by decide) (by decide) (by decide) (by decide) (by decide) (by decide) (by decide) (by decide) (by decide) (by decide)]
  have e26 : (handS S l i n (S 25 0)) 26 = S 26 := by funext k; rw [hd_f S l i n (S 25 0) k 26 (by decide) (by decide) (by decide), iss_ne S i (S 5 l) n (S 7 l) (S 8 l) l 26 (by decide) (by decide) (by decide) (by decide) (by decide) (by decide) (by decide) (by decide) (by decide) (by decide) (by decide)]
  have e27 : (handS S l i n (S 25 0)) 27 = S 27 := by funext k; rw [hd_f S l i n (S 25 0) k 27 (by decide) (by decide) (by decide), iss_ne S i (S 5 l) n (S 7 l) (S 8 l) l 27 (by decide) (by decide) (by decide) (by decide) (by decide) (by decide) (by decide) (by decide) (by decide) (by decide) (by decide)]
  have e29 : (handS S l i n (S 25 0)) 29 = S 29 := by funext k; rw [hd_f S l i n (S 25 0) k 29 (by decide) (by decide) (by decide), iss_ne S i (S 5 l) n (S 7 l) (S 8 l) l 29 (by decide) (by decide) (by decide) (by decide) (by decide) (by decide) (by decide) (by decide) (by decide) (by decide) (by decide)]
  refine ⟨(by rw [hd_eq]; unfold cuS closeS; split; exact (rR.u1 (by omega)).u1 (h.R 25 (by decide) 0); exact rR), h.cc, ?_, ?_, ?_, ?_, ?_, ?_, ?_, ?_, ?_, ?_, ?_⟩
  · have q := h.2.2.1
    unfold inv1 at q ⊢
    rw [e25, e26, e27, e29, e28]
    exact ⟨q.1, q.2.1, by omega, q.2.2.2.1, q.2.2.2.2.1, fun z => absurd z (by have := h.pos hl; omega)⟩
  · have q := h.2.2.2.1
    simp only [Jvm.Pilot.@@N@@.inv2, e0, e26] at q ⊢
    exact q
  · have q := h.2.2.2.2.1
    simp only [Jvm.Pilot.@@N@@.inv3, e1, e26] at q ⊢
    exact q
  · have q := h.2.2.2.2.2.1
    simp only [Jvm.Pilot.@@N@@.inv4, e2] at q ⊢
    exact q
  · intro k h0 h1
    rw [e28] at h1
    unfold LI
    simp only [e25, e26, e27]
    have f4 := hd_f S l i n (S 25 0) k 4 (by decide) (by decide) (by decide)
    rw [iss_4] at f4
    have f5 := hd_f S l i n (S 25 0) k 5 (by decide) (by decide) (by decide)
    rw [iss_5] at f5
    have f7 := hd_f S l i n (S 25 0) k 7 (by decide) (by decide) (by decide)
    rw [iss_7] at f7
    have f8 := hd_f S l i n (S 25 0) k 8 (by decide) (by decide) (by decide)
    rw [iss_8] at f8
    have f9 := hd_f S l i n (S 25 0) k 9 (by decide) (by decide) (by decide)
    rw [iss_9] at f9
    have f12 := hd_f S l i n (S 25 0) k 12 (by decide) (by decide) (by decide)
    rw [iss_12] at f12
    have f13 := hd_f S l i n (S 25 0) k 13 (by decide) (by decide) (by decide)
    rw [iss_13] at f13
    have f6 := hd_6 S l i n (S 25 0) k
    have f10 := hd_10 (i := i) (n := n) (t := S 25 0) hl.2 ho k
    have f11 := hd_11 (i := i) (n := n) (t := S 25 0) hl.2 ho k
    rw [f4, f5, f6, f7, f8, f9, f10, f11, f12, f13]
    by_cases a : k = l
    · have nm : ¬ k = S 28 0 := by omega
      have lk := h.i5 k h0 (by omega)
      unfold LI at lk
      simp only [nm, a, if_false, if_true, and_true]
      subst a
      simp only [nm, if_false]
      refine ⟨lk.1, lk.2.1, by omega, lk.2.2.2.1, lk.2.2.2.2.1, lk.2.2.2.2.2.1, by split <;> omega, fun z => lo, fun z => by split at z <;> (first | (rw [if_pos (by assumption)]; omega) | exact absurd ho z), lk.2.2.2.2.2.2.2.2.2⟩
    · by_cases b : k = S 28 0
      · simp only [a, b, if_false, if_true, and_false]
        have ln : ¬ S 28 0 = l := by omega
        simp only [ln, if_false, and_false]
        exact ⟨by omega, l1.2.1, by omega, by omega, l1.2.2.2.2.1, l1.2.2.2.2.2.1, by omega, fun _ => lo, fun z => absurd trivial z, by omega⟩
      · simp only [a, b, if_false, and_false]
        exact h.i5 k h0 (by omega)
  · intro o h0 h1
    rw [e26] at h1
    have fo := h.i6 o h0 h1
    unfold FI at fo ⊢
    rw [en, em, hs.1, e14, e25, e28, show lefts (handS S l i n (S 25 0)) o (nIm S) = lefts S o (nIm S) by unfold lefts; rw [e17]]
    omega
  · intro i2 o2 a1 a2 a3 a4
    rw [e27] at a2
    rw [e26] at a4
    have q := h.i7 i2 o2 a1 a2 a3 a4
    unfold PI at q ⊢
    unfold Jvm.Pilot.@@N@@.old at q ⊢
    rw [e15, e16, e17, e18, e2, e28]
    exact ⟨q.1, q.2.1, q.2.2.1, by omega, q.2.2.2.2⟩
  · have q := h.2.2.2.2.2.2.2.2.2.1
    simp only [Jvm.Pilot.@@N@@.inv8, e20, e21, e22] at q ⊢
    exact q
  · have q := h.i9
    unfold inv9 at q ⊢
    rw [en, hs.1, e24, e28]
    omega
  · have q := h.i10
    unfold inv10 at q ⊢
    rw [en, hs.2, e28]
    omega
  · have q := h.2.2.2.2.2.2.2.2.2.2.2.2
    simp only [Jvm.Pilot.@@N@@.inv11, e23] at q ⊢
    exact q

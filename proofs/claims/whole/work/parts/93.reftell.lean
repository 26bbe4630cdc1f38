/-! the reference: a scheme is told -/
abbrev Z0 : St := fun _ _ => 0
theorem Z0_R : Rg Z0 := fun _ _ _ => ⟨by show -2147483648 ≤ (0 : Int); decide, by show (0 : Int) < 2147483648; decide⟩
section BG
variable {T S : St}
theorem srt_T {j : Int} (h : j < 32) : srt (st0S T S) j = srt T j := by
  unfold srt yws; rw [s0_0 T S (by omega), s0_2 T S (by omega), s0_2 T S (by omega), s0_2 T S (by omega)]
theorem old_T {j : Int} (h : j < 32) : Jvm.Pilot.@@N@@.old (st0S T S) j = Jvm.Pilot.@@N@@.old T j := by
  unfold Jvm.Pilot.@@N@@.old; rw [s0_2 T S (by omega), s0_2 T S (by omega), s0_2 T S (by omega)]
theorem allP_T {x : Int} (hx : x < 4) (h8 : T 27 0 ≤ 8) : allP (st0S T S) x (nIm T) = allP T x (nIm T) := by
  unfold allP
  refine sm_congr _ (fun k hk => ?_)
  have : k < (T 27 0).toNat := hk
  show (if srt (st0S T S) (4 * (k : Int) + x) = 1 then Jvm.Pilot.@@N@@.old (st0S T S) (4 * (k : Int) + x) else 0) = (if srt T (4 * (k : Int) + x) = 1 then Jvm.Pilot.@@N@@.old T (4 * (k : Int) + x) else 0)
  rw [srt_T (by omega), old_T (by omega)]
theorem shp_T {x q j : Int} (hx : x < 4) (h8 : T 27 0 ≤ 8) (hj : j < 32) : shp (st0S T S) x q j = shp T x q j := by
  unfold shp; rw [srt_T hj, old_T hj, s0_0 T S (by omega), show nIm (st0S T S) = nIm T from rfl, allP_T hx h8]
theorem prt_T {x q : Int} (hx : x < 4) (h8 : T 27 0 ≤ 8) : prt (st0S T S) x q (nIm T) = prt T x q (nIm T) := by
  unfold prt
  refine sm_congr _ (fun k hk => ?_)
  have : k < (T 27 0).toNat := hk
  exact shp_T hx h8 (by omega)
def figT (T : St) (x w : Int) : Int := if w = 1 then T 1 x else if w = 2 then 0 else if w = 3 then T 1 x - prt T x (T 1 x) (nIm T) + 0 else 0
theorem fig_T {x w : Int} (hx : x < 4) (h8 : T 27 0 ≤ 8) : figF (st0S T S) x w = figT T x w := by
  have ec : cr (st0S T S) x = 0 := by unfold cr; rw [show st0S T S 25 0 = 0 from rfl, if_pos (by decide)]
  unfold figF figT; rw [ec, s0_1 T S hx, show nIm (st0S T S) = nIm T from rfl, prt_T hx h8]
theorem beg_14 {j : Int} (hj : 0 ≤ j ∧ j < 8 * T 26 0) (h4 : T 26 0 ≤ 4) (h8 : T 27 0 ≤ 8) : begS T S 14 j = figT T (j / 8) (j % 8) := by
  show (if 0 ≤ j ∧ j < 8 * (((T 26 0).toNat : Nat) : Int) then figF (st0S T S) (j / 8) (j % 8) else st0S T S 14 j) = _
  rw [if_pos (by omega), fig_T (by omega) h8]
theorem beg_15 {j : Int} (hj : 0 ≤ j ∧ j / 4 < T 27 0 ∧ j % 4 < T 26 0) (h8 : T 27 0 ≤ 8) : begS T S 15 j = srt T j := by
  show (if (0 ≤ j ∧ j < 4 * (((T 27 0).toNat : Nat) : Int)) ∧ j % 4 < (((T 26 0).toNat : Nat) : Int) then srt (st0S T S) j else st0S T S 15 j) = _
  rw [if_pos (by omega), srt_T (by omega)]
theorem beg_18 {j : Int} (hj : 0 ≤ j ∧ j / 4 < T 27 0 ∧ j % 4 < T 26 0) : begS T S 18 j = 0 := by
  show (if (0 ≤ j ∧ j < 4 * (((T 27 0).toNat : Nat) : Int)) ∧ j % 4 < (((T 26 0).toNat : Nat) : Int) then 0 else st0S T S 18 j) = _
  rw [if_pos (by omega)]
theorem beg_16 {j : Int} (hj : 0 ≤ j ∧ j / 4 < T 27 0 ∧ j % 4 < T 26 0) (h8 : T 27 0 ≤ 8) : begS T S 16 j = shp T (j % 4) (T 1 (j % 4)) j := by
  show (if (0 ≤ j ∧ j < 4 * (((T 27 0).toNat : Nat) : Int)) ∧ j % 4 < (((T 26 0).toNat : Nat) : Int) then shp (st0S T S) (j % 4) (st0S T S 1 (j % 4)) j else st0S T S 16 j) = _
  rw [if_pos (by omega), s0_1 T S (by omega), shp_T (by omega) h8 (by omega)]
theorem beg_17 {j : Int} (hj : 0 ≤ j ∧ j / 4 < T 27 0 ∧ j % 4 < T 26 0) (h8 : T 27 0 ≤ 8) : begS T S 17 j = shp T (j % 4) (T 1 (j % 4)) j := by
  show (if (0 ≤ j ∧ j < 4 * (((T 27 0).toNat : Nat) : Int)) ∧ j % 4 < (((T 26 0).toNat : Nat) : Int) then shp (st0S T S) (j % 4) (st0S T S 1 (j % 4)) j else st0S T S 17 j) = _
  rw [if_pos (by omega), s0_1 T S (by omega), shp_T (by omega) h8 (by omega)]
end BG

theorem us_n11 {A B : St} {f : Nat} (hf : f ≠ 11) (h26 : A 26 0 = B 26 0) (h27 : A 27 0 = B 27 0) (h28 : A 28 0 = B 28 0) (h29 : A 29 0 = B 29 0) (i : Int) : us A f i = us B f i := by
  unfold us; rw [h26, h27, h28, h29]; simp only [hf, false_implies]
theorem beg_26 (T S : St) : begS T S 26 0 = T 26 0 := rfl
theorem beg_27 (T S : St) : begS T S 27 0 = T 27 0 := rfl
theorem beg_28 (T S : St) : begS T S 28 0 = 0 := rfl
theorem beg_29 (T S : St) : begS T S 29 0 = 0 := rfl
theorem beg_25 (T S : St) : begS T S 25 0 = 0 := rfl
theorem us_beg {T S S' : St} {f : Nat} (hf : f ≠ 11) {i : Int} (h : us (begS T S) f i) : us (begS T S') f i := by
  rw [us_n11 hf (B := begS T S) (by rw [beg_26, beg_26]) (by rw [beg_27, beg_27]) (by rw [beg_28, beg_28]) (by rw [beg_29, beg_29])]; exact h
theorem beg_us {T S : St} (h4 : T 26 0 ≤ 4) (h8 : T 27 0 ≤ 8) : ∀ (f : Nat) (i : Int), us (begS T S) f i → us (begS T Z0) f i ∧ begS T Z0 f i = begS T S f i
  | 0, i, h => ⟨us_beg (by decide) h, by have q : 0 ≤ i ∧ i < 6 := h; show st0S T Z0 0 i = st0S T S 0 i; rw [s0_0 T Z0 q.2, s0_0 T S q.2]⟩
  | 1, i, h => ⟨us_beg (by decide) h, by have q : 0 ≤ i ∧ i < T 26 0 := h; show st0S T Z0 1 i = st0S T S 1 i; rw [s0_1 T Z0 (by omega), s0_1 T S (by omega)]⟩
  | 2, i, h => ⟨us_beg (by decide) h, by have q : 0 ≤ i ∧ i / 3 / 4 < T 27 0 ∧ i / 3 % 4 < T 26 0 := h; show st0S T Z0 2 i = st0S T S 2 i; rw [s0_2 T Z0 (by omega), s0_2 T S (by omega)]⟩
  | 3, i, h => absurd h (fun z => z)
  | 4, i, h => absurd (show (0 ≤ i ∧ i < 0) ∧ _ from h).1 (by omega)
  | 5, i, h => absurd (show (0 ≤ i ∧ i < 0) ∧ _ from h).1 (by omega)
  | 6, i, h => absurd (show (0 ≤ i ∧ i < 0) ∧ _ from h).1 (by omega)
  | 7, i, h => absurd (show (0 ≤ i ∧ i < 0) ∧ _ from h).1 (by omega)
  | 8, i, h => absurd (show (0 ≤ i ∧ i < 0) ∧ _ from h).1 (by omega)
  | 9, i, h => absurd (show (0 ≤ i ∧ i < 0) ∧ _ from h).1 (by omega)
  | 10, i, h => absurd (show (0 ≤ i ∧ i < 0) ∧ _ from h).1 (by omega)
  | 11, i, h => absurd (show (0 ≤ i ∧ i < 0) ∧ _ from h).1 (by omega)
  | 12, i, h => absurd (show (0 ≤ i ∧ i < 0) ∧ _ from h).1 (by omega)
  | 13, i, h => absurd (show (0 ≤ i ∧ i < 0) ∧ _ from h).1 (by omega)
  | 14, i, h => ⟨us_beg (by decide) h, by have q : 0 ≤ i ∧ i < 8 * T 26 0 ∧ ¬ i % 8 = 0 := h; rw [beg_14 (by omega) h4 h8, beg_14 (by omega) h4 h8]⟩
  | 15, i, h => ⟨us_beg (by decide) h, by rw [beg_15 (show 0 ≤ i ∧ i / 4 < T 27 0 ∧ i % 4 < T 26 0 from h) h8, beg_15 (show 0 ≤ i ∧ i / 4 < T 27 0 ∧ i % 4 < T 26 0 from h) h8]⟩
  | 16, i, h => ⟨us_beg (by decide) h, by rw [beg_16 (show 0 ≤ i ∧ i / 4 < T 27 0 ∧ i % 4 < T 26 0 from h) h8, beg_16 (show 0 ≤ i ∧ i / 4 < T 27 0 ∧ i % 4 < T 26 0 from h) h8]⟩
  | 17, i, h => ⟨us_beg (by decide) h, by rw [beg_17 (show 0 ≤ i ∧ i / 4 < T 27 0 ∧ i % 4 < T 26 0 from h) h8, beg_17 (show 0 ≤ i ∧ i / 4 < T 27 0 ∧ i % 4 < T 26 0 from h) h8]⟩
  | 18, i, h => ⟨us_beg (by decide) h, by rw [beg_18 (show 0 ≤ i ∧ i / 4 < T 27 0 ∧ i % 4 < T 26 0 from h), beg_18 (show 0 ≤ i ∧ i / 4 < T 27 0 ∧ i % 4 < T 26 0 from h)]⟩
  | 19, i, h => absurd (show 0 ≤ i ∧ i / 20 < 0 ∧ _ from h) (by omega)
  | 20, i, h => ⟨us_beg (by decide) h, by have q := (show 0 ≤ i ∧ i / 4 < T 27 0 ∧ i % 4 < T 26 0 from h); show st0S T Z0 20 i = st0S T S 20 i; rw [s0_20 T Z0 q.1 (by omega), s0_20 T S q.1 (by omega)]⟩
  | 21, i, h => ⟨us_beg (by decide) h, by have q : 0 ≤ i ∧ i < 12 * T 27 0 := h; show st0S T Z0 21 i = st0S T S 21 i; rw [s0_21 T Z0 q.1 (by omega), s0_21 T S q.1 (by omega)]⟩
  | 22, i, h => ⟨us_beg (by decide) h, by have q : 0 ≤ i ∧ i < 12 * T 26 0 := h; show st0S T Z0 22 i = st0S T S 22 i; rw [s0_22 T Z0 q.1 (by omega), s0_22 T S q.1 (by omega)]⟩
  | 23, i, h => ⟨us_beg (by decide) h, by have q : 0 ≤ i ∧ i < T 27 0 := h; show st0S T Z0 23 i = st0S T S 23 i; rw [s0_23 T Z0 q.1 (by omega), s0_23 T S q.1 (by omega)]⟩
  | 24, i, h => ⟨us_beg (by decide) h, by have q : 0 ≤ i ∧ i < 5 := h; show st0S T Z0 24 i = st0S T S 24 i; rw [s0_24 T Z0 q.1 (by omega), s0_24 T S q.1 (by omega)]⟩
  | 25, i, h => ⟨us_beg (by decide) h, by have q : 25 ≤ 29 ∧ i = 0 := h; rw [q.2, beg_25, beg_25]⟩
  | 26, i, h => ⟨us_beg (by decide) h, by have q : 26 ≤ 29 ∧ i = 0 := h; rw [q.2, beg_26, beg_26]⟩
  | 27, i, h => ⟨us_beg (by decide) h, by have q : 27 ≤ 29 ∧ i = 0 := h; rw [q.2, beg_27, beg_27]⟩
  | 28, i, h => ⟨us_beg (by decide) h, by have q : 28 ≤ 29 ∧ i = 0 := h; rw [q.2, beg_28, beg_28]⟩
  | 29, i, h => ⟨us_beg (by decide) h, by have q : 29 ≤ 29 ∧ i = 0 := h; rw [q.2, beg_29, beg_29]⟩
  | n + 30, i, h => absurd (us_30 h) (fun z => z)
theorem Ag.beg {T S : St} {r : Int → Int} (h4 : T 26 0 ≤ 4) (h8 : T 27 0 ≤ 8) (h : Ag (begS T Z0) r) : Ag (begS T S) r := by
  intro f i hu
  have q := beg_us h4 h8 f i hu
  rw [h f i q.1, q.2]

theorem HR.ag {T : St} {h r : Int → Int} (H : HR T h) (h4 : T 26 0 ≤ 4) (h8 : T 27 0 ≤ 8) (hr : ∀ k : Int, 0 ≤ k → k < 1216 → r k = h k) : Ag (st0S T Z0) r
  | 0, i, u => by have q : 0 ≤ i ∧ i < 6 := u; show r i = _; rw [hr _ q.1 (by omega), s0_0 T Z0 q.2]; exact H.1 i q.1 q.2
  | 1, i, u => by have q : 0 ≤ i ∧ i < T 26 0 := u; show r (16 + 8 * i) = _; rw [hr _ (by omega) (by omega), s0_1 T Z0 (by omega)]; exact H.2.2.2.1 i q.1 q.2
  | 2, i, u => by have q : 0 ≤ i ∧ i / 3 / 4 < T 27 0 ∧ i / 3 % 4 < T 26 0 := u; show r (48 + 8 * (i / 3) + i % 3) = _; rw [hr _ (by omega) (by omega), s0_2 T Z0 (by omega)]; exact H.2.2.2.2.1 i q.1 (by omega)
  | 3, i, u => absurd u (fun z => z)
  | 4, i, u => absurd (show (0 ≤ i ∧ i < 0) ∧ _ from u).1 (by omega)
  | 5, i, u => absurd (show (0 ≤ i ∧ i < 0) ∧ _ from u).1 (by omega)
  | 6, i, u => absurd (show (0 ≤ i ∧ i < 0) ∧ _ from u).1 (by omega)
  | 7, i, u => absurd (show (0 ≤ i ∧ i < 0) ∧ _ from u).1 (by omega)
  | 8, i, u => absurd (show (0 ≤ i ∧ i < 0) ∧ _ from u).1 (by omega)
  | 9, i, u => absurd (show (0 ≤ i ∧ i < 0) ∧ _ from u).1 (by omega)
  | 10, i, u => absurd (show (0 ≤ i ∧ i < 0) ∧ _ from u).1 (by omega)
  | 11, i, u => absurd (show (0 ≤ i ∧ i < 0) ∧ _ from u).1 (by omega)
  | 12, i, u => absurd (show (0 ≤ i ∧ i < 0) ∧ _ from u).1 (by omega)
  | 13, i, u => absurd (show (0 ≤ i ∧ i < 0) ∧ _ from u).1 (by omega)
  | 14, i, u => by have q : 0 ≤ i ∧ i < 8 * T 26 0 ∧ ¬ i % 8 = 0 := u; show r (16 + i) = _; rw [hr _ (by omega) (by omega), H.2.2.2.2.2 _ (by omega) (by omega) (by omega) (by omega)]; rfl
  | 15, i, u => by have q : 0 ≤ i ∧ i / 4 < T 27 0 ∧ i % 4 < T 26 0 := u; show r (48 + 8 * i + 4) = _; rw [hr _ (by omega) (by omega), H.2.2.2.2.2 _ (by omega) (by omega) (by omega) (by omega)]; rfl
  | 16, i, u => by have q : 0 ≤ i ∧ i / 4 < T 27 0 ∧ i % 4 < T 26 0 := u; show r (48 + 8 * i + 5) = _; rw [hr _ (by omega) (by omega), H.2.2.2.2.2 _ (by omega) (by omega) (by omega) (by omega)]; rfl
  | 17, i, u => by have q : 0 ≤ i ∧ i / 4 < T 27 0 ∧ i % 4 < T 26 0 := u; show r (48 + 8 * i + 6) = _; rw [hr _ (by omega) (by omega), H.2.2.2.2.2 _ (by omega) (by omega) (by omega) (by omega)]; rfl
  | 18, i, u => by have q : 0 ≤ i ∧ i / 4 < T 27 0 ∧ i % 4 < T 26 0 := u; show r (48 + 8 * i + 7) = _; rw [hr _ (by omega) (by omega), H.2.2.2.2.2 _ (by omega) (by omega) (by omega) (by omega)]; rfl
  | 19, i, u => absurd (show 0 ≤ i ∧ i / 20 < 0 ∧ _ from u) (by omega)
  | 20, i, u => by have q : 0 ≤ i ∧ i / 4 < T 27 0 ∧ i % 4 < T 26 0 := u; show r (48 + 8 * i + 3) = _; rw [hr _ (by omega) (by omega), H.2.2.2.2.2 _ (by omega) (by omega) (by omega) (by omega)]; exact (s0_20 T Z0 q.1 (by omega)).symm
  | 21, i, u => by have q : 0 ≤ i ∧ i < 12 * T 27 0 := u; show r (312 + i) = _; rw [hr _ (by omega) (by omega), H.2.2.2.2.2 _ (by omega) (by omega) (by omega) (by omega)]; exact (s0_21 T Z0 q.1 (by omega)).symm
  | 22, i, u => by have q : 0 ≤ i ∧ i < 12 * T 26 0 := u; show r (408 + i) = _; rw [hr _ (by omega) (by omega), H.2.2.2.2.2 _ (by omega) (by omega) (by omega) (by omega)]; exact (s0_22 T Z0 q.1 (by omega)).symm
  | 23, i, u => by have q : 0 ≤ i ∧ i < T 27 0 := u; show r (304 + i) = _; rw [hr _ (by omega) (by omega), H.2.2.2.2.2 _ (by omega) (by omega) (by omega) (by omega)]; exact (s0_23 T Z0 q.1 (by omega)).symm
  | 24, i, u => by have q : 0 ≤ i ∧ i < 5 := u; show r (11 + i) = _; rw [hr _ (by omega) (by omega), H.2.2.2.2.2 _ (by omega) (by omega) (by omega) (by omega)]; exact (s0_24 T Z0 q.1 (by omega)).symm
  | 25, i, u => by have q : 25 ≤ 29 ∧ i = 0 := u; rw [q.2]; show r 9 = 0; rw [hr _ (by omega) (by omega), H.2.2.2.2.2 _ (by omega) (by omega) (by omega) (by omega)]
  | 26, i, u => by have q : 26 ≤ 29 ∧ i = 0 := u; rw [q.2]; show r 6 = T 26 0; rw [hr _ (by omega) (by omega)]; exact H.2.1
  | 27, i, u => by have q : 27 ≤ 29 ∧ i = 0 := u; rw [q.2]; show r 7 = T 27 0; rw [hr _ (by omega) (by omega)]; exact H.2.2.1
  | 28, i, u => by have q : 28 ≤ 29 ∧ i = 0 := u; rw [q.2]; show r 8 = 0; rw [hr _ (by omega) (by omega), H.2.2.2.2.2 _ (by omega) (by omega) (by omega) (by omega)]
  | 29, i, u => by have q : 29 ≤ 29 ∧ i = 0 := u; rw [q.2]; show r 10 = 0; rw [hr _ (by omega) (by omega), H.2.2.2.2.2 _ (by omega) (by omega) (by omega) (by omega)]
  | n + 30, i, u => absurd (us_30 u) (fun z => z)
def clh (h : Int → Int) (k : Nat) : Int → Int := fun j => if 0 ≤ j ∧ j < (k : Int) then 0 else h j
theorem clh_0 (h : Int → Int) : clh h 0 = h := by funext j; unfold clh; rw [if_neg (by omega)]
theorem clh_s (h : Int → Int) (k : Nat) : uz (clh h k) (k : Int) 0 = clh h (k + 1) := by
  funext j; unfold uz clh
  by_cases e : j = (k : Int)
  · rw [if_pos e, if_pos (by omega)]
  · rw [if_neg e]
    by_cases e2 : 0 ≤ j ∧ j < (k : Int)
    · rw [if_pos e2, if_pos (by omega)]
    · rw [if_neg e2, if_neg (by omega)]
theorem clh_L {V : St} (hL : RgL V) (k : Nat) : RgL (vr V 0 (-1) (V 14) (clh (V 1) k)) := by
  refine ((((hL.u0 (by omega)).u0 (by omega)).sset (fun j => hL 14 j)).sset (fun j => ?_))
  unfold clh; split
  · exact ⟨by omega, by omega⟩
  · exact hL 1 j
theorem vr_0 (V : St) (a g : Int) : vr V a g (V 14) (V 1) = u0 (u0 V 12 a) 13 g := by
  funext f j; unfold vr u0 sset kf
  by_cases h1 : f = 1
  · simp [h1]
  · by_cases h2 : f = 14
    · simp [h2]
    · simp [h1, h2]
theorem vr_11 (V : St) (a g : Int) (m h : Int → Int) (x : Int) : vr (u0 V 11 x) a g m h = u0 (vr V a g m h) 11 x := by
  funext f j; unfold vr u0 sset kf
  by_cases h1 : f = 1
  · simp [h1]
  · by_cases h2 : f = 14
    · simp [h2]
    · by_cases h3 : f = 13
      · simp [h3]
      · by_cases h4 : f = 12
        · simp [h4]
        · by_cases h5 : f = 11 <;> simp [h1, h2, h3, h4, h5]
theorem HR.clr {A : St} (h : Int → Int) : HR (clrT A) (clh h 1216) := by
  refine ⟨fun w h0 h1 => ?_, ?_, ?_, fun x h0 h1 => ?_, fun j h0 h1 => ?_, fun j h0 h1 h2 h3 => ?_⟩
  · show (if _ then (0 : Int) else _) = clS (clS (clS A 0 6) 1 4) 2 96 0 w
    rw [if_pos (by omega), clS_at, if_neg (by omega), clS_at, if_neg (by omega), clS_at, if_pos (by omega)]
  · show (if _ then (0 : Int) else _) = 0
    rw [if_pos (by omega)]
  · show (if _ then (0 : Int) else _) = 0
    rw [if_pos (by omega)]
  · have : x < 0 := h1
    omega
  · show (if _ then (0 : Int) else _) = clS (clS (clS A 0 6) 1 4) 2 96 2 j
    rw [if_pos (by omega), clS_at, if_pos (by omega)]
  · show (if _ then (0 : Int) else _) = 0
    rw [if_pos (by omega)]
theorem rp_nF {B : Int → Int} {n lo hi a : Int} {p : Int × Int × St} {h : Int → Int} (r : RP n p a h) : nF B n lo hi a p.2.1 = nF B n lo hi p.1 p.2.1 := by
  by_cases f : p.2.1 = 0
  · rw [(r.2 f).1]
  · unfold nF; rw [if_neg f, if_neg f]
theorem rp_trm {B : Int → Int} {n a : Int} {p0 : Int × Int × St} {k : Nat} {h : Int → Int} (hk : k < 6) (r : RP n (trm B n p0 k) a h) : RP n (trm B n p0 (k + 1)) (nA B n a (trm B n p0 k).2.1) (uz h k (nU B n (tL k) (tM k) a (trm B n p0 k).2.1)) := by
  have na := nA_in (B := B) (n := n) (a := a) (f := (trm B n p0 k).2.1) r.1
  have r1 := r.1
  refine ⟨by omega, fun z => ?_⟩
  have z1 : nF B n (tL k) (tM k) (trm B n p0 k).1 (trm B n p0 k).2.1 = 0 := z
  have z2 := z1
  rw [← rp_nF r] at z2
  have f0 := (nV_ok z2 r.1).1
  obtain ⟨e, H⟩ := r.2 f0
  refine ⟨by rw [e]; rfl, ?_⟩
  have eU : nU B n (tL k) (tM k) a (trm B n p0 k).2.1 = nV B n (tL k) (tM k) (trm B n p0 k).1 (trm B n p0 k).2.1 := by
    unfold nU; rw [if_pos z2, e]
  rw [eU]
  exact H.trm (by omega)
theorem tL_if {w : Int} (h : 0 ≤ w ∧ w ≤ 5) : (if w = 1 ∨ w = 2 ∨ w = 5 then 1 else 0) = tL w := by
  rcases (show w = 0 ∨ w = 1 ∨ w = 2 ∨ w = 3 ∨ w = 4 ∨ w = 5 by omega) with rfl | rfl | rfl | rfl | rfl | rfl <;> decide
theorem tM_if {w : Int} (h : 0 ≤ w ∧ w ≤ 5) : (if w = 1 then 99999 else if w = 2 then 90 else if w = 4 then 2000 else if w = 5 then 3 else 100) = tM w := by
  rcases (show w = 0 ∨ w = 1 ∨ w = 2 ∨ w = 3 ∨ w = 4 ∨ w = 5 by omega) with rfl | rfl | rfl | rfl | rfl | rfl <;> decide
theorem sep_ok {B : Int → Int} {n a : Int} (h : a < n ∧ B a = 59) : sepA B n a 0 = a + 1 ∧ sepF B n a 0 = 0 := by
  unfold sepA sepF; rw [if_pos ⟨rfl, h⟩, if_pos rfl, if_pos h]; exact ⟨rfl, rfl⟩
theorem sep_no {B : Int → Int} {n a : Int} (h : ¬ (a < n ∧ B a = 59)) : sepA B n a 0 = a ∧ sepF B n a 0 = 8 * a + 1 := by
  unfold sepA sepF; rw [if_neg (fun z => h z.2), if_pos rfl, if_neg h]; exact ⟨rfl, rfl⟩
/-- what the loop over pieces comes to where no separator stands -/
theorem lop_x {B : Int → Int} {n : Int} {p : Int × Int × St} (g : Nat) (h0 : p.2.1 = 0) (hs : skb B n p.1 = p.1) (hx : ¬ (p.1 < n ∧ B p.1 = 59)) (hp : 0 ≤ p.1) (hl : ¬ n ≤ p.1) : lop B n (g + 1) p = (p.1, 8 * p.1 + 1, p.2.2) := by
  rw [lop_s h0 (by omega), hs, (sep_no hx).1, (sep_no hx).2]
  have e : pce B n (p.1, 8 * p.1 + 1, p.2.2) = (p.1, 8 * p.1 + 1, p.2.2) := by
    unfold pce; rw [if_neg (by show ¬ 8 * p.1 + 1 = 0; omega)]
  rw [e]
  exact lop_f (by show ¬ 8 * p.1 + 1 = 0; omega) g
def VO (V V2 : St) : Prop := ∀ f : Nat, f ≠ 0 → f ≠ 1 → f ≠ 10 → f ≠ 11 → f ≠ 12 → f ≠ 13 → f ≠ 14 → V2 f = V f
theorem vr_ne (V : St) (a g : Int) (m h : Int → Int) {f : Nat} (h1 : f ≠ 1) (h12 : f ≠ 12) (h13 : f ≠ 13) (h14 : f ≠ 14) : vr V a g m h f = V f := by
  unfold vr u0; rw [sset_ne _ _ h1, sset_ne _ _ h14, sset_ne _ _ h13, sset_ne _ _ h12]
theorem VO.mk0 (V : St) (a g : Int) (m h : Int → Int) : VO V (vr (u0 V 11 0) a g m h) := by
  intro f h0 h1 h10 h11 h12 h13 h14
  rw [vr_ne _ _ _ _ _ h1 h12 h13 h14]; unfold u0; rw [sset_ne _ _ h11]
theorem VO.mk1 {V V2 : St} {a g : Int} {m h : Int → Int} (x : VX (u0 (mv (vr (u0 V 11 0) a g m h) 0 1 0 0) 10 0) V2) : VO V V2 := by
  intro f h0 h1 h10 h11 h12 h13 h14
  rw [x f h0]; unfold u0; rw [sset_ne _ _ h10, mv_ne _ h0]
  exact VO.mk0 V a g m h f h0 h1 h10 h11 h12 h13 h14

set_option maxHeartbeats 1000000 in
theorem j_X11_tell_160 {Γ : GT} {S T U V A S0 : St} {G : Gw} {nx d : Nat} {Q : QT} (hnx : 52 ≤ nx) {a : Int} {m h : Int → Int} {e : Int × Int × St} (hPe : PIn (V 11 0) e) (hRe : RP (V 11 0) e a h) (hrt : (rtx (V 6) (V 11 0) A) = e) (hB : ∀ j : Int, -128 ≤ V 6 j ∧ V 6 j ≤ 127) (hn : 0 ≤ V 11 0 ∧ V 11 0 ≤ 400) (hRA : Rg A) (hN : ∀ (V2 : St) (r : Int), ¬ rdF (V 11 0) (rtx (V 6) (V 11 0) A) = 0 → VO V V2 → V2 0 = V 0 → V2 10 = V 10 → V2 11 0 = 0 → RgL V2 → r = -2 - rdF (V 11 0) (rtx (V 6) (V 11 0) A) → Q (some (vi r)) (hp Γ S T U V2 G) nx) (hL : RgL (vr V a (ff (rdF (V 11 0) e)) m h)) (hQ : ∀ (V2 : St) (r : Int), rdF (V 11 0) (rtx (V 6) (V 11 0) A) = 0 → VO V V2 → V2 10 0 = 0 → V2 11 0 = 0 → RgL V2 → Ag (begS (rtx (V 6) (V 11 0) A).2.2 S0) (V2 0) → r = (rtx (V 6) (V 11 0) A).2.2 26 0 → Q (some (vi r)) (hp Γ S T U V2 G) nx) : AW Γ MX11_tell (rmm (d + 7, 0, 0)) (MF Γ Q (d + 7, 0, 0)) (0, 0) 160 [some (rf Γ 43), none] [] (hp Γ S T U (vr V a (ff (rdF (V 11 0) e)) m h) G) nx := by
  have rd := rdF_in hn hPe
  have f0 := ff_0 rd.1
  have hR1 := hRe.1
  refine aw_aload_n dX11_tell_160 rfl ?_
  refine aw_iconst dX11_tell_161 ?_
  refine aw_putV fp_X11_64 dX11_tell_162 (hc43 hnx) (Nat.le_of_ble_eq_true rfl) hL (by omega) hu43_11 (fun hL => ?_)
  refine aw_hp (V' := (vr (u0 V 11 0) a (ff (rdF (V 11 0) e)) m h)) rfl rfl rfl (vr_11 V _ _ _ _ _) rfl ?_
  replace hL : RgL (vr (u0 V 11 0) a (ff (rdF (V 11 0) e)) m h) := by rw [vr_11]; exact hL
  refine aw_aload_n dX11_tell_165 rfl ?_
  refine aw_callV (As := []) (ρ := (_, 0, 0)) (kn' := (0, 0)) cv_X11_81 dX11_tell_166 rfl rfl (hc43 hnx) rfl rfl (Nat.le_of_ble_eq_true rfl) (rmR _ _ _) ⟨Nat.le_refl _, Nat.le_refl _⟩ rfl (c_X11_isRight hnx (ff_in (by omega)) (fun r166 h166 => ?_))
  rcases h166 with ⟨rfl, h166⟩ | ⟨rfl, h166⟩
  · skip
    refine aw_if_ne (tgt := 180) dX11_tell_169 rfl (by decide) (fun _ => ?_) (fun c => absurd c (by decide))
    have w0 : rdF (V 11 0) e = 0 := f0.mp h166
    have e0 : e.2.1 = 0 := by have := w0; unfold rdF at this; split at this <;> omega
    obtain ⟨ea, H⟩ := hRe.2 e0
    have v := rtx_V (B := V 6) hn hRA (by rw [hrt]; exact w0)
    rw [hrt] at v
    obtain ⟨v, vR⟩ := v
    have v1 := v.1
    have v2 := v.2.1
    refine aw_aload_n dX11_tell_180 rfl ?_
    refine aw_getf fg_X11_13 dX11_tell_181 (hc43 hnx) rfl ?_
    refine aw_iconst dX11_tell_184 ?_
    refine aw_aload_n dX11_tell_185 rfl ?_
    refine aw_getf fg_X11_9 dX11_tell_186 (hc43 hnx) rfl ?_
    refine aw_iconst dX11_tell_189 ?_
    refine aw_callS (As := [_, _, _, _]) (ρ := (_, 0, 0)) (kn' := (0, 0)) cs_X11_154 dX11_tell_190 rfl rfl (Nat.le_of_ble_eq_true rfl) (rmR _ _ _) ⟨Nat.le_refl _, Nat.le_refl _⟩ rfl (c_X11_moves_1_0 hnx hL (by omega) (by omega) (fun hL => ?_))
    refine aw_aload_n dX11_tell_193 rfl ?_
    refine aw_iconst dX11_tell_194 ?_
    refine aw_putV fp_X11_158 dX11_tell_195 (hc43 hnx) (Nat.le_of_ble_eq_true rfl) hL (by omega) hu43_10 (fun hL => ?_)
    have eh : ∀ k : Int, 0 ≤ k → k < 1216 → (u0 (mv (vr (u0 V 11 0) a (ff (rdF (V 11 0) e)) m h) 0 1 0 0) 10 0) 0 k = h k := fun k k0 k1 => by show mv (vr (u0 V 11 0) a (ff (rdF (V 11 0) e)) m h) 0 1 0 0 0 k = h k; have q := mv_at (vr (u0 V 11 0) a (ff (rdF (V 11 0) e)) m h) 0 1 0 0 k ⟨k0, k1⟩; rw [show 1216 * 0 + k = k by omega] at q; exact q
    have hAg := H.ag (by omega) (by omega) eh
    have iq := beg_Q (c := 1) vR Z0_R (by omega) v
    have ip := iq.p (by show 0 < e.2.2 26 0; omega)
    have t5 : 1 ≤ st0S e.2.2 Z0 0 5 := by rw [s0_0 _ _ (by omega)]; exact (v.2.2.1 5 (by omega) (by omega)).1
    refine aw_aload_n dX11_tell_198 rfl ?_
    refine aw_callV (As := []) (ρ := (_, 0, 0)) (kn' := (0, 0)) cv_X11_161 dX11_tell_199 rfl rfl (hc43 hnx) rfl rfl (Nat.le_of_ble_eq_true rfl) (rmR _ _ _) ⟨Nat.le_refl _, Nat.le_refl _⟩ rfl (c_X11_periodBegins hnx hAg (show bd (st0S e.2.2 Z0) from ⟨⟨by show 0 ≤ e.2.2 26 0; omega, by show e.2.2 26 0 ≤ 4; omega⟩, ⟨by show 0 ≤ e.2.2 27 0; omega, by show e.2.2 27 0 ≤ 8; omega⟩, ⟨by show (0 : Int) ≤ 0; omega, by show (0 : Int) ≤ 60; omega⟩, ⟨by show (0 : Int) ≤ 0; omega, by show (0 : Int) ≤ 8; omega⟩⟩) hL ip t5 (fun V199 hx199 hL hAg199 => ?_))
    have ag := hAg199
    have a10 : V199 10 0 = 0 := by rw [hx199 10 (by decide)]; rfl
    have a11 : V199 11 0 = 0 := by rw [hx199 11 (by decide)]; rfl
    refine aw_aload_n dX11_tell_202 rfl ?_
    refine aw_bipush dX11_tell_203 rfl ?_
    refine aw_callV (As := [_]) (ρ := (_, 0, 0)) (kn' := (0, 0)) cv_X11_164 dX11_tell_205 rfl rfl (hc43 hnx) rfl rfl (Nat.le_of_ble_eq_true rfl) (rmR _ _ _) ⟨Nat.le_refl _, Nat.le_refl _⟩ rfl (c_X11_many hnx hL (by omega) (fun r205 h205 => ?_))
    have e6 : V199 0 6 = e.2.2 26 0 := ag.c6
    exact aw_ireturn dX11_tell_208 rfl rfl ⟨Nat.le_refl _, Nat.le_refl _⟩ (hQ V199 _ (by rw [hrt]; exact w0) (VO.mk1 hx199) a10 a11 hL (by rw [hrt]; exact ag.beg (by omega) (by omega)) (by rw [hrt]; omega))
  · skip
    refine aw_if_ne (tgt := 180) dX11_tell_169 rfl (by decide) (fun c => absurd c (by decide)) (fun _ => ?_)
    refine aw_bipush dX11_tell_172 rfl ?_
    refine aw_aload_n dX11_tell_174 rfl ?_
    refine aw_getf fg_X11_78 dX11_tell_175 (hc43 hnx) rfl ?_
    refine aw_sv (a := ff (rdF (V 11 0) e)) (rfl) ?_
    refine aw_isub dX11_tell_178 ?_
    have w0 : ¬ rdF (V 11 0) e = 0 := fun z => h166 (f0.mpr z)
    have wf : ff (rdF (V 11 0) e) = rdF (V 11 0) e := by unfold ff; rw [if_neg w0]
    exact aw_ireturn dX11_tell_179 rfl rfl ⟨Nat.le_refl _, Nat.le_refl _⟩ (hN _ _ (by rw [hrt]; exact w0) (VO.mk0 V _ _ _ _) (vr_ne _ _ _ _ _ (by decide) (by decide) (by decide) (by decide)) (vr_ne _ _ _ _ _ (by decide) (by decide) (by decide) (by decide)) rfl hL (by rw [hrt]; omega))

theorem rdF_0 {n : Int} {e : Int × Int × St} (h : e.2.1 = 0 → e.2.2 26 0 = 0) : rdF n e = (if e.2.1 = 0 then 8 * n + 4 else e.2.1) := by
  unfold rdF
  by_cases z : e.2.1 = 0
  · rw [if_pos ⟨z, h z⟩, if_pos z]
  · rw [if_neg (fun q => z q.1), if_neg z]
section AWV
variable {Γ : GT} {M : MD} {R : Room} {Φ : PH} {kn : Nat × Nat} {pc : Nat} {ls : List (Option Value)} {st : List Value} {nx : Nat} {S T U V V' : St} {G : Gw}
theorem aw_hpV (e : V' = V) (k : AW Γ M R Φ kn pc ls st (hp Γ S T U V' G) nx) : AW Γ M R Φ kn pc ls st (hp Γ S T U V G) nx := e ▸ k
end AWV

set_option maxHeartbeats 1000000 in
theorem j_X11_tell_139 {Γ : GT} {S T U V A S0 : St} {G : Gw} {nx d : Nat} {Q : QT} (hnx : 52 ≤ nx) {a : Int} {m h : Int → Int} {e : Int × Int × St} (hPe : PIn (V 11 0) e) (hRe : RP (V 11 0) e a h) (hrt : (rtx (V 6) (V 11 0) A) = e) (hB : ∀ j : Int, -128 ≤ V 6 j ∧ V 6 j ≤ 127) (hn : 0 ≤ V 11 0 ∧ V 11 0 ≤ 400) (hRA : Rg A) (hN : ∀ (V2 : St) (r : Int), ¬ rdF (V 11 0) (rtx (V 6) (V 11 0) A) = 0 → VO V V2 → V2 0 = V 0 → V2 10 = V 10 → V2 11 0 = 0 → RgL V2 → r = -2 - rdF (V 11 0) (rtx (V 6) (V 11 0) A) → Q (some (vi r)) (hp Γ S T U V2 G) nx) (hL : RgL (vr V a (ff e.2.1) m h))  (hQ : ∀ (V2 : St) (r : Int), rdF (V 11 0) (rtx (V 6) (V 11 0) A) = 0 → VO V V2 → V2 10 0 = 0 → V2 11 0 = 0 → RgL V2 → Ag (begS (rtx (V 6) (V 11 0) A).2.2 S0) (V2 0) → r = (rtx (V 6) (V 11 0) A).2.2 26 0 → Q (some (vi r)) (hp Γ S T U V2 G) nx) : AW Γ MX11_tell (rmm (d + 7, 0, 0)) (MF Γ Q (d + 7, 0, 0)) (0, 0) 139 [some (rf Γ 43), none] [] (hp Γ S T U (vr V a (ff e.2.1) m h) G) nx := by
  have hp2 := hPe.2.1
  have hR1 := hRe.1
  have rd := rdF_in hn hPe
  refine aw_aload_n dX11_tell_139 rfl ?_
  refine aw_getf fg_X11_13 dX11_tell_140 (hc43 hnx) rfl ?_
  refine aw_bipush dX11_tell_143 rfl ?_
  refine aw_laldr dX11_tell_145 (hc45 hnx) (by omega) (by decide) (hL 1) (fun q145 => ?_)
  have hL6 : inL (h 6) := hL 1 6
  refine aw_svl (a := h 6) rfl ?_
  refine aw_lconst0 dX11_tell_146 ?_
  refine aw_lif_ne (tgt := 160) dX11_tell_147 dX11_tell_148 rfl (by omega) (fun c147 => ?_) (fun c147 => ?_)
  · skip
    exact aw_hpV (by rw [show rdF (V 11 0) e = e.2.1 by unfold rdF; rw [if_neg (fun z => c147 (by rw [(hRe.2 z.1).2.2.1]; exact z.2))]]) (j_X11_tell_160 hnx hPe hRe hrt hB hn hRA hN (by rw [show rdF (V 11 0) e = e.2.1 by unfold rdF; rw [if_neg (fun z => c147 (by rw [(hRe.2 z.1).2.2.1]; exact z.2))]]; exact hL) hQ)
  · skip
    refine aw_aload_n dX11_tell_151 rfl ?_
    refine aw_iconst dX11_tell_152 ?_
    refine aw_aload_n dX11_tell_153 rfl ?_
    refine aw_getf fg_X11_64 dX11_tell_154 (hc43 hnx) rfl ?_
    refine aw_sv (a := V 11 0) (rfl) ?_
    refine aw_callV (As := [_, _]) (ρ := (_, 0, 0)) (kn' := (0, 0)) cv_X11_109 dX11_tell_157 rfl rfl (hc43 hnx) rfl rfl (Nat.le_of_ble_eq_true rfl) (rmR _ _ _) ⟨Nat.le_refl _, Nat.le_refl _⟩ rfl (c_X11_fails hnx (ff_in (by omega)) (by omega) (by omega) hL (fun hL => ?_))
    have eR : rdF (V 11 0) e = (if e.2.1 = 0 then 8 * V 11 0 + 4 else e.2.1) := rdF_0 (fun z => by rw [← (hRe.2 z).2.2.1]; exact c147)
    exact aw_hpV (show vr V a (ff (rdF (V 11 0) e)) m h = vr V a (fz (ff e.2.1) (8 * V 11 0 + 4)) m h by rw [fz_ff hp2.1 (by omega), eR]) (j_X11_tell_160 hnx hPe hRe hrt hB hn hRA hN (by rw [eR, ← fz_ff hp2.1 (by omega)]; exact hL) hQ)

set_option maxHeartbeats 1000000 in
theorem j_X11_tell_115 {Γ : GT} {S T U V A S0 : St} {G : Gw} {nx d : Nat} {Q : QT} (hnx : 52 ≤ nx) {a : Int} {m h : Int → Int} {p : Int × Int × St} {g : Nat} (hPp : PIn (V 11 0) p) (hRp : RP (V 11 0) p a h) (hrt : (rtx (V 6) (V 11 0) A) = lop (V 6) (V 11 0) (g + 1) p) (hx : p.2.1 = 0 → skb (V 6) (V 11 0) p.1 = p.1 ∧ ¬ (p.1 < V 11 0 ∧ V 6 p.1 = 59)) (hB : ∀ j : Int, -128 ≤ V 6 j ∧ V 6 j ≤ 127) (hn : 0 ≤ V 11 0 ∧ V 11 0 ≤ 400) (hRA : Rg A) (hN : ∀ (V2 : St) (r : Int), ¬ rdF (V 11 0) (rtx (V 6) (V 11 0) A) = 0 → VO V V2 → V2 0 = V 0 → V2 10 = V 10 → V2 11 0 = 0 → RgL V2 → r = -2 - rdF (V 11 0) (rtx (V 6) (V 11 0) A) → Q (some (vi r)) (hp Γ S T U V2 G) nx) (hL : RgL (vr V a (ff p.2.1) m h))  (hQ : ∀ (V2 : St) (r : Int), rdF (V 11 0) (rtx (V 6) (V 11 0) A) = 0 → VO V V2 → V2 10 0 = 0 → V2 11 0 = 0 → RgL V2 → Ag (begS (rtx (V 6) (V 11 0) A).2.2 S0) (V2 0) → r = (rtx (V 6) (V 11 0) A).2.2 26 0 → Q (some (vi r)) (hp Γ S T U V2 G) nx) : AW Γ MX11_tell (rmm (d + 7, 0, 0)) (MF Γ Q (d + 7, 0, 0)) (0, 0) 115 [some (rf Γ 43), none] [] (hp Γ S T U (vr V a (ff p.2.1) m h) G) nx := by
  have hp2 := hPp.2.1
  have hp1 := hPp.1
  have sg := sgn_or (V 6) (V 11 0) p.1
  have b9 := hB p.1
  refine aw_aload_n dX11_tell_115 rfl ?_
  refine aw_callV (As := []) (ρ := (_, 0, 0)) (kn' := (0, 0)) cv_X11_81 dX11_tell_116 rfl rfl (hc43 hnx) rfl rfl (Nat.le_of_ble_eq_true rfl) (rmR _ _ _) ⟨Nat.le_refl _, Nat.le_refl _⟩ rfl (c_X11_isRight hnx (ff_in (by omega)) (fun r116 h116 => ?_))
  rcases h116 with ⟨rfl, h116⟩ | ⟨rfl, h116⟩
  · skip
    refine aw_if_eq (tgt := 139) dX11_tell_119 rfl (by decide) (fun c => absurd c (by decide)) (fun _ => ?_)
    have f0 : p.2.1 = 0 := (ff_0 hp2.1).mp h116
    obtain ⟨ea, HH⟩ := hRp.2 f0
    subst ea
    have hx0 := hx f0
    refine aw_aload_n dX11_tell_122 rfl ?_
    refine aw_callV (As := []) (ρ := (_, 0, 0)) (kn' := (0, 0)) cv_X11_85 dX11_tell_123 rfl rfl (hc43 hnx) rfl rfl (Nat.le_of_ble_eq_true rfl) (rmR _ _ _) ⟨Nat.le_refl _, Nat.le_refl _⟩ rfl (c_X11_next hnx hB hn (by omega) hL (fun r123 h123 hL => ?_))
    rw [hx0.1] at h123 hL ⊢
    refine aw_iconst dX11_tell_126 ?_
    refine aw_icmp_eq (tgt := 139) dX11_tell_127 rfl (by omega) (fun c127 => ?_) (fun c127 => ?_)
    · skip
      exact j_X11_tell_139 (e := p) hnx hPp hRp (by rw [hrt, lop_e f0 (by omega), hx0.1]; exact Prod.ext rfl (Prod.ext f0.symm rfl)) hB hn hRA hN hL hQ
    · skip
      refine aw_aload_n dX11_tell_130 rfl ?_
      refine aw_iconst dX11_tell_131 ?_
      refine aw_aload_n dX11_tell_132 rfl ?_
      refine aw_getf fg_X11_71 dX11_tell_133 (hc43 hnx) rfl ?_
      refine aw_sv (a := p.1) (rfl) ?_
      refine aw_callV (As := [_, _]) (ρ := (_, 0, 0)) (kn' := (0, 0)) cv_X11_109 dX11_tell_136 rfl rfl (hc43 hnx) rfl rfl (Nat.le_of_ble_eq_true rfl) (rmR _ _ _) ⟨Nat.le_refl _, Nat.le_refl _⟩ rfl (c_X11_fails hnx (ff_in (by omega)) (by omega) (by omega) hL (fun hL => ?_))
      exact aw_hpV (show vr V p.1 (ff (8 * p.1 + 1)) m h = vr V p.1 (fz (ff p.2.1) (8 * p.1 + 1)) m h by rw [fz_ff hp2.1 (by omega), if_pos f0]) (j_X11_tell_139 (e := (p.1, 8 * p.1 + 1, p.2.2)) hnx ⟨hPp.1, by show 0 ≤ 8 * p.1 + 1 ∧ 8 * p.1 + 1 ≤ 4000; omega, hPp.2.2⟩ ⟨hPp.1, fun z => absurd (show 8 * p.1 + 1 = 0 from z) (by omega)⟩ (by rw [hrt]; exact lop_x g f0 hx0.1 hx0.2 (by omega) (by omega)) hB hn hRA hN (by show RgL (vr V p.1 (ff (8 * p.1 + 1)) m h); rw [show ff (8 * p.1 + 1) = fz (ff p.2.1) (8 * p.1 + 1) by rw [fz_ff hp2.1 (by omega), if_pos f0]]; exact hL) hQ)
  · skip
    refine aw_if_eq (tgt := 139) dX11_tell_119 rfl (by decide) (fun _ => ?_) (fun c => absurd c (by decide))
    exact j_X11_tell_139 (e := p) hnx hPp hRp (by rw [hrt]; exact lop_f (fun z => h116 ((ff_0 hp2.1).mpr z)) _) hB hn hRA hN hL hQ

theorem lop_k {B : Int → Int} {n : Int} {p : Int × Int × St} {g : Nat} (h : p.2.1 = 0) (hs : skb B n (skb B n p.1) = skb B n p.1) : lop B n (g + 1) p = lop B n (g + 1) (skb B n p.1, 0, p.2.2) := by
  by_cases he : n ≤ skb B n p.1
  · rw [lop_e h he, lop_e (p := (skb B n p.1, 0, p.2.2)) rfl (by show n ≤ skb B n (skb B n p.1); rw [hs]; exact he)]
    show _ = (skb B n (skb B n p.1), 0, p.2.2); rw [hs]
  · rw [lop_s h he, lop_s (p := (skb B n p.1, 0, p.2.2)) rfl (by show ¬ n ≤ skb B n (skb B n p.1); rw [hs]; exact he)]
    show _ = lop B n g (pce B n (sepA B n (skb B n (skb B n p.1)) 0, sepF B n (skb B n (skb B n p.1)) 0, p.2.2)); rw [hs]

set_option maxHeartbeats 1000000 in
theorem j_X11_tell_50 {Γ : GT} {S T U V A S0 : St} {G : Gw} {nx d : Nat} {Q : QT} (hnx : 52 ≤ nx) {a : Int} {m h : Int → Int} {p0 : Int × Int × St} (hP0 : PIn (V 11 0) p0) (hR0 : RP (V 11 0) p0 a h) (hrt : (rtx (V 6) (V 11 0) A) = lop (V 6) (V 11 0) 401 (trm (V 6) (V 11 0) p0 6)) (hB : ∀ j : Int, -128 ≤ V 6 j ∧ V 6 j ≤ 127) (hn : 0 ≤ V 11 0 ∧ V 11 0 ≤ 400) (hRA : Rg A) (hN : ∀ (V2 : St) (r : Int), ¬ rdF (V 11 0) (rtx (V 6) (V 11 0) A) = 0 → VO V V2 → V2 0 = V 0 → V2 10 = V 10 → V2 11 0 = 0 → RgL V2 → r = -2 - rdF (V 11 0) (rtx (V 6) (V 11 0) A) → Q (some (vi r)) (hp Γ S T U V2 G) nx) (hL : RgL (vr V a (ff p0.2.1) m h))  (hQ : ∀ (V2 : St) (r : Int), rdF (V 11 0) (rtx (V 6) (V 11 0) A) = 0 → VO V V2 → V2 10 0 = 0 → V2 11 0 = 0 → RgL V2 → Ag (begS (rtx (V 6) (V 11 0) A).2.2 S0) (V2 0) → r = (rtx (V 6) (V 11 0) A).2.2 26 0 → Q (some (vi r)) (hp Γ S T U V2 G) nx) : AW Γ MX11_tell (rmm (d + 7, 0, 0)) (MF Γ Q (d + 7, 0, 0)) (0, 0) 50 [some (rf Γ 43), none] [] (hp Γ S T U (vr V a (ff p0.2.1) m h) G) nx := by
  refine aw_iconst dX11_tell_50 ?_
  refine aw_istore_n (ls' := [some (rf Γ 43), some _]) dX11_tell_51 (by decide) rfl ?_
  refine loopN (6) (P := fun k => ∀  (a2 : Int) (m2 h2 : Int → Int), RP (V 11 0) (trm (V 6) (V 11 0) p0 k) a2 h2 → RgL (vr V a2 (ff (trm (V 6) (V 11 0) p0 k).2.1) m2 h2) →  AW Γ MX11_tell _ _ (0, 0) 52 [some (rf Γ 43), some (vi (k : Int))] [] (hp Γ S T U (vr V a2 (ff (trm (V 6) (V 11 0) p0 k).2.1) m2 h2) G) nx) (fun k hk ih => ?_) 0 (Nat.zero_le _) _ _ _ hR0 hL
  intro  a2 m2 h2 i52_0 i52_1
  refine aw_iload_n dX11_tell_52 rfl ?_
  have hK := trm_in (B := V 6) hn.2 hP0 k
  have hk1 := i52_0.1
  have hk2 := hK.2.1
  have hL := i52_1
  refine aw_iconst dX11_tell_53 ?_
  refine aw_icmp_gt (tgt := 82) dX11_tell_54 rfl (by omega) (fun c54 => ?_) (fun c54 => ?_)
  · skip
    obtain rfl : k = 6 := by omega
    refine aw_fg [true, false] (ls' := [some (rf Γ 43), none]) rfl ?_
    refine loopN (401) (P := fun j => ∀  (p : Int × Int × St) (a2 : Int) (m2 h2 : Int → Int), lop (V 6) (V 11 0) 401 (trm (V 6) (V 11 0) p0 6) = lop (V 6) (V 11 0) (401 - j) p → PIn (V 11 0) p → RP (V 11 0) p a2 h2 → RgL (vr V a2 (ff p.2.1) m2 h2) → (p.2.1 = 0 → (j : Int) ≤ p.1) →  AW Γ MX11_tell _ _ (0, 0) 82 [some (rf Γ 43), none] [] (hp Γ S T U (vr V a2 (ff p.2.1) m2 h2) G) nx) (fun j hj ihj => ?_) 0 (Nat.zero_le _) (trm (V 6) (V 11 0) p0 6) _ _ _ rfl (trm_in hn.2 hP0 6) i52_0 i52_1 (fun _ => by have := (trm_in (B := V 6) hn.2 hP0 6).1; omega)
    intro  p a2 m2 h2 i82_0 i82_1 i82_2 i82_3 i82_4
    refine aw_aload_n dX11_tell_82 rfl ?_
    have hp1 := i82_1.1
    have hp2 := i82_1.2.1
    have hL := i82_3
    have j1 := i82_4
    clear i82_4
    refine aw_callV (As := []) (ρ := (_, 0, 0)) (kn' := (0, 0)) cv_X11_81 dX11_tell_83 rfl rfl (hc43 hnx) rfl rfl (Nat.le_of_ble_eq_true rfl) (rmR _ _ _) ⟨Nat.le_refl _, Nat.le_refl _⟩ rfl (c_X11_isRight hnx (ff_in hp2) (fun r83 h83 => ?_))
    rcases h83 with ⟨rfl, h83⟩ | ⟨rfl, h83⟩
    · skip
      refine aw_if_eq (tgt := 115) dX11_tell_86 rfl (by decide) (fun c => absurd c (by decide)) (fun _ => ?_)
      have f0 : p.2.1 = 0 := (ff_0 hp2.1).mp h83
      obtain ⟨ea, HH⟩ := i82_2.2 f0
      subst ea
      have j2 := j1 f0
      clear j1
      have sk := skb_in (B := V 6) (n := V 11 0) (a := p.1) (by omega)
      have sg := sgn_or (V 6) (V 11 0) (skb (V 6) (V 11 0) p.1)
      have b9 := hB (skb (V 6) (V 11 0) p.1)
      refine aw_aload_n dX11_tell_89 rfl ?_
      refine aw_callV (As := []) (ρ := (_, 0, 0)) (kn' := (0, 0)) cv_X11_85 dX11_tell_90 rfl rfl (hc43 hnx) rfl rfl (Nat.le_of_ble_eq_true rfl) (rmR _ _ _) ⟨Nat.le_refl _, Nat.le_refl _⟩ rfl (c_X11_next hnx hB hn (by omega) hL (fun r90 h90 hL => ?_))
      refine aw_bipush dX11_tell_93 rfl ?_
      refine aw_icmp_ne (tgt := 115) dX11_tell_95 rfl (by omega) (fun c95 => ?_) (fun c95 => ?_)
      · skip
        exact aw_hpV (show vr V (skb (V 6) (V 11 0) p.1) (ff 0) m2 h2 = vr V (skb (V 6) (V 11 0) p.1) (ff p.2.1) m2 h2 by rw [f0]) (j_X11_tell_115 (g := 401 - (j + 1)) (p := ((skb (V 6) (V 11 0) p.1), 0, p.2.2)) hnx ⟨by show 0 ≤ (skb (V 6) (V 11 0) p.1) ∧ (skb (V 6) (V 11 0) p.1) ≤ _; omega, by show (0 : Int) ≤ 0 ∧ (0 : Int) ≤ 4000; omega, i82_1.2.2⟩ ⟨by omega, fun _ => ⟨rfl, HH⟩⟩ (by rw [hrt, i82_0, show 401 - j = (401 - (j + 1)) + 1 by omega]; exact lop_k f0 (skb_idem (by omega))) (fun _ => ⟨skb_idem (by omega), by show ¬ ((skb (V 6) (V 11 0) p.1) < V 11 0 ∧ V 6 (skb (V 6) (V 11 0) p.1) = 59); omega⟩) hB hn hRA hN (by show RgL (vr V (skb (V 6) (V 11 0) p.1) (ff 0) m2 h2); have q := hL; rw [f0] at q; exact q) hQ)
      · skip
        have hLs := hL
        refine aw_aload_n dX11_tell_98 rfl ?_
        refine aw_dup dX11_tell_99 rfl ?_
        refine aw_getf fg_X11_71 dX11_tell_100 (hc43 hnx) rfl ?_
        refine aw_sv (a := (skb (V 6) (V 11 0) p.1)) (rfl) ?_
        refine aw_iconst dX11_tell_103 ?_
        refine aw_iadd dX11_tell_104 ?_
        refine aw_putV fp_X11_71 dX11_tell_105 (hc43 hnx) (Nat.le_of_ble_eq_true rfl) hL (by omega) hu43_12 (fun hL => ?_)
        replace hL : RgL (vr V ((skb (V 6) (V 11 0) p.1) + 1) (ff 0) m2 h2) := by have q := vr_La hLs ((skb (V 6) (V 11 0) p.1) + 1) (by omega); rw [f0] at q; exact q
        refine aw_hp (V' := vr V ((skb (V 6) (V 11 0) p.1) + 1) (ff 0) m2 h2) rfl rfl rfl (by rw [f0]; exact vr_a V _ _ _ _ _) rfl ?_
        refine aw_aload_n dX11_tell_108 rfl ?_
        refine aw_callV (As := []) (ρ := (_, 0, 0)) (kn' := (0, 0)) cv_X11_151 dX11_tell_109 rfl rfl (hc43 hnx) rfl rfl (Nat.le_of_ble_eq_true rfl) (rmR _ _ _) ⟨Nat.le_refl _, Nat.le_refl _⟩ rfl (c_X11_readsPiece hnx hB hn (by omega) HH i82_1.2.2.2.1 i82_1.2.2.2.2 hL (fun p109 a109 m109 g109 h109 R109 hL => ?_))
        have so := sep_ok (B := V 6) (n := V 11 0) (a := (skb (V 6) (V 11 0) p.1)) (by omega)
        have pn := pce_in (B := V 6) hn.2 (p := ((skb (V 6) (V 11 0) p.1) + 1, 0, p.2.2)) ⟨by show 0 ≤ (skb (V 6) (V 11 0) p.1) + 1 ∧ (skb (V 6) (V 11 0) p.1) + 1 ≤ _; omega, by show (0 : Int) ≤ 0 ∧ (0 : Int) ≤ 4000; omega, i82_1.2.2⟩
        rw [← h109] at pn
        have j1 := fun _ : p.2.1 = 0 => j2
        refine aw_goto (tgt := 82) dX11_tell_112 rfl ?_
        exact ihj (by omega)  p109 a109 m109 g109 (by rw [i82_0, show 401 - j = (401 - (j + 1)) + 1 by omega, lop_s f0 (by omega), so.1, so.2, ← h109]) pn.1 R109 hL (fun _ => by have q9 := pn.2; have q8 : (skb (V 6) (V 11 0) p.1) + 1 ≤ p109.1 := q9; have := j1 f0; omega)
    · skip
      refine aw_if_eq (tgt := 115) dX11_tell_86 rfl (by decide) (fun _ => ?_) (fun c => absurd c (by decide))
      exact j_X11_tell_115 (g := 0) hnx i82_1 i82_2 (by rw [hrt, i82_0, lop_f (fun z => h83 ((ff_0 hp2.1).mpr z)), lop_f (fun z => h83 ((ff_0 hp2.1).mpr z))]) (fun z => absurd ((ff_0 hp2.1).mpr z) h83) hB hn hRA hN hL hQ
  · skip
    have tl := tLM_in (w := (k : Int)) (by omega)
    refine aw_aload_n dX11_tell_57 rfl ?_
    refine aw_getf fg_X11_13 dX11_tell_58 (hc43 hnx) rfl ?_
    refine aw_iload_n dX11_tell_61 rfl ?_
    refine aw_aload_n dX11_tell_62 rfl ?_
    refine aw_iload_n dX11_tell_63 rfl ?_
    refine aw_callS (As := [_]) (ρ := (_, 0, 0)) (kn' := (0, 0)) cs_X11_144 dX11_tell_64 rfl rfl (Nat.le_of_ble_eq_true rfl) (rmR _ _ _) ⟨Nat.le_refl _, Nat.le_refl _⟩ rfl (c_X11_lowest hnx (by omega) (fun r64 h64 => ?_))
    refine aw_iload_n dX11_tell_67 rfl ?_
    refine aw_callS (As := [_]) (ρ := (_, 0, 0)) (kn' := (0, 0)) cs_X11_148 dX11_tell_68 rfl rfl (Nat.le_of_ble_eq_true rfl) (rmR _ _ _) ⟨Nat.le_refl _, Nat.le_refl _⟩ rfl (c_X11_highest hnx (by omega) (fun r68 h68 => ?_))
    have e64 : r64 = tL (k : Int) := h64.trans (tL_if (by omega))
    have e68 : r68 = tM (k : Int) := h68.trans (tM_if (by omega))
    subst e64
    subst e68
    refine aw_callV (As := [_, _]) (ρ := (_, 0, 0)) (kn' := (0, 0)) cv_X11_138 dX11_tell_71 rfl rfl (hc43 hnx) rfl rfl (Nat.le_of_ble_eq_true rfl) (rmR _ _ _) ⟨Nat.le_refl _, Nat.le_refl _⟩ rfl (c_X11_number hnx (a := a2) (f := (trm (V 6) (V 11 0) p0 k).2.1) hB hn hk1 hk2 (by omega) (by omega) hL (fun r71 m71 h71 hL => ?_))
    have hL1 := hL
    have nu := nU_in (B := V 6) (n := V 11 0) (lo := tL (k : Int)) (hi := tM (k : Int)) (a := a2) (f := (trm (V 6) (V 11 0) p0 k).2.1) (by omega)
    refine aw_i2l dX11_tell_74 (by omega) ?_
    refine aw_lastV dX11_tell_75 (hc45 hnx) (by omega) (by decide) hL (by omega) (fun _ => hu45) (fun hL => ?_)
    subst h71
    have eN : ff (trm (V 6) (V 11 0) p0 (k + 1)).2.1 = ff (nF (V 6) (V 11 0) (tL (k : Int)) (tM (k : Int)) a2 (trm (V 6) (V 11 0) p0 k).2.1) := congrArg ff (rp_nF i52_0).symm
    have hL9 : RgL (vr V (nA (V 6) (V 11 0) a2 (trm (V 6) (V 11 0) p0 k).2.1) (ff (trm (V 6) (V 11 0) p0 (k + 1)).2.1) m71 (uz h2 (k : Int) (nU (V 6) (V 11 0) (tL (k : Int)) (tM (k : Int)) a2 (trm (V 6) (V 11 0) p0 k).2.1))) := by rw [eN]; exact vr_Lh hL1 _ _ (by omega)
    refine aw_hp (V' := vr V (nA (V 6) (V 11 0) a2 (trm (V 6) (V 11 0) p0 k).2.1) (ff (trm (V 6) (V 11 0) p0 (k + 1)).2.1) m71 (uz h2 (k : Int) (nU (V 6) (V 11 0) (tL (k : Int)) (tM (k : Int)) a2 (trm (V 6) (V 11 0) p0 k).2.1))) rfl rfl rfl (by rw [eN]; exact vr_h V _ _ _ _ _ _) rfl ?_
    refine aw_iinc (ls' := [some (rf Γ 43), some _]) dX11_tell_76 rfl (by decide) rfl ?_
    refine aw_goto (tgt := 52) dX11_tell_79 rfl ?_
    exact ih (by omega)  _ _ _ (rp_trm (by omega) i52_0) hL9

set_option maxHeartbeats 1000000 in
theorem c_X11_tell {Γ : GT} {S T U V A S0 : St} {G : Gw} {nx d : Nat} {Q : QT} (hnx : 52 ≤ nx) (hB : ∀ j : Int, -128 ≤ V 6 j ∧ V 6 j ≤ 127) (hn : 0 ≤ V 11 0 ∧ V 11 0 ≤ 400) (hRA : Rg A) (hL : RgL V) (hN : ∀ (V2 : St) (r : Int), ¬ rdF (V 11 0) (rtx (V 6) (V 11 0) A) = 0 → VO V V2 → V2 0 = V 0 → V2 10 = V 10 → V2 11 0 = 0 → RgL V2 → r = -2 - rdF (V 11 0) (rtx (V 6) (V 11 0) A) → Q (some (vi r)) (hp Γ S T U V2 G) nx)  (hQ : ∀ (V2 : St) (r : Int), rdF (V 11 0) (rtx (V 6) (V 11 0) A) = 0 → VO V V2 → V2 10 0 = 0 → V2 11 0 = 0 → RgL V2 → Ag (begS (rtx (V 6) (V 11 0) A).2.2 S0) (V2 0) → r = (rtx (V 6) (V 11 0) A).2.2 26 0 → Q (some (vi r)) (hp Γ S T U V2 G) nx) : AM Γ MX11_tell (d + 7, 0, 0) [rf Γ 43] (hp Γ S T U V G) nx Q := by
  refine am_of (by decide) (Nat.le_of_ble_eq_true rfl) (ls := [some (rf Γ 43), none]) rfl ?_
  have hL0 := hL
  have sk := skb_in (B := V 6) (n := V 11 0) (a := 0) hn.1
  have lt := ltr_in (B := V 6) (n := V 11 0) (a := (skb (V 6) (V 11 0) 0)) sk.2
  have hsk : (skb (V 6) (V 11 0) 0) = (skb (V 6) (V 11 0) 0) := rfl
  have hP0 := tr0_in (B := V 6) (a := 0) hn.2 ⟨Int.le_refl 0, hn.1⟩ (clr_in hRA) (show 0 ≤ clrT A 26 0 ∧ clrT A 26 0 ≤ 4 from ⟨Int.le_refl 0, by show (0 : Int) ≤ 4; decide⟩) (show 0 ≤ clrT A 27 0 ∧ clrT A 27 0 ≤ 8 from ⟨Int.le_refl 0, by show (0 : Int) ≤ 8; decide⟩)
  refine aw_aload_n dX11_tell_0 rfl ?_
  refine aw_iconst dX11_tell_1 ?_
  refine aw_putV fp_X11_71 dX11_tell_2 (hc43 hnx) (Nat.le_of_ble_eq_true rfl) hL (by omega) hu43_12 (fun hL => ?_)
  refine aw_aload_n dX11_tell_5 rfl ?_
  refine aw_iconst dX11_tell_6 ?_
  refine aw_putV fp_X11_78 dX11_tell_7 (hc43 hnx) (Nat.le_of_ble_eq_true rfl) hL (by omega) hu43_13 (fun hL => ?_)
  refine aw_iconst dX11_tell_10 ?_
  refine aw_istore_n (ls' := [some (rf Γ 43), some _]) dX11_tell_11 (by decide) rfl ?_
  refine aw_hp (V' := vr V 0 (-1) (V 14) (clh (V 1) 0)) rfl rfl rfl (by rw [clh_0, vr_0]) rfl ?_
  refine loopN (1216) (P := fun k =>  AW Γ MX11_tell _ _ (0, 0) 12 [some (rf Γ 43), some (vi (k : Int))] [] (hp Γ S T U (vr V 0 (-1) (V 14) (clh (V 1) k)) G) nx) (fun k hk ih => ?_) 0 (Nat.zero_le _) 
  refine aw_iload_n dX11_tell_12 rfl ?_
  replace hL := clh_L hL0 k
  refine aw_sipush dX11_tell_13 rfl ?_
  refine aw_icmp_ge (tgt := 32) dX11_tell_16 rfl (by omega) (fun c16 => ?_) (fun c16 => ?_)
  · skip
    obtain rfl : k = 1216 := by omega
    refine aw_hp (V' := vr V 0 (ff 0) (V 14) (clh (V 1) 1216)) rfl rfl rfl (rfl) rfl ?_
    refine aw_aload_n dX11_tell_32 rfl ?_
    refine aw_ldcS dX11_tell_33 8 rfl rfl rfl ?_
    refine aw_callV (As := [_]) (ρ := (_, 0, 0)) (kn' := (0, 0)) cv_X11_135 dX11_tell_35 rfl rfl (hc43 hnx) rfl rfl (Nat.le_of_ble_eq_true rfl) (rmR _ _ _) ⟨Nat.le_refl _, Nat.le_refl _⟩ rfl (c_X11_takes hnx (a := 0) (i := 8) (jj := 0) (by decide) rfl hsk hB hn ⟨Int.le_refl 0, hn.1⟩ hL (fun r35 h35 hL => ?_))
    rcases h35 with ⟨rfl, h35⟩ | ⟨rfl, h35⟩
    · skip
      refine aw_if_ne (tgt := 50) dX11_tell_38 rfl (by decide) (fun _ => ?_) (fun c => absurd c (by decide))
      rw [if_pos h35] at hL ⊢
      have eP : (tr0 (V 6) (V 11 0) (clrT A) 0).2.1 = 0 := by show (if isW _ _ _ _ then (0 : Int) else _) = _; rw [if_pos h35]
      exact aw_fg [true, false] rfl (aw_hpV (show vr V (ltr (V 6) (V 11 0) (skb (V 6) (V 11 0) 0)) (ff (tr0 (V 6) (V 11 0) (clrT A) 0).2.1) (V 14) (clh (V 1) 1216) = _ by rw [eP]) (j_X11_tell_50 (p0 := (tr0 (V 6) (V 11 0) (clrT A) 0)) hnx hP0 ⟨by omega, fun _ => ⟨rfl, HR.clr _⟩⟩ rfl hB hn hRA hN (by rw [eP]; exact hL) hQ))
    · skip
      refine aw_if_ne (tgt := 50) dX11_tell_38 rfl (by decide) (fun c => absurd c (by decide)) (fun _ => ?_)
      rw [if_neg h35] at hL ⊢
      refine aw_aload_n dX11_tell_41 rfl ?_
      refine aw_iconst dX11_tell_42 ?_
      refine aw_aload_n dX11_tell_43 rfl ?_
      refine aw_getf fg_X11_71 dX11_tell_44 (hc43 hnx) rfl ?_
      refine aw_sv (a := (skb (V 6) (V 11 0) 0)) (rfl) ?_
      refine aw_callV (As := [_, _]) (ρ := (_, 0, 0)) (kn' := (0, 0)) cv_X11_109 dX11_tell_47 rfl rfl (hc43 hnx) rfl rfl (Nat.le_of_ble_eq_true rfl) (rmR _ _ _) ⟨Nat.le_refl _, Nat.le_refl _⟩ rfl (c_X11_fails hnx (ff_in (by omega)) (by omega) (by omega) hL (fun hL => ?_))
      have eP : (tr0 (V 6) (V 11 0) (clrT A) 0).2.1 = 8 * (skb (V 6) (V 11 0) 0) + 1 := by show (if isW _ _ _ _ then (0 : Int) else _) = _; rw [if_neg h35]
      have eF : ff (tr0 (V 6) (V 11 0) (clrT A) 0).2.1 = fz (ff 0) (8 * (skb (V 6) (V 11 0) 0) + 1) := by rw [eP, fz_ff (by omega) (by omega), if_pos rfl]
      exact aw_fg [true, false] rfl (aw_hpV (show vr V (skb (V 6) (V 11 0) 0) (ff (tr0 (V 6) (V 11 0) (clrT A) 0).2.1) (V 14) (clh (V 1) 1216) = _ by rw [eF]) (j_X11_tell_50 (p0 := (tr0 (V 6) (V 11 0) (clrT A) 0)) hnx hP0 ⟨by omega, fun z => by rw [eP] at z; omega⟩ rfl hB hn hRA hN (by rw [eF]; exact hL) hQ))
  · skip
    refine aw_aload_n dX11_tell_19 rfl ?_
    refine aw_getf fg_X11_13 dX11_tell_20 (hc43 hnx) rfl ?_
    refine aw_iload_n dX11_tell_23 rfl ?_
    refine aw_lconst0 dX11_tell_24 ?_
    refine aw_lastV dX11_tell_25 (hc45 hnx) (by omega) (by decide) hL (by omega) (fun _ => hu45) (fun hL => ?_)
    refine aw_hp (V' := vr V 0 (-1) (V 14) (clh (V 1) (k + 1))) rfl rfl rfl (by rw [← clh_s]; exact vr_h V _ _ _ _ _ _) rfl ?_
    refine aw_iinc (ls' := [some (rf Γ 43), some _]) dX11_tell_26 rfl (by decide) rfl ?_
    refine aw_goto (tgt := 12) dX11_tell_29 rfl ?_
    exact ih (by omega)   


/-! the reference: answers -/
section AGQ
variable {A : St} {r : Int → Int}
theorem Ag.og (h : Ag A r) {o w : Int} (ho : 0 ≤ o ∧ o < A 26 0) (hw : 0 ≤ w ∧ w ≤ 7) : r (16 + 8 * o + w) = if w = 0 then A 1 o else A 14 (o * 8 + w) := by
  by_cases e : w = 0
  · subst e; rw [if_pos rfl]; exact h.o0 ho
  · rw [if_neg e]; exact h.of ho (by omega)
theorem Ag.pg (h : Ag A r) {i o w : Int} (hi : 0 ≤ i ∧ i < A 27 0) (ho : 0 ≤ o ∧ o < A 26 0) (ho4 : A 26 0 ≤ 4) (hw : 0 ≤ w ∧ w ≤ 3) : r (48 + 8 * (4 * i + o) + (0 + w)) = if w = 3 then A 20 (4 * i + o) else A 2 ((4 * i + o) * 3 + w) := by
  rw [show 0 + w = w by omega]
  by_cases e : w = 3
  · subst e; rw [if_pos rfl]; exact h.p20 hi ho ho4
  · rw [if_neg e]; exact h.p2 hi ho ho4 (by omega)
theorem Ag.sg (h : Ag A r) {i o w : Int} (hi : 0 ≤ i ∧ i < A 27 0) (ho : 0 ≤ o ∧ o < A 26 0) (ho4 : A 26 0 ≤ 4) (hw : 0 ≤ w ∧ w ≤ 1) : r (48 + 8 * (4 * i + o) + (5 + w)) = if w = 0 then A 16 (4 * i + o) else A 17 (4 * i + o) := by
  rcases (show w = 0 ∨ w = 1 by omega) with rfl | rfl
  · exact h.p16 hi ho ho4
  · exact h.p17 hi ho ho4
theorem Ag.lw (h : Ag A r) {l w : Int} (hl : 0 ≤ l ∧ l < A 28 0) (hw : 0 ≤ w ∧ w ≤ 6) : r (456 + 10 * l + w) = if w = 0 then A 4 l else if w = 1 then A 5 l else if w = 2 then A 6 l else if w = 3 then A 7 l else if w = 4 then A 9 l else if w = 5 then A 10 l else A 8 l := by
  rcases (show w = 0 ∨ w = 1 ∨ w = 2 ∨ w = 3 ∨ w = 4 ∨ w = 5 ∨ w = 6 by omega) with rfl | rfl | rfl | rfl | rfl | rfl | rfl
  · exact h.l4 hl
  · exact h.l5 hl
  · exact h.l6 hl
  · exact h.l7 hl
  · exact h.l9 hl
  · exact h.l10 hl
  · exact h.l8 hl
end AGQ
theorem Inv.earN {c : Int} {A : St} (h : Inv c A) (i : Int) : ∀ k : Nat, k ≤ nS A → earI A i k = -2 ∨ 0 ≤ earI A i k ∧ earI A i k ≤ 4000
  | 0, _ => Or.inl rfl
  | k + 1, hk => by
    have q := Inv.earN h i k (by omega)
    have i1 := h.i1
    have l := h.li (l := k) (by unfold nS at hk; omega)
    rw [earI]; split <;> omega
def aCountR (A V : St) (w : Int) : Int := if w = 0 then A 26 0 else if w = 1 then A 27 0 else if w = 2 then A 28 0 else if w = 3 then openN A (nS A) else if w = 4 then A 25 0 else if w = 5 then V 10 0 else if w = 6 then V 11 0 else if w = 7 then V 5 0 + 2 * V 5 1 else if w = 8 then V 16 0 else -1

set_option maxHeartbeats 1000000 in
theorem c_X11_would {Γ : GT} {S T U V A : St} {G : Gw} {nx d : Nat} {Q : QT} (hnx : 52 ≤ nx) {i a n : Int} {c : Int} (hI : Inv c A) (hA : Ag A (V 0)) (hL : RgL V) (hi : inI i) (ha : inI a) (hn : inI n) (hQ : ∀ r, r = aWould A i a n → Q (some (vi r)) (hp Γ S T U V G) nx) : AM Γ MX11_would (d + 6, 0, 0) [rf Γ 43, vi i, vi a, vi n] (hp Γ S T U V G) nx Q := by
  refine am_of (by decide) (Nat.le_of_ble_eq_true rfl) (ls := [some (rf Γ 43), some _, some _, some _]) rfl ?_
  have hR := hI.R
  have i1 := hI.i1
  have hz : 0 ≤ A 28 0 ∧ A 28 0 ≤ 60 := i1.2.2.1
  have hkS : nS A = (A 28 0).toNat := rfl
  have hkI : nIm A = (A 27 0).toNat := rfl
  have hkO : nOr A = (A 26 0).toNat := rfl
  refine aw_aload_n dX11_would_0 rfl ?_
  refine aw_iload_n dX11_would_1 rfl ?_
  refine aw_iload_n dX11_would_2 rfl ?_
  refine aw_callV (As := [_, _]) (ρ := (_, 0, 0)) (kn' := (0, 0)) cv_X11_236 dX11_would_3 rfl rfl (hc43 hnx) rfl rfl (Nat.le_of_ble_eq_true rfl) (rmR _ _ _) ⟨Nat.le_refl _, Nat.le_refl _⟩ rfl (c_X11_arePair hnx hI hA hL (by omega) (fun r3 h3 => ?_))
  rcases h3 with ⟨rfl, h3⟩ | ⟨rfl, h3⟩
  · skip
    refine aw_if_eq (tgt := 26) dX11_would_6 rfl (by decide) (fun c => absurd c (by decide)) (fun _ => ?_)
    refine aw_iload_n dX11_would_9 rfl ?_
    refine aw_callS (As := [_]) (ρ := (_, 0, 0)) (kn' := (0, 0)) cs_X11_239 dX11_would_10 rfl rfl (Nat.le_of_ble_eq_true rfl) (rmR _ _ _) ⟨Nat.le_refl _, Nat.le_refl _⟩ rfl (c_X11_isMuch hnx (by omega) (fun r10 h10 => ?_))
    rcases h10 with ⟨rfl, h10⟩ | ⟨rfl, h10⟩
    · skip
      refine aw_if_eq (tgt := 26) dX11_would_13 rfl (by decide) (fun c => absurd c (by decide)) (fun _ => ?_)
      refine aw_aload_n dX11_would_16 rfl ?_
      refine aw_iload_n dX11_would_17 rfl ?_
      refine aw_iload_n dX11_would_18 rfl ?_
      refine aw_iload_n dX11_would_19 rfl ?_
      refine aw_callV (As := [_, _, _]) (ρ := (_, 0, 0)) (kn' := (0, 0)) cv_X11_229 dX11_would_20 rfl rfl (hc43 hnx) rfl rfl (Nat.le_of_ble_eq_true rfl) (rmR _ _ _) ⟨Nat.le_refl _, Nat.le_refl _⟩ rfl (c_X11_grantable hnx hI hA hL (by omega) (by omega) (by omega) (fun r20 h20 => ?_))
      refine aw_goto (tgt := 27) dX11_would_23 rfl ?_
      exact aw_ireturn dX11_would_27 rfl rfl ⟨Nat.le_refl _, Nat.le_refl _⟩ (hQ _ (by unfold aWould; first | (rw [if_pos (by simp only [isI, isO, isL, isN]; omega)]; exact h20) | (rw [if_neg (by simp only [isI, isO, isL, isN]; omega)])))
    · skip
      refine aw_if_eq (tgt := 26) dX11_would_13 rfl (by decide) (fun _ => ?_) (fun c => absurd c (by decide))
      refine aw_iconst dX11_would_26 ?_
      exact aw_ireturn dX11_would_27 rfl rfl ⟨Nat.le_refl _, Nat.le_refl _⟩ (hQ _ (by unfold aWould; first | (rw [if_pos (by simp only [isI, isO, isL, isN]; omega)]; exact h20) | (rw [if_neg (by simp only [isI, isO, isL, isN]; omega)])))
  · skip
    refine aw_if_eq (tgt := 26) dX11_would_6 rfl (by decide) (fun _ => ?_) (fun c => absurd c (by decide))
    refine aw_iconst dX11_would_26 ?_
    exact aw_ireturn dX11_would_27 rfl rfl ⟨Nat.le_refl _, Nat.le_refl _⟩ (hQ _ (by unfold aWould; first | (rw [if_pos (by simp only [isI, isO, isL, isN]; omega)]; exact h20) | (rw [if_neg (by simp only [isI, isO, isL, isN]; omega)])))

set_option maxHeartbeats 1000000 in
theorem c_X11_told {Γ : GT} {S T U V A : St} {G : Gw} {nx d : Nat} {Q : QT} (hnx : 52 ≤ nx) {w : Int} {c : Int} (hI : Inv c A) (hA : Ag A (V 0)) (hL : RgL V) (hw : inI w) (hQ : ∀ r, r = aTold A w → Q (some (vi r)) (hp Γ S T U V G) nx) : AM Γ MX11_told (d + 1, 0, 0) [rf Γ 43, vi w] (hp Γ S T U V G) nx Q := by
  refine am_of (by decide) (Nat.le_of_ble_eq_true rfl) (ls := [some (rf Γ 43), some _]) rfl ?_
  have hR := hI.R
  have i1 := hI.i1
  have hz : 0 ≤ A 28 0 ∧ A 28 0 ≤ 60 := i1.2.2.1
  have hkS : nS A = (A 28 0).toNat := rfl
  have hkI : nIm A = (A 27 0).toNat := rfl
  have hkO : nOr A = (A 26 0).toNat := rfl
  refine aw_aload_n dX11_told_0 rfl ?_
  refine aw_callV (As := []) (ρ := (_, 0, 0)) (kn' := (0, 0)) cv_X11_286 dX11_told_1 rfl rfl (hc43 hnx) rfl rfl (Nat.le_of_ble_eq_true rfl) (rmR _ _ _) ⟨Nat.le_refl _, Nat.le_refl _⟩ rfl (c_X11_hasScheme hnx hI hA hL (fun r1 h1 => ?_))
  rcases h1 with ⟨rfl, h1⟩ | ⟨rfl, h1⟩
  · skip
    refine aw_if_eq (tgt := 27) dX11_told_4 rfl (by decide) (fun c => absurd c (by decide)) (fun _ => ?_)
    refine aw_iload_n dX11_told_7 rfl ?_
    refine aw_i2l dX11_told_8 (by omega) ?_
    refine aw_lconst0 dX11_told_9 ?_
    refine aw_ldc2 dX11_told_10 qk_X11_297 ?_
    refine aw_st (st' := vl 5 :: _) rfl ?_
    refine aw_callS (As := [_, _, _]) (ρ := (_, 0, 0)) (kn' := (0, 0)) cs_X11_51 dX11_told_13 rfl rfl (Nat.le_of_ble_eq_true rfl) (rmR _ _ _) ⟨Nat.le_refl _, Nat.le_refl _⟩ rfl (c_X11_in hnx (by omega) (fun r13 h13 => ?_))
    rcases h13 with ⟨rfl, h13⟩ | ⟨rfl, h13⟩
    · skip
      refine aw_if_eq (tgt := 27) dX11_told_16 rfl (by decide) (fun c => absurd c (by decide)) (fun _ => ?_)
      refine aw_aload_n dX11_told_19 rfl ?_
      refine aw_iload_n dX11_told_20 rfl ?_
      refine aw_callV (As := [_]) (ρ := (_, 0, 0)) (kn' := (0, 0)) cv_X11_164 dX11_told_21 rfl rfl (hc43 hnx) rfl rfl (Nat.le_of_ble_eq_true rfl) (rmR _ _ _) ⟨Nat.le_refl _, Nat.le_refl _⟩ rfl (c_X11_many hnx hL (by omega) (fun r21 h21 => ?_))
      refine aw_goto (tgt := 28) dX11_told_24 rfl ?_
      exact aw_ireturn dX11_told_28 rfl rfl ⟨Nat.le_refl _, Nat.le_refl _⟩ (hQ _ (by unfold aTold; first | (rw [if_pos (by omega)]; exact h21.trans (hA.tm (by omega))) | (rw [if_neg (by omega)])))
    · skip
      refine aw_if_eq (tgt := 27) dX11_told_16 rfl (by decide) (fun _ => ?_) (fun c => absurd c (by decide))
      refine aw_iconst dX11_told_27 ?_
      exact aw_ireturn dX11_told_28 rfl rfl ⟨Nat.le_refl _, Nat.le_refl _⟩ (hQ _ (by unfold aTold; first | (rw [if_pos (by omega)]; exact h21.trans (hA.tm (by omega))) | (rw [if_neg (by omega)])))
  · skip
    refine aw_if_eq (tgt := 27) dX11_told_4 rfl (by decide) (fun _ => ?_) (fun c => absurd c (by decide))
    refine aw_iconst dX11_told_27 ?_
    exact aw_ireturn dX11_told_28 rfl rfl ⟨Nat.le_refl _, Nat.le_refl _⟩ (hQ _ (by unfold aTold; first | (rw [if_pos (by omega)]; exact h21.trans (hA.tm (by omega))) | (rw [if_neg (by omega)])))

set_option maxHeartbeats 1000000 in
theorem c_X11_origin {Γ : GT} {S T U V A : St} {G : Gw} {nx d : Nat} {Q : QT} (hnx : 52 ≤ nx) {a w : Int} {c : Int} (hI : Inv c A) (hA : Ag A (V 0)) (hL : RgL V) (ha : inI a) (hw : inI w) (hQ : ∀ r, r = aOrigin A a w → Q (some (vi r)) (hp Γ S T U V G) nx) : AM Γ MX11_origin (d + 2, 0, 0) [rf Γ 43, vi a, vi w] (hp Γ S T U V G) nx Q := by
  refine am_of (by decide) (Nat.le_of_ble_eq_true rfl) (ls := [some (rf Γ 43), some _, some _]) rfl ?_
  have hR := hI.R
  have i1 := hI.i1
  have hz : 0 ≤ A 28 0 ∧ A 28 0 ≤ 60 := i1.2.2.1
  have hkS : nS A = (A 28 0).toNat := rfl
  have hkI : nIm A = (A 27 0).toNat := rfl
  have hkO : nOr A = (A 26 0).toNat := rfl
  refine aw_aload_n dX11_origin_0 rfl ?_
  refine aw_iload_n dX11_origin_1 rfl ?_
  refine aw_callV (As := [_]) (ρ := (_, 0, 0)) (kn' := (0, 0)) cv_X11_59 dX11_origin_2 rfl rfl (hc43 hnx) rfl rfl (Nat.le_of_ble_eq_true rfl) (rmR _ _ _) ⟨Nat.le_refl _, Nat.le_refl _⟩ rfl (c_X11_isOrigin hnx hI hA hL (by omega) (fun r2 h2 => ?_))
  rcases h2 with ⟨rfl, h2⟩ | ⟨rfl, h2⟩
  · skip
    refine aw_if_eq (tgt := 29) dX11_origin_5 rfl (by decide) (fun c => absurd c (by decide)) (fun _ => ?_)
    refine aw_iload_n dX11_origin_8 rfl ?_
    refine aw_i2l dX11_origin_9 (by omega) ?_
    refine aw_lconst0 dX11_origin_10 ?_
    refine aw_ldc2 dX11_origin_11 qk_X11_299 ?_
    refine aw_st (st' := vl 7 :: _) rfl ?_
    refine aw_callS (As := [_, _, _]) (ρ := (_, 0, 0)) (kn' := (0, 0)) cs_X11_51 dX11_origin_14 rfl rfl (Nat.le_of_ble_eq_true rfl) (rmR _ _ _) ⟨Nat.le_refl _, Nat.le_refl _⟩ rfl (c_X11_in hnx (by omega) (fun r14 h14 => ?_))
    rcases h14 with ⟨rfl, h14⟩ | ⟨rfl, h14⟩
    · skip
      refine aw_if_eq (tgt := 29) dX11_origin_17 rfl (by decide) (fun c => absurd c (by decide)) (fun _ => ?_)
      refine aw_aload_n dX11_origin_20 rfl ?_
      refine aw_iload_n dX11_origin_21 rfl ?_
      refine aw_iload_n dX11_origin_22 rfl ?_
      refine aw_callV (As := [_, _]) (ρ := (_, 0, 0)) (kn' := (0, 0)) cv_X11_226 dX11_origin_23 rfl rfl (hc43 hnx) rfl rfl (Nat.le_of_ble_eq_true rfl) (rmR _ _ _) ⟨Nat.le_refl _, Nat.le_refl _⟩ rfl (c_X11_ofOrigin hnx hL (by omega) (by omega) (fun r23 h23 => ?_))
      refine aw_goto (tgt := 30) dX11_origin_26 rfl ?_
      exact aw_ireturn dX11_origin_30 rfl rfl ⟨Nat.le_refl _, Nat.le_refl _⟩ (hQ _ (by unfold aOrigin; first | (rw [if_pos (by simp only [isI, isO, isL, isN]; omega)]; exact h23.trans (hA.og (by omega) (by omega))) | (rw [if_neg (by simp only [isI, isO, isL, isN]; omega)])))
    · skip
      refine aw_if_eq (tgt := 29) dX11_origin_17 rfl (by decide) (fun _ => ?_) (fun c => absurd c (by decide))
      refine aw_iconst dX11_origin_29 ?_
      exact aw_ireturn dX11_origin_30 rfl rfl ⟨Nat.le_refl _, Nat.le_refl _⟩ (hQ _ (by unfold aOrigin; first | (rw [if_pos (by simp only [isI, isO, isL, isN]; omega)]; exact h23.trans (hA.og (by omega) (by omega))) | (rw [if_neg (by simp only [isI, isO, isL, isN]; omega)])))
  · skip
    refine aw_if_eq (tgt := 29) dX11_origin_5 rfl (by decide) (fun _ => ?_) (fun c => absurd c (by decide))
    refine aw_iconst dX11_origin_29 ?_
    exact aw_ireturn dX11_origin_30 rfl rfl ⟨Nat.le_refl _, Nat.le_refl _⟩ (hQ _ (by unfold aOrigin; first | (rw [if_pos (by simp only [isI, isO, isL, isN]; omega)]; exact h23.trans (hA.og (by omega) (by omega))) | (rw [if_neg (by simp only [isI, isO, isL, isN]; omega)])))

set_option maxHeartbeats 1000000 in
theorem c_X11_past {Γ : GT} {S T U V A : St} {G : Gw} {nx d : Nat} {Q : QT} (hnx : 52 ≤ nx) {i a y : Int} {c : Int} (hI : Inv c A) (hA : Ag A (V 0)) (hL : RgL V) (hi : inI i) (ha : inI a) (hy : inI y) (hQ : ∀ r, r = aPast A i a y → Q (some (vi r)) (hp Γ S T U V G) nx) : AM Γ MX11_past (d + 3, 0, 0) [rf Γ 43, vi i, vi a, vi y] (hp Γ S T U V G) nx Q := by
  refine am_of (by decide) (Nat.le_of_ble_eq_true rfl) (ls := [some (rf Γ 43), some _, some _, some _]) rfl ?_
  have hR := hI.R
  have i1 := hI.i1
  have hz : 0 ≤ A 28 0 ∧ A 28 0 ≤ 60 := i1.2.2.1
  have hkS : nS A = (A 28 0).toNat := rfl
  have hkI : nIm A = (A 27 0).toNat := rfl
  have hkO : nOr A = (A 26 0).toNat := rfl
  refine aw_aload_n dX11_past_0 rfl ?_
  refine aw_iload_n dX11_past_1 rfl ?_
  refine aw_iload_n dX11_past_2 rfl ?_
  refine aw_callV (As := [_, _]) (ρ := (_, 0, 0)) (kn' := (0, 0)) cv_X11_236 dX11_past_3 rfl rfl (hc43 hnx) rfl rfl (Nat.le_of_ble_eq_true rfl) (rmR _ _ _) ⟨Nat.le_refl _, Nat.le_refl _⟩ rfl (c_X11_arePair hnx hI hA hL (by omega) (fun r3 h3 => ?_))
  rcases h3 with ⟨rfl, h3⟩ | ⟨rfl, h3⟩
  · skip
    refine aw_if_eq (tgt := 33) dX11_past_6 rfl (by decide) (fun c => absurd c (by decide)) (fun _ => ?_)
    refine aw_iload_n dX11_past_9 rfl ?_
    refine aw_i2l dX11_past_10 (by omega) ?_
    refine aw_lconst0 dX11_past_11 ?_
    refine aw_ldc2 dX11_past_12 qk_X11_301 ?_
    refine aw_st (st' := vl 3 :: _) rfl ?_
    refine aw_callS (As := [_, _, _]) (ρ := (_, 0, 0)) (kn' := (0, 0)) cs_X11_51 dX11_past_15 rfl rfl (Nat.le_of_ble_eq_true rfl) (rmR _ _ _) ⟨Nat.le_refl _, Nat.le_refl _⟩ rfl (c_X11_in hnx (by omega) (fun r15 h15 => ?_))
    rcases h15 with ⟨rfl, h15⟩ | ⟨rfl, h15⟩
    · skip
      refine aw_if_eq (tgt := 33) dX11_past_18 rfl (by decide) (fun c => absurd c (by decide)) (fun _ => ?_)
      refine aw_aload_n dX11_past_21 rfl ?_
      refine aw_iload_n dX11_past_22 rfl ?_
      refine aw_iload_n dX11_past_23 rfl ?_
      refine aw_iconst dX11_past_24 ?_
      refine aw_iload_n dX11_past_25 rfl ?_
      refine aw_iadd dX11_past_26 ?_
      refine aw_callV (As := [_, _, _]) (ρ := (_, 0, 0)) (kn' := (0, 0)) cv_X11_167 dX11_past_27 rfl rfl (hc43 hnx) rfl rfl (Nat.le_of_ble_eq_true rfl) (rmR _ _ _) ⟨Nat.le_refl _, Nat.le_refl _⟩ rfl (c_X11_ofPair hnx hL (by omega) (by omega) (by omega) (fun r27 h27 => ?_))
      refine aw_goto (tgt := 34) dX11_past_30 rfl ?_
      exact aw_ireturn dX11_past_34 rfl rfl ⟨Nat.le_refl _, Nat.le_refl _⟩ (hQ _ (by unfold aPast; first | (rw [if_pos (by simp only [isI, isO, isL, isN]; omega)]; exact h27.trans (hA.pg (by omega) (by omega) (by omega) (by omega))) | (rw [if_neg (by simp only [isI, isO, isL, isN]; omega)])))
    · skip
      refine aw_if_eq (tgt := 33) dX11_past_18 rfl (by decide) (fun _ => ?_) (fun c => absurd c (by decide))
      refine aw_iconst dX11_past_33 ?_
      exact aw_ireturn dX11_past_34 rfl rfl ⟨Nat.le_refl _, Nat.le_refl _⟩ (hQ _ (by unfold aPast; first | (rw [if_pos (by simp only [isI, isO, isL, isN]; omega)]; exact h27.trans (hA.pg (by omega) (by omega) (by omega) (by omega))) | (rw [if_neg (by simp only [isI, isO, isL, isN]; omega)])))
  · skip
    refine aw_if_eq (tgt := 33) dX11_past_6 rfl (by decide) (fun _ => ?_) (fun c => absurd c (by decide))
    refine aw_iconst dX11_past_33 ?_
    exact aw_ireturn dX11_past_34 rfl rfl ⟨Nat.le_refl _, Nat.le_refl _⟩ (hQ _ (by unfold aPast; first | (rw [if_pos (by simp only [isI, isO, isL, isN]; omega)]; exact h27.trans (hA.pg (by omega) (by omega) (by omega) (by omega))) | (rw [if_neg (by simp only [isI, isO, isL, isN]; omega)])))

set_option maxHeartbeats 1000000 in
theorem c_X11_sort {Γ : GT} {S T U V A : St} {G : Gw} {nx d : Nat} {Q : QT} (hnx : 52 ≤ nx) {i a : Int} {c : Int} (hI : Inv c A) (hA : Ag A (V 0)) (hL : RgL V) (hi : inI i) (ha : inI a) (hQ : ∀ r, r = aSort A i a → Q (some (vi r)) (hp Γ S T U V G) nx) : AM Γ MX11_sort (d + 3, 0, 0) [rf Γ 43, vi i, vi a] (hp Γ S T U V G) nx Q := by
  refine am_of (by decide) (Nat.le_of_ble_eq_true rfl) (ls := [some (rf Γ 43), some _, some _]) rfl ?_
  have hR := hI.R
  have i1 := hI.i1
  have hz : 0 ≤ A 28 0 ∧ A 28 0 ≤ 60 := i1.2.2.1
  have hkS : nS A = (A 28 0).toNat := rfl
  have hkI : nIm A = (A 27 0).toNat := rfl
  have hkO : nOr A = (A 26 0).toNat := rfl
  refine aw_aload_n dX11_sort_0 rfl ?_
  refine aw_iload_n dX11_sort_1 rfl ?_
  refine aw_iload_n dX11_sort_2 rfl ?_
  refine aw_callV (As := [_, _]) (ρ := (_, 0, 0)) (kn' := (0, 0)) cv_X11_236 dX11_sort_3 rfl rfl (hc43 hnx) rfl rfl (Nat.le_of_ble_eq_true rfl) (rmR _ _ _) ⟨Nat.le_refl _, Nat.le_refl _⟩ rfl (c_X11_arePair hnx hI hA hL (by omega) (fun r3 h3 => ?_))
  rcases h3 with ⟨rfl, h3⟩ | ⟨rfl, h3⟩
  · skip
    refine aw_if_eq (tgt := 19) dX11_sort_6 rfl (by decide) (fun c => absurd c (by decide)) (fun _ => ?_)
    refine aw_aload_n dX11_sort_9 rfl ?_
    refine aw_iload_n dX11_sort_10 rfl ?_
    refine aw_iload_n dX11_sort_11 rfl ?_
    refine aw_iconst dX11_sort_12 ?_
    refine aw_callV (As := [_, _, _]) (ρ := (_, 0, 0)) (kn' := (0, 0)) cv_X11_167 dX11_sort_13 rfl rfl (hc43 hnx) rfl rfl (Nat.le_of_ble_eq_true rfl) (rmR _ _ _) ⟨Nat.le_refl _, Nat.le_refl _⟩ rfl (c_X11_ofPair_4 hnx hI hA hL (by omega) (by omega) (fun r13 h13 => ?_))
    refine aw_goto (tgt := 20) dX11_sort_16 rfl ?_
    exact aw_ireturn dX11_sort_20 rfl rfl ⟨Nat.le_refl _, Nat.le_refl _⟩ (hQ _ (by unfold aSort; first | (rw [if_pos (by simp only [isI, isO, isL, isN]; omega)]; exact h13) | (rw [if_neg (by simp only [isI, isO, isL, isN]; omega)])))
  · skip
    refine aw_if_eq (tgt := 19) dX11_sort_6 rfl (by decide) (fun _ => ?_) (fun c => absurd c (by decide))
    refine aw_iconst dX11_sort_19 ?_
    exact aw_ireturn dX11_sort_20 rfl rfl ⟨Nat.le_refl _, Nat.le_refl _⟩ (hQ _ (by unfold aSort; first | (rw [if_pos (by simp only [isI, isO, isL, isN]; omega)]; exact h13) | (rw [if_neg (by simp only [isI, isO, isL, isN]; omega)])))

set_option maxHeartbeats 1000000 in
theorem c_X11_share {Γ : GT} {S T U V A : St} {G : Gw} {nx d : Nat} {Q : QT} (hnx : 52 ≤ nx) {i a w : Int} {c : Int} (hI : Inv c A) (hA : Ag A (V 0)) (hL : RgL V) (hi : inI i) (ha : inI a) (hw : inI w) (hQ : ∀ r, r = aShare A i a w → Q (some (vi r)) (hp Γ S T U V G) nx) : AM Γ MX11_share (d + 3, 0, 0) [rf Γ 43, vi i, vi a, vi w] (hp Γ S T U V G) nx Q := by
  refine am_of (by decide) (Nat.le_of_ble_eq_true rfl) (ls := [some (rf Γ 43), some _, some _, some _]) rfl ?_
  have hR := hI.R
  have i1 := hI.i1
  have hz : 0 ≤ A 28 0 ∧ A 28 0 ≤ 60 := i1.2.2.1
  have hkS : nS A = (A 28 0).toNat := rfl
  have hkI : nIm A = (A 27 0).toNat := rfl
  have hkO : nOr A = (A 26 0).toNat := rfl
  refine aw_aload_n dX11_share_0 rfl ?_
  refine aw_iload_n dX11_share_1 rfl ?_
  refine aw_iload_n dX11_share_2 rfl ?_
  refine aw_callV (As := [_, _]) (ρ := (_, 0, 0)) (kn' := (0, 0)) cv_X11_236 dX11_share_3 rfl rfl (hc43 hnx) rfl rfl (Nat.le_of_ble_eq_true rfl) (rmR _ _ _) ⟨Nat.le_refl _, Nat.le_refl _⟩ rfl (c_X11_arePair hnx hI hA hL (by omega) (fun r3 h3 => ?_))
  rcases h3 with ⟨rfl, h3⟩ | ⟨rfl, h3⟩
  · skip
    refine aw_if_eq (tgt := 31) dX11_share_6 rfl (by decide) (fun c => absurd c (by decide)) (fun _ => ?_)
    refine aw_iload_n dX11_share_9 rfl ?_
    refine aw_i2l dX11_share_10 (by omega) ?_
    refine aw_lconst0 dX11_share_11 ?_
    refine aw_lconst1 dX11_share_12 ?_
    refine aw_callS (As := [_, _, _]) (ρ := (_, 0, 0)) (kn' := (0, 0)) cs_X11_51 dX11_share_13 rfl rfl (Nat.le_of_ble_eq_true rfl) (rmR _ _ _) ⟨Nat.le_refl _, Nat.le_refl _⟩ rfl (c_X11_in hnx (by omega) (fun r13 h13 => ?_))
    rcases h13 with ⟨rfl, h13⟩ | ⟨rfl, h13⟩
    · skip
      refine aw_if_eq (tgt := 31) dX11_share_16 rfl (by decide) (fun c => absurd c (by decide)) (fun _ => ?_)
      refine aw_aload_n dX11_share_19 rfl ?_
      refine aw_iload_n dX11_share_20 rfl ?_
      refine aw_iload_n dX11_share_21 rfl ?_
      refine aw_iconst dX11_share_22 ?_
      refine aw_iload_n dX11_share_23 rfl ?_
      refine aw_iadd dX11_share_24 ?_
      refine aw_callV (As := [_, _, _]) (ρ := (_, 0, 0)) (kn' := (0, 0)) cv_X11_167 dX11_share_25 rfl rfl (hc43 hnx) rfl rfl (Nat.le_of_ble_eq_true rfl) (rmR _ _ _) ⟨Nat.le_refl _, Nat.le_refl _⟩ rfl (c_X11_ofPair hnx hL (by omega) (by omega) (by omega) (fun r25 h25 => ?_))
      refine aw_goto (tgt := 32) dX11_share_28 rfl ?_
      exact aw_ireturn dX11_share_32 rfl rfl ⟨Nat.le_refl _, Nat.le_refl _⟩ (hQ _ (by unfold aShare; first | (rw [if_pos (by simp only [isI, isO, isL, isN]; omega)]; exact h25.trans (hA.sg (by omega) (by omega) (by omega) (by omega))) | (rw [if_neg (by simp only [isI, isO, isL, isN]; omega)])))
    · skip
      refine aw_if_eq (tgt := 31) dX11_share_16 rfl (by decide) (fun _ => ?_) (fun c => absurd c (by decide))
      refine aw_iconst dX11_share_31 ?_
      exact aw_ireturn dX11_share_32 rfl rfl ⟨Nat.le_refl _, Nat.le_refl _⟩ (hQ _ (by unfold aShare; first | (rw [if_pos (by simp only [isI, isO, isL, isN]; omega)]; exact h25.trans (hA.sg (by omega) (by omega) (by omega) (by omega))) | (rw [if_neg (by simp only [isI, isO, isL, isN]; omega)])))
  · skip
    refine aw_if_eq (tgt := 31) dX11_share_6 rfl (by decide) (fun _ => ?_) (fun c => absurd c (by decide))
    refine aw_iconst dX11_share_31 ?_
    exact aw_ireturn dX11_share_32 rfl rfl ⟨Nat.le_refl _, Nat.le_refl _⟩ (hQ _ (by unfold aShare; first | (rw [if_pos (by simp only [isI, isO, isL, isN]; omega)]; exact h25.trans (hA.sg (by omega) (by omega) (by omega) (by omega))) | (rw [if_neg (by simp only [isI, isO, isL, isN]; omega)])))

set_option maxHeartbeats 1000000 in
theorem c_X11_licence {Γ : GT} {S T U V A : St} {G : Gw} {nx d : Nat} {Q : QT} (hnx : 52 ≤ nx) {l w : Int} {c : Int} (hI : Inv c A) (hA : Ag A (V 0)) (hL : RgL V) (hl : inI l) (hw : inI w) (hQ : ∀ r, r = aLicence A l w → Q (some (vi r)) (hp Γ S T U V G) nx) : AM Γ MX11_licence (d + 4, 0, 0) [rf Γ 43, vi l, vi w] (hp Γ S T U V G) nx Q := by
  refine am_of (by decide) (Nat.le_of_ble_eq_true rfl) (ls := [some (rf Γ 43), some _, some _]) rfl ?_
  have hR := hI.R
  have i1 := hI.i1
  have hz : 0 ≤ A 28 0 ∧ A 28 0 ≤ 60 := i1.2.2.1
  have hkS : nS A = (A 28 0).toNat := rfl
  have hkI : nIm A = (A 27 0).toNat := rfl
  have hkO : nOr A = (A 26 0).toNat := rfl
  refine aw_aload_n dX11_licence_0 rfl ?_
  refine aw_iload_n dX11_licence_1 rfl ?_
  refine aw_callV (As := [_]) (ρ := (_, 0, 0)) (kn' := (0, 0)) cv_X11_248 dX11_licence_2 rfl rfl (hc43 hnx) rfl rfl (Nat.le_of_ble_eq_true rfl) (rmR _ _ _) ⟨Nat.le_refl _, Nat.le_refl _⟩ rfl (c_X11_isLicence hnx hI hA hL (by omega) (fun r2 h2 => ?_))
  rcases h2 with ⟨rfl, h2⟩ | ⟨rfl, h2⟩
  · skip
    refine aw_if_eq (tgt := 20) dX11_licence_5 rfl (by decide) (fun c => absurd c (by decide)) (fun _ => ?_)
    refine aw_iload_n dX11_licence_8 rfl ?_
    refine aw_i2l dX11_licence_9 (by omega) ?_
    refine aw_lconst0 dX11_licence_10 ?_
    refine aw_ldc2 dX11_licence_11 qk_X11_299 ?_
    refine aw_st (st' := vl 7 :: _) rfl ?_
    refine aw_callS (As := [_, _, _]) (ρ := (_, 0, 0)) (kn' := (0, 0)) cs_X11_51 dX11_licence_14 rfl rfl (Nat.le_of_ble_eq_true rfl) (rmR _ _ _) ⟨Nat.le_refl _, Nat.le_refl _⟩ rfl (c_X11_in hnx (by omega) (fun r14 h14 => ?_))
    rcases h14 with ⟨rfl, h14⟩ | ⟨rfl, h14⟩
    · skip
      refine aw_if_ne (tgt := 22) dX11_licence_17 rfl (by decide) (fun _ => ?_) (fun c => absurd c (by decide))
      refine aw_iload_n dX11_licence_22 rfl ?_
      refine aw_bipush dX11_licence_23 rfl ?_
      refine aw_icmp_ne (tgt := 36) dX11_licence_25 rfl (by omega) (fun c25 => ?_) (fun c25 => ?_)
      · skip
        refine aw_aload_n dX11_licence_36 rfl ?_
        refine aw_iload_n dX11_licence_37 rfl ?_
        refine aw_iload_n dX11_licence_38 rfl ?_
        refine aw_callV (As := [_, _]) (ρ := (_, 0, 0)) (kn' := (0, 0)) cv_X11_196 dX11_licence_39 rfl rfl (hc43 hnx) rfl rfl (Nat.le_of_ble_eq_true rfl) (rmR _ _ _) ⟨Nat.le_refl _, Nat.le_refl _⟩ rfl (c_X11_ofLicence hnx hL (by omega) (by omega) (fun r39 h39 => ?_))
        first | have e39 := h39.trans (hA.lw (by omega) (by omega)) | skip
        exact aw_ireturn dX11_licence_42 rfl rfl ⟨Nat.le_refl _, Nat.le_refl _⟩ (hQ _ (by simp only [aLicence, isL]; (repeat' split) <;> first | omega | (simp only [*] at e39; (repeat' split at e39) <;> omega)))
      · skip
        refine aw_aload_n dX11_licence_28 rfl ?_
        refine aw_iload_n dX11_licence_29 rfl ?_
        refine aw_callV (As := [_]) (ρ := (_, 0, 0)) (kn' := (0, 0)) cv_X11_214 dX11_licence_30 rfl rfl (hc43 hnx) rfl rfl (Nat.le_of_ble_eq_true rfl) (rmR _ _ _) ⟨Nat.le_refl _, Nat.le_refl _⟩ rfl (c_X11_leftOf hnx hI hA hL (by omega) (fun r30 h30 => ?_))
        refine aw_goto (tgt := 42) dX11_licence_33 rfl ?_
        first | have e39 := h39.trans (hA.lw (by omega) (by omega)) | skip
        exact aw_ireturn dX11_licence_42 rfl rfl ⟨Nat.le_refl _, Nat.le_refl _⟩ (hQ _ (by simp only [aLicence, isL]; (repeat' split) <;> first | omega | (simp only [*] at e39; (repeat' split at e39) <;> omega)))
    · skip
      refine aw_if_ne (tgt := 22) dX11_licence_17 rfl (by decide) (fun c => absurd c (by decide)) (fun _ => ?_)
      refine aw_iconst dX11_licence_20 ?_
      exact aw_ireturn dX11_licence_21 rfl rfl ⟨Nat.le_refl _, Nat.le_refl _⟩ (hQ _ (by simp only [aLicence, isL]; (repeat' split) <;> first | omega | (simp only [*] at e39; (repeat' split at e39) <;> omega)))
  · skip
    refine aw_if_eq (tgt := 20) dX11_licence_5 rfl (by decide) (fun _ => ?_) (fun c => absurd c (by decide))
    refine aw_iconst dX11_licence_20 ?_
    exact aw_ireturn dX11_licence_21 rfl rfl ⟨Nat.le_refl _, Nat.le_refl _⟩ (hQ _ (by simp only [aLicence, isL]; (repeat' split) <;> first | omega | (simp only [*] at e39; (repeat' split at e39) <;> omega)))

set_option maxHeartbeats 1000000 in
theorem c_X11_month {Γ : GT} {S T U V A : St} {G : Gw} {nx d : Nat} {Q : QT} (hnx : 52 ≤ nx) {i m : Int} {c : Int} (hI : Inv c A) (hA : Ag A (V 0)) (hL : RgL V) (hi : inI i) (hm : inI m) (hQ : ∀ r, r = aMonth A i m → Q (some (vi r)) (hp Γ S T U V G) nx) : AM Γ MX11_month (d + 2, 0, 0) [rf Γ 43, vi i, vi m] (hp Γ S T U V G) nx Q := by
  refine am_of (by decide) (Nat.le_of_ble_eq_true rfl) (ls := [some (rf Γ 43), some _, some _]) rfl ?_
  have hR := hI.R
  have i1 := hI.i1
  have hz : 0 ≤ A 28 0 ∧ A 28 0 ≤ 60 := i1.2.2.1
  have hkS : nS A = (A 28 0).toNat := rfl
  have hkI : nIm A = (A 27 0).toNat := rfl
  have hkO : nOr A = (A 26 0).toNat := rfl
  refine aw_aload_n dX11_month_0 rfl ?_
  refine aw_iload_n dX11_month_1 rfl ?_
  refine aw_callV (As := [_]) (ρ := (_, 0, 0)) (kn' := (0, 0)) cv_X11_55 dX11_month_2 rfl rfl (hc43 hnx) rfl rfl (Nat.le_of_ble_eq_true rfl) (rmR _ _ _) ⟨Nat.le_refl _, Nat.le_refl _⟩ rfl (c_X11_isImporter hnx hI hA hL (by omega) (fun r2 h2 => ?_))
  rcases h2 with ⟨rfl, h2⟩ | ⟨rfl, h2⟩
  · skip
    refine aw_if_eq (tgt := 39) dX11_month_5 rfl (by decide) (fun c => absurd c (by decide)) (fun _ => ?_)
    refine aw_iload_n dX11_month_8 rfl ?_
    refine aw_i2l dX11_month_9 (by omega) ?_
    refine aw_lconst0 dX11_month_10 ?_
    refine aw_ldc2 dX11_month_11 qk_X11_305 ?_
    refine aw_st (st' := vl 11 :: _) rfl ?_
    refine aw_callS (As := [_, _, _]) (ρ := (_, 0, 0)) (kn' := (0, 0)) cs_X11_51 dX11_month_14 rfl rfl (Nat.le_of_ble_eq_true rfl) (rmR _ _ _) ⟨Nat.le_refl _, Nat.le_refl _⟩ rfl (c_X11_in hnx (by omega) (fun r14 h14 => ?_))
    rcases h14 with ⟨rfl, h14⟩ | ⟨rfl, h14⟩
    · skip
      refine aw_if_eq (tgt := 39) dX11_month_17 rfl (by decide) (fun c => absurd c (by decide)) (fun _ => ?_)
      refine aw_aload_n dX11_month_20 rfl ?_
      refine aw_getf fg_X11_9 dX11_month_21 (hc43 hnx) rfl ?_
      refine aw_sipush dX11_month_24 rfl ?_
      refine aw_bipush dX11_month_27 rfl ?_
      refine aw_iload_n dX11_month_29 rfl ?_
      refine aw_imul dX11_month_30 ?_
      refine aw_iadd dX11_month_31 ?_
      refine aw_iload_n dX11_month_32 rfl ?_
      refine aw_iadd dX11_month_33 ?_
      refine aw_laldr dX11_month_34 (hc44 hnx) (by omega) (by decide) (hL 0) (fun q34 => ?_)
      refine aw_svl (a := A 21 (i * 12 + m)) ((hA.m21 (by omega) (by omega)).symm) ?_
      refine aw_l2i dX11_month_35 ?_
      refine aw_goto (tgt := 40) dX11_month_36 rfl ?_
      exact aw_ireturn dX11_month_40 rfl rfl ⟨Nat.le_refl _, Nat.le_refl _⟩ (hQ _ (by unfold aMonth; first | (rw [if_pos (by simp only [isI, isO, isL, isN]; omega)]; skip) | (rw [if_neg (by simp only [isI, isO, isL, isN]; omega)])))
    · skip
      refine aw_if_eq (tgt := 39) dX11_month_17 rfl (by decide) (fun _ => ?_) (fun c => absurd c (by decide))
      refine aw_iconst dX11_month_39 ?_
      exact aw_ireturn dX11_month_40 rfl rfl ⟨Nat.le_refl _, Nat.le_refl _⟩ (hQ _ (by unfold aMonth; first | (rw [if_pos (by simp only [isI, isO, isL, isN]; omega)]; skip) | (rw [if_neg (by simp only [isI, isO, isL, isN]; omega)])))
  · skip
    refine aw_if_eq (tgt := 39) dX11_month_5 rfl (by decide) (fun _ => ?_) (fun c => absurd c (by decide))
    refine aw_iconst dX11_month_39 ?_
    exact aw_ireturn dX11_month_40 rfl rfl ⟨Nat.le_refl _, Nat.le_refl _⟩ (hQ _ (by unfold aMonth; first | (rw [if_pos (by simp only [isI, isO, isL, isN]; omega)]; skip) | (rw [if_neg (by simp only [isI, isO, isL, isN]; omega)])))

set_option maxHeartbeats 1000000 in
theorem c_X11_idle {Γ : GT} {S T U V A : St} {G : Gw} {nx d : Nat} {Q : QT} (hnx : 52 ≤ nx) {i a : Int} {c : Int} (hI : Inv c A) (hA : Ag A (V 0)) (hL : RgL V) (hi : inI i) (ha : inI a) (hQ : ∀ r, r = aIdle A i a → Q (some (vi r)) (hp Γ S T U V G) nx) : AM Γ MX11_idle (d + 5, 0, 0) [rf Γ 43, vi i, vi a] (hp Γ S T U V G) nx Q := by
  refine am_of (by decide) (Nat.le_of_ble_eq_true rfl) (ls := [some (rf Γ 43), some _, some _]) rfl ?_
  have hR := hI.R
  have i1 := hI.i1
  have hz : 0 ≤ A 28 0 ∧ A 28 0 ≤ 60 := i1.2.2.1
  have hkS : nS A = (A 28 0).toNat := rfl
  have hkI : nIm A = (A 27 0).toNat := rfl
  have hkO : nOr A = (A 26 0).toNat := rfl
  refine aw_aload_n dX11_idle_0 rfl ?_
  refine aw_iload_n dX11_idle_1 rfl ?_
  refine aw_iload_n dX11_idle_2 rfl ?_
  refine aw_callV (As := [_, _]) (ρ := (_, 0, 0)) (kn' := (0, 0)) cv_X11_236 dX11_idle_3 rfl rfl (hc43 hnx) rfl rfl (Nat.le_of_ble_eq_true rfl) (rmR _ _ _) ⟨Nat.le_refl _, Nat.le_refl _⟩ rfl (c_X11_arePair hnx hI hA hL (by omega) (fun r3 h3 => ?_))
  rcases h3 with ⟨rfl, h3⟩ | ⟨rfl, h3⟩
  · skip
    refine aw_if_eq (tgt := 21) dX11_idle_6 rfl (by decide) (fun c => absurd c (by decide)) (fun _ => ?_)
    refine aw_aload_n dX11_idle_9 rfl ?_
    refine aw_iload_n dX11_idle_10 rfl ?_
    refine aw_iload_n dX11_idle_11 rfl ?_
    refine aw_callV (As := [_, _]) (ρ := (_, 0, 0)) (kn' := (0, 0)) cv_X11_223 dX11_idle_12 rfl rfl (hc43 hnx) rfl rfl (Nat.le_of_ble_eq_true rfl) (rmR _ _ _) ⟨Nat.le_refl _, Nat.le_refl _⟩ rfl (c_X11_wasIdle hnx hI hA hL (by omega) (by omega) (fun r12 h12 => ?_))
    refine aw_callS (As := [_]) (ρ := (_, 0, 0)) (kn' := (0, 0)) cs_X11_122 dX11_idle_15 rfl rfl (Nat.le_of_ble_eq_true rfl) (rmR _ _ _) ⟨Nat.le_refl _, Nat.le_refl _⟩ rfl (c_X11_truth hnx (by omega) (fun r15 h15 => ?_))
    refine aw_goto (tgt := 22) dX11_idle_18 rfl ?_
    exact aw_ireturn dX11_idle_22 rfl rfl ⟨Nat.le_refl _, Nat.le_refl _⟩ (hQ _ (by unfold aIdle; first | (rw [if_pos (by simp only [isI, isO]; omega)]; split <;> omega) | (rw [if_neg (by simp only [isI, isO]; omega)])))
  · skip
    refine aw_if_eq (tgt := 21) dX11_idle_6 rfl (by decide) (fun _ => ?_) (fun c => absurd c (by decide))
    refine aw_iconst dX11_idle_21 ?_
    exact aw_ireturn dX11_idle_22 rfl rfl ⟨Nat.le_refl _, Nat.le_refl _⟩ (hQ _ (by unfold aIdle; first | (rw [if_pos (by simp only [isI, isO]; omega)]; split <;> omega) | (rw [if_neg (by simp only [isI, isO]; omega)])))

set_option maxHeartbeats 1000000 in
theorem c_X11_total {Γ : GT} {S T U V A : St} {G : Gw} {nx d : Nat} {Q : QT} (hnx : 52 ≤ nx) {w : Int} {c : Int} (hI : Inv c A) (hA : Ag A (V 0)) (hL : RgL V) (hw : inI w) (hQ : ∀ r, r = aTotal A w → Q (some (vi r)) (hp Γ S T U V G) nx) : AM Γ MX11_total (d + 1, 0, 0) [rf Γ 43, vi w] (hp Γ S T U V G) nx Q := by
  refine am_of (by decide) (Nat.le_of_ble_eq_true rfl) (ls := [some (rf Γ 43), some _]) rfl ?_
  have hR := hI.R
  have i1 := hI.i1
  have hz : 0 ≤ A 28 0 ∧ A 28 0 ≤ 60 := i1.2.2.1
  have hkS : nS A = (A 28 0).toNat := rfl
  have hkI : nIm A = (A 27 0).toNat := rfl
  have hkO : nOr A = (A 26 0).toNat := rfl
  refine aw_aload_n dX11_total_0 rfl ?_
  refine aw_callV (As := []) (ρ := (_, 0, 0)) (kn' := (0, 0)) cv_X11_286 dX11_total_1 rfl rfl (hc43 hnx) rfl rfl (Nat.le_of_ble_eq_true rfl) (rmR _ _ _) ⟨Nat.le_refl _, Nat.le_refl _⟩ rfl (c_X11_hasScheme hnx hI hA hL (fun r1 h1 => ?_))
  rcases h1 with ⟨rfl, h1⟩ | ⟨rfl, h1⟩
  · skip
    refine aw_if_eq (tgt := 32) dX11_total_4 rfl (by decide) (fun c => absurd c (by decide)) (fun _ => ?_)
    refine aw_iload_n dX11_total_7 rfl ?_
    refine aw_i2l dX11_total_8 (by omega) ?_
    refine aw_lconst0 dX11_total_9 ?_
    refine aw_ldc2 dX11_total_10 qk_X11_129 ?_
    refine aw_st (st' := vl 4 :: _) rfl ?_
    refine aw_callS (As := [_, _, _]) (ρ := (_, 0, 0)) (kn' := (0, 0)) cs_X11_51 dX11_total_13 rfl rfl (Nat.le_of_ble_eq_true rfl) (rmR _ _ _) ⟨Nat.le_refl _, Nat.le_refl _⟩ rfl (c_X11_in hnx (by omega) (fun r13 h13 => ?_))
    rcases h13 with ⟨rfl, h13⟩ | ⟨rfl, h13⟩
    · skip
      refine aw_if_eq (tgt := 32) dX11_total_16 rfl (by decide) (fun c => absurd c (by decide)) (fun _ => ?_)
      refine aw_aload_n dX11_total_19 rfl ?_
      refine aw_getf fg_X11_9 dX11_total_20 (hc43 hnx) rfl ?_
      refine aw_bipush dX11_total_23 rfl ?_
      refine aw_iload_n dX11_total_25 rfl ?_
      refine aw_iadd dX11_total_26 ?_
      refine aw_laldr dX11_total_27 (hc44 hnx) (by omega) (by decide) (hL 0) (fun q27 => ?_)
      refine aw_svl (a := A 24 w) ((hA.tt (by omega)).symm) ?_
      refine aw_l2i dX11_total_28 ?_
      refine aw_goto (tgt := 33) dX11_total_29 rfl ?_
      exact aw_ireturn dX11_total_33 rfl rfl ⟨Nat.le_refl _, Nat.le_refl _⟩ (hQ _ (by unfold aTotal; first | (rw [if_pos (by omega)]) | (rw [if_neg (by omega)])))
    · skip
      refine aw_if_eq (tgt := 32) dX11_total_16 rfl (by decide) (fun _ => ?_) (fun c => absurd c (by decide))
      refine aw_iconst dX11_total_32 ?_
      exact aw_ireturn dX11_total_33 rfl rfl ⟨Nat.le_refl _, Nat.le_refl _⟩ (hQ _ (by unfold aTotal; first | (rw [if_pos (by omega)]) | (rw [if_neg (by omega)])))
  · skip
    refine aw_if_eq (tgt := 32) dX11_total_4 rfl (by decide) (fun _ => ?_) (fun c => absurd c (by decide))
    refine aw_iconst dX11_total_32 ?_
    exact aw_ireturn dX11_total_33 rfl rfl ⟨Nat.le_refl _, Nat.le_refl _⟩ (hQ _ (by unfold aTotal; first | (rw [if_pos (by omega)]) | (rw [if_neg (by omega)])))

set_option maxHeartbeats 1000000 in
theorem c_X11_log {Γ : GT} {S T U V A : St} {G : Gw} {nx d : Nat} {Q : QT} (hnx : 52 ≤ nx) {i a w : Int} {c : Int} (hI : Inv c A) (hA : Ag A (V 0)) (hL : RgL V) (hi : inI i) (ha : inI a) (hw : inI w) (hQ : ∀ r, r = aLog A i a w → Q (some (vi r)) (hp Γ S T U V G) nx) : AM Γ MX11_log (d + 2, 0, 0) [rf Γ 43, vi i, vi a, vi w] (hp Γ S T U V G) nx Q := by
  refine am_of (by decide) (Nat.le_of_ble_eq_true rfl) (ls := [some (rf Γ 43), some _, some _, some _]) rfl ?_
  have hR := hI.R
  have i1 := hI.i1
  have hz : 0 ≤ A 28 0 ∧ A 28 0 ≤ 60 := i1.2.2.1
  have hkS : nS A = (A 28 0).toNat := rfl
  have hkI : nIm A = (A 27 0).toNat := rfl
  have hkO : nOr A = (A 26 0).toNat := rfl
  refine aw_iload_n dX11_log_0 rfl ?_
  refine aw_i2l dX11_log_1 (by omega) ?_
  refine aw_lconst0 dX11_log_2 ?_
  refine aw_aload_n dX11_log_3 rfl ?_
  refine aw_getf fg_X11_9 dX11_log_4 (hc43 hnx) rfl ?_
  refine aw_bipush dX11_log_7 rfl ?_
  refine aw_laldr dX11_log_9 (hc44 hnx) (by omega) (by decide) (hL 0) (fun q9 => ?_)
  refine aw_svl (a := A 29 0) (hA.c10.symm) ?_
  refine aw_lconst1 dX11_log_10 ?_
  refine aw_lsub dX11_log_11 ?_
  refine aw_callS (As := [_, _, _]) (ρ := (_, 0, 0)) (kn' := (0, 0)) cs_X11_51 dX11_log_12 rfl rfl (Nat.le_of_ble_eq_true rfl) (rmR _ _ _) ⟨Nat.le_refl _, Nat.le_refl _⟩ rfl (c_X11_in hnx (by omega) (fun r12 h12 => ?_))
  rcases h12 with ⟨rfl, h12⟩ | ⟨rfl, h12⟩
  · skip
    refine aw_if_eq (tgt := 60) dX11_log_15 rfl (by decide) (fun c => absurd c (by decide)) (fun _ => ?_)
    refine aw_aload_n dX11_log_18 rfl ?_
    refine aw_iload_n dX11_log_19 rfl ?_
    refine aw_callV (As := [_]) (ρ := (_, 0, 0)) (kn' := (0, 0)) cv_X11_59 dX11_log_20 rfl rfl (hc43 hnx) rfl rfl (Nat.le_of_ble_eq_true rfl) (rmR _ _ _) ⟨Nat.le_refl _, Nat.le_refl _⟩ rfl (c_X11_isOrigin hnx hI hA hL (by omega) (fun r20 h20 => ?_))
    rcases h20 with ⟨rfl, h20⟩ | ⟨rfl, h20⟩
    · skip
      refine aw_if_eq (tgt := 60) dX11_log_23 rfl (by decide) (fun c => absurd c (by decide)) (fun _ => ?_)
      refine aw_iload_n dX11_log_26 rfl ?_
      refine aw_i2l dX11_log_27 (by omega) ?_
      refine aw_lconst0 dX11_log_28 ?_
      refine aw_ldc2 dX11_log_29 qk_X11_129 ?_
      refine aw_st (st' := vl 4 :: _) rfl ?_
      refine aw_callS (As := [_, _, _]) (ρ := (_, 0, 0)) (kn' := (0, 0)) cs_X11_51 dX11_log_32 rfl rfl (Nat.le_of_ble_eq_true rfl) (rmR _ _ _) ⟨Nat.le_refl _, Nat.le_refl _⟩ rfl (c_X11_in hnx (by omega) (fun r32 h32 => ?_))
      rcases h32 with ⟨rfl, h32⟩ | ⟨rfl, h32⟩
      · skip
        refine aw_if_eq (tgt := 60) dX11_log_35 rfl (by decide) (fun c => absurd c (by decide)) (fun _ => ?_)
        refine aw_aload_n dX11_log_38 rfl ?_
        refine aw_getf fg_X11_9 dX11_log_39 (hc43 hnx) rfl ?_
        refine aw_sipush dX11_log_42 rfl ?_
        refine aw_iconst dX11_log_45 ?_
        refine aw_iconst dX11_log_46 ?_
        refine aw_iload_n dX11_log_47 rfl ?_
        refine aw_imul dX11_log_48 ?_
        refine aw_iload_n dX11_log_49 rfl ?_
        refine aw_iadd dX11_log_50 ?_
        refine aw_imul dX11_log_51 ?_
        refine aw_iadd dX11_log_52 ?_
        refine aw_iload_n dX11_log_53 rfl ?_
        refine aw_iadd dX11_log_54 ?_
        refine aw_laldr dX11_log_55 (hc44 hnx) (by omega) (by decide) (hL 0) (fun q55 => ?_)
        refine aw_svl (a := A 19 ((i * 4 + a) * 5 + w)) ((hA.lg (by omega) (by omega) (by omega) (by omega)).symm) ?_
        refine aw_l2i dX11_log_56 ?_
        refine aw_goto (tgt := 61) dX11_log_57 rfl ?_
        exact aw_ireturn dX11_log_61 rfl rfl ⟨Nat.le_refl _, Nat.le_refl _⟩ (hQ _ (by unfold aLog; first | (rw [if_pos (by simp only [isI, isO, isL, isN]; omega)]; skip) | (rw [if_neg (by simp only [isI, isO, isL, isN]; omega)])))
      · skip
        refine aw_if_eq (tgt := 60) dX11_log_35 rfl (by decide) (fun _ => ?_) (fun c => absurd c (by decide))
        refine aw_iconst dX11_log_60 ?_
        exact aw_ireturn dX11_log_61 rfl rfl ⟨Nat.le_refl _, Nat.le_refl _⟩ (hQ _ (by unfold aLog; first | (rw [if_pos (by simp only [isI, isO, isL, isN]; omega)]; skip) | (rw [if_neg (by simp only [isI, isO, isL, isN]; omega)])))
    · skip
      refine aw_if_eq (tgt := 60) dX11_log_23 rfl (by decide) (fun _ => ?_) (fun c => absurd c (by decide))
      refine aw_iconst dX11_log_60 ?_
      exact aw_ireturn dX11_log_61 rfl rfl ⟨Nat.le_refl _, Nat.le_refl _⟩ (hQ _ (by unfold aLog; first | (rw [if_pos (by simp only [isI, isO, isL, isN]; omega)]; skip) | (rw [if_neg (by simp only [isI, isO, isL, isN]; omega)])))
  · skip
    refine aw_if_eq (tgt := 60) dX11_log_15 rfl (by decide) (fun _ => ?_) (fun c => absurd c (by decide))
    refine aw_iconst dX11_log_60 ?_
    exact aw_ireturn dX11_log_61 rfl rfl ⟨Nat.le_refl _, Nat.le_refl _⟩ (hQ _ (by unfold aLog; first | (rw [if_pos (by simp only [isI, isO, isL, isN]; omega)]; skip) | (rw [if_neg (by simp only [isI, isO, isL, isN]; omega)])))

set_option maxHeartbeats 1000000 in
theorem c_X11_carry {Γ : GT} {S T U V A : St} {G : Gw} {nx d : Nat} {Q : QT} (hnx : 52 ≤ nx) {a : Int} {c : Int} (hI : Inv c A) (hA : Ag A (V 0)) (hL : RgL V) (ha : inI a) (hQ : ∀ r, r = aCarry A a → Q (some (vi r)) (hp Γ S T U V G) nx) : AM Γ MX11_carry (d + 2, 0, 0) [rf Γ 43, vi a] (hp Γ S T U V G) nx Q := by
  refine am_of (by decide) (Nat.le_of_ble_eq_true rfl) (ls := [some (rf Γ 43), some _]) rfl ?_
  have hR := hI.R
  have i1 := hI.i1
  have hz : 0 ≤ A 28 0 ∧ A 28 0 ≤ 60 := i1.2.2.1
  have hkS : nS A = (A 28 0).toNat := rfl
  have hkI : nIm A = (A 27 0).toNat := rfl
  have hkO : nOr A = (A 26 0).toNat := rfl
  refine aw_aload_n dX11_carry_0 rfl ?_
  refine aw_iload_n dX11_carry_1 rfl ?_
  refine aw_callV (As := [_]) (ρ := (_, 0, 0)) (kn' := (0, 0)) cv_X11_59 dX11_carry_2 rfl rfl (hc43 hnx) rfl rfl (Nat.le_of_ble_eq_true rfl) (rmR _ _ _) ⟨Nat.le_refl _, Nat.le_refl _⟩ rfl (c_X11_isOrigin hnx hI hA hL (by omega) (fun r2 h2 => ?_))
  rcases h2 with ⟨rfl, h2⟩ | ⟨rfl, h2⟩
  · skip
    refine aw_if_ne (tgt := 10) dX11_carry_5 rfl (by decide) (fun _ => ?_) (fun c => absurd c (by decide))
    refine aw_aload_n dX11_carry_10 rfl ?_
    refine aw_getf fg_X11_9 dX11_carry_11 (hc43 hnx) rfl ?_
    refine aw_bipush dX11_carry_14 rfl ?_
    refine aw_laldr dX11_carry_16 (hc44 hnx) (by omega) (by decide) (hL 0) (fun q16 => ?_)
    refine aw_svl (a := A 25 0) (hA.c9.symm) ?_
    refine aw_ldc2 dX11_carry_17 qk_X11_180 ?_
    refine aw_st (st' := vl 360 :: _) rfl ?_
    refine aw_lrem dX11_carry_20 (by omega) (by omega) ?_
    refine aw_ldc2 dX11_carry_21 qk_X11_321 ?_
    refine aw_st (st' := vl 270 :: _) rfl ?_
    refine aw_lif_lt (tgt := 32) dX11_carry_24 dX11_carry_25 rfl (by omega) (fun c24 => ?_) (fun c24 => ?_)
    · skip
      refine aw_aload_n dX11_carry_32 rfl ?_
      refine aw_iload_n dX11_carry_33 rfl ?_
      refine aw_callV (As := [_]) (ρ := (_, 0, 0)) (kn' := (0, 0)) cv_X11_182 dX11_carry_34 rfl rfl (hc43 hnx) rfl rfl (Nat.le_of_ble_eq_true rfl) (rmR _ _ _) ⟨Nat.le_refl _, Nat.le_refl _⟩ rfl (c_X11_leaves hnx hI hA hL (by omega) (fun r34 h34 => ?_))
      refine aw_l2i dX11_carry_37 ?_
      exact aw_ireturn dX11_carry_38 rfl rfl ⟨Nat.le_refl _, Nat.le_refl _⟩ (hQ _ (by unfold aCarry; rw [if_pos (by simp only [isO]; omega)]; first | (rw [if_pos (by omega)]) | (rw [if_neg (by omega)]; exact h34)))
    · skip
      refine aw_iconst dX11_carry_28 ?_
      refine aw_goto (tgt := 38) dX11_carry_29 rfl ?_
      exact aw_ireturn dX11_carry_38 rfl rfl ⟨Nat.le_refl _, Nat.le_refl _⟩ (hQ _ (by unfold aCarry; rw [if_pos (by simp only [isO]; omega)]; first | (rw [if_pos (by omega)]) | (rw [if_neg (by omega)]; exact h34)))
  · skip
    refine aw_if_ne (tgt := 10) dX11_carry_5 rfl (by decide) (fun c => absurd c (by decide)) (fun _ => ?_)
    refine aw_iconst dX11_carry_8 ?_
    exact aw_ireturn dX11_carry_9 rfl rfl ⟨Nat.le_refl _, Nat.le_refl _⟩ (hQ _ (by unfold aCarry; rw [if_neg (by simp only [isO]; omega)]))

set_option maxHeartbeats 1000000 in
theorem c_X11_shareAt {Γ : GT} {S T U V A : St} {G : Gw} {nx d : Nat} {Q : QT} (hnx : 52 ≤ nx) {i a y : Int} {c : Int} (hI : Inv c A) (hA : Ag A (V 0)) (hL : RgL V) (hi : inI i) (ha : inI a) (hy : inI y) (hQ : ∀ r, r = aShareAt A i a y → Q (some (vi r)) (hp Γ S T U V G) nx) : AM Γ MX11_shareAt (d + 4, 0, 0) [rf Γ 43, vi i, vi a, vi y] (hp Γ S T U V G) nx Q := by
  refine am_of (by decide) (Nat.le_of_ble_eq_true rfl) (ls := [some (rf Γ 43), some _, some _, some _]) rfl ?_
  have hR := hI.R
  have i1 := hI.i1
  have hz : 0 ≤ A 28 0 ∧ A 28 0 ≤ 60 := i1.2.2.1
  have hkS : nS A = (A 28 0).toNat := rfl
  have hkI : nIm A = (A 27 0).toNat := rfl
  have hkO : nOr A = (A 26 0).toNat := rfl
  refine aw_aload_n dX11_shareAt_0 rfl ?_
  refine aw_iload_n dX11_shareAt_1 rfl ?_
  refine aw_iload_n dX11_shareAt_2 rfl ?_
  refine aw_callV (As := [_, _]) (ρ := (_, 0, 0)) (kn' := (0, 0)) cv_X11_236 dX11_shareAt_3 rfl rfl (hc43 hnx) rfl rfl (Nat.le_of_ble_eq_true rfl) (rmR _ _ _) ⟨Nat.le_refl _, Nat.le_refl _⟩ rfl (c_X11_arePair hnx hI hA hL (by omega) (fun r3 h3 => ?_))
  rcases h3 with ⟨rfl, h3⟩ | ⟨rfl, h3⟩
  · skip
    refine aw_if_eq (tgt := 39) dX11_shareAt_6 rfl (by decide) (fun c => absurd c (by decide)) (fun _ => ?_)
    refine aw_iload_n dX11_shareAt_9 rfl ?_
    refine aw_i2l dX11_shareAt_10 (by omega) ?_
    refine aw_lconst0 dX11_shareAt_11 ?_
    refine aw_ldc2 dX11_shareAt_12 qk_X11_174 ?_
    refine aw_st (st' := vl 100 :: _) rfl ?_
    refine aw_callS (As := [_, _, _]) (ρ := (_, 0, 0)) (kn' := (0, 0)) cs_X11_51 dX11_shareAt_15 rfl rfl (Nat.le_of_ble_eq_true rfl) (rmR _ _ _) ⟨Nat.le_refl _, Nat.le_refl _⟩ rfl (c_X11_in hnx (by omega) (fun r15 h15 => ?_))
    rcases h15 with ⟨rfl, h15⟩ | ⟨rfl, h15⟩
    · skip
      refine aw_if_eq (tgt := 39) dX11_shareAt_18 rfl (by decide) (fun c => absurd c (by decide)) (fun _ => ?_)
      refine aw_aload_n dX11_shareAt_21 rfl ?_
      refine aw_iload_n dX11_shareAt_22 rfl ?_
      refine aw_iload_n dX11_shareAt_23 rfl ?_
      refine aw_aload_n dX11_shareAt_24 rfl ?_
      refine aw_iload_n dX11_shareAt_25 rfl ?_
      refine aw_iconst dX11_shareAt_26 ?_
      refine aw_callV (As := [_, _]) (ρ := (_, 0, 0)) (kn' := (0, 0)) cv_X11_226 dX11_shareAt_27 rfl rfl (hc43 hnx) rfl rfl (Nat.le_of_ble_eq_true rfl) (rmR _ _ _) ⟨Nat.le_refl _, Nat.le_refl _⟩ rfl (c_X11_ofOrigin_1 hnx hI hA hL (by omega) (fun r27 h27 => ?_))
      have fg := (hI.fg (o := a) (by omega)).1
      refine aw_i2l dX11_shareAt_30 (by omega) ?_
      refine aw_iload_n dX11_shareAt_31 rfl ?_
      refine aw_i2l dX11_shareAt_32 (by omega) ?_
      refine aw_callV (As := [_, _, _, _]) (ρ := (_, 0, 0)) (kn' := (0, 0)) cv_X11_189 dX11_shareAt_33 rfl rfl (hc43 hnx) rfl rfl (Nat.le_of_ble_eq_true rfl) (rmR _ _ _) ⟨Nat.le_refl _, Nat.le_refl _⟩ rfl (c_X11_shareBy hnx hI hA hL (by omega) (by omega) (by omega) (by omega) (fun r33 h33 => ?_))
      refine aw_goto (tgt := 40) dX11_shareAt_36 rfl ?_
      exact aw_ireturn dX11_shareAt_40 rfl rfl ⟨Nat.le_refl _, Nat.le_refl _⟩ (hQ _ (by unfold aShareAt; first | (rw [if_pos (by simp only [isI, isO]; omega), ← h27]; exact h33) | (rw [if_neg (by simp only [isI, isO]; omega)])))
    · skip
      refine aw_if_eq (tgt := 39) dX11_shareAt_18 rfl (by decide) (fun _ => ?_) (fun c => absurd c (by decide))
      refine aw_iconst dX11_shareAt_39 ?_
      exact aw_ireturn dX11_shareAt_40 rfl rfl ⟨Nat.le_refl _, Nat.le_refl _⟩ (hQ _ (by unfold aShareAt; first | (rw [if_pos (by simp only [isI, isO]; omega), ← h27]; exact h33) | (rw [if_neg (by simp only [isI, isO]; omega)])))
  · skip
    refine aw_if_eq (tgt := 39) dX11_shareAt_6 rfl (by decide) (fun _ => ?_) (fun c => absurd c (by decide))
    refine aw_iconst dX11_shareAt_39 ?_
    exact aw_ireturn dX11_shareAt_40 rfl rfl ⟨Nat.le_refl _, Nat.le_refl _⟩ (hQ _ (by unfold aShareAt; first | (rw [if_pos (by simp only [isI, isO]; omega), ← h27]; exact h33) | (rw [if_neg (by simp only [isI, isO]; omega)])))

set_option maxHeartbeats 1000000 in
theorem c_X11_lapses {Γ : GT} {S T U V A : St} {G : Gw} {nx d : Nat} {Q : QT} (hnx : 52 ≤ nx) {n : Int} {c : Int} (hI : Inv c A) (hA : Ag A (V 0)) (hL : RgL V) (hn : inI n) (hQ : ∀ r, r = aLapses A n → Q (some (vi r)) (hp Γ S T U V G) nx) : AM Γ MX11_lapses (d + 4, 0, 0) [rf Γ 43, vi n] (hp Γ S T U V G) nx Q := by
  refine am_of (by decide) (Nat.le_of_ble_eq_true rfl) (ls := [some (rf Γ 43), some _, none, none]) rfl ?_
  have hR := hI.R
  have i1 := hI.i1
  have hz : 0 ≤ A 28 0 ∧ A 28 0 ≤ 60 := i1.2.2.1
  have hkS : nS A = (A 28 0).toNat := rfl
  have hkI : nIm A = (A 27 0).toNat := rfl
  have hkO : nOr A = (A 26 0).toNat := rfl
  refine aw_aload_n dX11_lapses_0 rfl ?_
  refine aw_callV (As := []) (ρ := (_, 0, 0)) (kn' := (0, 0)) cv_X11_286 dX11_lapses_1 rfl rfl (hc43 hnx) rfl rfl (Nat.le_of_ble_eq_true rfl) (rmR _ _ _) ⟨Nat.le_refl _, Nat.le_refl _⟩ rfl (c_X11_hasScheme hnx hI hA hL (fun r1 h1 => ?_))
  rcases h1 with ⟨rfl, h1⟩ | ⟨rfl, h1⟩
  · skip
    refine aw_if_eq (tgt := 19) dX11_lapses_4 rfl (by decide) (fun c => absurd c (by decide)) (fun _ => ?_)
    refine aw_iload_n dX11_lapses_7 rfl ?_
    refine aw_i2l dX11_lapses_8 (by omega) ?_
    refine aw_lconst1 dX11_lapses_9 ?_
    refine aw_ldc2 dX11_lapses_10 qk_X11_212 ?_
    refine aw_st (st' := vl 90 :: _) rfl ?_
    refine aw_callS (As := [_, _, _]) (ρ := (_, 0, 0)) (kn' := (0, 0)) cs_X11_51 dX11_lapses_13 rfl rfl (Nat.le_of_ble_eq_true rfl) (rmR _ _ _) ⟨Nat.le_refl _, Nat.le_refl _⟩ rfl (c_X11_in hnx (by omega) (fun r13 h13 => ?_))
    rcases h13 with ⟨rfl, h13⟩ | ⟨rfl, h13⟩
    · skip
      refine aw_if_ne (tgt := 21) dX11_lapses_16 rfl (by decide) (fun _ => ?_) (fun c => absurd c (by decide))
      refine aw_iconst dX11_lapses_21 ?_
      refine aw_istore_n (ls' := [some (rf Γ 43), some _, some _, none]) dX11_lapses_22 (by decide) rfl ?_
      refine aw_iconst dX11_lapses_23 ?_
      refine aw_istore_n (ls' := [some (rf Γ 43), some _, some _, some _]) dX11_lapses_24 (by decide) rfl ?_
      refine loopN (nS A) (P := fun k => ∀ (x : Int) , x = sLap A n k →  AW Γ MX11_lapses _ _ (0, 0) 25 [some (rf Γ 43), some (vi n), some (vi x), some (vi (k : Int))] [] (hp Γ S T U V G) nx) (fun k hk ih => ?_) 0 (Nat.zero_le _) _ rfl
      intro x i25_0
      refine aw_iload_n dX11_lapses_25 rfl ?_
      refine aw_aload_n dX11_lapses_26 rfl ?_
      refine aw_bipush dX11_lapses_27 rfl ?_
      refine aw_callV (As := [_]) (ρ := (_, 0, 0)) (kn' := (0, 0)) cv_X11_164 dX11_lapses_29 rfl rfl (hc43 hnx) rfl rfl (Nat.le_of_ble_eq_true rfl) (rmR _ _ _) ⟨Nat.le_refl _, Nat.le_refl _⟩ rfl (c_X11_many_8 hnx hI hA hL  (fun r29 h29 => ?_))
      subst h29
      refine aw_icmp_ge (tgt := 78) dX11_lapses_32 rfl (by omega) (fun c32 => ?_) (fun c32 => ?_)
      · skip
        obtain rfl : k = nS A := by omega
        refine aw_iload_n dX11_lapses_78 rfl ?_
        exact aw_ireturn dX11_lapses_79 rfl rfl ⟨Nat.le_refl _, Nat.le_refl _⟩ (hQ _ (by unfold aLapses; rw [if_pos (by omega)]; exact i25_0))
      · skip
        refine aw_iload_n dX11_lapses_35 rfl ?_
        refine aw_aload_n dX11_lapses_36 rfl ?_
        refine aw_getf fg_X11_9 dX11_lapses_37 (hc43 hnx) rfl ?_
        refine aw_iload_n dX11_lapses_40 rfl ?_
        refine aw_bipush dX11_lapses_41 rfl ?_
        refine aw_callS (As := [_, _]) (ρ := (_, 0, 0)) (kn' := (0, 0)) cs_X11_48 dX11_lapses_43 rfl rfl (Nat.le_of_ble_eq_true rfl) (rmR _ _ _) ⟨Nat.le_refl _, Nat.le_refl _⟩ rfl (c_X11_licenceAt hnx  (fun r43 h43 => ?_))
        subst h43
        refine aw_laldr dX11_lapses_46 (hc44 hnx) (by omega) (by decide) (hL 0) (fun q46 => ?_)
        refine aw_svl (a := A 8 (k : Int)) ((hA.l8 (by omega)).symm) ?_
        have r8 := hR 8 (by decide) (k : Int)
        refine aw_aload_n dX11_lapses_47 rfl ?_
        refine aw_getf fg_X11_9 dX11_lapses_48 (hc43 hnx) rfl ?_
        refine aw_bipush dX11_lapses_51 rfl ?_
        refine aw_laldr dX11_lapses_53 (hc44 hnx) (by omega) (by decide) (hL 0) (fun q53 => ?_)
        refine aw_svl (a := A 25 0) (hA.c9.symm) ?_
        refine aw_iload_n dX11_lapses_54 rfl ?_
        refine aw_i2l dX11_lapses_55 (by omega) ?_
        refine aw_ladd dX11_lapses_56 ?_
        refine aw_lif_ge (tgt := 69) dX11_lapses_57 dX11_lapses_58 rfl (by omega) (fun c57 => ?_) (fun c57 => ?_)
        · skip
          refine aw_iconst dX11_lapses_69 ?_
          refine aw_iadd dX11_lapses_70 ?_
          refine aw_nmI (fun x2_71 hx2_71 => ?_)
          refine aw_istore_n (ls' := [some (rf Γ 43), some _, some _, some _]) dX11_lapses_71 (by decide) rfl ?_
          refine aw_iinc (ls' := [some (rf Γ 43), some _, some _, some _]) dX11_lapses_72 rfl (by decide) rfl ?_
          refine aw_goto (tgt := 25) dX11_lapses_75 rfl ?_
          exact ih (by omega) x2_71  (by simp only [sLap, sm] at i25_0 ⊢; (repeat' split) <;> omega)
        · skip
          refine aw_aload_n dX11_lapses_61 rfl ?_
          refine aw_iload_n dX11_lapses_62 rfl ?_
          refine aw_callV (As := [_]) (ρ := (_, 0, 0)) (kn' := (0, 0)) cv_X11_214 dX11_lapses_63 rfl rfl (hc43 hnx) rfl rfl (Nat.le_of_ble_eq_true rfl) (rmR _ _ _) ⟨Nat.le_refl _, Nat.le_refl _⟩ rfl (c_X11_leftOf hnx hI hA hL (by omega) (fun r63 h63 => ?_))
          refine aw_goto (tgt := 70) dX11_lapses_66 rfl ?_
          refine aw_iadd dX11_lapses_70 ?_
          refine aw_nmI (fun x2_71 hx2_71 => ?_)
          refine aw_istore_n (ls' := [some (rf Γ 43), some _, some _, some _]) dX11_lapses_71 (by decide) rfl ?_
          refine aw_iinc (ls' := [some (rf Γ 43), some _, some _, some _]) dX11_lapses_72 rfl (by decide) rfl ?_
          refine aw_goto (tgt := 25) dX11_lapses_75 rfl ?_
          exact ih (by omega) x2_71  (by simp only [sLap, sm] at i25_0 ⊢; (repeat' split) <;> omega)
    · skip
      refine aw_if_ne (tgt := 21) dX11_lapses_16 rfl (by decide) (fun c => absurd c (by decide)) (fun _ => ?_)
      refine aw_iconst dX11_lapses_19 ?_
      exact aw_ireturn dX11_lapses_20 rfl rfl ⟨Nat.le_refl _, Nat.le_refl _⟩ (hQ _ (by unfold aLapses; rw [if_neg (by omega)]))
  · skip
    refine aw_if_eq (tgt := 19) dX11_lapses_4 rfl (by decide) (fun _ => ?_) (fun c => absurd c (by decide))
    refine aw_iconst dX11_lapses_19 ?_
    exact aw_ireturn dX11_lapses_20 rfl rfl ⟨Nat.le_refl _, Nat.le_refl _⟩ (hQ _ (by unfold aLapses; rw [if_neg (by omega)]))

set_option maxHeartbeats 1000000 in
theorem c_X11_lacks {Γ : GT} {S T U V A : St} {G : Gw} {nx d : Nat} {Q : QT} (hnx : 52 ≤ nx) {i a n : Int} {c : Int} (hI : Inv c A) (hA : Ag A (V 0)) (hL : RgL V) (hi : inI i) (ha : inI a) (hn : inI n) (hQ : ∀ r, r = aLacks A i a n → Q (some (vi r)) (hp Γ S T U V G) nx) : AM Γ MX11_lacks (d + 4, 0, 0) [rf Γ 43, vi i, vi a, vi n] (hp Γ S T U V G) nx Q := by
  refine am_of (by decide) (Nat.le_of_ble_eq_true rfl) (ls := [some (rf Γ 43), some _, some _, some _, none, none, none]) rfl ?_
  have hR := hI.R
  have i1 := hI.i1
  have hz : 0 ≤ A 28 0 ∧ A 28 0 ≤ 60 := i1.2.2.1
  have hkS : nS A = (A 28 0).toNat := rfl
  have hkI : nIm A = (A 27 0).toNat := rfl
  have hkO : nOr A = (A 26 0).toNat := rfl
  refine aw_aload_n dX11_lacks_0 rfl ?_
  refine aw_iload_n dX11_lacks_1 rfl ?_
  refine aw_iload_n dX11_lacks_2 rfl ?_
  refine aw_callV (As := [_, _]) (ρ := (_, 0, 0)) (kn' := (0, 0)) cv_X11_236 dX11_lacks_3 rfl rfl (hc43 hnx) rfl rfl (Nat.le_of_ble_eq_true rfl) (rmR _ _ _) ⟨Nat.le_refl _, Nat.le_refl _⟩ rfl (c_X11_arePair hnx hI hA hL (by omega) (fun r3 h3 => ?_))
  rcases h3 with ⟨rfl, h3⟩ | ⟨rfl, h3⟩
  · skip
    refine aw_if_eq (tgt := 16) dX11_lacks_6 rfl (by decide) (fun c => absurd c (by decide)) (fun _ => ?_)
    refine aw_iload_n dX11_lacks_9 rfl ?_
    refine aw_callS (As := [_]) (ρ := (_, 0, 0)) (kn' := (0, 0)) cs_X11_239 dX11_lacks_10 rfl rfl (Nat.le_of_ble_eq_true rfl) (rmR _ _ _) ⟨Nat.le_refl _, Nat.le_refl _⟩ rfl (c_X11_isMuch hnx (by omega) (fun r10 h10 => ?_))
    rcases h10 with ⟨rfl, h10⟩ | ⟨rfl, h10⟩
    · skip
      refine aw_if_ne (tgt := 18) dX11_lacks_13 rfl (by decide) (fun _ => ?_) (fun c => absurd c (by decide))
      refine aw_lconst0 dX11_lacks_18 ?_
      refine aw_lstore (ls' := [some (rf Γ 43), some _, some _, some _, some _, none, none]) dX11_lacks_19 (by decide) rfl ?_
      refine aw_iconst dX11_lacks_21 ?_
      refine aw_istore (ls' := [some (rf Γ 43), some _, some _, some _, some _, none, some _]) dX11_lacks_22 (by decide) rfl ?_
      refine loopN (nS A) (P := fun k => ∀ (x : Int) , x = sLak A i a k →  AW Γ MX11_lacks _ _ (0, 0) 24 [some (rf Γ 43), some (vi i), some (vi a), some (vi n), some (vl x), none, some (vi (k : Int))] [] (hp Γ S T U V G) nx) (fun k hk ih => ?_) 0 (Nat.zero_le _) _ rfl
      intro x i24_0
      refine aw_iload dX11_lacks_24 rfl ?_
      refine aw_aload_n dX11_lacks_26 rfl ?_
      refine aw_bipush dX11_lacks_27 rfl ?_
      refine aw_callV (As := [_]) (ρ := (_, 0, 0)) (kn' := (0, 0)) cv_X11_164 dX11_lacks_29 rfl rfl (hc43 hnx) rfl rfl (Nat.le_of_ble_eq_true rfl) (rmR _ _ _) ⟨Nat.le_refl _, Nat.le_refl _⟩ rfl (c_X11_many_8 hnx hI hA hL  (fun r29 h29 => ?_))
      subst h29
      refine aw_icmp_ge (tgt := 68) dX11_lacks_32 rfl (by omega) (fun c32 => ?_) (fun c32 => ?_)
      · skip
        obtain rfl : k = nS A := by omega
        refine aw_lconst0 dX11_lacks_68 ?_
        have lk := hI.lak i a (nS A) (Nat.le_refl _)
        refine aw_iload_n dX11_lacks_69 rfl ?_
        refine aw_i2l dX11_lacks_70 (by omega) ?_
        refine aw_lload dX11_lacks_71 rfl ?_
        refine aw_lsub dX11_lacks_73 ?_
        refine aw_mmaxL qm_X11_327 dX11_lacks_74 (by omega) (rmN _ _ _ (Nat.le_of_ble_eq_true rfl)) ⟨Nat.le_refl _, Nat.le_refl _⟩ (fun r74 h74 => ?_)
        refine aw_l2i dX11_lacks_77 ?_
        exact aw_ireturn dX11_lacks_78 rfl rfl ⟨Nat.le_refl _, Nat.le_refl _⟩ (hQ _ (by unfold aLacks; rw [if_pos (by simp only [isI, isO, isN]; omega)]; omega))
      · skip
        refine aw_lload dX11_lacks_35 rfl ?_
        refine aw_aload_n dX11_lacks_37 rfl ?_
        refine aw_iload dX11_lacks_38 rfl ?_
        refine aw_iload_n dX11_lacks_40 rfl ?_
        refine aw_iload_n dX11_lacks_41 rfl ?_
        refine aw_callV (As := [_, _, _]) (ρ := (_, 0, 0)) (kn' := (0, 0)) cv_X11_202 dX11_lacks_42 rfl rfl (hc43 hnx) rfl rfl (Nat.le_of_ble_eq_true rfl) (rmR _ _ _) ⟨Nat.le_refl _, Nat.le_refl _⟩ rfl (c_X11_isOf hnx hI hA hL (by omega) (by omega) (fun r42 h42 => ?_))
        rcases h42 with ⟨rfl, h42⟩ | ⟨rfl, h42⟩
        · skip
          refine aw_if_eq (tgt := 58) dX11_lacks_45 rfl (by decide) (fun c => absurd c (by decide)) (fun _ => ?_)
          refine aw_aload_n dX11_lacks_48 rfl ?_
          refine aw_iload dX11_lacks_49 rfl ?_
          refine aw_callV (As := [_]) (ρ := (_, 0, 0)) (kn' := (0, 0)) cv_X11_214 dX11_lacks_51 rfl rfl (hc43 hnx) rfl rfl (Nat.le_of_ble_eq_true rfl) (rmR _ _ _) ⟨Nat.le_refl _, Nat.le_refl _⟩ rfl (c_X11_leftOf hnx hI hA hL (by omega) (fun r51 h51 => ?_))
          have rm := hI.rem (l := (k : Int)) (by omega)
          have rm1 := hI.rem1 (l := (k : Int)) (by omega)
          have rs := hI.rems
          refine aw_i2l dX11_lacks_54 (by omega) ?_
          refine aw_goto (tgt := 59) dX11_lacks_55 rfl ?_
          refine aw_ladd dX11_lacks_59 ?_
          refine aw_nmL (fun x4_60 hx4_60 => ?_)
          refine aw_lstore (ls' := [some (rf Γ 43), some _, some _, some _, some _, none, some _]) dX11_lacks_60 (by decide) rfl ?_
          refine aw_iinc (ls' := [some (rf Γ 43), some _, some _, some _, some _, none, some _]) dX11_lacks_62 rfl (by decide) rfl ?_
          refine aw_goto (tgt := 24) dX11_lacks_65 rfl ?_
          exact ih (by omega) x4_60  (by simp only [sLak, sm] at i24_0 ⊢; (repeat' split) <;> omega)
        · skip
          refine aw_if_eq (tgt := 58) dX11_lacks_45 rfl (by decide) (fun _ => ?_) (fun c => absurd c (by decide))
          refine aw_lconst0 dX11_lacks_58 ?_
          refine aw_ladd dX11_lacks_59 ?_
          refine aw_nmL (fun x4_60 hx4_60 => ?_)
          refine aw_lstore (ls' := [some (rf Γ 43), some _, some _, some _, some _, none, some _]) dX11_lacks_60 (by decide) rfl ?_
          refine aw_iinc (ls' := [some (rf Γ 43), some _, some _, some _, some _, none, some _]) dX11_lacks_62 rfl (by decide) rfl ?_
          refine aw_goto (tgt := 24) dX11_lacks_65 rfl ?_
          exact ih (by omega) x4_60  (by simp only [sLak, sm] at i24_0 ⊢; (repeat' split) <;> omega)
    · skip
      refine aw_if_ne (tgt := 18) dX11_lacks_13 rfl (by decide) (fun c => absurd c (by decide)) (fun _ => ?_)
      refine aw_iconst dX11_lacks_16 ?_
      exact aw_ireturn dX11_lacks_17 rfl rfl ⟨Nat.le_refl _, Nat.le_refl _⟩ (hQ _ (by unfold aLacks; rw [if_neg (by simp only [isI, isO, isN]; omega)]))
  · skip
    refine aw_if_eq (tgt := 16) dX11_lacks_6 rfl (by decide) (fun _ => ?_) (fun c => absurd c (by decide))
    refine aw_iconst dX11_lacks_16 ?_
    exact aw_ireturn dX11_lacks_17 rfl rfl ⟨Nat.le_refl _, Nat.le_refl _⟩ (hQ _ (by unfold aLacks; rw [if_neg (by simp only [isI, isO, isN]; omega)]))

set_option maxHeartbeats 1000000 in
theorem c_X11_stood {Γ : GT} {S T U V A : St} {G : Gw} {nx d : Nat} {Q : QT} (hnx : 52 ≤ nx) {a t : Int} {c : Int} (hI : Inv c A) (hA : Ag A (V 0)) (hL : RgL V) (ha : inI a) (ht : inI t) (hQ : ∀ r, r = aStood A a t → Q (some (vi r)) (hp Γ S T U V G) nx) : AM Γ MX11_stood (d + 3, 0, 0) [rf Γ 43, vi a, vi t] (hp Γ S T U V G) nx Q := by
  refine am_of (by decide) (Nat.le_of_ble_eq_true rfl) (ls := [some (rf Γ 43), some _, some _, none, none, none, none]) rfl ?_
  have hR := hI.R
  have i1 := hI.i1
  have hz : 0 ≤ A 28 0 ∧ A 28 0 ≤ 60 := i1.2.2.1
  have hkS : nS A = (A 28 0).toNat := rfl
  have hkI : nIm A = (A 27 0).toNat := rfl
  have hkO : nOr A = (A 26 0).toNat := rfl
  refine aw_aload_n dX11_stood_0 rfl ?_
  refine aw_iload_n dX11_stood_1 rfl ?_
  refine aw_callV (As := [_]) (ρ := (_, 0, 0)) (kn' := (0, 0)) cv_X11_59 dX11_stood_2 rfl rfl (hc43 hnx) rfl rfl (Nat.le_of_ble_eq_true rfl) (rmR _ _ _) ⟨Nat.le_refl _, Nat.le_refl _⟩ rfl (c_X11_isOrigin hnx hI hA hL (by omega) (fun r2 h2 => ?_))
  rcases h2 with ⟨rfl, h2⟩ | ⟨rfl, h2⟩
  · skip
    refine aw_if_eq (tgt := 26) dX11_stood_5 rfl (by decide) (fun c => absurd c (by decide)) (fun _ => ?_)
    refine aw_iload_n dX11_stood_8 rfl ?_
    refine aw_i2l dX11_stood_9 (by omega) ?_
    refine aw_lconst0 dX11_stood_10 ?_
    refine aw_aload_n dX11_stood_11 rfl ?_
    refine aw_getf fg_X11_9 dX11_stood_12 (hc43 hnx) rfl ?_
    refine aw_bipush dX11_stood_15 rfl ?_
    refine aw_laldr dX11_stood_17 (hc44 hnx) (by omega) (by decide) (hL 0) (fun q17 => ?_)
    refine aw_svl (a := A 25 0) (hA.c9.symm) ?_
    refine aw_lconst1 dX11_stood_18 ?_
    refine aw_lsub dX11_stood_19 ?_
    refine aw_callS (As := [_, _, _]) (ρ := (_, 0, 0)) (kn' := (0, 0)) cs_X11_51 dX11_stood_20 rfl rfl (Nat.le_of_ble_eq_true rfl) (rmR _ _ _) ⟨Nat.le_refl _, Nat.le_refl _⟩ rfl (c_X11_in hnx (by omega) (fun r20 h20 => ?_))
    rcases h20 with ⟨rfl, h20⟩ | ⟨rfl, h20⟩
    · skip
      refine aw_if_ne (tgt := 28) dX11_stood_23 rfl (by decide) (fun _ => ?_) (fun c => absurd c (by decide))
      refine aw_lconst0 dX11_stood_28 ?_
      refine aw_lstore_n (ls' := [some (rf Γ 43), some _, some _, some _, none, none, none]) dX11_stood_29 (by decide) rfl ?_
      refine aw_iconst dX11_stood_30 ?_
      refine aw_istore (ls' := [some (rf Γ 43), some _, some _, some _, none, some _, none]) dX11_stood_31 (by decide) rfl ?_
      refine loopN (nS A) (P := fun k => ∀ (x : Int) , x = sStood A a t k →  AW Γ MX11_stood _ _ (0, 0) 33 [some (rf Γ 43), some (vi a), some (vi t), some (vl x), none, some (vi (k : Int)), none] [] (hp Γ S T U V G) nx) (fun k hk ih => ?_) 0 (Nat.zero_le _) _ rfl
      intro x i33_0
      refine aw_iload dX11_stood_33 rfl ?_
      refine aw_aload_n dX11_stood_35 rfl ?_
      refine aw_bipush dX11_stood_36 rfl ?_
      refine aw_callV (As := [_]) (ρ := (_, 0, 0)) (kn' := (0, 0)) cv_X11_164 dX11_stood_38 rfl rfl (hc43 hnx) rfl rfl (Nat.le_of_ble_eq_true rfl) (rmR _ _ _) ⟨Nat.le_refl _, Nat.le_refl _⟩ rfl (c_X11_many_8 hnx hI hA hL  (fun r38 h38 => ?_))
      subst h38
      refine aw_icmp_ge (tgt := 120) dX11_stood_41 rfl (by omega) (fun c41 => ?_) (fun c41 => ?_)
      · skip
        obtain rfl : k = nS A := by omega
        refine aw_lload_n dX11_stood_120 rfl ?_
        refine aw_l2i dX11_stood_121 ?_
        exact aw_ireturn dX11_stood_122 rfl rfl ⟨Nat.le_refl _, Nat.le_refl _⟩ (hQ _ (by unfold aStood; rw [if_pos (by simp only [isO]; omega)]; exact i33_0))
      · skip
        refine aw_aload_n dX11_stood_44 rfl ?_
        refine aw_iload dX11_stood_45 rfl ?_
        refine aw_iconst dX11_stood_47 ?_
        refine aw_callV (As := [_, _]) (ρ := (_, 0, 0)) (kn' := (0, 0)) cv_X11_196 dX11_stood_48 rfl rfl (hc43 hnx) rfl rfl (Nat.le_of_ble_eq_true rfl) (rmR _ _ _) ⟨Nat.le_refl _, Nat.le_refl _⟩ rfl (c_X11_ofLicence_1 hnx hI hA hL (by omega) (fun r48 h48 => ?_))
        have r5 := hR 5 (by decide) (k : Int)
        refine aw_iload_n dX11_stood_51 rfl ?_
        refine aw_icmp_ne (tgt := 91) dX11_stood_52 rfl (by omega) (fun c52 => ?_) (fun c52 => ?_)
        · skip
          refine aw_iconst dX11_stood_91 ?_
          refine aw_istore (ls' := [some (rf Γ 43), some _, some _, some _, none, some _, some _]) dX11_stood_92 (by decide) rfl ?_
          refine aw_lload_n dX11_stood_94 rfl ?_
          refine aw_iload dX11_stood_95 rfl ?_
          refine aw_if_eq (tgt := 111) dX11_stood_97 rfl (by omega) (fun c97 => ?_) (fun c97 => ?_)
          · skip
            refine aw_lconst0 dX11_stood_111 ?_
            refine aw_ladd dX11_stood_112 ?_
            refine aw_nmL (fun x3_113 hx3_113 => ?_)
            refine aw_lstore_n (ls' := [some (rf Γ 43), some _, some _, some _, none, some _, some _]) dX11_stood_113 (by decide) rfl ?_
            refine aw_iinc (ls' := [some (rf Γ 43), some _, some _, some _, none, some _, some _]) dX11_stood_114 rfl (by decide) rfl ?_
            refine aw_goto (tgt := 33) dX11_stood_117 rfl ?_
            refine aw_fg [true, true, true, true, true, true, false] (ls' := [some (rf Γ 43), some _, some _, some _, none, some _, none]) rfl ?_
            exact ih (by omega) x3_113  (by simp only [sStood, sm] at i33_0 ⊢; (repeat' split) <;> omega)
          · skip
            refine aw_aload_n dX11_stood_100 rfl ?_
            refine aw_iload dX11_stood_101 rfl ?_
            refine aw_iconst dX11_stood_103 ?_
            refine aw_callV (As := [_, _]) (ρ := (_, 0, 0)) (kn' := (0, 0)) cv_X11_196 dX11_stood_104 rfl rfl (hc43 hnx) rfl rfl (Nat.le_of_ble_eq_true rfl) (rmR _ _ _) ⟨Nat.le_refl _, Nat.le_refl _⟩ rfl (c_X11_ofLicence_2 hnx hI hA hL (by omega) (fun r104 h104 => ?_))
            have r6 := hR 6 (by decide) (k : Int)
            refine aw_i2l dX11_stood_107 (by omega) ?_
            refine aw_goto (tgt := 112) dX11_stood_108 rfl ?_
            refine aw_ladd dX11_stood_112 ?_
            refine aw_nmL (fun x3_113 hx3_113 => ?_)
            refine aw_lstore_n (ls' := [some (rf Γ 43), some _, some _, some _, none, some _, some _]) dX11_stood_113 (by decide) rfl ?_
            refine aw_iinc (ls' := [some (rf Γ 43), some _, some _, some _, none, some _, some _]) dX11_stood_114 rfl (by decide) rfl ?_
            refine aw_goto (tgt := 33) dX11_stood_117 rfl ?_
            refine aw_fg [true, true, true, true, true, true, false] (ls' := [some (rf Γ 43), some _, some _, some _, none, some _, none]) rfl ?_
            exact ih (by omega) x3_113  (by simp only [sStood, sm] at i33_0 ⊢; (repeat' split) <;> omega)
        · skip
          refine aw_aload_n dX11_stood_55 rfl ?_
          refine aw_iload dX11_stood_56 rfl ?_
          refine aw_iconst dX11_stood_58 ?_
          refine aw_callV (As := [_, _]) (ρ := (_, 0, 0)) (kn' := (0, 0)) cv_X11_196 dX11_stood_59 rfl rfl (hc43 hnx) rfl rfl (Nat.le_of_ble_eq_true rfl) (rmR _ _ _) ⟨Nat.le_refl _, Nat.le_refl _⟩ rfl (c_X11_ofLicence_3 hnx hI hA hL (by omega) (fun r59 h59 => ?_))
          have r7 := hR 7 (by decide) (k : Int)
          refine aw_iload_n dX11_stood_62 rfl ?_
          refine aw_icmp_gt (tgt := 91) dX11_stood_63 rfl (by omega) (fun c63 => ?_) (fun c63 => ?_)
          · skip
            refine aw_iconst dX11_stood_91 ?_
            refine aw_istore (ls' := [some (rf Γ 43), some _, some _, some _, none, some _, some _]) dX11_stood_92 (by decide) rfl ?_
            refine aw_lload_n dX11_stood_94 rfl ?_
            refine aw_iload dX11_stood_95 rfl ?_
            refine aw_if_eq (tgt := 111) dX11_stood_97 rfl (by omega) (fun c97 => ?_) (fun c97 => ?_)
            · skip
              refine aw_lconst0 dX11_stood_111 ?_
              refine aw_ladd dX11_stood_112 ?_
              refine aw_nmL (fun x3_113 hx3_113 => ?_)
              refine aw_lstore_n (ls' := [some (rf Γ 43), some _, some _, some _, none, some _, some _]) dX11_stood_113 (by decide) rfl ?_
              refine aw_iinc (ls' := [some (rf Γ 43), some _, some _, some _, none, some _, some _]) dX11_stood_114 rfl (by decide) rfl ?_
              refine aw_goto (tgt := 33) dX11_stood_117 rfl ?_
              refine aw_fg [true, true, true, true, true, true, false] (ls' := [some (rf Γ 43), some _, some _, some _, none, some _, none]) rfl ?_
              exact ih (by omega) x3_113  (by simp only [sStood, sm] at i33_0 ⊢; (repeat' split) <;> omega)
            · skip
              refine aw_aload_n dX11_stood_100 rfl ?_
              refine aw_iload dX11_stood_101 rfl ?_
              refine aw_iconst dX11_stood_103 ?_
              refine aw_callV (As := [_, _]) (ρ := (_, 0, 0)) (kn' := (0, 0)) cv_X11_196 dX11_stood_104 rfl rfl (hc43 hnx) rfl rfl (Nat.le_of_ble_eq_true rfl) (rmR _ _ _) ⟨Nat.le_refl _, Nat.le_refl _⟩ rfl (c_X11_ofLicence_2 hnx hI hA hL (by omega) (fun r104 h104 => ?_))
              have r6 := hR 6 (by decide) (k : Int)
              refine aw_i2l dX11_stood_107 (by omega) ?_
              refine aw_goto (tgt := 112) dX11_stood_108 rfl ?_
              refine aw_ladd dX11_stood_112 ?_
              refine aw_nmL (fun x3_113 hx3_113 => ?_)
              refine aw_lstore_n (ls' := [some (rf Γ 43), some _, some _, some _, none, some _, some _]) dX11_stood_113 (by decide) rfl ?_
              refine aw_iinc (ls' := [some (rf Γ 43), some _, some _, some _, none, some _, some _]) dX11_stood_114 rfl (by decide) rfl ?_
              refine aw_goto (tgt := 33) dX11_stood_117 rfl ?_
              refine aw_fg [true, true, true, true, true, true, false] (ls' := [some (rf Γ 43), some _, some _, some _, none, some _, none]) rfl ?_
              exact ih (by omega) x3_113  (by simp only [sStood, sm] at i33_0 ⊢; (repeat' split) <;> omega)
          · skip
            refine aw_aload_n dX11_stood_66 rfl ?_
            refine aw_iload dX11_stood_67 rfl ?_
            refine aw_callV (As := [_]) (ρ := (_, 0, 0)) (kn' := (0, 0)) cv_X11_199 dX11_stood_69 rfl rfl (hc43 hnx) rfl rfl (Nat.le_of_ble_eq_true rfl) (rmR _ _ _) ⟨Nat.le_refl _, Nat.le_refl _⟩ rfl (c_X11_isOpen hnx hI hA hL (by omega) (fun r69 h69 => ?_))
            rcases h69 with ⟨rfl, h69⟩ | ⟨rfl, h69⟩
            · skip
              refine aw_if_ne (tgt := 87) dX11_stood_72 rfl (by decide) (fun _ => ?_) (fun c => absurd c (by decide))
              refine aw_iconst dX11_stood_87 ?_
              refine aw_goto (tgt := 92) dX11_stood_88 rfl ?_
              refine aw_istore (ls' := [some (rf Γ 43), some _, some _, some _, none, some _, some _]) dX11_stood_92 (by decide) rfl ?_
              refine aw_lload_n dX11_stood_94 rfl ?_
              refine aw_iload dX11_stood_95 rfl ?_
              refine aw_if_eq (tgt := 111) dX11_stood_97 rfl (by omega) (fun c97 => ?_) (fun c97 => ?_)
              · skip
                refine aw_lconst0 dX11_stood_111 ?_
                refine aw_ladd dX11_stood_112 ?_
                refine aw_nmL (fun x3_113 hx3_113 => ?_)
                refine aw_lstore_n (ls' := [some (rf Γ 43), some _, some _, some _, none, some _, some _]) dX11_stood_113 (by decide) rfl ?_
                refine aw_iinc (ls' := [some (rf Γ 43), some _, some _, some _, none, some _, some _]) dX11_stood_114 rfl (by decide) rfl ?_
                refine aw_goto (tgt := 33) dX11_stood_117 rfl ?_
                refine aw_fg [true, true, true, true, true, true, false] (ls' := [some (rf Γ 43), some _, some _, some _, none, some _, none]) rfl ?_
                exact ih (by omega) x3_113  (by simp only [sStood, sm] at i33_0 ⊢; (repeat' split) <;> omega)
              · skip
                refine aw_aload_n dX11_stood_100 rfl ?_
                refine aw_iload dX11_stood_101 rfl ?_
                refine aw_iconst dX11_stood_103 ?_
                refine aw_callV (As := [_, _]) (ρ := (_, 0, 0)) (kn' := (0, 0)) cv_X11_196 dX11_stood_104 rfl rfl (hc43 hnx) rfl rfl (Nat.le_of_ble_eq_true rfl) (rmR _ _ _) ⟨Nat.le_refl _, Nat.le_refl _⟩ rfl (c_X11_ofLicence_2 hnx hI hA hL (by omega) (fun r104 h104 => ?_))
                have r6 := hR 6 (by decide) (k : Int)
                refine aw_i2l dX11_stood_107 (by omega) ?_
                refine aw_goto (tgt := 112) dX11_stood_108 rfl ?_
                refine aw_ladd dX11_stood_112 ?_
                refine aw_nmL (fun x3_113 hx3_113 => ?_)
                refine aw_lstore_n (ls' := [some (rf Γ 43), some _, some _, some _, none, some _, some _]) dX11_stood_113 (by decide) rfl ?_
                refine aw_iinc (ls' := [some (rf Γ 43), some _, some _, some _, none, some _, some _]) dX11_stood_114 rfl (by decide) rfl ?_
                refine aw_goto (tgt := 33) dX11_stood_117 rfl ?_
                refine aw_fg [true, true, true, true, true, true, false] (ls' := [some (rf Γ 43), some _, some _, some _, none, some _, none]) rfl ?_
                exact ih (by omega) x3_113  (by simp only [sStood, sm] at i33_0 ⊢; (repeat' split) <;> omega)
            · skip
              refine aw_if_ne (tgt := 87) dX11_stood_72 rfl (by decide) (fun c => absurd c (by decide)) (fun _ => ?_)
              refine aw_aload_n dX11_stood_75 rfl ?_
              refine aw_iload dX11_stood_76 rfl ?_
              refine aw_bipush dX11_stood_78 rfl ?_
              refine aw_callV (As := [_, _]) (ρ := (_, 0, 0)) (kn' := (0, 0)) cv_X11_196 dX11_stood_80 rfl rfl (hc43 hnx) rfl rfl (Nat.le_of_ble_eq_true rfl) (rmR _ _ _) ⟨Nat.le_refl _, Nat.le_refl _⟩ rfl (c_X11_ofLicence_7 hnx hI hA hL (by omega) h69 (fun r80 h80 => ?_))
              have r11 := hR 11 (by decide) (k : Int)
              refine aw_iload_n dX11_stood_83 rfl ?_
              refine aw_icmp_le (tgt := 91) dX11_stood_84 rfl (by omega) (fun c84 => ?_) (fun c84 => ?_)
              · skip
                refine aw_iconst dX11_stood_91 ?_
                refine aw_istore (ls' := [some (rf Γ 43), some _, some _, some _, none, some _, some _]) dX11_stood_92 (by decide) rfl ?_
                refine aw_lload_n dX11_stood_94 rfl ?_
                refine aw_iload dX11_stood_95 rfl ?_
                refine aw_if_eq (tgt := 111) dX11_stood_97 rfl (by omega) (fun c97 => ?_) (fun c97 => ?_)
                · skip
                  refine aw_lconst0 dX11_stood_111 ?_
                  refine aw_ladd dX11_stood_112 ?_
                  refine aw_nmL (fun x3_113 hx3_113 => ?_)
                  refine aw_lstore_n (ls' := [some (rf Γ 43), some _, some _, some _, none, some _, some _]) dX11_stood_113 (by decide) rfl ?_
                  refine aw_iinc (ls' := [some (rf Γ 43), some _, some _, some _, none, some _, some _]) dX11_stood_114 rfl (by decide) rfl ?_
                  refine aw_goto (tgt := 33) dX11_stood_117 rfl ?_
                  refine aw_fg [true, true, true, true, true, true, false] (ls' := [some (rf Γ 43), some _, some _, some _, none, some _, none]) rfl ?_
                  exact ih (by omega) x3_113  (by simp only [sStood, sm] at i33_0 ⊢; (repeat' split) <;> omega)
                · skip
                  refine aw_aload_n dX11_stood_100 rfl ?_
                  refine aw_iload dX11_stood_101 rfl ?_
                  refine aw_iconst dX11_stood_103 ?_
                  refine aw_callV (As := [_, _]) (ρ := (_, 0, 0)) (kn' := (0, 0)) cv_X11_196 dX11_stood_104 rfl rfl (hc43 hnx) rfl rfl (Nat.le_of_ble_eq_true rfl) (rmR _ _ _) ⟨Nat.le_refl _, Nat.le_refl _⟩ rfl (c_X11_ofLicence_2 hnx hI hA hL (by omega) (fun r104 h104 => ?_))
                  have r6 := hR 6 (by decide) (k : Int)
                  refine aw_i2l dX11_stood_107 (by omega) ?_
                  refine aw_goto (tgt := 112) dX11_stood_108 rfl ?_
                  refine aw_ladd dX11_stood_112 ?_
                  refine aw_nmL (fun x3_113 hx3_113 => ?_)
                  refine aw_lstore_n (ls' := [some (rf Γ 43), some _, some _, some _, none, some _, some _]) dX11_stood_113 (by decide) rfl ?_
                  refine aw_iinc (ls' := [some (rf Γ 43), some _, some _, some _, none, some _, some _]) dX11_stood_114 rfl (by decide) rfl ?_
                  refine aw_goto (tgt := 33) dX11_stood_117 rfl ?_
                  refine aw_fg [true, true, true, true, true, true, false] (ls' := [some (rf Γ 43), some _, some _, some _, none, some _, none]) rfl ?_
                  exact ih (by omega) x3_113  (by simp only [sStood, sm] at i33_0 ⊢; (repeat' split) <;> omega)
              · skip
                refine aw_iconst dX11_stood_87 ?_
                refine aw_goto (tgt := 92) dX11_stood_88 rfl ?_
                refine aw_istore (ls' := [some (rf Γ 43), some _, some _, some _, none, some _, some _]) dX11_stood_92 (by decide) rfl ?_
                refine aw_lload_n dX11_stood_94 rfl ?_
                refine aw_iload dX11_stood_95 rfl ?_
                refine aw_if_eq (tgt := 111) dX11_stood_97 rfl (by omega) (fun c97 => ?_) (fun c97 => ?_)
                · skip
                  refine aw_lconst0 dX11_stood_111 ?_
                  refine aw_ladd dX11_stood_112 ?_
                  refine aw_nmL (fun x3_113 hx3_113 => ?_)
                  refine aw_lstore_n (ls' := [some (rf Γ 43), some _, some _, some _, none, some _, some _]) dX11_stood_113 (by decide) rfl ?_
                  refine aw_iinc (ls' := [some (rf Γ 43), some _, some _, some _, none, some _, some _]) dX11_stood_114 rfl (by decide) rfl ?_
                  refine aw_goto (tgt := 33) dX11_stood_117 rfl ?_
                  refine aw_fg [true, true, true, true, true, true, false] (ls' := [some (rf Γ 43), some _, some _, some _, none, some _, none]) rfl ?_
                  exact ih (by omega) x3_113  (by simp only [sStood, sm] at i33_0 ⊢; (repeat' split) <;> omega)
                · skip
                  refine aw_aload_n dX11_stood_100 rfl ?_
                  refine aw_iload dX11_stood_101 rfl ?_
                  refine aw_iconst dX11_stood_103 ?_
                  refine aw_callV (As := [_, _]) (ρ := (_, 0, 0)) (kn' := (0, 0)) cv_X11_196 dX11_stood_104 rfl rfl (hc43 hnx) rfl rfl (Nat.le_of_ble_eq_true rfl) (rmR _ _ _) ⟨Nat.le_refl _, Nat.le_refl _⟩ rfl (c_X11_ofLicence_2 hnx hI hA hL (by omega) (fun r104 h104 => ?_))
                  have r6 := hR 6 (by decide) (k : Int)
                  refine aw_i2l dX11_stood_107 (by omega) ?_
                  refine aw_goto (tgt := 112) dX11_stood_108 rfl ?_
                  refine aw_ladd dX11_stood_112 ?_
                  refine aw_nmL (fun x3_113 hx3_113 => ?_)
                  refine aw_lstore_n (ls' := [some (rf Γ 43), some _, some _, some _, none, some _, some _]) dX11_stood_113 (by decide) rfl ?_
                  refine aw_iinc (ls' := [some (rf Γ 43), some _, some _, some _, none, some _, some _]) dX11_stood_114 rfl (by decide) rfl ?_
                  refine aw_goto (tgt := 33) dX11_stood_117 rfl ?_
                  refine aw_fg [true, true, true, true, true, true, false] (ls' := [some (rf Γ 43), some _, some _, some _, none, some _, none]) rfl ?_
                  exact ih (by omega) x3_113  (by simp only [sStood, sm] at i33_0 ⊢; (repeat' split) <;> omega)
    · skip
      refine aw_if_ne (tgt := 28) dX11_stood_23 rfl (by decide) (fun c => absurd c (by decide)) (fun _ => ?_)
      refine aw_iconst dX11_stood_26 ?_
      exact aw_ireturn dX11_stood_27 rfl rfl ⟨Nat.le_refl _, Nat.le_refl _⟩ (hQ _ (by unfold aStood; rw [if_neg (by simp only [isO]; omega)]))
  · skip
    refine aw_if_eq (tgt := 26) dX11_stood_5 rfl (by decide) (fun _ => ?_) (fun c => absurd c (by decide))
    refine aw_iconst dX11_stood_26 ?_
    exact aw_ireturn dX11_stood_27 rfl rfl ⟨Nat.le_refl _, Nat.le_refl _⟩ (hQ _ (by unfold aStood; rw [if_neg (by simp only [isO]; omega)]))

set_option maxHeartbeats 1000000 in
theorem c_X11_owing {Γ : GT} {S T U V A : St} {G : Gw} {nx d : Nat} {Q : QT} (hnx : 52 ≤ nx) {i : Int} {c : Int} (hI : Inv c A) (hA : Ag A (V 0)) (hL : RgL V) (hi : inI i) (hQ : ∀ r, r = aOwing A i → Q (some (vi r)) (hp Γ S T U V G) nx) : AM Γ MX11_owing (d + 3, 0, 0) [rf Γ 43, vi i] (hp Γ S T U V G) nx Q := by
  refine am_of (by decide) (Nat.le_of_ble_eq_true rfl) (ls := [some (rf Γ 43), some _, none, none, none]) rfl ?_
  have hR := hI.R
  have i1 := hI.i1
  have hz : 0 ≤ A 28 0 ∧ A 28 0 ≤ 60 := i1.2.2.1
  have hkS : nS A = (A 28 0).toNat := rfl
  have hkI : nIm A = (A 27 0).toNat := rfl
  have hkO : nOr A = (A 26 0).toNat := rfl
  refine aw_aload_n dX11_owing_0 rfl ?_
  refine aw_iload_n dX11_owing_1 rfl ?_
  refine aw_callV (As := [_]) (ρ := (_, 0, 0)) (kn' := (0, 0)) cv_X11_55 dX11_owing_2 rfl rfl (hc43 hnx) rfl rfl (Nat.le_of_ble_eq_true rfl) (rmR _ _ _) ⟨Nat.le_refl _, Nat.le_refl _⟩ rfl (c_X11_isImporter hnx hI hA hL (by omega) (fun r2 h2 => ?_))
  rcases h2 with ⟨rfl, h2⟩ | ⟨rfl, h2⟩
  · skip
    refine aw_if_ne (tgt := 10) dX11_owing_5 rfl (by decide) (fun _ => ?_) (fun c => absurd c (by decide))
    refine aw_lconst0 dX11_owing_10 ?_
    refine aw_lstore_n (ls' := [some (rf Γ 43), some _, some _, none, none]) dX11_owing_11 (by decide) rfl ?_
    refine aw_iconst dX11_owing_12 ?_
    refine aw_istore (ls' := [some (rf Γ 43), some _, some _, none, some _]) dX11_owing_13 (by decide) rfl ?_
    refine loopN (nS A) (P := fun k => ∀ (x : Int) , x = sOwing A i k →  AW Γ MX11_owing _ _ (0, 0) 15 [some (rf Γ 43), some (vi i), some (vl x), none, some (vi (k : Int))] [] (hp Γ S T U V G) nx) (fun k hk ih => ?_) 0 (Nat.zero_le _) _ rfl
    intro x i15_0
    refine aw_iload dX11_owing_15 rfl ?_
    refine aw_aload_n dX11_owing_17 rfl ?_
    refine aw_bipush dX11_owing_18 rfl ?_
    refine aw_callV (As := [_]) (ρ := (_, 0, 0)) (kn' := (0, 0)) cv_X11_164 dX11_owing_20 rfl rfl (hc43 hnx) rfl rfl (Nat.le_of_ble_eq_true rfl) (rmR _ _ _) ⟨Nat.le_refl _, Nat.le_refl _⟩ rfl (c_X11_many_8 hnx hI hA hL  (fun r20 h20 => ?_))
    subst h20
    refine aw_icmp_ge (tgt := 97) dX11_owing_23 rfl (by omega) (fun c23 => ?_) (fun c23 => ?_)
    · skip
      obtain rfl : k = nS A := by omega
      refine aw_lload_n dX11_owing_97 rfl ?_
      refine aw_l2i dX11_owing_98 ?_
      exact aw_ireturn dX11_owing_99 rfl rfl ⟨Nat.le_refl _, Nat.le_refl _⟩ (hQ _ (by unfold aOwing; rw [if_pos (by simp only [isI]; omega)]; exact i15_0))
    · skip
      refine aw_aload_n dX11_owing_26 rfl ?_
      refine aw_iload dX11_owing_27 rfl ?_
      refine aw_iconst dX11_owing_29 ?_
      refine aw_callV (As := [_, _]) (ρ := (_, 0, 0)) (kn' := (0, 0)) cv_X11_196 dX11_owing_30 rfl rfl (hc43 hnx) rfl rfl (Nat.le_of_ble_eq_true rfl) (rmR _ _ _) ⟨Nat.le_refl _, Nat.le_refl _⟩ rfl (c_X11_ofLicence_0 hnx hI hA hL (by omega) (fun r30 h30 => ?_))
      have r4 := hR 4 (by decide) (k : Int)
      refine aw_iload_n dX11_owing_33 rfl ?_
      refine aw_icmp_ne (tgt := 91) dX11_owing_34 rfl (by omega) (fun c34 => ?_) (fun c34 => ?_)
      · skip
        refine aw_iinc (ls' := [some (rf Γ 43), some _, some _, none, some _]) dX11_owing_91 rfl (by decide) rfl ?_
        refine aw_goto (tgt := 15) dX11_owing_94 rfl ?_
        exact ih (by omega) x  (by simp only [sOwing, sm, need] at i15_0 ⊢; (repeat' split) <;> omega)
      · skip
        refine aw_aload_n dX11_owing_37 rfl ?_
        refine aw_iload dX11_owing_38 rfl ?_
        refine aw_callV (As := [_]) (ρ := (_, 0, 0)) (kn' := (0, 0)) cv_X11_199 dX11_owing_40 rfl rfl (hc43 hnx) rfl rfl (Nat.le_of_ble_eq_true rfl) (rmR _ _ _) ⟨Nat.le_refl _, Nat.le_refl _⟩ rfl (c_X11_isOpen hnx hI hA hL (by omega) (fun r40 h40 => ?_))
        rcases h40 with ⟨rfl, h40⟩ | ⟨rfl, h40⟩
        · skip
          refine aw_if_eq (tgt := 91) dX11_owing_43 rfl (by decide) (fun c => absurd c (by decide)) (fun _ => ?_)
          have su := hI.sur (l := (k : Int)) (by omega)
          have li := hI.li (l := (k : Int)) (by omega)
          have am := hI.am (l := (k : Int)) (by omega)
          refine aw_lload_n dX11_owing_46 rfl ?_
          refine aw_lconst0 dX11_owing_47 ?_
          refine aw_aload_n dX11_owing_48 rfl ?_
          refine aw_getf fg_X11_9 dX11_owing_49 (hc43 hnx) rfl ?_
          refine aw_iconst dX11_owing_52 ?_
          refine aw_laldr dX11_owing_53 (hc44 hnx) (by omega) (by decide) (hL 0) (fun q53 => ?_)
          refine aw_svl (a := A 0 3) ((hA.tm (by omega)).symm) ?_
          refine aw_aload_n dX11_owing_54 rfl ?_
          refine aw_getf fg_X11_9 dX11_owing_55 (hc43 hnx) rfl ?_
          refine aw_iload dX11_owing_58 rfl ?_
          refine aw_iconst dX11_owing_60 ?_
          refine aw_callS (As := [_, _]) (ρ := (_, 0, 0)) (kn' := (0, 0)) cs_X11_48 dX11_owing_61 rfl rfl (Nat.le_of_ble_eq_true rfl) (rmR _ _ _) ⟨Nat.le_refl _, Nat.le_refl _⟩ rfl (c_X11_licenceAt hnx  (fun r61 h61 => ?_))
          subst h61
          refine aw_laldr dX11_owing_64 (hc44 hnx) (by omega) (by decide) (hL 0) (fun q64 => ?_)
          refine aw_svl (a := A 6 (k : Int)) ((hA.l6 (by omega)).symm) ?_
          refine aw_lmul dX11_owing_65 ?_
          refine aw_ldc2 dX11_owing_66 qk_X11_349 ?_
          refine aw_st (st' := vl 99 :: _) rfl ?_
          refine aw_ladd dX11_owing_69 ?_
          refine aw_ldc2 dX11_owing_70 qk_X11_174 ?_
          refine aw_st (st' := vl 100 :: _) rfl ?_
          refine aw_ldiv dX11_owing_73 (by omega) (by omega) ?_
          refine aw_aload_n dX11_owing_74 rfl ?_
          refine aw_getf fg_X11_9 dX11_owing_75 (hc43 hnx) rfl ?_
          refine aw_iload dX11_owing_78 rfl ?_
          refine aw_iconst dX11_owing_80 ?_
          refine aw_callS (As := [_, _]) (ρ := (_, 0, 0)) (kn' := (0, 0)) cs_X11_48 dX11_owing_81 rfl rfl (Nat.le_of_ble_eq_true rfl) (rmR _ _ _) ⟨Nat.le_refl _, Nat.le_refl _⟩ rfl (c_X11_licenceAt hnx  (fun r81 h81 => ?_))
          subst h81
          refine aw_laldr dX11_owing_84 (hc44 hnx) (by omega) (by decide) (hL 0) (fun q84 => ?_)
          refine aw_svl (a := A 9 (k : Int)) ((hA.l9 (by omega)).symm) ?_
          refine aw_lsub dX11_owing_85 ?_
          refine aw_mmaxL qm_X11_327 dX11_owing_86 (by omega) (rmN _ _ _ (Nat.le_of_ble_eq_true rfl)) ⟨Nat.le_refl _, Nat.le_refl _⟩ (fun r86 h86 => ?_)
          refine aw_ladd dX11_owing_89 ?_
          refine aw_nmL (fun x2_90 hx2_90 => ?_)
          refine aw_lstore_n (ls' := [some (rf Γ 43), some _, some _, none, some _]) dX11_owing_90 (by decide) rfl ?_
          refine aw_iinc (ls' := [some (rf Γ 43), some _, some _, none, some _]) dX11_owing_91 rfl (by decide) rfl ?_
          refine aw_goto (tgt := 15) dX11_owing_94 rfl ?_
          exact ih (by omega) x2_90  (by simp only [sOwing, sm, need] at i15_0 ⊢; (repeat' split) <;> omega)
        · skip
          refine aw_if_eq (tgt := 91) dX11_owing_43 rfl (by decide) (fun _ => ?_) (fun c => absurd c (by decide))
          refine aw_iinc (ls' := [some (rf Γ 43), some _, some _, none, some _]) dX11_owing_91 rfl (by decide) rfl ?_
          refine aw_goto (tgt := 15) dX11_owing_94 rfl ?_
          exact ih (by omega) x  (by simp only [sOwing, sm, need] at i15_0 ⊢; (repeat' split) <;> omega)
  · skip
    refine aw_if_ne (tgt := 10) dX11_owing_5 rfl (by decide) (fun c => absurd c (by decide)) (fun _ => ?_)
    refine aw_iconst dX11_owing_8 ?_
    exact aw_ireturn dX11_owing_9 rfl rfl ⟨Nat.le_refl _, Nat.le_refl _⟩ (hQ _ (by unfold aOwing; rw [if_neg (by simp only [isI]; omega)]))

set_option maxHeartbeats 1000000 in
theorem c_X11_holds {Γ : GT} {S T U V A : St} {G : Gw} {nx d : Nat} {Q : QT} (hnx : 52 ≤ nx) {i w : Int} {c : Int} (hI : Inv c A) (hA : Ag A (V 0)) (hL : RgL V) (hi : inI i) (hw : inI w) (hQ : ∀ r, r = aHolds A i w → Q (some (vi r)) (hp Γ S T U V G) nx) : AM Γ MX11_holds (d + 4, 0, 0) [rf Γ 43, vi i, vi w] (hp Γ S T U V G) nx Q := by
  refine am_of (by decide) (Nat.le_of_ble_eq_true rfl) (ls := [some (rf Γ 43), some _, some _, none, none, none, none, none, none]) rfl ?_
  have hR := hI.R
  have i1 := hI.i1
  have hz : 0 ≤ A 28 0 ∧ A 28 0 ≤ 60 := i1.2.2.1
  have hkS : nS A = (A 28 0).toNat := rfl
  have hkI : nIm A = (A 27 0).toNat := rfl
  have hkO : nOr A = (A 26 0).toNat := rfl
  refine aw_aload_n dX11_holds_0 rfl ?_
  refine aw_iload_n dX11_holds_1 rfl ?_
  refine aw_callV (As := [_]) (ρ := (_, 0, 0)) (kn' := (0, 0)) cv_X11_55 dX11_holds_2 rfl rfl (hc43 hnx) rfl rfl (Nat.le_of_ble_eq_true rfl) (rmR _ _ _) ⟨Nat.le_refl _, Nat.le_refl _⟩ rfl (c_X11_isImporter hnx hI hA hL (by omega) (fun r2 h2 => ?_))
  rcases h2 with ⟨rfl, h2⟩ | ⟨rfl, h2⟩
  · skip
    refine aw_if_eq (tgt := 20) dX11_holds_5 rfl (by decide) (fun c => absurd c (by decide)) (fun _ => ?_)
    refine aw_iload_n dX11_holds_8 rfl ?_
    refine aw_i2l dX11_holds_9 (by omega) ?_
    refine aw_lconst0 dX11_holds_10 ?_
    refine aw_ldc2 dX11_holds_11 qk_X11_301 ?_
    refine aw_st (st' := vl 3 :: _) rfl ?_
    refine aw_callS (As := [_, _, _]) (ρ := (_, 0, 0)) (kn' := (0, 0)) cs_X11_51 dX11_holds_14 rfl rfl (Nat.le_of_ble_eq_true rfl) (rmR _ _ _) ⟨Nat.le_refl _, Nat.le_refl _⟩ rfl (c_X11_in hnx (by omega) (fun r14 h14 => ?_))
    rcases h14 with ⟨rfl, h14⟩ | ⟨rfl, h14⟩
    · skip
      refine aw_if_ne (tgt := 22) dX11_holds_17 rfl (by decide) (fun _ => ?_) (fun c => absurd c (by decide))
      refine aw_iconst dX11_holds_22 ?_
      refine aw_istore_n (ls' := [some (rf Γ 43), some _, some _, some _, none, none, none, none, none]) dX11_holds_23 (by decide) rfl ?_
      refine aw_iconst dX11_holds_24 ?_
      refine aw_istore (ls' := [some (rf Γ 43), some _, some _, some _, some _, none, none, none, none]) dX11_holds_25 (by decide) rfl ?_
      refine aw_bipush dX11_holds_27 rfl ?_
      refine aw_istore (ls' := [some (rf Γ 43), some _, some _, some _, some _, some _, none, none, none]) dX11_holds_29 (by decide) rfl ?_
      refine aw_bipush dX11_holds_31 rfl ?_
      refine aw_istore (ls' := [some (rf Γ 43), some _, some _, some _, some _, some _, some _, none, none]) dX11_holds_33 (by decide) rfl ?_
      refine aw_iconst dX11_holds_35 ?_
      refine aw_istore (ls' := [some (rf Γ 43), some _, some _, some _, some _, some _, some _, some _, none]) dX11_holds_36 (by decide) rfl ?_
      refine loopN (nS A) (P := fun k => ∀ (x : Int) (y : Int) (z : Int) (u : Int) , x = openI A i k → y = remI A i k → z = earI A i k → u = lonI A i (A 25 0) k →  AW Γ MX11_holds _ _ (0, 0) 38 [some (rf Γ 43), some (vi i), some (vi w), some (vi x), some (vi y), some (vi z), some (vi u), some (vi (k : Int)), none] [] (hp Γ S T U V G) nx) (fun k hk ih => ?_) 0 (Nat.zero_le _) _ _ _ _ rfl rfl rfl rfl
      intro x y z u i38_0 i38_1 i38_2 i38_3
      refine aw_iload dX11_holds_38 rfl ?_
      refine aw_aload_n dX11_holds_40 rfl ?_
      refine aw_bipush dX11_holds_41 rfl ?_
      refine aw_callV (As := [_]) (ρ := (_, 0, 0)) (kn' := (0, 0)) cv_X11_164 dX11_holds_43 rfl rfl (hc43 hnx) rfl rfl (Nat.le_of_ble_eq_true rfl) (rmR _ _ _) ⟨Nat.le_refl _, Nat.le_refl _⟩ rfl (c_X11_many_8 hnx hI hA hL  (fun r43 h43 => ?_))
      subst h43
      refine aw_icmp_ge (tgt := 146) dX11_holds_46 rfl (by omega) (fun c46 => ?_) (fun c46 => ?_)
      · skip
        obtain rfl : k = nS A := by omega
        refine aw_iload_n dX11_holds_146 rfl ?_
        refine aw_if_ne (tgt := 154) dX11_holds_147 rfl (by omega) (fun c147 => ?_) (fun c147 => ?_)
        · skip
          refine aw_iload_n dX11_holds_154 rfl ?_
          refine aw_iconst dX11_holds_155 ?_
          refine aw_icmp_ne (tgt := 164) dX11_holds_156 rfl (by omega) (fun c156 => ?_) (fun c156 => ?_)
          · skip
            refine aw_iload_n dX11_holds_164 rfl ?_
            refine aw_iconst dX11_holds_165 ?_
            refine aw_icmp_ne (tgt := 174) dX11_holds_166 rfl (by omega) (fun c166 => ?_) (fun c166 => ?_)
            · skip
              refine aw_iload dX11_holds_174 rfl ?_
              exact aw_ireturn dX11_holds_176 rfl rfl ⟨Nat.le_refl _, Nat.le_refl _⟩ (hQ _ (by simp only [aHolds, isI]; (repeat' split) <;> omega))
            · skip
              refine aw_iload dX11_holds_169 rfl ?_
              refine aw_goto (tgt := 176) dX11_holds_171 rfl ?_
              exact aw_ireturn dX11_holds_176 rfl rfl ⟨Nat.le_refl _, Nat.le_refl _⟩ (hQ _ (by simp only [aHolds, isI]; (repeat' split) <;> omega))
          · skip
            refine aw_iload dX11_holds_159 rfl ?_
            refine aw_goto (tgt := 176) dX11_holds_161 rfl ?_
            exact aw_ireturn dX11_holds_176 rfl rfl ⟨Nat.le_refl _, Nat.le_refl _⟩ (hQ _ (by simp only [aHolds, isI]; (repeat' split) <;> omega))
        · skip
          refine aw_iload_n dX11_holds_150 rfl ?_
          refine aw_goto (tgt := 176) dX11_holds_151 rfl ?_
          exact aw_ireturn dX11_holds_176 rfl rfl ⟨Nat.le_refl _, Nat.le_refl _⟩ (hQ _ (by simp only [aHolds, isI]; (repeat' split) <;> omega))
      · skip
        refine aw_aload_n dX11_holds_49 rfl ?_
        refine aw_iload dX11_holds_50 rfl ?_
        refine aw_iconst dX11_holds_52 ?_
        refine aw_callV (As := [_, _]) (ρ := (_, 0, 0)) (kn' := (0, 0)) cv_X11_196 dX11_holds_53 rfl rfl (hc43 hnx) rfl rfl (Nat.le_of_ble_eq_true rfl) (rmR _ _ _) ⟨Nat.le_refl _, Nat.le_refl _⟩ rfl (c_X11_ofLicence_0 hnx hI hA hL (by omega) (fun r53 h53 => ?_))
        have r4 := hR 4 (by decide) (k : Int)
        refine aw_iload_n dX11_holds_56 rfl ?_
        refine aw_icmp_ne (tgt := 140) dX11_holds_57 rfl (by omega) (fun c57 => ?_) (fun c57 => ?_)
        · skip
          refine aw_iinc (ls' := [some (rf Γ 43), some _, some _, some _, some _, some _, some _, some _, none]) dX11_holds_140 rfl (by decide) rfl ?_
          refine aw_goto (tgt := 38) dX11_holds_143 rfl ?_
          exact ih (by omega) x y z u  (by simp only [openI, sm] at i38_0 ⊢; split <;> omega) (by simp only [remI, sm] at i38_1 ⊢; split <;> first | omega | (rw [show rem A (k : Int) = 0 by unfold rem; rw [if_neg (by omega)]]; omega)) (by simp only [earI]; split <;> omega) (by simp only [lonI]; split <;> omega)
        · skip
          refine aw_aload_n dX11_holds_60 rfl ?_
          refine aw_iload dX11_holds_61 rfl ?_
          refine aw_callV (As := [_]) (ρ := (_, 0, 0)) (kn' := (0, 0)) cv_X11_199 dX11_holds_63 rfl rfl (hc43 hnx) rfl rfl (Nat.le_of_ble_eq_true rfl) (rmR _ _ _) ⟨Nat.le_refl _, Nat.le_refl _⟩ rfl (c_X11_isOpen hnx hI hA hL (by omega) (fun r63 h63 => ?_))
          rcases h63 with ⟨rfl, h63⟩ | ⟨rfl, h63⟩
          · skip
            refine aw_if_ne (tgt := 72) dX11_holds_66 rfl (by decide) (fun _ => ?_) (fun c => absurd c (by decide))
            have en := hI.earN i k (by omega)
            have li := hI.li (l := (k : Int)) (by omega)
            have ln := lonI_in (S := A) i (A 25 0) (by omega) (fun l h0 h1 => by have := hI.li (l := l) ⟨h0, h1⟩; omega) k (by omega)
            refine aw_iinc (ls' := [some (rf Γ 43), some _, some _, some _, some _, some _, some _, some _, none]) dX11_holds_72 rfl (by decide) rfl ?_
            refine aw_iload dX11_holds_75 rfl ?_
            refine aw_aload_n dX11_holds_77 rfl ?_
            refine aw_iload dX11_holds_78 rfl ?_
            refine aw_callV (As := [_]) (ρ := (_, 0, 0)) (kn' := (0, 0)) cv_X11_214 dX11_holds_80 rfl rfl (hc43 hnx) rfl rfl (Nat.le_of_ble_eq_true rfl) (rmR _ _ _) ⟨Nat.le_refl _, Nat.le_refl _⟩ rfl (c_X11_leftOf hnx hI hA hL (by omega) (fun r80 h80 => ?_))
            refine aw_iadd dX11_holds_83 ?_
            refine aw_nmI (fun x4_84 hx4_84 => ?_)
            refine aw_istore (ls' := [some (rf Γ 43), some _, some _, some _, some _, some _, some _, some _, none]) dX11_holds_84 (by decide) rfl ?_
            refine aw_aload_n dX11_holds_86 rfl ?_
            refine aw_iload dX11_holds_87 rfl ?_
            refine aw_bipush dX11_holds_89 rfl ?_
            refine aw_callV (As := [_, _]) (ρ := (_, 0, 0)) (kn' := (0, 0)) cv_X11_196 dX11_holds_91 rfl rfl (hc43 hnx) rfl rfl (Nat.le_of_ble_eq_true rfl) (rmR _ _ _) ⟨Nat.le_refl _, Nat.le_refl _⟩ rfl (c_X11_ofLicence_6 hnx hI hA hL (by omega) (fun r91 h91 => ?_))
            refine aw_istore (ls' := [some (rf Γ 43), some _, some _, some _, some _, some _, some _, some _, some _]) dX11_holds_94 (by decide) rfl ?_
            refine aw_iload dX11_holds_96 rfl ?_
            refine aw_bipush dX11_holds_98 rfl ?_
            refine aw_icmp_ne (tgt := 108) dX11_holds_100 rfl (by omega) (fun c100 => ?_) (fun c100 => ?_)
            · skip
              refine aw_iload dX11_holds_108 rfl ?_
              refine aw_iload dX11_holds_110 rfl ?_
              refine aw_mmin qm_X11_117 dX11_holds_112 (by omega) (rmN13 _ _ _ (Nat.le_of_ble_eq_true rfl)) ⟨Nat.le_refl _, Nat.le_refl _⟩ (fun r112 h112 => ?_)
              refine aw_istore (ls' := [some (rf Γ 43), some _, some _, some _, some _, some _, some _, some _, some _]) dX11_holds_115 (by decide) rfl ?_
              refine aw_iload dX11_holds_117 rfl ?_
              refine aw_aload_n dX11_holds_119 rfl ?_
              refine aw_bipush dX11_holds_120 rfl ?_
              refine aw_callV (As := [_]) (ρ := (_, 0, 0)) (kn' := (0, 0)) cv_X11_164 dX11_holds_122 rfl rfl (hc43 hnx) rfl rfl (Nat.le_of_ble_eq_true rfl) (rmR _ _ _) ⟨Nat.le_refl _, Nat.le_refl _⟩ rfl (c_X11_many_9 hnx hI hA hL  (fun r122 h122 => ?_))
              refine aw_aload_n dX11_holds_125 rfl ?_
              refine aw_iload dX11_holds_126 rfl ?_
              refine aw_iconst dX11_holds_128 ?_
              refine aw_callV (As := [_, _]) (ρ := (_, 0, 0)) (kn' := (0, 0)) cv_X11_196 dX11_holds_129 rfl rfl (hc43 hnx) rfl rfl (Nat.le_of_ble_eq_true rfl) (rmR _ _ _) ⟨Nat.le_refl _, Nat.le_refl _⟩ rfl (c_X11_ofLicence_3 hnx hI hA hL (by omega) (fun r129 h129 => ?_))
              refine aw_isub dX11_holds_132 ?_
              refine aw_iconst dX11_holds_133 ?_
              refine aw_iadd dX11_holds_134 ?_
              refine aw_mmax qm_X11_347 dX11_holds_135 (by omega) (rmN13 _ _ _ (Nat.le_of_ble_eq_true rfl)) ⟨Nat.le_refl _, Nat.le_refl _⟩ (fun r135 h135 => ?_)
              refine aw_istore (ls' := [some (rf Γ 43), some _, some _, some _, some _, some _, some _, some _, some _]) dX11_holds_138 (by decide) rfl ?_
              refine aw_iinc (ls' := [some (rf Γ 43), some _, some _, some _, some _, some _, some _, some _, some _]) dX11_holds_140 rfl (by decide) rfl ?_
              refine aw_goto (tgt := 38) dX11_holds_143 rfl ?_
              refine aw_fg [true, true, true, true, true, true, true, true, false] (ls' := [some (rf Γ 43), some _, some _, some _, some _, some _, some _, some _, none]) rfl ?_
              exact ih (by omega) _ x4_84 r112 r135  (by simp only [openI, sm] at i38_0 ⊢; split <;> omega) (by simp only [remI, sm] at i38_1 ⊢; split <;> first | omega | (rw [show rem A (k : Int) = 0 by unfold rem; rw [if_neg (by omega)]]; omega)) (by simp only [earI]; split <;> omega) (by simp only [lonI]; split <;> omega)
            · skip
              refine aw_iload dX11_holds_103 rfl ?_
              refine aw_goto (tgt := 115) dX11_holds_105 rfl ?_
              refine aw_istore (ls' := [some (rf Γ 43), some _, some _, some _, some _, some _, some _, some _, some _]) dX11_holds_115 (by decide) rfl ?_
              refine aw_iload dX11_holds_117 rfl ?_
              refine aw_aload_n dX11_holds_119 rfl ?_
              refine aw_bipush dX11_holds_120 rfl ?_
              refine aw_callV (As := [_]) (ρ := (_, 0, 0)) (kn' := (0, 0)) cv_X11_164 dX11_holds_122 rfl rfl (hc43 hnx) rfl rfl (Nat.le_of_ble_eq_true rfl) (rmR _ _ _) ⟨Nat.le_refl _, Nat.le_refl _⟩ rfl (c_X11_many_9 hnx hI hA hL  (fun r122 h122 => ?_))
              refine aw_aload_n dX11_holds_125 rfl ?_
              refine aw_iload dX11_holds_126 rfl ?_
              refine aw_iconst dX11_holds_128 ?_
              refine aw_callV (As := [_, _]) (ρ := (_, 0, 0)) (kn' := (0, 0)) cv_X11_196 dX11_holds_129 rfl rfl (hc43 hnx) rfl rfl (Nat.le_of_ble_eq_true rfl) (rmR _ _ _) ⟨Nat.le_refl _, Nat.le_refl _⟩ rfl (c_X11_ofLicence_3 hnx hI hA hL (by omega) (fun r129 h129 => ?_))
              refine aw_isub dX11_holds_132 ?_
              refine aw_iconst dX11_holds_133 ?_
              refine aw_iadd dX11_holds_134 ?_
              refine aw_mmax qm_X11_347 dX11_holds_135 (by omega) (rmN13 _ _ _ (Nat.le_of_ble_eq_true rfl)) ⟨Nat.le_refl _, Nat.le_refl _⟩ (fun r135 h135 => ?_)
              refine aw_istore (ls' := [some (rf Γ 43), some _, some _, some _, some _, some _, some _, some _, some _]) dX11_holds_138 (by decide) rfl ?_
              refine aw_iinc (ls' := [some (rf Γ 43), some _, some _, some _, some _, some _, some _, some _, some _]) dX11_holds_140 rfl (by decide) rfl ?_
              refine aw_goto (tgt := 38) dX11_holds_143 rfl ?_
              refine aw_fg [true, true, true, true, true, true, true, true, false] (ls' := [some (rf Γ 43), some _, some _, some _, some _, some _, some _, some _, none]) rfl ?_
              exact ih (by omega) _ x4_84 r91 r135  (by simp only [openI, sm] at i38_0 ⊢; split <;> omega) (by simp only [remI, sm] at i38_1 ⊢; split <;> first | omega | (rw [show rem A (k : Int) = 0 by unfold rem; rw [if_neg (by omega)]]; omega)) (by simp only [earI]; split <;> omega) (by simp only [lonI]; split <;> omega)
          · skip
            refine aw_if_ne (tgt := 72) dX11_holds_66 rfl (by decide) (fun c => absurd c (by decide)) (fun _ => ?_)
            refine aw_goto (tgt := 140) dX11_holds_69 rfl ?_
            refine aw_iinc (ls' := [some (rf Γ 43), some _, some _, some _, some _, some _, some _, some _, none]) dX11_holds_140 rfl (by decide) rfl ?_
            refine aw_goto (tgt := 38) dX11_holds_143 rfl ?_
            exact ih (by omega) x y z u  (by simp only [openI, sm] at i38_0 ⊢; split <;> omega) (by simp only [remI, sm] at i38_1 ⊢; split <;> first | omega | (rw [show rem A (k : Int) = 0 by unfold rem; rw [if_neg (by omega)]]; omega)) (by simp only [earI]; split <;> omega) (by simp only [lonI]; split <;> omega)
    · skip
      refine aw_if_ne (tgt := 22) dX11_holds_17 rfl (by decide) (fun c => absurd c (by decide)) (fun _ => ?_)
      refine aw_iconst dX11_holds_20 ?_
      exact aw_ireturn dX11_holds_21 rfl rfl ⟨Nat.le_refl _, Nat.le_refl _⟩ (hQ _ (by simp only [aHolds, isI]; (repeat' split) <;> omega))
  · skip
    refine aw_if_eq (tgt := 20) dX11_holds_5 rfl (by decide) (fun _ => ?_) (fun c => absurd c (by decide))
    refine aw_iconst dX11_holds_20 ?_
    exact aw_ireturn dX11_holds_21 rfl rfl ⟨Nat.le_refl _, Nat.le_refl _⟩ (hQ _ (by simp only [aHolds, isI]; (repeat' split) <;> omega))

set_option maxHeartbeats 1000000 in
theorem c_X11_window {Γ : GT} {S T U V A : St} {G : Gw} {nx d : Nat} {Q : QT} (hnx : 52 ≤ nx) {c : Int} (hI : Inv c A) (hA : Ag A (V 0)) (hL : RgL V)  (hQ : ∀ r, r = aWindow A → Q (some (vi r)) (hp Γ S T U V G) nx) : AM Γ MX11_window (d + 3, 0, 0) [rf Γ 43] (hp Γ S T U V G) nx Q := by
  refine am_of (by decide) (Nat.le_of_ble_eq_true rfl) (ls := [some (rf Γ 43), none, none, none, none, none]) rfl ?_
  have hR := hI.R
  have i1 := hI.i1
  have hz : 0 ≤ A 28 0 ∧ A 28 0 ≤ 60 := i1.2.2.1
  have hkS : nS A = (A 28 0).toNat := rfl
  have hkI : nIm A = (A 27 0).toNat := rfl
  have hkO : nOr A = (A 26 0).toNat := rfl
  refine aw_aload_n dX11_window_0 rfl ?_
  refine aw_callV (As := []) (ρ := (_, 0, 0)) (kn' := (0, 0)) cv_X11_286 dX11_window_1 rfl rfl (hc43 hnx) rfl rfl (Nat.le_of_ble_eq_true rfl) (rmR _ _ _) ⟨Nat.le_refl _, Nat.le_refl _⟩ rfl (c_X11_hasScheme hnx hI hA hL (fun r1 h1 => ?_))
  rcases h1 with ⟨rfl, h1⟩ | ⟨rfl, h1⟩
  · skip
    refine aw_if_ne (tgt := 9) dX11_window_4 rfl (by decide) (fun _ => ?_) (fun c => absurd c (by decide))
    refine aw_iconst dX11_window_9 ?_
    refine aw_istore_n (ls' := [some (rf Γ 43), some _, none, none, none, none]) dX11_window_10 (by decide) rfl ?_
    refine aw_iconst dX11_window_11 ?_
    refine aw_istore_n (ls' := [some (rf Γ 43), some _, some _, none, none, none]) dX11_window_12 (by decide) rfl ?_
    refine loopN (nOr A) (P := fun k => ∀ (b : Int) , b = (if fs (wdP A) k = -5 then 1 else 0) →  AW Γ MX11_window _ _ (0, 0) 13 [some (rf Γ 43), some (vi b), some (vi (k : Int)), none, none, none] [] (hp Γ S T U V G) nx) (fun k hk ih => ?_) 0 (Nat.zero_le _) _ rfl
    intro b i13_0
    refine aw_iload_n dX11_window_13 rfl ?_
    have bb : b = 0 ∨ b = 1 := by rw [i13_0]; split <;> omega
    refine aw_aload_n dX11_window_14 rfl ?_
    refine aw_bipush dX11_window_15 rfl ?_
    refine aw_callV (As := [_]) (ρ := (_, 0, 0)) (kn' := (0, 0)) cv_X11_164 dX11_window_17 rfl rfl (hc43 hnx) rfl rfl (Nat.le_of_ble_eq_true rfl) (rmR _ _ _) ⟨Nat.le_refl _, Nat.le_refl _⟩ rfl (c_X11_many_6 hnx hI hA hL  (fun r17 h17 => ?_))
    subst h17
    refine aw_icmp_ge (tgt := 134) dX11_window_20 rfl (by omega) (fun c20 => ?_) (fun c20 => ?_)
    · skip
      obtain rfl : k = nOr A := by omega
      refine aw_iload_n dX11_window_134 rfl ?_
      refine aw_callS (As := [_]) (ρ := (_, 0, 0)) (kn' := (0, 0)) cs_X11_122 dX11_window_135 rfl rfl (Nat.le_of_ble_eq_true rfl) (rmR _ _ _) ⟨Nat.le_refl _, Nat.le_refl _⟩ rfl (c_X11_truth hnx (by omega) (fun r135 h135 => ?_))
      exact aw_ireturn dX11_window_138 rfl rfl ⟨Nat.le_refl _, Nat.le_refl _⟩ (hQ _ (by unfold aWindow; rw [if_pos (by omega)]; omega))
    · skip
      have tk := hI.tkn k
      have fg := hI.fg (o := (k : Int)) (by omega)
      have rs := hI.rems
      refine aw_lconst0 dX11_window_23 ?_
      refine aw_lstore_n (ls' := [some (rf Γ 43), some _, some _, some _, none, none]) dX11_window_24 (by decide) rfl ?_
      refine aw_iconst dX11_window_25 ?_
      refine aw_istore (ls' := [some (rf Γ 43), some _, some _, some _, none, some _]) dX11_window_26 (by decide) rfl ?_
      refine loopN (nS A) (P := fun k2 => ∀ (n : Int) , n = tkn A k k2 →  AW Γ MX11_window _ _ (0, 0) 28 [some (rf Γ 43), some (vi b), some (vi (k : Int)), some (vl n), none, some (vi (k2 : Int))] [] (hp Γ S T U V G) nx) (fun k2 hk2 ihk2 => ?_) 0 (Nat.zero_le _) _ rfl
      intro n i28_0
      refine aw_iload dX11_window_28 rfl ?_
      refine aw_aload_n dX11_window_30 rfl ?_
      refine aw_bipush dX11_window_31 rfl ?_
      refine aw_callV (As := [_]) (ρ := (_, 0, 0)) (kn' := (0, 0)) cv_X11_164 dX11_window_33 rfl rfl (hc43 hnx) rfl rfl (Nat.le_of_ble_eq_true rfl) (rmR _ _ _) ⟨Nat.le_refl _, Nat.le_refl _⟩ rfl (c_X11_many_8 hnx hI hA hL  (fun r33 h33 => ?_))
      subst h33
      refine aw_icmp_ge (tgt := 89) dX11_window_36 rfl (by omega) (fun c36 => ?_) (fun c36 => ?_)
      · skip
        obtain rfl : k2 = nS A := by omega
        refine aw_iload_n dX11_window_89 rfl ?_
        refine aw_if_eq (tgt := 126) dX11_window_90 rfl (by omega) (fun c90 => ?_) (fun c90 => ?_)
        · skip
          refine aw_iconst dX11_window_126 ?_
          refine aw_istore_n (ls' := [some (rf Γ 43), some _, some _, some _, none, some _]) dX11_window_127 (by decide) rfl ?_
          refine aw_iinc (ls' := [some (rf Γ 43), some _, some _, some _, none, some _]) dX11_window_128 rfl (by decide) rfl ?_
          refine aw_goto (tgt := 13) dX11_window_131 rfl ?_
          refine aw_fg [true, true, true, false, true, false] (ls' := [some (rf Γ 43), some _, some _, none, none, none]) rfl ?_
          exact ih (by omega) 0  (by rw [fs]; (repeat' split) <;> first | omega | (unfold wdP at *; omega))
        · skip
          refine aw_lload_n dX11_window_93 rfl ?_
          refine aw_aload_n dX11_window_94 rfl ?_
          refine aw_iload_n dX11_window_95 rfl ?_
          refine aw_iconst dX11_window_96 ?_
          refine aw_callV (As := [_, _]) (ρ := (_, 0, 0)) (kn' := (0, 0)) cv_X11_226 dX11_window_97 rfl rfl (hc43 hnx) rfl rfl (Nat.le_of_ble_eq_true rfl) (rmR _ _ _) ⟨Nat.le_refl _, Nat.le_refl _⟩ rfl (c_X11_ofOrigin_1 hnx hI hA hL (by omega) (fun r97 h97 => ?_))
          refine aw_i2l dX11_window_100 (by omega) ?_
          refine aw_aload_n dX11_window_101 rfl ?_
          refine aw_iload_n dX11_window_102 rfl ?_
          refine aw_iconst dX11_window_103 ?_
          refine aw_callV (As := [_, _]) (ρ := (_, 0, 0)) (kn' := (0, 0)) cv_X11_226 dX11_window_104 rfl rfl (hc43 hnx) rfl rfl (Nat.le_of_ble_eq_true rfl) (rmR _ _ _) ⟨Nat.le_refl _, Nat.le_refl _⟩ rfl (c_X11_ofOrigin_2 hnx hI hA hL (by omega) (fun r104 h104 => ?_))
          refine aw_i2l dX11_window_107 (by omega) ?_
          refine aw_ladd dX11_window_108 ?_
          refine aw_aload_n dX11_window_109 rfl ?_
          refine aw_iload_n dX11_window_110 rfl ?_
          refine aw_bipush dX11_window_111 rfl ?_
          refine aw_callV (As := [_, _]) (ρ := (_, 0, 0)) (kn' := (0, 0)) cv_X11_226 dX11_window_113 rfl rfl (hc43 hnx) rfl rfl (Nat.le_of_ble_eq_true rfl) (rmR _ _ _) ⟨Nat.le_refl _, Nat.le_refl _⟩ rfl (c_X11_ofOrigin_7 hnx hI hA hL (by omega) (fun r113 h113 => ?_))
          refine aw_i2l dX11_window_116 (by omega) ?_
          refine aw_ladd dX11_window_117 ?_
          refine aw_lif_gt (tgt := 126) dX11_window_118 dX11_window_119 rfl (by omega) (fun c118 => ?_) (fun c118 => ?_)
          · skip
            refine aw_iconst dX11_window_126 ?_
            refine aw_istore_n (ls' := [some (rf Γ 43), some _, some _, some _, none, some _]) dX11_window_127 (by decide) rfl ?_
            refine aw_iinc (ls' := [some (rf Γ 43), some _, some _, some _, none, some _]) dX11_window_128 rfl (by decide) rfl ?_
            refine aw_goto (tgt := 13) dX11_window_131 rfl ?_
            refine aw_fg [true, true, true, false, true, false] (ls' := [some (rf Γ 43), some _, some _, none, none, none]) rfl ?_
            exact ih (by omega) 0  (by rw [fs]; (repeat' split) <;> first | omega | (unfold wdP at *; omega))
          · skip
            refine aw_iconst dX11_window_122 ?_
            refine aw_goto (tgt := 127) dX11_window_123 rfl ?_
            refine aw_istore_n (ls' := [some (rf Γ 43), some _, some _, some _, none, some _]) dX11_window_127 (by decide) rfl ?_
            refine aw_iinc (ls' := [some (rf Γ 43), some _, some _, some _, none, some _]) dX11_window_128 rfl (by decide) rfl ?_
            refine aw_goto (tgt := 13) dX11_window_131 rfl ?_
            refine aw_fg [true, true, true, false, true, false] (ls' := [some (rf Γ 43), some _, some _, none, none, none]) rfl ?_
            exact ih (by omega) 1  (by rw [fs]; (repeat' split) <;> first | omega | (unfold wdP at *; omega))
      · skip
        refine aw_aload_n dX11_window_39 rfl ?_
        refine aw_iload dX11_window_40 rfl ?_
        refine aw_iconst dX11_window_42 ?_
        refine aw_callV (As := [_, _]) (ρ := (_, 0, 0)) (kn' := (0, 0)) cv_X11_196 dX11_window_43 rfl rfl (hc43 hnx) rfl rfl (Nat.le_of_ble_eq_true rfl) (rmR _ _ _) ⟨Nat.le_refl _, Nat.le_refl _⟩ rfl (c_X11_ofLicence_1 hnx hI hA hL (by omega) (fun r43 h43 => ?_))
        have r5 := hR 5 (by decide) (k2 : Int)
        refine aw_iload_n dX11_window_46 rfl ?_
        refine aw_icmp_ne (tgt := 83) dX11_window_47 rfl (by omega) (fun c47 => ?_) (fun c47 => ?_)
        · skip
          refine aw_iinc (ls' := [some (rf Γ 43), some _, some _, some _, none, some _]) dX11_window_83 rfl (by decide) rfl ?_
          refine aw_goto (tgt := 28) dX11_window_86 rfl ?_
          exact ihk2 (by omega) n  (by simp only [tkn, sm] at i28_0 ⊢; (repeat' split) <;> omega)
        · skip
          refine aw_aload_n dX11_window_50 rfl ?_
          refine aw_iload dX11_window_51 rfl ?_
          refine aw_callV (As := [_]) (ρ := (_, 0, 0)) (kn' := (0, 0)) cv_X11_217 dX11_window_53 rfl rfl (hc43 hnx) rfl rfl (Nat.le_of_ble_eq_true rfl) (rmR _ _ _) ⟨Nat.le_refl _, Nat.le_refl _⟩ rfl (c_X11_isOfThisPeriod hnx hI hA hL (by omega) (fun r53 h53 => ?_))
          rcases h53 with ⟨rfl, h53⟩ | ⟨rfl, h53⟩
          · skip
            refine aw_if_eq (tgt := 83) dX11_window_56 rfl (by decide) (fun c => absurd c (by decide)) (fun _ => ?_)
            refine aw_lload_n dX11_window_59 rfl ?_
            refine aw_aload_n dX11_window_60 rfl ?_
            refine aw_iload dX11_window_61 rfl ?_
            refine aw_aload_n dX11_window_63 rfl ?_
            refine aw_iload dX11_window_64 rfl ?_
            refine aw_callV (As := [_]) (ρ := (_, 0, 0)) (kn' := (0, 0)) cv_X11_199 dX11_window_66 rfl rfl (hc43 hnx) rfl rfl (Nat.le_of_ble_eq_true rfl) (rmR _ _ _) ⟨Nat.le_refl _, Nat.le_refl _⟩ rfl (c_X11_isOpen hnx hI hA hL (by omega) (fun r66 h66 => ?_))
            rcases h66 with ⟨rfl, h66⟩ | ⟨rfl, h66⟩
            · skip
              refine aw_if_eq (tgt := 76) dX11_window_69 rfl (by decide) (fun c => absurd c (by decide)) (fun _ => ?_)
              refine aw_iconst dX11_window_72 ?_
              refine aw_goto (tgt := 77) dX11_window_73 rfl ?_
              refine aw_callV (As := [_, _]) (ρ := (_, 0, 0)) (kn' := (0, 0)) cv_X11_196 dX11_window_77 rfl rfl (hc43 hnx) rfl rfl (Nat.le_of_ble_eq_true rfl) (rmR _ _ _) ⟨Nat.le_refl _, Nat.le_refl _⟩ rfl (c_X11_ofLicence_2 hnx hI hA hL (by omega) (fun r77 h77 => ?_))
              have r6 := hR 6 (by decide) (k2 : Int)
              have r9 := hR 9 (by decide) (k2 : Int)
              refine aw_i2l dX11_window_80 (by omega) ?_
              refine aw_ladd dX11_window_81 ?_
              refine aw_nmL (fun x3_82 hx3_82 => ?_)
              refine aw_lstore_n (ls' := [some (rf Γ 43), some _, some _, some _, none, some _]) dX11_window_82 (by decide) rfl ?_
              refine aw_iinc (ls' := [some (rf Γ 43), some _, some _, some _, none, some _]) dX11_window_83 rfl (by decide) rfl ?_
              refine aw_goto (tgt := 28) dX11_window_86 rfl ?_
              exact ihk2 (by omega) x3_82  (by simp only [tkn, sm] at i28_0 ⊢; (repeat' split) <;> omega)
            · skip
              refine aw_if_eq (tgt := 76) dX11_window_69 rfl (by decide) (fun _ => ?_) (fun c => absurd c (by decide))
              refine aw_iconst dX11_window_76 ?_
              refine aw_callV (As := [_, _]) (ρ := (_, 0, 0)) (kn' := (0, 0)) cv_X11_196 dX11_window_77 rfl rfl (hc43 hnx) rfl rfl (Nat.le_of_ble_eq_true rfl) (rmR _ _ _) ⟨Nat.le_refl _, Nat.le_refl _⟩ rfl (c_X11_ofLicence_4 hnx hI hA hL (by omega) (fun r77 h77 => ?_))
              have r6 := hR 6 (by decide) (k2 : Int)
              have r9 := hR 9 (by decide) (k2 : Int)
              refine aw_i2l dX11_window_80 (by omega) ?_
              refine aw_ladd dX11_window_81 ?_
              refine aw_nmL (fun x3_82 hx3_82 => ?_)
              refine aw_lstore_n (ls' := [some (rf Γ 43), some _, some _, some _, none, some _]) dX11_window_82 (by decide) rfl ?_
              refine aw_iinc (ls' := [some (rf Γ 43), some _, some _, some _, none, some _]) dX11_window_83 rfl (by decide) rfl ?_
              refine aw_goto (tgt := 28) dX11_window_86 rfl ?_
              exact ihk2 (by omega) x3_82  (by simp only [tkn, sm] at i28_0 ⊢; (repeat' split) <;> omega)
          · skip
            refine aw_if_eq (tgt := 83) dX11_window_56 rfl (by decide) (fun _ => ?_) (fun c => absurd c (by decide))
            refine aw_iinc (ls' := [some (rf Γ 43), some _, some _, some _, none, some _]) dX11_window_83 rfl (by decide) rfl ?_
            refine aw_goto (tgt := 28) dX11_window_86 rfl ?_
            exact ihk2 (by omega) n  (by simp only [tkn, sm] at i28_0 ⊢; (repeat' split) <;> omega)
  · skip
    refine aw_if_ne (tgt := 9) dX11_window_4 rfl (by decide) (fun c => absurd c (by decide)) (fun _ => ?_)
    refine aw_iconst dX11_window_7 ?_
    exact aw_ireturn dX11_window_8 rfl rfl ⟨Nat.le_refl _, Nat.le_refl _⟩ (hQ _ (by unfold aWindow; rw [if_neg (by omega)]))

set_option maxHeartbeats 1000000 in
theorem c_X11_count {Γ : GT} {S T U V A : St} {G : Gw} {nx d : Nat} {Q : QT} (hnx : 52 ≤ nx) {w : Int} {c : Int} (hI : Inv c A) (hA : Ag A (V 0)) (hL : RgL V) (hw : inI w) (hK : ∀ j : Int, V 5 j = 0 ∨ V 5 j = 1) (hQ : ∀ r, r = aCountR A V w → Q (some (vi r)) (hp Γ S T U V G) nx) : AM Γ MX11_count (d + 4, 0, 0) [rf Γ 43, vi w] (hp Γ S T U V G) nx Q := by
  refine am_of (by decide) (Nat.le_of_ble_eq_true rfl) (ls := [some (rf Γ 43), some _]) rfl ?_
  have hR := hI.R
  have i1 := hI.i1
  have hz : 0 ≤ A 28 0 ∧ A 28 0 ≤ 60 := i1.2.2.1
  have hkS : nS A = (A 28 0).toNat := rfl
  have hkI : nIm A = (A 27 0).toNat := rfl
  have hkO : nOr A = (A 26 0).toNat := rfl
  have hk0 := hK 0
  have hk1 := hK 1
  refine aw_iload_n dX11_count_0 rfl ?_
  by_cases cs1 : 0 ≤ w ∧ w ≤ 8
  · obtain cc1 := (show w = 0 ∨ w = 1 ∨ w = 2 ∨ w = 3 ∨ w = 4 ∨ w = 5 ∨ w = 6 ∨ w = 7 ∨ w = 8 by omega)
    rcases cc1 with cc1 | cc1 | cc1 | cc1 | cc1 | cc1 | cc1 | cc1 | cc1
    · refine aw_tableIn (tgt := 52) dX11_count_1 (by omega) (by omega) (by omega) (by rw [cc1]; rfl) rfl ?_
      refine aw_aload_n dX11_count_52 rfl ?_
      refine aw_bipush dX11_count_53 rfl ?_
      refine aw_callV (As := [_]) (ρ := (_, 0, 0)) (kn' := (0, 0)) cv_X11_164 dX11_count_55 rfl rfl (hc43 hnx) rfl rfl (Nat.le_of_ble_eq_true rfl) (rmR _ _ _) ⟨Nat.le_refl _, Nat.le_refl _⟩ rfl (c_X11_many_6 hnx hI hA hL  (fun r55 h55 => ?_))
      exact aw_ireturn dX11_count_58 rfl rfl ⟨Nat.le_refl _, Nat.le_refl _⟩ (hQ _ (by simp only [aCountR]; (repeat' split) <;> omega))
    · refine aw_tableIn (tgt := 59) dX11_count_1 (by omega) (by omega) (by omega) (by rw [cc1]; rfl) rfl ?_
      refine aw_aload_n dX11_count_59 rfl ?_
      refine aw_bipush dX11_count_60 rfl ?_
      refine aw_callV (As := [_]) (ρ := (_, 0, 0)) (kn' := (0, 0)) cv_X11_164 dX11_count_62 rfl rfl (hc43 hnx) rfl rfl (Nat.le_of_ble_eq_true rfl) (rmR _ _ _) ⟨Nat.le_refl _, Nat.le_refl _⟩ rfl (c_X11_many_7 hnx hI hA hL  (fun r62 h62 => ?_))
      exact aw_ireturn dX11_count_65 rfl rfl ⟨Nat.le_refl _, Nat.le_refl _⟩ (hQ _ (by simp only [aCountR]; (repeat' split) <;> omega))
    · refine aw_tableIn (tgt := 66) dX11_count_1 (by omega) (by omega) (by omega) (by rw [cc1]; rfl) rfl ?_
      refine aw_aload_n dX11_count_66 rfl ?_
      refine aw_bipush dX11_count_67 rfl ?_
      refine aw_callV (As := [_]) (ρ := (_, 0, 0)) (kn' := (0, 0)) cv_X11_164 dX11_count_69 rfl rfl (hc43 hnx) rfl rfl (Nat.le_of_ble_eq_true rfl) (rmR _ _ _) ⟨Nat.le_refl _, Nat.le_refl _⟩ rfl (c_X11_many_8 hnx hI hA hL  (fun r69 h69 => ?_))
      exact aw_ireturn dX11_count_72 rfl rfl ⟨Nat.le_refl _, Nat.le_refl _⟩ (hQ _ (by simp only [aCountR]; (repeat' split) <;> omega))
    · refine aw_tableIn (tgt := 73) dX11_count_1 (by omega) (by omega) (by omega) (by rw [cc1]; rfl) rfl ?_
      refine aw_aload_n dX11_count_73 rfl ?_
      refine aw_callV (As := []) (ρ := (_, 0, 0)) (kn' := (0, 0)) cv_X11_315 dX11_count_74 rfl rfl (hc43 hnx) rfl rfl (Nat.le_of_ble_eq_true rfl) (rmR _ _ _) ⟨Nat.le_refl _, Nat.le_refl _⟩ rfl (c_X11_openMany hnx hI hA hL (fun r74 h74 => ?_))
      exact aw_ireturn dX11_count_77 rfl rfl ⟨Nat.le_refl _, Nat.le_refl _⟩ (hQ _ (by simp only [aCountR]; (repeat' split) <;> omega))
    · refine aw_tableIn (tgt := 78) dX11_count_1 (by omega) (by omega) (by omega) (by rw [cc1]; rfl) rfl ?_
      refine aw_aload_n dX11_count_78 rfl ?_
      refine aw_bipush dX11_count_79 rfl ?_
      refine aw_callV (As := [_]) (ρ := (_, 0, 0)) (kn' := (0, 0)) cv_X11_164 dX11_count_81 rfl rfl (hc43 hnx) rfl rfl (Nat.le_of_ble_eq_true rfl) (rmR _ _ _) ⟨Nat.le_refl _, Nat.le_refl _⟩ rfl (c_X11_many_9 hnx hI hA hL  (fun r81 h81 => ?_))
      exact aw_ireturn dX11_count_84 rfl rfl ⟨Nat.le_refl _, Nat.le_refl _⟩ (hQ _ (by simp only [aCountR]; (repeat' split) <;> omega))
    · refine aw_tableIn (tgt := 85) dX11_count_1 (by omega) (by omega) (by omega) (by rw [cc1]; rfl) rfl ?_
      refine aw_aload_n dX11_count_85 rfl ?_
      refine aw_getf fg_X11_158 dX11_count_86 (hc43 hnx) rfl ?_
      exact aw_ireturn dX11_count_89 rfl rfl ⟨Nat.le_refl _, Nat.le_refl _⟩ (hQ _ (by simp only [aCountR]; (repeat' split) <;> omega))
    · refine aw_tableIn (tgt := 90) dX11_count_1 (by omega) (by omega) (by omega) (by rw [cc1]; rfl) rfl ?_
      refine aw_aload_n dX11_count_90 rfl ?_
      refine aw_getf fg_X11_64 dX11_count_91 (hc43 hnx) rfl ?_
      exact aw_ireturn dX11_count_94 rfl rfl ⟨Nat.le_refl _, Nat.le_refl _⟩ (hQ _ (by simp only [aCountR]; (repeat' split) <;> omega))
    · refine aw_tableIn (tgt := 95) dX11_count_1 (by omega) (by omega) (by omega) (by rw [cc1]; rfl) rfl ?_
      refine aw_aload_n dX11_count_95 rfl ?_
      refine aw_getf fg_X11_25 dX11_count_96 (hc43 hnx) rfl ?_
      refine aw_iconst dX11_count_99 ?_
      refine aw_zald dX11_count_100 (hc49 hnx) (by omega) (by decide) ?_
      refine aw_callS (As := [_]) (ρ := (_, 0, 0)) (kn' := (0, 0)) cs_X11_122 dX11_count_101 rfl rfl (Nat.le_of_ble_eq_true rfl) (rmR _ _ _) ⟨Nat.le_refl _, Nat.le_refl _⟩ rfl (c_X11_truth hnx (by omega) (fun r101 h101 => ?_))
      refine aw_aload_n dX11_count_104 rfl ?_
      refine aw_getf fg_X11_25 dX11_count_105 (hc43 hnx) rfl ?_
      refine aw_iconst dX11_count_108 ?_
      refine aw_zald dX11_count_109 (hc49 hnx) (by omega) (by decide) ?_
      refine aw_callS (As := [_]) (ρ := (_, 0, 0)) (kn' := (0, 0)) cs_X11_122 dX11_count_110 rfl rfl (Nat.le_of_ble_eq_true rfl) (rmR _ _ _) ⟨Nat.le_refl _, Nat.le_refl _⟩ rfl (c_X11_truth hnx (by omega) (fun r110 h110 => ?_))
      refine aw_iconst dX11_count_113 ?_
      refine aw_ishl dX11_count_114 rfl ?_
      refine aw_ior dX11_count_115 rfl ?_
      first | (refine aw_si (a := I (V 5 0 + 2 * V 5 1)) (by rcases hk0 with e | e <;> rcases hk1 with e2 | e2 <;> rw [h101, h110, e, e2] <;> decide) ?_) | skip
      exact aw_ireturn dX11_count_116 rfl rfl ⟨Nat.le_refl _, Nat.le_refl _⟩ (hQ _ (by simp only [aCountR]; (repeat' split) <;> omega))
    · refine aw_tableIn (tgt := 117) dX11_count_1 (by omega) (by omega) (by omega) (by rw [cc1]; rfl) rfl ?_
      refine aw_aload_n dX11_count_117 rfl ?_
      refine aw_getf fg_X11_353 dX11_count_118 (hc43 hnx) rfl ?_
      exact aw_ireturn dX11_count_121 rfl rfl ⟨Nat.le_refl _, Nat.le_refl _⟩ (hQ _ (by simp only [aCountR]; (repeat' split) <;> omega))
  · refine aw_tableOut (tgt := 122) dX11_count_1 (by omega) (by omega) rfl ?_
    refine aw_iconst dX11_count_122 ?_
    exact aw_ireturn dX11_count_123 rfl rfl ⟨Nat.le_refl _, Nat.le_refl _⟩ (hQ _ (by simp only [aCountR]; (repeat' split) <;> omega))


/-! the reference: its row, and the state that it stands for -/
def pl (f : Nat) (i : Int) : Int := if f = 0 then i else if f = 1 then 16 + 8 * i else if f = 2 then 48 + 8 * (i / 3) + i % 3 else if f = 4 then 456 + 10 * i + 0 else if f = 5 then 456 + 10 * i + 1 else if f = 6 then 456 + 10 * i + 2 else if f = 7 then 456 + 10 * i + 3 else if f = 8 then 456 + 10 * i + 6 else if f = 9 then 456 + 10 * i + 4 else if f = 10 then 456 + 10 * i + 5 else if f = 11 then 456 + 10 * i + 7 else if f = 12 then 456 + 10 * i + 8 else if f = 13 then 456 + 10 * i + 9 else if f = 14 then 16 + i else if f = 15 then 48 + 8 * i + 4 else if f = 16 then 48 + 8 * i + 5 else if f = 17 then 48 + 8 * i + 6 else if f = 18 then 48 + 8 * i + 7 else if f = 19 then 1056 + i else if f = 20 then 48 + 8 * i + 3 else if f = 21 then 312 + i else if f = 22 then 408 + i else if f = 23 then 304 + i else if f = 24 then 11 + i else if f = 25 then 9 else if f = 26 then 6 else if f = 27 then 7 else if f = 28 then 8 else 10
def us (A : St) (f : Nat) (i : Int) : Prop := if f = 0 then 0 ≤ i ∧ i < 6 else if f = 1 then 0 ≤ i ∧ i < A 26 0 else if f = 2 then 0 ≤ i ∧ i / 3 / 4 < A 27 0 ∧ i / 3 % 4 < A 26 0 else if f = 3 then False else if f ≤ 13 then (0 ≤ i ∧ i < A 28 0) ∧ (f = 11 → ¬ A 10 i = 0) else if f = 14 then 0 ≤ i ∧ i < 8 * A 26 0 ∧ ¬ i % 8 = 0 else if f ≤ 18 ∨ f = 20 then 0 ≤ i ∧ i / 4 < A 27 0 ∧ i % 4 < A 26 0 else if f = 19 then 0 ≤ i ∧ i / 20 < A 29 0 ∧ i % 20 / 5 < A 26 0 else if f = 21 then 0 ≤ i ∧ i < 12 * A 27 0 else if f = 22 then 0 ≤ i ∧ i < 12 * A 26 0 else if f = 23 then 0 ≤ i ∧ i < A 27 0 else if f = 24 then 0 ≤ i ∧ i < 5 else f ≤ 29 ∧ i = 0
def Ag (A : St) (r : Int → Int) : Prop := ∀ (f : Nat) (i : Int), us A f i → r (pl f i) = A f i
section AGP
variable {A : St} {r : Int → Int}
theorem Ag.c6 (h : Ag A r) : r 6 = A 26 0 := h 26 0 ⟨by decide, rfl⟩
theorem Ag.c7 (h : Ag A r) : r 7 = A 27 0 := h 27 0 ⟨by decide, rfl⟩
theorem Ag.c8 (h : Ag A r) : r 8 = A 28 0 := h 28 0 ⟨by decide, rfl⟩
theorem Ag.c9 (h : Ag A r) : r 9 = A 25 0 := h 25 0 ⟨by decide, rfl⟩
theorem Ag.c10 (h : Ag A r) : r 10 = A 29 0 := h 29 0 ⟨by decide, rfl⟩
theorem Ag.tm (h : Ag A r) {w : Int} (hw : 0 ≤ w ∧ w < 6) : r w = A 0 w := h 0 w hw
theorem Ag.tt (h : Ag A r) {w : Int} (hw : 0 ≤ w ∧ w < 5) : r (11 + w) = A 24 w := h 24 w hw
theorem Ag.o0 (h : Ag A r) {o : Int} (ho : 0 ≤ o ∧ o < A 26 0) : r (16 + 8 * o + 0) = A 1 o := by
  rw [show 16 + 8 * o + 0 = 16 + 8 * o by omega]; exact h 1 o ho
theorem Ag.of (h : Ag A r) {o w : Int} (ho : 0 ≤ o ∧ o < A 26 0) (hw : 1 ≤ w ∧ w ≤ 7) : r (16 + 8 * o + w) = A 14 (o * 8 + w) := by
  rw [show 16 + 8 * o + w = 16 + (o * 8 + w) by omega]; exact h 14 (o * 8 + w) (show 0 ≤ o * 8 + w ∧ o * 8 + w < 8 * A 26 0 ∧ ¬ (o * 8 + w) % 8 = 0 by omega)
theorem Ag.p2 (h : Ag A r) {i o w : Int} (hi : 0 ≤ i ∧ i < A 27 0) (ho : 0 ≤ o ∧ o < A 26 0) (ho4 : A 26 0 ≤ 4) (hw : 0 ≤ w ∧ w < 3) : r (48 + 8 * (4 * i + o) + w) = A 2 ((4 * i + o) * 3 + w) := by
  have e := h 2 ((4 * i + o) * 3 + w) (show 0 ≤ (4 * i + o) * 3 + w ∧ ((4 * i + o) * 3 + w) / 3 / 4 < A 27 0 ∧ ((4 * i + o) * 3 + w) / 3 % 4 < A 26 0 by omega)
  rw [← e]; show _ = r (48 + 8 * (((4 * i + o) * 3 + w) / 3) + ((4 * i + o) * 3 + w) % 3)
  congr 1; omega

theorem Ag.p20 (h : Ag A r) {i o : Int} (hi : 0 ≤ i ∧ i < A 27 0) (ho : 0 ≤ o ∧ o < A 26 0) (ho4 : A 26 0 ≤ 4) : r (48 + 8 * (4 * i + o) + 3) = A 20 (4 * i + o) := h 20 (4 * i + o) (show 0 ≤ 4 * i + o ∧ (4 * i + o) / 4 < A 27 0 ∧ (4 * i + o) % 4 < A 26 0 by omega)
theorem Ag.p15 (h : Ag A r) {i o : Int} (hi : 0 ≤ i ∧ i < A 27 0) (ho : 0 ≤ o ∧ o < A 26 0) (ho4 : A 26 0 ≤ 4) : r (48 + 8 * (4 * i + o) + 4) = A 15 (4 * i + o) := h 15 (4 * i + o) (show 0 ≤ 4 * i + o ∧ (4 * i + o) / 4 < A 27 0 ∧ (4 * i + o) % 4 < A 26 0 by omega)
theorem Ag.p16 (h : Ag A r) {i o : Int} (hi : 0 ≤ i ∧ i < A 27 0) (ho : 0 ≤ o ∧ o < A 26 0) (ho4 : A 26 0 ≤ 4) : r (48 + 8 * (4 * i + o) + 5) = A 16 (4 * i + o) := h 16 (4 * i + o) (show 0 ≤ 4 * i + o ∧ (4 * i + o) / 4 < A 27 0 ∧ (4 * i + o) % 4 < A 26 0 by omega)
theorem Ag.p17 (h : Ag A r) {i o : Int} (hi : 0 ≤ i ∧ i < A 27 0) (ho : 0 ≤ o ∧ o < A 26 0) (ho4 : A 26 0 ≤ 4) : r (48 + 8 * (4 * i + o) + 6) = A 17 (4 * i + o) := h 17 (4 * i + o) (show 0 ≤ 4 * i + o ∧ (4 * i + o) / 4 < A 27 0 ∧ (4 * i + o) % 4 < A 26 0 by omega)
theorem Ag.p18 (h : Ag A r) {i o : Int} (hi : 0 ≤ i ∧ i < A 27 0) (ho : 0 ≤ o ∧ o < A 26 0) (ho4 : A 26 0 ≤ 4) : r (48 + 8 * (4 * i + o) + 7) = A 18 (4 * i + o) := h 18 (4 * i + o) (show 0 ≤ 4 * i + o ∧ (4 * i + o) / 4 < A 27 0 ∧ (4 * i + o) % 4 < A 26 0 by omega)
theorem Ag.l4 (h : Ag A r) {l : Int} (hl : 0 ≤ l ∧ l < A 28 0) : r (456 + 10 * l + 0) = A 4 l := h 4 l ⟨hl, fun z => absurd z (by decide)⟩
theorem Ag.l5 (h : Ag A r) {l : Int} (hl : 0 ≤ l ∧ l < A 28 0) : r (456 + 10 * l + 1) = A 5 l := h 5 l ⟨hl, fun z => absurd z (by decide)⟩
theorem Ag.l6 (h : Ag A r) {l : Int} (hl : 0 ≤ l ∧ l < A 28 0) : r (456 + 10 * l + 2) = A 6 l := h 6 l ⟨hl, fun z => absurd z (by decide)⟩
theorem Ag.l7 (h : Ag A r) {l : Int} (hl : 0 ≤ l ∧ l < A 28 0) : r (456 + 10 * l + 3) = A 7 l := h 7 l ⟨hl, fun z => absurd z (by decide)⟩
theorem Ag.l9 (h : Ag A r) {l : Int} (hl : 0 ≤ l ∧ l < A 28 0) : r (456 + 10 * l + 4) = A 9 l := h 9 l ⟨hl, fun z => absurd z (by decide)⟩
theorem Ag.l10 (h : Ag A r) {l : Int} (hl : 0 ≤ l ∧ l < A 28 0) : r (456 + 10 * l + 5) = A 10 l := h 10 l ⟨hl, fun z => absurd z (by decide)⟩
theorem Ag.l8 (h : Ag A r) {l : Int} (hl : 0 ≤ l ∧ l < A 28 0) : r (456 + 10 * l + 6) = A 8 l := h 8 l ⟨hl, fun z => absurd z (by decide)⟩
theorem Ag.l12 (h : Ag A r) {l : Int} (hl : 0 ≤ l ∧ l < A 28 0) : r (456 + 10 * l + 8) = A 12 l := h 12 l ⟨hl, fun z => absurd z (by decide)⟩
theorem Ag.l13 (h : Ag A r) {l : Int} (hl : 0 ≤ l ∧ l < A 28 0) : r (456 + 10 * l + 9) = A 13 l := h 13 l ⟨hl, fun z => absurd z (by decide)⟩
theorem Ag.l11 (h : Ag A r) {l : Int} (hl : 0 ≤ l ∧ l < A 28 0) (ho : ¬ A 10 l = 0) : r (456 + 10 * l + 7) = A 11 l := h 11 l ⟨hl, fun _ => ho⟩
theorem Ag.m21 (h : Ag A r) {i m : Int} (hi : 0 ≤ i ∧ i < A 27 0) (hm : 0 ≤ m ∧ m < 12) : r (312 + 12 * i + m) = A 21 (i * 12 + m) := by
  rw [show 312 + 12 * i + m = 312 + (i * 12 + m) by omega]; exact h 21 (i * 12 + m) (show 0 ≤ i * 12 + m ∧ i * 12 + m < 12 * A 27 0 by omega)
theorem Ag.m22 (h : Ag A r) {o m : Int} (ho : 0 ≤ o ∧ o < A 26 0) (hm : 0 ≤ m ∧ m < 12) : r (408 + 12 * o + m) = A 22 (o * 12 + m) := by
  rw [show 408 + 12 * o + m = 408 + (o * 12 + m) by omega]; exact h 22 (o * 12 + m) (show 0 ≤ o * 12 + m ∧ o * 12 + m < 12 * A 26 0 by omega)
theorem Ag.ow (h : Ag A r) {i : Int} (hi : 0 ≤ i ∧ i < A 27 0) : r (304 + i) = A 23 i := h 23 i hi
theorem Ag.lg (h : Ag A r) {i o w : Int} (hi : 0 ≤ i ∧ i < A 29 0) (ho : 0 ≤ o ∧ o < A 26 0) (ho4 : A 26 0 ≤ 4) (hw : 0 ≤ w ∧ w < 5) : r (1056 + 5 * (4 * i + o) + w) = A 19 ((i * 4 + o) * 5 + w) := by
  rw [show 1056 + 5 * (4 * i + o) + w = 1056 + ((i * 4 + o) * 5 + w) by omega]; exact h 19 ((i * 4 + o) * 5 + w) (show 0 ≤ (i * 4 + o) * 5 + w ∧ ((i * 4 + o) * 5 + w) / 20 < A 29 0 ∧ ((i * 4 + o) * 5 + w) % 20 / 5 < A 26 0 by omega)
end AGP
section AWT
variable {Γ : GT} {M : MD} {R : Room} {Φ : PH} {kn : Nat × Nat} {pc : Nat} {ls : List (Option Value)} {st : List Value} {h : Nat → AC} {nx : Nat}
theorem aw_svl {a b : Int} (e : a = b) (k : AW Γ M R Φ kn pc ls (vl a :: st) h nx) : AW Γ M R Φ kn pc ls (vl b :: st) h nx := e ▸ k
end AWT

set_option maxHeartbeats 1000000 in
theorem c_X11_in {Γ : GT} {S T U V : St} {G : Gw} {nx d : Nat} {Q : QT} (hnx : 52 ≤ nx) {v a b : Int} (hv : inL v ∧ inL a ∧ inL b) (hQ : ∀ r, (r = 1 ∧ (a ≤ v ∧ v ≤ b) ∨ r = 0 ∧ ¬ (a ≤ v ∧ v ≤ b)) → Q (some (vi r)) (hp Γ S T U V G) nx) : AM Γ MX11_in (d, 0, 0) [vl v, vl a, vl b] (hp Γ S T U V G) nx Q := by
  refine am_of (by decide) (Nat.le_of_ble_eq_true rfl) (ls := [some _, none, some _, none, some _, none]) rfl ?_
  refine aw_lload_n dX11_in_0 rfl ?_
  refine aw_lload_n dX11_in_1 rfl ?_
  refine aw_lif_lt (tgt := 17) dX11_in_2 dX11_in_3 rfl (by omega) (fun c2 => ?_) (fun c2 => ?_)
  · skip
    refine aw_iconst dX11_in_17 ?_
    exact aw_zreturn dX11_in_18 rfl (by omega) ⟨Nat.le_refl _, Nat.le_refl _⟩ (hQ _ (by omega))
  · skip
    refine aw_lload_n dX11_in_6 rfl ?_
    refine aw_lload dX11_in_7 rfl ?_
    refine aw_lif_gt (tgt := 17) dX11_in_9 dX11_in_10 rfl (by omega) (fun c9 => ?_) (fun c9 => ?_)
    · skip
      refine aw_iconst dX11_in_17 ?_
      exact aw_zreturn dX11_in_18 rfl (by omega) ⟨Nat.le_refl _, Nat.le_refl _⟩ (hQ _ (by omega))
    · skip
      refine aw_iconst dX11_in_13 ?_
      refine aw_goto (tgt := 18) dX11_in_14 rfl ?_
      exact aw_zreturn dX11_in_18 rfl (by omega) ⟨Nat.le_refl _, Nat.le_refl _⟩ (hQ _ (by omega))

set_option maxHeartbeats 1000000 in
theorem c_X11_truth {Γ : GT} {S T U V : St} {G : Gw} {nx d : Nat} {Q : QT} (hnx : 52 ≤ nx) {b : Int} (hb : b = 0 ∨ b = 1) (hQ : ∀ r, r = b → Q (some (vi r)) (hp Γ S T U V G) nx) : AM Γ MX11_truth (d, 0, 0) [vi b] (hp Γ S T U V G) nx Q := by
  refine am_of (by decide) (Nat.le_of_ble_eq_true rfl) (ls := [some _]) rfl ?_
  refine aw_iload_n dX11_truth_0 rfl ?_
  refine aw_if_eq (tgt := 8) dX11_truth_1 rfl (by omega) (fun c1 => ?_) (fun c1 => ?_)
  · skip
    refine aw_iconst dX11_truth_8 ?_
    exact aw_ireturn dX11_truth_9 rfl rfl ⟨Nat.le_refl _, Nat.le_refl _⟩ (hQ _ (by omega))
  · skip
    refine aw_iconst dX11_truth_4 ?_
    refine aw_goto (tgt := 9) dX11_truth_5 rfl ?_
    exact aw_ireturn dX11_truth_9 rfl rfl ⟨Nat.le_refl _, Nat.le_refl _⟩ (hQ _ (by omega))

set_option maxHeartbeats 1000000 in
theorem c_X11_originAt {Γ : GT} {S T U V : St} {G : Gw} {nx d : Nat} {Q : QT} (hnx : 52 ≤ nx) {a w : Int} (hQ : ∀ r, r = 16 + 8 * a + w → Q (some (vi r)) (hp Γ S T U V G) nx) : AM Γ MX11_originAt (d, 0, 0) [vi a, vi w] (hp Γ S T U V G) nx Q := by
  refine am_of (by decide) (Nat.le_of_ble_eq_true rfl) (ls := [some _, some _]) rfl ?_
  refine aw_bipush dX11_originAt_0 rfl ?_
  refine aw_bipush dX11_originAt_2 rfl ?_
  refine aw_iload_n dX11_originAt_4 rfl ?_
  refine aw_imul dX11_originAt_5 ?_
  refine aw_iadd dX11_originAt_6 ?_
  refine aw_iload_n dX11_originAt_7 rfl ?_
  refine aw_iadd dX11_originAt_8 ?_
  exact aw_ireturn dX11_originAt_9 rfl rfl ⟨Nat.le_refl _, Nat.le_refl _⟩ (hQ _ (by omega))

set_option maxHeartbeats 1000000 in
theorem c_X11_pairAt {Γ : GT} {S T U V : St} {G : Gw} {nx d : Nat} {Q : QT} (hnx : 52 ≤ nx) {i a w : Int} (hQ : ∀ r, r = 48 + 8 * (4 * i + a) + w → Q (some (vi r)) (hp Γ S T U V G) nx) : AM Γ MX11_pairAt (d, 0, 0) [vi i, vi a, vi w] (hp Γ S T U V G) nx Q := by
  refine am_of (by decide) (Nat.le_of_ble_eq_true rfl) (ls := [some _, some _, some _]) rfl ?_
  refine aw_bipush dX11_pairAt_0 rfl ?_
  refine aw_bipush dX11_pairAt_2 rfl ?_
  refine aw_iconst dX11_pairAt_4 ?_
  refine aw_iload_n dX11_pairAt_5 rfl ?_
  refine aw_imul dX11_pairAt_6 ?_
  refine aw_iload_n dX11_pairAt_7 rfl ?_
  refine aw_iadd dX11_pairAt_8 ?_
  refine aw_imul dX11_pairAt_9 ?_
  refine aw_iadd dX11_pairAt_10 ?_
  refine aw_iload_n dX11_pairAt_11 rfl ?_
  refine aw_iadd dX11_pairAt_12 ?_
  exact aw_ireturn dX11_pairAt_13 rfl rfl ⟨Nat.le_refl _, Nat.le_refl _⟩ (hQ _ (by omega))

set_option maxHeartbeats 1000000 in
theorem c_X11_licenceAt {Γ : GT} {S T U V : St} {G : Gw} {nx d : Nat} {Q : QT} (hnx : 52 ≤ nx) {l w : Int} (hQ : ∀ r, r = 456 + 10 * l + w → Q (some (vi r)) (hp Γ S T U V G) nx) : AM Γ MX11_licenceAt (d, 0, 0) [vi l, vi w] (hp Γ S T U V G) nx Q := by
  refine am_of (by decide) (Nat.le_of_ble_eq_true rfl) (ls := [some _, some _]) rfl ?_
  refine aw_sipush dX11_licenceAt_0 rfl ?_
  refine aw_bipush dX11_licenceAt_3 rfl ?_
  refine aw_iload_n dX11_licenceAt_5 rfl ?_
  refine aw_imul dX11_licenceAt_6 ?_
  refine aw_iadd dX11_licenceAt_7 ?_
  refine aw_iload_n dX11_licenceAt_8 rfl ?_
  refine aw_iadd dX11_licenceAt_9 ?_
  exact aw_ireturn dX11_licenceAt_10 rfl rfl ⟨Nat.le_refl _, Nat.le_refl _⟩ (hQ _ (by omega))

set_option maxHeartbeats 1000000 in
theorem c_X11_isMuch {Γ : GT} {S T U V : St} {G : Gw} {nx d : Nat} {Q : QT} (hnx : 52 ≤ nx) {n : Int} (hn : inI n) (hQ : ∀ r, (r = 1 ∧ (1 ≤ n ∧ n ≤ 99999) ∨ r = 0 ∧ ¬ (1 ≤ n ∧ n ≤ 99999)) → Q (some (vi r)) (hp Γ S T U V G) nx) : AM Γ MX11_isMuch (d + 1, 0, 0) [vi n] (hp Γ S T U V G) nx Q := by
  refine am_of (by decide) (Nat.le_of_ble_eq_true rfl) (ls := [some _]) rfl ?_
  refine aw_iload_n dX11_isMuch_0 rfl ?_
  refine aw_i2l dX11_isMuch_1 (by omega) ?_
  refine aw_lconst1 dX11_isMuch_2 ?_
  refine aw_ldc2 dX11_isMuch_3 qk_X11_62 ?_
  refine aw_st (st' := vl 99999 :: _) rfl ?_
  refine aw_callS (As := [_, _, _]) (ρ := (_, 0, 0)) (kn' := (0, 0)) cs_X11_51 dX11_isMuch_6 rfl rfl (Nat.le_of_ble_eq_true rfl) (rmR _ _ _) ⟨Nat.le_refl _, Nat.le_refl _⟩ rfl (c_X11_in hnx (by omega) (fun r6 h6 => ?_))
  exact aw_zreturn dX11_isMuch_9 rfl (by omega) ⟨Nat.le_refl _, Nat.le_refl _⟩ (hQ _ (by omega))

set_option maxHeartbeats 1000000 in
theorem c_X11_many {Γ : GT} {S T U V : St} {G : Gw} {nx d : Nat} {Q : QT} (hnx : 52 ≤ nx) {w : Int} (hL : RgL V) (hw : 0 ≤ w ∧ w < 1216) (hQ : ∀ r, r = V 0 w → Q (some (vi r)) (hp Γ S T U V G) nx) : AM Γ MX11_many (d, 0, 0) [rf Γ 43, vi w] (hp Γ S T U V G) nx Q := by
  refine am_of (by decide) (Nat.le_of_ble_eq_true rfl) (ls := [some (rf Γ 43), some _]) rfl ?_
  refine aw_aload_n dX11_many_0 rfl ?_
  refine aw_getf fg_X11_9 dX11_many_1 (hc43 hnx) rfl ?_
  refine aw_iload_n dX11_many_4 rfl ?_
  refine aw_laldr dX11_many_5 (hc44 hnx) (by omega) (by decide) (hL 0) (fun q5 => ?_)
  refine aw_l2i dX11_many_6 ?_
  exact aw_ireturn dX11_many_7 rfl rfl ⟨Nat.le_refl _, Nat.le_refl _⟩ (hQ _ (rfl))

set_option maxHeartbeats 1000000 in
theorem c_X11_ofOrigin {Γ : GT} {S T U V : St} {G : Gw} {nx d : Nat} {Q : QT} (hnx : 52 ≤ nx) {a w : Int} (hL : RgL V) (ha : 0 ≤ a ∧ a < 4) (hw : 0 ≤ w ∧ w < 8) (hQ : ∀ r, r = V 0 (16 + 8 * a + w) → Q (some (vi r)) (hp Γ S T U V G) nx) : AM Γ MX11_ofOrigin (d + 1, 0, 0) [rf Γ 43, vi a, vi w] (hp Γ S T U V G) nx Q := by
  refine am_of (by decide) (Nat.le_of_ble_eq_true rfl) (ls := [some (rf Γ 43), some _, some _]) rfl ?_
  refine aw_aload_n dX11_ofOrigin_0 rfl ?_
  refine aw_getf fg_X11_9 dX11_ofOrigin_1 (hc43 hnx) rfl ?_
  refine aw_iload_n dX11_ofOrigin_4 rfl ?_
  refine aw_iload_n dX11_ofOrigin_5 rfl ?_
  refine aw_callS (As := [_, _]) (ρ := (_, 0, 0)) (kn' := (0, 0)) cs_X11_40 dX11_ofOrigin_6 rfl rfl (Nat.le_of_ble_eq_true rfl) (rmR _ _ _) ⟨Nat.le_refl _, Nat.le_refl _⟩ rfl (c_X11_originAt hnx  (fun r6 h6 => ?_))
  subst h6
  refine aw_laldr dX11_ofOrigin_9 (hc44 hnx) (by omega) (by decide) (hL 0) (fun q9 => ?_)
  refine aw_l2i dX11_ofOrigin_10 ?_
  exact aw_ireturn dX11_ofOrigin_11 rfl rfl ⟨Nat.le_refl _, Nat.le_refl _⟩ (hQ _ (rfl))

set_option maxHeartbeats 1000000 in
theorem c_X11_ofPair {Γ : GT} {S T U V : St} {G : Gw} {nx d : Nat} {Q : QT} (hnx : 52 ≤ nx) {i a w : Int} (hL : RgL V) (hi : 0 ≤ i ∧ i < 8) (ha : 0 ≤ a ∧ a < 4) (hw : 0 ≤ w ∧ w < 8) (hQ : ∀ r, r = V 0 (48 + 8 * (4 * i + a) + w) → Q (some (vi r)) (hp Γ S T U V G) nx) : AM Γ MX11_ofPair (d + 1, 0, 0) [rf Γ 43, vi i, vi a, vi w] (hp Γ S T U V G) nx Q := by
  refine am_of (by decide) (Nat.le_of_ble_eq_true rfl) (ls := [some (rf Γ 43), some _, some _, some _]) rfl ?_
  refine aw_aload_n dX11_ofPair_0 rfl ?_
  refine aw_getf fg_X11_9 dX11_ofPair_1 (hc43 hnx) rfl ?_
  refine aw_iload_n dX11_ofPair_4 rfl ?_
  refine aw_iload_n dX11_ofPair_5 rfl ?_
  refine aw_iload_n dX11_ofPair_6 rfl ?_
  refine aw_callS (As := [_, _, _]) (ρ := (_, 0, 0)) (kn' := (0, 0)) cs_X11_44 dX11_ofPair_7 rfl rfl (Nat.le_of_ble_eq_true rfl) (rmR _ _ _) ⟨Nat.le_refl _, Nat.le_refl _⟩ rfl (c_X11_pairAt hnx  (fun r7 h7 => ?_))
  subst h7
  refine aw_laldr dX11_ofPair_10 (hc44 hnx) (by omega) (by decide) (hL 0) (fun q10 => ?_)
  refine aw_l2i dX11_ofPair_11 ?_
  exact aw_ireturn dX11_ofPair_12 rfl rfl ⟨Nat.le_refl _, Nat.le_refl _⟩ (hQ _ (rfl))

set_option maxHeartbeats 1000000 in
theorem c_X11_ofLicence {Γ : GT} {S T U V : St} {G : Gw} {nx d : Nat} {Q : QT} (hnx : 52 ≤ nx) {l w : Int} (hL : RgL V) (hl : 0 ≤ l ∧ l < 60) (hw : 0 ≤ w ∧ w < 10) (hQ : ∀ r, r = V 0 (456 + 10 * l + w) → Q (some (vi r)) (hp Γ S T U V G) nx) : AM Γ MX11_ofLicence (d + 1, 0, 0) [rf Γ 43, vi l, vi w] (hp Γ S T U V G) nx Q := by
  refine am_of (by decide) (Nat.le_of_ble_eq_true rfl) (ls := [some (rf Γ 43), some _, some _]) rfl ?_
  refine aw_aload_n dX11_ofLicence_0 rfl ?_
  refine aw_getf fg_X11_9 dX11_ofLicence_1 (hc43 hnx) rfl ?_
  refine aw_iload_n dX11_ofLicence_4 rfl ?_
  refine aw_iload_n dX11_ofLicence_5 rfl ?_
  refine aw_callS (As := [_, _]) (ρ := (_, 0, 0)) (kn' := (0, 0)) cs_X11_48 dX11_ofLicence_6 rfl rfl (Nat.le_of_ble_eq_true rfl) (rmR _ _ _) ⟨Nat.le_refl _, Nat.le_refl _⟩ rfl (c_X11_licenceAt hnx  (fun r6 h6 => ?_))
  subst h6
  refine aw_laldr dX11_ofLicence_9 (hc44 hnx) (by omega) (by decide) (hL 0) (fun q9 => ?_)
  refine aw_l2i dX11_ofLicence_10 ?_
  exact aw_ireturn dX11_ofLicence_11 rfl rfl ⟨Nat.le_refl _, Nat.le_refl _⟩ (hQ _ (rfl))

theorem c_X11_many_0 {Γ : GT} {S T U V A : St} {G : Gw} {nx d : Nat} {Q : QT} (hnx : 52 ≤ nx) {c : Int} (hI : Inv c A) (hA : Ag A (V 0)) (hL : RgL V)  (hQ : ∀ r, r = A 0 0 → Q (some (vi r)) (hp Γ S T U V G) nx) : AM Γ MX11_many (d, 0, 0) [rf Γ 43, vi 0] (hp Γ S T U V G) nx Q := by
  have i1 := hI.i1
  exact c_X11_many hnx hL (by omega) (fun r h => hQ r (h.trans (hA.tm (by omega))))
theorem c_X11_many_1 {Γ : GT} {S T U V A : St} {G : Gw} {nx d : Nat} {Q : QT} (hnx : 52 ≤ nx) {c : Int} (hI : Inv c A) (hA : Ag A (V 0)) (hL : RgL V)  (hQ : ∀ r, r = A 0 1 → Q (some (vi r)) (hp Γ S T U V G) nx) : AM Γ MX11_many (d, 0, 0) [rf Γ 43, vi 1] (hp Γ S T U V G) nx Q := by
  have i1 := hI.i1
  exact c_X11_many hnx hL (by omega) (fun r h => hQ r (h.trans (hA.tm (by omega))))
theorem c_X11_many_2 {Γ : GT} {S T U V A : St} {G : Gw} {nx d : Nat} {Q : QT} (hnx : 52 ≤ nx) {c : Int} (hI : Inv c A) (hA : Ag A (V 0)) (hL : RgL V)  (hQ : ∀ r, r = A 0 2 → Q (some (vi r)) (hp Γ S T U V G) nx) : AM Γ MX11_many (d, 0, 0) [rf Γ 43, vi 2] (hp Γ S T U V G) nx Q := by
  have i1 := hI.i1
  exact c_X11_many hnx hL (by omega) (fun r h => hQ r (h.trans (hA.tm (by omega))))
theorem c_X11_many_3 {Γ : GT} {S T U V A : St} {G : Gw} {nx d : Nat} {Q : QT} (hnx : 52 ≤ nx) {c : Int} (hI : Inv c A) (hA : Ag A (V 0)) (hL : RgL V)  (hQ : ∀ r, r = A 0 3 → Q (some (vi r)) (hp Γ S T U V G) nx) : AM Γ MX11_many (d, 0, 0) [rf Γ 43, vi 3] (hp Γ S T U V G) nx Q := by
  have i1 := hI.i1
  exact c_X11_many hnx hL (by omega) (fun r h => hQ r (h.trans (hA.tm (by omega))))
theorem c_X11_many_4 {Γ : GT} {S T U V A : St} {G : Gw} {nx d : Nat} {Q : QT} (hnx : 52 ≤ nx) {c : Int} (hI : Inv c A) (hA : Ag A (V 0)) (hL : RgL V)  (hQ : ∀ r, r = A 0 4 → Q (some (vi r)) (hp Γ S T U V G) nx) : AM Γ MX11_many (d, 0, 0) [rf Γ 43, vi 4] (hp Γ S T U V G) nx Q := by
  have i1 := hI.i1
  exact c_X11_many hnx hL (by omega) (fun r h => hQ r (h.trans (hA.tm (by omega))))
theorem c_X11_many_5 {Γ : GT} {S T U V A : St} {G : Gw} {nx d : Nat} {Q : QT} (hnx : 52 ≤ nx) {c : Int} (hI : Inv c A) (hA : Ag A (V 0)) (hL : RgL V)  (hQ : ∀ r, r = A 0 5 → Q (some (vi r)) (hp Γ S T U V G) nx) : AM Γ MX11_many (d, 0, 0) [rf Γ 43, vi 5] (hp Γ S T U V G) nx Q := by
  have i1 := hI.i1
  exact c_X11_many hnx hL (by omega) (fun r h => hQ r (h.trans (hA.tm (by omega))))
theorem c_X11_many_6 {Γ : GT} {S T U V A : St} {G : Gw} {nx d : Nat} {Q : QT} (hnx : 52 ≤ nx) {c : Int} (hI : Inv c A) (hA : Ag A (V 0)) (hL : RgL V)  (hQ : ∀ r, r = A 26 0 → Q (some (vi r)) (hp Γ S T U V G) nx) : AM Γ MX11_many (d, 0, 0) [rf Γ 43, vi 6] (hp Γ S T U V G) nx Q := by
  have i1 := hI.i1
  exact c_X11_many hnx hL (by omega) (fun r h => hQ r (h.trans hA.c6))
theorem c_X11_many_7 {Γ : GT} {S T U V A : St} {G : Gw} {nx d : Nat} {Q : QT} (hnx : 52 ≤ nx) {c : Int} (hI : Inv c A) (hA : Ag A (V 0)) (hL : RgL V)  (hQ : ∀ r, r = A 27 0 → Q (some (vi r)) (hp Γ S T U V G) nx) : AM Γ MX11_many (d, 0, 0) [rf Γ 43, vi 7] (hp Γ S T U V G) nx Q := by
  have i1 := hI.i1
  exact c_X11_many hnx hL (by omega) (fun r h => hQ r (h.trans hA.c7))
theorem c_X11_many_8 {Γ : GT} {S T U V A : St} {G : Gw} {nx d : Nat} {Q : QT} (hnx : 52 ≤ nx) {c : Int} (hI : Inv c A) (hA : Ag A (V 0)) (hL : RgL V)  (hQ : ∀ r, r = A 28 0 → Q (some (vi r)) (hp Γ S T U V G) nx) : AM Γ MX11_many (d, 0, 0) [rf Γ 43, vi 8] (hp Γ S T U V G) nx Q := by
  have i1 := hI.i1
  exact c_X11_many hnx hL (by omega) (fun r h => hQ r (h.trans hA.c8))
theorem c_X11_many_9 {Γ : GT} {S T U V A : St} {G : Gw} {nx d : Nat} {Q : QT} (hnx : 52 ≤ nx) {c : Int} (hI : Inv c A) (hA : Ag A (V 0)) (hL : RgL V)  (hQ : ∀ r, r = A 25 0 → Q (some (vi r)) (hp Γ S T U V G) nx) : AM Γ MX11_many (d, 0, 0) [rf Γ 43, vi 9] (hp Γ S T U V G) nx Q := by
  have i1 := hI.i1
  exact c_X11_many hnx hL (by omega) (fun r h => hQ r (h.trans hA.c9))
theorem c_X11_many_10 {Γ : GT} {S T U V A : St} {G : Gw} {nx d : Nat} {Q : QT} (hnx : 52 ≤ nx) {c : Int} (hI : Inv c A) (hA : Ag A (V 0)) (hL : RgL V)  (hQ : ∀ r, r = A 29 0 → Q (some (vi r)) (hp Γ S T U V G) nx) : AM Γ MX11_many (d, 0, 0) [rf Γ 43, vi 10] (hp Γ S T U V G) nx Q := by
  have i1 := hI.i1
  exact c_X11_many hnx hL (by omega) (fun r h => hQ r (h.trans hA.c10))
theorem c_X11_ofOrigin_0 {Γ : GT} {S T U V A : St} {G : Gw} {nx d : Nat} {Q : QT} (hnx : 52 ≤ nx) {c : Int} (hI : Inv c A) (hA : Ag A (V 0)) (hL : RgL V) {a : Int} (ha : 0 ≤ a ∧ a < A 26 0)  (hQ : ∀ r, r = A 1 a → Q (some (vi r)) (hp Γ S T U V G) nx) : AM Γ MX11_ofOrigin (d + 1, 0, 0) [rf Γ 43, vi a, vi 0] (hp Γ S T U V G) nx Q := by
  have i1 := hI.i1
  exact c_X11_ofOrigin hnx hL (by omega) (by omega) (fun r h => hQ r (h.trans (hA.o0 ha)))
theorem c_X11_ofOrigin_1 {Γ : GT} {S T U V A : St} {G : Gw} {nx d : Nat} {Q : QT} (hnx : 52 ≤ nx) {c : Int} (hI : Inv c A) (hA : Ag A (V 0)) (hL : RgL V) {a : Int} (ha : 0 ≤ a ∧ a < A 26 0)  (hQ : ∀ r, r = A 14 (a * 8 + 1) → Q (some (vi r)) (hp Γ S T U V G) nx) : AM Γ MX11_ofOrigin (d + 1, 0, 0) [rf Γ 43, vi a, vi 1] (hp Γ S T U V G) nx Q := by
  have i1 := hI.i1
  exact c_X11_ofOrigin hnx hL (by omega) (by omega) (fun r h => hQ r (h.trans (hA.of ha (by omega))))
theorem c_X11_ofOrigin_2 {Γ : GT} {S T U V A : St} {G : Gw} {nx d : Nat} {Q : QT} (hnx : 52 ≤ nx) {c : Int} (hI : Inv c A) (hA : Ag A (V 0)) (hL : RgL V) {a : Int} (ha : 0 ≤ a ∧ a < A 26 0)  (hQ : ∀ r, r = A 14 (a * 8 + 2) → Q (some (vi r)) (hp Γ S T U V G) nx) : AM Γ MX11_ofOrigin (d + 1, 0, 0) [rf Γ 43, vi a, vi 2] (hp Γ S T U V G) nx Q := by
  have i1 := hI.i1
  exact c_X11_ofOrigin hnx hL (by omega) (by omega) (fun r h => hQ r (h.trans (hA.of ha (by omega))))
theorem c_X11_ofOrigin_3 {Γ : GT} {S T U V A : St} {G : Gw} {nx d : Nat} {Q : QT} (hnx : 52 ≤ nx) {c : Int} (hI : Inv c A) (hA : Ag A (V 0)) (hL : RgL V) {a : Int} (ha : 0 ≤ a ∧ a < A 26 0)  (hQ : ∀ r, r = A 14 (a * 8 + 3) → Q (some (vi r)) (hp Γ S T U V G) nx) : AM Γ MX11_ofOrigin (d + 1, 0, 0) [rf Γ 43, vi a, vi 3] (hp Γ S T U V G) nx Q := by
  have i1 := hI.i1
  exact c_X11_ofOrigin hnx hL (by omega) (by omega) (fun r h => hQ r (h.trans (hA.of ha (by omega))))
theorem c_X11_ofOrigin_4 {Γ : GT} {S T U V A : St} {G : Gw} {nx d : Nat} {Q : QT} (hnx : 52 ≤ nx) {c : Int} (hI : Inv c A) (hA : Ag A (V 0)) (hL : RgL V) {a : Int} (ha : 0 ≤ a ∧ a < A 26 0)  (hQ : ∀ r, r = A 14 (a * 8 + 4) → Q (some (vi r)) (hp Γ S T U V G) nx) : AM Γ MX11_ofOrigin (d + 1, 0, 0) [rf Γ 43, vi a, vi 4] (hp Γ S T U V G) nx Q := by
  have i1 := hI.i1
  exact c_X11_ofOrigin hnx hL (by omega) (by omega) (fun r h => hQ r (h.trans (hA.of ha (by omega))))
theorem c_X11_ofOrigin_5 {Γ : GT} {S T U V A : St} {G : Gw} {nx d : Nat} {Q : QT} (hnx : 52 ≤ nx) {c : Int} (hI : Inv c A) (hA : Ag A (V 0)) (hL : RgL V) {a : Int} (ha : 0 ≤ a ∧ a < A 26 0)  (hQ : ∀ r, r = A 14 (a * 8 + 5) → Q (some (vi r)) (hp Γ S T U V G) nx) : AM Γ MX11_ofOrigin (d + 1, 0, 0) [rf Γ 43, vi a, vi 5] (hp Γ S T U V G) nx Q := by
  have i1 := hI.i1
  exact c_X11_ofOrigin hnx hL (by omega) (by omega) (fun r h => hQ r (h.trans (hA.of ha (by omega))))
theorem c_X11_ofOrigin_6 {Γ : GT} {S T U V A : St} {G : Gw} {nx d : Nat} {Q : QT} (hnx : 52 ≤ nx) {c : Int} (hI : Inv c A) (hA : Ag A (V 0)) (hL : RgL V) {a : Int} (ha : 0 ≤ a ∧ a < A 26 0)  (hQ : ∀ r, r = A 14 (a * 8 + 6) → Q (some (vi r)) (hp Γ S T U V G) nx) : AM Γ MX11_ofOrigin (d + 1, 0, 0) [rf Γ 43, vi a, vi 6] (hp Γ S T U V G) nx Q := by
  have i1 := hI.i1
  exact c_X11_ofOrigin hnx hL (by omega) (by omega) (fun r h => hQ r (h.trans (hA.of ha (by omega))))
theorem c_X11_ofOrigin_7 {Γ : GT} {S T U V A : St} {G : Gw} {nx d : Nat} {Q : QT} (hnx : 52 ≤ nx) {c : Int} (hI : Inv c A) (hA : Ag A (V 0)) (hL : RgL V) {a : Int} (ha : 0 ≤ a ∧ a < A 26 0)  (hQ : ∀ r, r = A 14 (a * 8 + 7) → Q (some (vi r)) (hp Γ S T U V G) nx) : AM Γ MX11_ofOrigin (d + 1, 0, 0) [rf Γ 43, vi a, vi 7] (hp Γ S T U V G) nx Q := by
  have i1 := hI.i1
  exact c_X11_ofOrigin hnx hL (by omega) (by omega) (fun r h => hQ r (h.trans (hA.of ha (by omega))))
theorem c_X11_ofPair_0 {Γ : GT} {S T U V A : St} {G : Gw} {nx d : Nat} {Q : QT} (hnx : 52 ≤ nx) {c : Int} (hI : Inv c A) (hA : Ag A (V 0)) (hL : RgL V) {i a : Int} (hi : 0 ≤ i ∧ i < A 27 0) (ha : 0 ≤ a ∧ a < A 26 0)  (hQ : ∀ r, r = A 2 ((4 * i + a) * 3 + 0) → Q (some (vi r)) (hp Γ S T U V G) nx) : AM Γ MX11_ofPair (d + 1, 0, 0) [rf Γ 43, vi i, vi a, vi 0] (hp Γ S T U V G) nx Q := by
  have i1 := hI.i1
  exact c_X11_ofPair hnx hL (by omega) (by omega) (by omega) (fun r h => hQ r (h.trans (hA.p2 hi ha (by omega) (by omega))))
theorem c_X11_ofPair_1 {Γ : GT} {S T U V A : St} {G : Gw} {nx d : Nat} {Q : QT} (hnx : 52 ≤ nx) {c : Int} (hI : Inv c A) (hA : Ag A (V 0)) (hL : RgL V) {i a : Int} (hi : 0 ≤ i ∧ i < A 27 0) (ha : 0 ≤ a ∧ a < A 26 0)  (hQ : ∀ r, r = A 2 ((4 * i + a) * 3 + 1) → Q (some (vi r)) (hp Γ S T U V G) nx) : AM Γ MX11_ofPair (d + 1, 0, 0) [rf Γ 43, vi i, vi a, vi 1] (hp Γ S T U V G) nx Q := by
  have i1 := hI.i1
  exact c_X11_ofPair hnx hL (by omega) (by omega) (by omega) (fun r h => hQ r (h.trans (hA.p2 hi ha (by omega) (by omega))))
theorem c_X11_ofPair_2 {Γ : GT} {S T U V A : St} {G : Gw} {nx d : Nat} {Q : QT} (hnx : 52 ≤ nx) {c : Int} (hI : Inv c A) (hA : Ag A (V 0)) (hL : RgL V) {i a : Int} (hi : 0 ≤ i ∧ i < A 27 0) (ha : 0 ≤ a ∧ a < A 26 0)  (hQ : ∀ r, r = A 2 ((4 * i + a) * 3 + 2) → Q (some (vi r)) (hp Γ S T U V G) nx) : AM Γ MX11_ofPair (d + 1, 0, 0) [rf Γ 43, vi i, vi a, vi 2] (hp Γ S T U V G) nx Q := by
  have i1 := hI.i1
  exact c_X11_ofPair hnx hL (by omega) (by omega) (by omega) (fun r h => hQ r (h.trans (hA.p2 hi ha (by omega) (by omega))))
theorem c_X11_ofPair_3 {Γ : GT} {S T U V A : St} {G : Gw} {nx d : Nat} {Q : QT} (hnx : 52 ≤ nx) {c : Int} (hI : Inv c A) (hA : Ag A (V 0)) (hL : RgL V) {i a : Int} (hi : 0 ≤ i ∧ i < A 27 0) (ha : 0 ≤ a ∧ a < A 26 0)  (hQ : ∀ r, r = A 20 (4 * i + a) → Q (some (vi r)) (hp Γ S T U V G) nx) : AM Γ MX11_ofPair (d + 1, 0, 0) [rf Γ 43, vi i, vi a, vi 3] (hp Γ S T U V G) nx Q := by
  have i1 := hI.i1
  exact c_X11_ofPair hnx hL (by omega) (by omega) (by omega) (fun r h => hQ r (h.trans (hA.p20 hi ha (by omega))))
theorem c_X11_ofPair_4 {Γ : GT} {S T U V A : St} {G : Gw} {nx d : Nat} {Q : QT} (hnx : 52 ≤ nx) {c : Int} (hI : Inv c A) (hA : Ag A (V 0)) (hL : RgL V) {i a : Int} (hi : 0 ≤ i ∧ i < A 27 0) (ha : 0 ≤ a ∧ a < A 26 0)  (hQ : ∀ r, r = A 15 (4 * i + a) → Q (some (vi r)) (hp Γ S T U V G) nx) : AM Γ MX11_ofPair (d + 1, 0, 0) [rf Γ 43, vi i, vi a, vi 4] (hp Γ S T U V G) nx Q := by
  have i1 := hI.i1
  exact c_X11_ofPair hnx hL (by omega) (by omega) (by omega) (fun r h => hQ r (h.trans (hA.p15 hi ha (by omega))))
theorem c_X11_ofPair_5 {Γ : GT} {S T U V A : St} {G : Gw} {nx d : Nat} {Q : QT} (hnx : 52 ≤ nx) {c : Int} (hI : Inv c A) (hA : Ag A (V 0)) (hL : RgL V) {i a : Int} (hi : 0 ≤ i ∧ i < A 27 0) (ha : 0 ≤ a ∧ a < A 26 0)  (hQ : ∀ r, r = A 16 (4 * i + a) → Q (some (vi r)) (hp Γ S T U V G) nx) : AM Γ MX11_ofPair (d + 1, 0, 0) [rf Γ 43, vi i, vi a, vi 5] (hp Γ S T U V G) nx Q := by
  have i1 := hI.i1
  exact c_X11_ofPair hnx hL (by omega) (by omega) (by omega) (fun r h => hQ r (h.trans (hA.p16 hi ha (by omega))))
theorem c_X11_ofPair_6 {Γ : GT} {S T U V A : St} {G : Gw} {nx d : Nat} {Q : QT} (hnx : 52 ≤ nx) {c : Int} (hI : Inv c A) (hA : Ag A (V 0)) (hL : RgL V) {i a : Int} (hi : 0 ≤ i ∧ i < A 27 0) (ha : 0 ≤ a ∧ a < A 26 0)  (hQ : ∀ r, r = A 17 (4 * i + a) → Q (some (vi r)) (hp Γ S T U V G) nx) : AM Γ MX11_ofPair (d + 1, 0, 0) [rf Γ 43, vi i, vi a, vi 6] (hp Γ S T U V G) nx Q := by
  have i1 := hI.i1
  exact c_X11_ofPair hnx hL (by omega) (by omega) (by omega) (fun r h => hQ r (h.trans (hA.p17 hi ha (by omega))))
theorem c_X11_ofPair_7 {Γ : GT} {S T U V A : St} {G : Gw} {nx d : Nat} {Q : QT} (hnx : 52 ≤ nx) {c : Int} (hI : Inv c A) (hA : Ag A (V 0)) (hL : RgL V) {i a : Int} (hi : 0 ≤ i ∧ i < A 27 0) (ha : 0 ≤ a ∧ a < A 26 0)  (hQ : ∀ r, r = A 18 (4 * i + a) → Q (some (vi r)) (hp Γ S T U V G) nx) : AM Γ MX11_ofPair (d + 1, 0, 0) [rf Γ 43, vi i, vi a, vi 7] (hp Γ S T U V G) nx Q := by
  have i1 := hI.i1
  exact c_X11_ofPair hnx hL (by omega) (by omega) (by omega) (fun r h => hQ r (h.trans (hA.p18 hi ha (by omega))))
theorem c_X11_ofLicence_0 {Γ : GT} {S T U V A : St} {G : Gw} {nx d : Nat} {Q : QT} (hnx : 52 ≤ nx) {c : Int} (hI : Inv c A) (hA : Ag A (V 0)) (hL : RgL V) {l : Int} (hl : 0 ≤ l ∧ l < A 28 0)  (hQ : ∀ r, r = A 4 l → Q (some (vi r)) (hp Γ S T U V G) nx) : AM Γ MX11_ofLicence (d + 1, 0, 0) [rf Γ 43, vi l, vi 0] (hp Γ S T U V G) nx Q := by
  have i1 := hI.i1
  exact c_X11_ofLicence hnx hL (by omega) (by omega) (fun r h => hQ r (h.trans (hA.l4 hl)))
theorem c_X11_ofLicence_1 {Γ : GT} {S T U V A : St} {G : Gw} {nx d : Nat} {Q : QT} (hnx : 52 ≤ nx) {c : Int} (hI : Inv c A) (hA : Ag A (V 0)) (hL : RgL V) {l : Int} (hl : 0 ≤ l ∧ l < A 28 0)  (hQ : ∀ r, r = A 5 l → Q (some (vi r)) (hp Γ S T U V G) nx) : AM Γ MX11_ofLicence (d + 1, 0, 0) [rf Γ 43, vi l, vi 1] (hp Γ S T U V G) nx Q := by
  have i1 := hI.i1
  exact c_X11_ofLicence hnx hL (by omega) (by omega) (fun r h => hQ r (h.trans (hA.l5 hl)))
theorem c_X11_ofLicence_2 {Γ : GT} {S T U V A : St} {G : Gw} {nx d : Nat} {Q : QT} (hnx : 52 ≤ nx) {c : Int} (hI : Inv c A) (hA : Ag A (V 0)) (hL : RgL V) {l : Int} (hl : 0 ≤ l ∧ l < A 28 0)  (hQ : ∀ r, r = A 6 l → Q (some (vi r)) (hp Γ S T U V G) nx) : AM Γ MX11_ofLicence (d + 1, 0, 0) [rf Γ 43, vi l, vi 2] (hp Γ S T U V G) nx Q := by
  have i1 := hI.i1
  exact c_X11_ofLicence hnx hL (by omega) (by omega) (fun r h => hQ r (h.trans (hA.l6 hl)))
theorem c_X11_ofLicence_3 {Γ : GT} {S T U V A : St} {G : Gw} {nx d : Nat} {Q : QT} (hnx : 52 ≤ nx) {c : Int} (hI : Inv c A) (hA : Ag A (V 0)) (hL : RgL V) {l : Int} (hl : 0 ≤ l ∧ l < A 28 0)  (hQ : ∀ r, r = A 7 l → Q (some (vi r)) (hp Γ S T U V G) nx) : AM Γ MX11_ofLicence (d + 1, 0, 0) [rf Γ 43, vi l, vi 3] (hp Γ S T U V G) nx Q := by
  have i1 := hI.i1
  exact c_X11_ofLicence hnx hL (by omega) (by omega) (fun r h => hQ r (h.trans (hA.l7 hl)))
theorem c_X11_ofLicence_4 {Γ : GT} {S T U V A : St} {G : Gw} {nx d : Nat} {Q : QT} (hnx : 52 ≤ nx) {c : Int} (hI : Inv c A) (hA : Ag A (V 0)) (hL : RgL V) {l : Int} (hl : 0 ≤ l ∧ l < A 28 0)  (hQ : ∀ r, r = A 9 l → Q (some (vi r)) (hp Γ S T U V G) nx) : AM Γ MX11_ofLicence (d + 1, 0, 0) [rf Γ 43, vi l, vi 4] (hp Γ S T U V G) nx Q := by
  have i1 := hI.i1
  exact c_X11_ofLicence hnx hL (by omega) (by omega) (fun r h => hQ r (h.trans (hA.l9 hl)))
theorem c_X11_ofLicence_5 {Γ : GT} {S T U V A : St} {G : Gw} {nx d : Nat} {Q : QT} (hnx : 52 ≤ nx) {c : Int} (hI : Inv c A) (hA : Ag A (V 0)) (hL : RgL V) {l : Int} (hl : 0 ≤ l ∧ l < A 28 0)  (hQ : ∀ r, r = A 10 l → Q (some (vi r)) (hp Γ S T U V G) nx) : AM Γ MX11_ofLicence (d + 1, 0, 0) [rf Γ 43, vi l, vi 5] (hp Γ S T U V G) nx Q := by
  have i1 := hI.i1
  exact c_X11_ofLicence hnx hL (by omega) (by omega) (fun r h => hQ r (h.trans (hA.l10 hl)))
theorem c_X11_ofLicence_6 {Γ : GT} {S T U V A : St} {G : Gw} {nx d : Nat} {Q : QT} (hnx : 52 ≤ nx) {c : Int} (hI : Inv c A) (hA : Ag A (V 0)) (hL : RgL V) {l : Int} (hl : 0 ≤ l ∧ l < A 28 0)  (hQ : ∀ r, r = A 8 l → Q (some (vi r)) (hp Γ S T U V G) nx) : AM Γ MX11_ofLicence (d + 1, 0, 0) [rf Γ 43, vi l, vi 6] (hp Γ S T U V G) nx Q := by
  have i1 := hI.i1
  exact c_X11_ofLicence hnx hL (by omega) (by omega) (fun r h => hQ r (h.trans (hA.l8 hl)))
theorem c_X11_ofLicence_8 {Γ : GT} {S T U V A : St} {G : Gw} {nx d : Nat} {Q : QT} (hnx : 52 ≤ nx) {c : Int} (hI : Inv c A) (hA : Ag A (V 0)) (hL : RgL V) {l : Int} (hl : 0 ≤ l ∧ l < A 28 0)  (hQ : ∀ r, r = A 12 l → Q (some (vi r)) (hp Γ S T U V G) nx) : AM Γ MX11_ofLicence (d + 1, 0, 0) [rf Γ 43, vi l, vi 8] (hp Γ S T U V G) nx Q := by
  have i1 := hI.i1
  exact c_X11_ofLicence hnx hL (by omega) (by omega) (fun r h => hQ r (h.trans (hA.l12 hl)))
theorem c_X11_ofLicence_9 {Γ : GT} {S T U V A : St} {G : Gw} {nx d : Nat} {Q : QT} (hnx : 52 ≤ nx) {c : Int} (hI : Inv c A) (hA : Ag A (V 0)) (hL : RgL V) {l : Int} (hl : 0 ≤ l ∧ l < A 28 0)  (hQ : ∀ r, r = A 13 l → Q (some (vi r)) (hp Γ S T U V G) nx) : AM Γ MX11_ofLicence (d + 1, 0, 0) [rf Γ 43, vi l, vi 9] (hp Γ S T U V G) nx Q := by
  have i1 := hI.i1
  exact c_X11_ofLicence hnx hL (by omega) (by omega) (fun r h => hQ r (h.trans (hA.l13 hl)))
theorem c_X11_ofLicence_7 {Γ : GT} {S T U V A : St} {G : Gw} {nx d : Nat} {Q : QT} (hnx : 52 ≤ nx) {c : Int} (hI : Inv c A) (hA : Ag A (V 0)) (hL : RgL V) {l : Int} (hl : 0 ≤ l ∧ l < A 28 0) (ho : ¬ A 10 l = 0)  (hQ : ∀ r, r = A 11 l → Q (some (vi r)) (hp Γ S T U V G) nx) : AM Γ MX11_ofLicence (d + 1, 0, 0) [rf Γ 43, vi l, vi 7] (hp Γ S T U V G) nx Q := by
  have i1 := hI.i1
  exact c_X11_ofLicence hnx hL (by omega) (by omega) (fun r h => hQ r (h.trans (hA.l11 hl ho)))
set_option maxHeartbeats 1000000 in
theorem c_X11_hasScheme {Γ : GT} {S T U V A : St} {G : Gw} {nx d : Nat} {Q : QT} (hnx : 52 ≤ nx) {c : Int} (hI : Inv c A) (hA : Ag A (V 0)) (hL : RgL V)  (hQ : ∀ r, (r = 1 ∧ (0 < A 26 0) ∨ r = 0 ∧ ¬ (0 < A 26 0)) → Q (some (vi r)) (hp Γ S T U V G) nx) : AM Γ MX11_hasScheme (d, 0, 0) [rf Γ 43] (hp Γ S T U V G) nx Q := by
  refine am_of (by decide) (Nat.le_of_ble_eq_true rfl) (ls := [some (rf Γ 43)]) rfl ?_
  have hR := hI.R
  have i1 := hI.i1
  have hz : 0 ≤ A 28 0 ∧ A 28 0 ≤ 60 := i1.2.2.1
  have hkS : nS A = (A 28 0).toNat := rfl
  have hkI : nIm A = (A 27 0).toNat := rfl
  have hkO : nOr A = (A 26 0).toNat := rfl
  refine aw_aload_n dX11_hasScheme_0 rfl ?_
  refine aw_getf fg_X11_9 dX11_hasScheme_1 (hc43 hnx) rfl ?_
  refine aw_bipush dX11_hasScheme_4 rfl ?_
  refine aw_laldr dX11_hasScheme_6 (hc44 hnx) (by omega) (by decide) (hL 0) (fun q6 => ?_)
  refine aw_svl (a := A 26 0) (hA.c6.symm) ?_
  refine aw_lconst0 dX11_hasScheme_7 ?_
  refine aw_lif_le (tgt := 16) dX11_hasScheme_8 dX11_hasScheme_9 rfl (by omega) (fun c8 => ?_) (fun c8 => ?_)
  · skip
    refine aw_iconst dX11_hasScheme_16 ?_
    exact aw_zreturn dX11_hasScheme_17 rfl (by omega) ⟨Nat.le_refl _, Nat.le_refl _⟩ (hQ _ (by omega))
  · skip
    refine aw_iconst dX11_hasScheme_12 ?_
    refine aw_goto (tgt := 17) dX11_hasScheme_13 rfl ?_
    exact aw_zreturn dX11_hasScheme_17 rfl (by omega) ⟨Nat.le_refl _, Nat.le_refl _⟩ (hQ _ (by omega))

set_option maxHeartbeats 1000000 in
theorem c_X11_isOrigin {Γ : GT} {S T U V A : St} {G : Gw} {nx d : Nat} {Q : QT} (hnx : 52 ≤ nx) {a : Int} {c : Int} (hI : Inv c A) (hA : Ag A (V 0)) (hL : RgL V) (ha : inI a) (hQ : ∀ r, (r = 1 ∧ (0 ≤ a ∧ a < A 26 0) ∨ r = 0 ∧ ¬ (0 ≤ a ∧ a < A 26 0)) → Q (some (vi r)) (hp Γ S T U V G) nx) : AM Γ MX11_isOrigin (d + 1, 0, 0) [rf Γ 43, vi a] (hp Γ S T U V G) nx Q := by
  refine am_of (by decide) (Nat.le_of_ble_eq_true rfl) (ls := [some (rf Γ 43), some _]) rfl ?_
  have hR := hI.R
  have i1 := hI.i1
  have hz : 0 ≤ A 28 0 ∧ A 28 0 ≤ 60 := i1.2.2.1
  have hkS : nS A = (A 28 0).toNat := rfl
  have hkI : nIm A = (A 27 0).toNat := rfl
  have hkO : nOr A = (A 26 0).toNat := rfl
  refine aw_iload_n dX11_isOrigin_0 rfl ?_
  refine aw_i2l dX11_isOrigin_1 (by omega) ?_
  refine aw_lconst0 dX11_isOrigin_2 ?_
  refine aw_aload_n dX11_isOrigin_3 rfl ?_
  refine aw_getf fg_X11_9 dX11_isOrigin_4 (hc43 hnx) rfl ?_
  refine aw_bipush dX11_isOrigin_7 rfl ?_
  refine aw_laldr dX11_isOrigin_9 (hc44 hnx) (by omega) (by decide) (hL 0) (fun q9 => ?_)
  refine aw_svl (a := A 26 0) (hA.c6.symm) ?_
  refine aw_lconst1 dX11_isOrigin_10 ?_
  refine aw_lsub dX11_isOrigin_11 ?_
  refine aw_callS (As := [_, _, _]) (ρ := (_, 0, 0)) (kn' := (0, 0)) cs_X11_51 dX11_isOrigin_12 rfl rfl (Nat.le_of_ble_eq_true rfl) (rmR _ _ _) ⟨Nat.le_refl _, Nat.le_refl _⟩ rfl (c_X11_in hnx (by omega) (fun r12 h12 => ?_))
  exact aw_zreturn dX11_isOrigin_15 rfl (by omega) ⟨Nat.le_refl _, Nat.le_refl _⟩ (hQ _ (by omega))

set_option maxHeartbeats 1000000 in
theorem c_X11_isImporter {Γ : GT} {S T U V A : St} {G : Gw} {nx d : Nat} {Q : QT} (hnx : 52 ≤ nx) {a : Int} {c : Int} (hI : Inv c A) (hA : Ag A (V 0)) (hL : RgL V) (ha : inI a) (hQ : ∀ r, (r = 1 ∧ (0 ≤ a ∧ a < A 27 0) ∨ r = 0 ∧ ¬ (0 ≤ a ∧ a < A 27 0)) → Q (some (vi r)) (hp Γ S T U V G) nx) : AM Γ MX11_isImporter (d + 1, 0, 0) [rf Γ 43, vi a] (hp Γ S T U V G) nx Q := by
  refine am_of (by decide) (Nat.le_of_ble_eq_true rfl) (ls := [some (rf Γ 43), some _]) rfl ?_
  have hR := hI.R
  have i1 := hI.i1
  have hz : 0 ≤ A 28 0 ∧ A 28 0 ≤ 60 := i1.2.2.1
  have hkS : nS A = (A 28 0).toNat := rfl
  have hkI : nIm A = (A 27 0).toNat := rfl
  have hkO : nOr A = (A 26 0).toNat := rfl
  refine aw_iload_n dX11_isImporter_0 rfl ?_
  refine aw_i2l dX11_isImporter_1 (by omega) ?_
  refine aw_lconst0 dX11_isImporter_2 ?_
  refine aw_aload_n dX11_isImporter_3 rfl ?_
  refine aw_getf fg_X11_9 dX11_isImporter_4 (hc43 hnx) rfl ?_
  refine aw_bipush dX11_isImporter_7 rfl ?_
  refine aw_laldr dX11_isImporter_9 (hc44 hnx) (by omega) (by decide) (hL 0) (fun q9 => ?_)
  refine aw_svl (a := A 27 0) (hA.c7.symm) ?_
  refine aw_lconst1 dX11_isImporter_10 ?_
  refine aw_lsub dX11_isImporter_11 ?_
  refine aw_callS (As := [_, _, _]) (ρ := (_, 0, 0)) (kn' := (0, 0)) cs_X11_51 dX11_isImporter_12 rfl rfl (Nat.le_of_ble_eq_true rfl) (rmR _ _ _) ⟨Nat.le_refl _, Nat.le_refl _⟩ rfl (c_X11_in hnx (by omega) (fun r12 h12 => ?_))
  exact aw_zreturn dX11_isImporter_15 rfl (by omega) ⟨Nat.le_refl _, Nat.le_refl _⟩ (hQ _ (by omega))

set_option maxHeartbeats 1000000 in
theorem c_X11_isLicence {Γ : GT} {S T U V A : St} {G : Gw} {nx d : Nat} {Q : QT} (hnx : 52 ≤ nx) {a : Int} {c : Int} (hI : Inv c A) (hA : Ag A (V 0)) (hL : RgL V) (ha : inI a) (hQ : ∀ r, (r = 1 ∧ (0 ≤ a ∧ a < A 28 0) ∨ r = 0 ∧ ¬ (0 ≤ a ∧ a < A 28 0)) → Q (some (vi r)) (hp Γ S T U V G) nx) : AM Γ MX11_isLicence (d + 1, 0, 0) [rf Γ 43, vi a] (hp Γ S T U V G) nx Q := by
  refine am_of (by decide) (Nat.le_of_ble_eq_true rfl) (ls := [some (rf Γ 43), some _]) rfl ?_
  have hR := hI.R
  have i1 := hI.i1
  have hz : 0 ≤ A 28 0 ∧ A 28 0 ≤ 60 := i1.2.2.1
  have hkS : nS A = (A 28 0).toNat := rfl
  have hkI : nIm A = (A 27 0).toNat := rfl
  have hkO : nOr A = (A 26 0).toNat := rfl
  refine aw_iload_n dX11_isLicence_0 rfl ?_
  refine aw_i2l dX11_isLicence_1 (by omega) ?_
  refine aw_lconst0 dX11_isLicence_2 ?_
  refine aw_aload_n dX11_isLicence_3 rfl ?_
  refine aw_getf fg_X11_9 dX11_isLicence_4 (hc43 hnx) rfl ?_
  refine aw_bipush dX11_isLicence_7 rfl ?_
  refine aw_laldr dX11_isLicence_9 (hc44 hnx) (by omega) (by decide) (hL 0) (fun q9 => ?_)
  refine aw_svl (a := A 28 0) (hA.c8.symm) ?_
  refine aw_lconst1 dX11_isLicence_10 ?_
  refine aw_lsub dX11_isLicence_11 ?_
  refine aw_callS (As := [_, _, _]) (ρ := (_, 0, 0)) (kn' := (0, 0)) cs_X11_51 dX11_isLicence_12 rfl rfl (Nat.le_of_ble_eq_true rfl) (rmR _ _ _) ⟨Nat.le_refl _, Nat.le_refl _⟩ rfl (c_X11_in hnx (by omega) (fun r12 h12 => ?_))
  exact aw_zreturn dX11_isLicence_15 rfl (by omega) ⟨Nat.le_refl _, Nat.le_refl _⟩ (hQ _ (by omega))

set_option maxHeartbeats 1000000 in
theorem c_X11_arePair {Γ : GT} {S T U V A : St} {G : Gw} {nx d : Nat} {Q : QT} (hnx : 52 ≤ nx) {i a : Int} {c : Int} (hI : Inv c A) (hA : Ag A (V 0)) (hL : RgL V) (ha : inI i ∧ inI a) (hQ : ∀ r, (r = 1 ∧ ((0 ≤ i ∧ i < A 27 0) ∧ 0 ≤ a ∧ a < A 26 0) ∨ r = 0 ∧ ¬ ((0 ≤ i ∧ i < A 27 0) ∧ 0 ≤ a ∧ a < A 26 0)) → Q (some (vi r)) (hp Γ S T U V G) nx) : AM Γ MX11_arePair (d + 2, 0, 0) [rf Γ 43, vi i, vi a] (hp Γ S T U V G) nx Q := by
  refine am_of (by decide) (Nat.le_of_ble_eq_true rfl) (ls := [some (rf Γ 43), some _, some _]) rfl ?_
  have hR := hI.R
  have i1 := hI.i1
  have hz : 0 ≤ A 28 0 ∧ A 28 0 ≤ 60 := i1.2.2.1
  have hkS : nS A = (A 28 0).toNat := rfl
  have hkI : nIm A = (A 27 0).toNat := rfl
  have hkO : nOr A = (A 26 0).toNat := rfl
  refine aw_aload_n dX11_arePair_0 rfl ?_
  refine aw_iload_n dX11_arePair_1 rfl ?_
  refine aw_callV (As := [_]) (ρ := (_, 0, 0)) (kn' := (0, 0)) cv_X11_55 dX11_arePair_2 rfl rfl (hc43 hnx) rfl rfl (Nat.le_of_ble_eq_true rfl) (rmR _ _ _) ⟨Nat.le_refl _, Nat.le_refl _⟩ rfl (c_X11_isImporter hnx hI hA hL (by omega) (fun r2 h2 => ?_))
  rcases h2 with ⟨rfl, h2⟩ | ⟨rfl, h2⟩
  · skip
    refine aw_if_eq (tgt := 20) dX11_arePair_5 rfl (by decide) (fun c => absurd c (by decide)) (fun _ => ?_)
    refine aw_aload_n dX11_arePair_8 rfl ?_
    refine aw_iload_n dX11_arePair_9 rfl ?_
    refine aw_callV (As := [_]) (ρ := (_, 0, 0)) (kn' := (0, 0)) cv_X11_59 dX11_arePair_10 rfl rfl (hc43 hnx) rfl rfl (Nat.le_of_ble_eq_true rfl) (rmR _ _ _) ⟨Nat.le_refl _, Nat.le_refl _⟩ rfl (c_X11_isOrigin hnx hI hA hL (by omega) (fun r10 h10 => ?_))
    rcases h10 with ⟨rfl, h10⟩ | ⟨rfl, h10⟩
    · skip
      refine aw_if_eq (tgt := 20) dX11_arePair_13 rfl (by decide) (fun c => absurd c (by decide)) (fun _ => ?_)
      refine aw_iconst dX11_arePair_16 ?_
      refine aw_goto (tgt := 21) dX11_arePair_17 rfl ?_
      exact aw_zreturn dX11_arePair_21 rfl (by omega) ⟨Nat.le_refl _, Nat.le_refl _⟩ (hQ _ (by omega))
    · skip
      refine aw_if_eq (tgt := 20) dX11_arePair_13 rfl (by decide) (fun _ => ?_) (fun c => absurd c (by decide))
      refine aw_iconst dX11_arePair_20 ?_
      exact aw_zreturn dX11_arePair_21 rfl (by omega) ⟨Nat.le_refl _, Nat.le_refl _⟩ (hQ _ (by omega))
  · skip
    refine aw_if_eq (tgt := 20) dX11_arePair_5 rfl (by decide) (fun _ => ?_) (fun c => absurd c (by decide))
    refine aw_iconst dX11_arePair_20 ?_
    exact aw_zreturn dX11_arePair_21 rfl (by omega) ⟨Nat.le_refl _, Nat.le_refl _⟩ (hQ _ (by omega))

set_option maxHeartbeats 1000000 in
theorem c_X11_isOpen {Γ : GT} {S T U V A : St} {G : Gw} {nx d : Nat} {Q : QT} (hnx : 52 ≤ nx) {l : Int} {c : Int} (hI : Inv c A) (hA : Ag A (V 0)) (hL : RgL V) (hl : 0 ≤ l ∧ l < A 28 0) (hQ : ∀ r, (r = 1 ∧ (A 10 l = 0) ∨ r = 0 ∧ ¬ (A 10 l = 0)) → Q (some (vi r)) (hp Γ S T U V G) nx) : AM Γ MX11_isOpen (d + 2, 0, 0) [rf Γ 43, vi l] (hp Γ S T U V G) nx Q := by
  refine am_of (by decide) (Nat.le_of_ble_eq_true rfl) (ls := [some (rf Γ 43), some _]) rfl ?_
  have hR := hI.R
  have i1 := hI.i1
  have hz : 0 ≤ A 28 0 ∧ A 28 0 ≤ 60 := i1.2.2.1
  have hkS : nS A = (A 28 0).toNat := rfl
  have hkI : nIm A = (A 27 0).toNat := rfl
  have hkO : nOr A = (A 26 0).toNat := rfl
  refine aw_aload_n dX11_isOpen_0 rfl ?_
  refine aw_iload_n dX11_isOpen_1 rfl ?_
  refine aw_iconst dX11_isOpen_2 ?_
  refine aw_callV (As := [_, _]) (ρ := (_, 0, 0)) (kn' := (0, 0)) cv_X11_196 dX11_isOpen_3 rfl rfl (hc43 hnx) rfl rfl (Nat.le_of_ble_eq_true rfl) (rmR _ _ _) ⟨Nat.le_refl _, Nat.le_refl _⟩ rfl (c_X11_ofLicence_5 hnx hI hA hL (by omega) (fun r3 h3 => ?_))
  have r10 := hR 10 (by decide) l
  refine aw_if_ne (tgt := 13) dX11_isOpen_6 rfl (by omega) (fun c6 => ?_) (fun c6 => ?_)
  · skip
    refine aw_iconst dX11_isOpen_13 ?_
    exact aw_zreturn dX11_isOpen_14 rfl (by omega) ⟨Nat.le_refl _, Nat.le_refl _⟩ (hQ _ (by omega))
  · skip
    refine aw_iconst dX11_isOpen_9 ?_
    refine aw_goto (tgt := 14) dX11_isOpen_10 rfl ?_
    exact aw_zreturn dX11_isOpen_14 rfl (by omega) ⟨Nat.le_refl _, Nat.le_refl _⟩ (hQ _ (by omega))

set_option maxHeartbeats 1000000 in
theorem c_X11_leftOf {Γ : GT} {S T U V A : St} {G : Gw} {nx d : Nat} {Q : QT} (hnx : 52 ≤ nx) {l : Int} {c : Int} (hI : Inv c A) (hA : Ag A (V 0)) (hL : RgL V) (hl : 0 ≤ l ∧ l < A 28 0) (hQ : ∀ r, r = rem A l → Q (some (vi r)) (hp Γ S T U V G) nx) : AM Γ MX11_leftOf (d + 3, 0, 0) [rf Γ 43, vi l] (hp Γ S T U V G) nx Q := by
  refine am_of (by decide) (Nat.le_of_ble_eq_true rfl) (ls := [some (rf Γ 43), some _]) rfl ?_
  have hR := hI.R
  have i1 := hI.i1
  have hz : 0 ≤ A 28 0 ∧ A 28 0 ≤ 60 := i1.2.2.1
  have hkS : nS A = (A 28 0).toNat := rfl
  have hkI : nIm A = (A 27 0).toNat := rfl
  have hkO : nOr A = (A 26 0).toNat := rfl
  refine aw_aload_n dX11_leftOf_0 rfl ?_
  refine aw_iload_n dX11_leftOf_1 rfl ?_
  refine aw_callV (As := [_]) (ρ := (_, 0, 0)) (kn' := (0, 0)) cv_X11_199 dX11_leftOf_2 rfl rfl (hc43 hnx) rfl rfl (Nat.le_of_ble_eq_true rfl) (rmR _ _ _) ⟨Nat.le_refl _, Nat.le_refl _⟩ rfl (c_X11_isOpen hnx hI hA hL (by omega) (fun r2 h2 => ?_))
  rcases h2 with ⟨rfl, h2⟩ | ⟨rfl, h2⟩
  · skip
    refine aw_if_eq (tgt := 24) dX11_leftOf_5 rfl (by decide) (fun c => absurd c (by decide)) (fun _ => ?_)
    refine aw_aload_n dX11_leftOf_8 rfl ?_
    refine aw_iload_n dX11_leftOf_9 rfl ?_
    refine aw_iconst dX11_leftOf_10 ?_
    refine aw_callV (As := [_, _]) (ρ := (_, 0, 0)) (kn' := (0, 0)) cv_X11_196 dX11_leftOf_11 rfl rfl (hc43 hnx) rfl rfl (Nat.le_of_ble_eq_true rfl) (rmR _ _ _) ⟨Nat.le_refl _, Nat.le_refl _⟩ rfl (c_X11_ofLicence_2 hnx hI hA hL (by omega) (fun r11 h11 => ?_))
    refine aw_aload_n dX11_leftOf_14 rfl ?_
    refine aw_iload_n dX11_leftOf_15 rfl ?_
    refine aw_iconst dX11_leftOf_16 ?_
    refine aw_callV (As := [_, _]) (ρ := (_, 0, 0)) (kn' := (0, 0)) cv_X11_196 dX11_leftOf_17 rfl rfl (hc43 hnx) rfl rfl (Nat.le_of_ble_eq_true rfl) (rmR _ _ _) ⟨Nat.le_refl _, Nat.le_refl _⟩ rfl (c_X11_ofLicence_4 hnx hI hA hL (by omega) (fun r17 h17 => ?_))
    refine aw_isub dX11_leftOf_20 ?_
    refine aw_goto (tgt := 25) dX11_leftOf_21 rfl ?_
    exact aw_ireturn dX11_leftOf_25 rfl rfl ⟨Nat.le_refl _, Nat.le_refl _⟩ (hQ _ (by simp only [rem]; split <;> omega))
  · skip
    refine aw_if_eq (tgt := 24) dX11_leftOf_5 rfl (by decide) (fun _ => ?_) (fun c => absurd c (by decide))
    refine aw_iconst dX11_leftOf_24 ?_
    exact aw_ireturn dX11_leftOf_25 rfl rfl ⟨Nat.le_refl _, Nat.le_refl _⟩ (hQ _ (by simp only [rem]; split <;> omega))

set_option maxHeartbeats 1000000 in
theorem c_X11_isOf {Γ : GT} {S T U V A : St} {G : Gw} {nx d : Nat} {Q : QT} (hnx : 52 ≤ nx) {l i a : Int} {c : Int} (hI : Inv c A) (hA : Ag A (V 0)) (hL : RgL V) (hl : 0 ≤ l ∧ l < A 28 0) (ha : inI i ∧ inI a) (hQ : ∀ r, (r = 1 ∧ (A 4 l = i ∧ A 5 l = a) ∨ r = 0 ∧ ¬ (A 4 l = i ∧ A 5 l = a)) → Q (some (vi r)) (hp Γ S T U V G) nx) : AM Γ MX11_isOf (d + 2, 0, 0) [rf Γ 43, vi l, vi i, vi a] (hp Γ S T U V G) nx Q := by
  refine am_of (by decide) (Nat.le_of_ble_eq_true rfl) (ls := [some (rf Γ 43), some _, some _, some _]) rfl ?_
  have hR := hI.R
  have i1 := hI.i1
  have hz : 0 ≤ A 28 0 ∧ A 28 0 ≤ 60 := i1.2.2.1
  have hkS : nS A = (A 28 0).toNat := rfl
  have hkI : nIm A = (A 27 0).toNat := rfl
  have hkO : nOr A = (A 26 0).toNat := rfl
  refine aw_aload_n dX11_isOf_0 rfl ?_
  refine aw_iload_n dX11_isOf_1 rfl ?_
  refine aw_iconst dX11_isOf_2 ?_
  refine aw_callV (As := [_, _]) (ρ := (_, 0, 0)) (kn' := (0, 0)) cv_X11_196 dX11_isOf_3 rfl rfl (hc43 hnx) rfl rfl (Nat.le_of_ble_eq_true rfl) (rmR _ _ _) ⟨Nat.le_refl _, Nat.le_refl _⟩ rfl (c_X11_ofLicence_0 hnx hI hA hL (by omega) (fun r3 h3 => ?_))
  have r4 := hR 4 (by decide) l
  refine aw_iload_n dX11_isOf_6 rfl ?_
  refine aw_icmp_ne (tgt := 24) dX11_isOf_7 rfl (by omega) (fun c7 => ?_) (fun c7 => ?_)
  · skip
    refine aw_iconst dX11_isOf_24 ?_
    exact aw_zreturn dX11_isOf_25 rfl (by omega) ⟨Nat.le_refl _, Nat.le_refl _⟩ (hQ _ (by omega))
  · skip
    refine aw_aload_n dX11_isOf_10 rfl ?_
    refine aw_iload_n dX11_isOf_11 rfl ?_
    refine aw_iconst dX11_isOf_12 ?_
    refine aw_callV (As := [_, _]) (ρ := (_, 0, 0)) (kn' := (0, 0)) cv_X11_196 dX11_isOf_13 rfl rfl (hc43 hnx) rfl rfl (Nat.le_of_ble_eq_true rfl) (rmR _ _ _) ⟨Nat.le_refl _, Nat.le_refl _⟩ rfl (c_X11_ofLicence_1 hnx hI hA hL (by omega) (fun r13 h13 => ?_))
    have r5 := hR 5 (by decide) l
    refine aw_iload_n dX11_isOf_16 rfl ?_
    refine aw_icmp_ne (tgt := 24) dX11_isOf_17 rfl (by omega) (fun c17 => ?_) (fun c17 => ?_)
    · skip
      refine aw_iconst dX11_isOf_24 ?_
      exact aw_zreturn dX11_isOf_25 rfl (by omega) ⟨Nat.le_refl _, Nat.le_refl _⟩ (hQ _ (by omega))
    · skip
      refine aw_iconst dX11_isOf_20 ?_
      refine aw_goto (tgt := 25) dX11_isOf_21 rfl ?_
      exact aw_zreturn dX11_isOf_25 rfl (by omega) ⟨Nat.le_refl _, Nat.le_refl _⟩ (hQ _ (by omega))

set_option maxHeartbeats 1000000 in
theorem c_X11_importedOf {Γ : GT} {S T U V A : St} {G : Gw} {nx d : Nat} {Q : QT} (hnx : 52 ≤ nx) {i a : Int} {c : Int} (hI : Inv c A) (hA : Ag A (V 0)) (hL : RgL V) (hi : 0 ≤ i ∧ i < A 27 0) (ha : 0 ≤ a ∧ a < A 26 0) (hQ : ∀ r, r = old A (4 * i + a) → Q (some (vl r)) (hp Γ S T U V G) nx) : AM Γ MX11_importedOf (d + 1, 0, 0) [rf Γ 43, vi i, vi a] (hp Γ S T U V G) nx Q := by
  refine am_of (by decide) (Nat.le_of_ble_eq_true rfl) (ls := [some (rf Γ 43), some _, some _]) rfl ?_
  have hR := hI.R
  have i1 := hI.i1
  have hz : 0 ≤ A 28 0 ∧ A 28 0 ≤ 60 := i1.2.2.1
  have hkS : nS A = (A 28 0).toNat := rfl
  have hkI : nIm A = (A 27 0).toNat := rfl
  have hkO : nOr A = (A 26 0).toNat := rfl
  refine aw_aload_n dX11_importedOf_0 rfl ?_
  refine aw_getf fg_X11_9 dX11_importedOf_1 (hc43 hnx) rfl ?_
  refine aw_iload_n dX11_importedOf_4 rfl ?_
  refine aw_iload_n dX11_importedOf_5 rfl ?_
  refine aw_iconst dX11_importedOf_6 ?_
  refine aw_callS (As := [_, _, _]) (ρ := (_, 0, 0)) (kn' := (0, 0)) cs_X11_44 dX11_importedOf_7 rfl rfl (Nat.le_of_ble_eq_true rfl) (rmR _ _ _) ⟨Nat.le_refl _, Nat.le_refl _⟩ rfl (c_X11_pairAt hnx  (fun r7 h7 => ?_))
  subst h7
  refine aw_laldr dX11_importedOf_10 (hc44 hnx) (by omega) (by decide) (hL 0) (fun q10 => ?_)
  refine aw_svl (a := A 2 ((4 * i + a) * 3 + 0)) ((hA.p2 hi ha (by omega) (by omega)).symm) ?_
  refine aw_aload_n dX11_importedOf_11 rfl ?_
  refine aw_getf fg_X11_9 dX11_importedOf_12 (hc43 hnx) rfl ?_
  refine aw_iload_n dX11_importedOf_15 rfl ?_
  refine aw_iload_n dX11_importedOf_16 rfl ?_
  refine aw_iconst dX11_importedOf_17 ?_
  refine aw_callS (As := [_, _, _]) (ρ := (_, 0, 0)) (kn' := (0, 0)) cs_X11_44 dX11_importedOf_18 rfl rfl (Nat.le_of_ble_eq_true rfl) (rmR _ _ _) ⟨Nat.le_refl _, Nat.le_refl _⟩ rfl (c_X11_pairAt hnx  (fun r18 h18 => ?_))
  subst h18
  refine aw_laldr dX11_importedOf_21 (hc44 hnx) (by omega) (by decide) (hL 0) (fun q21 => ?_)
  refine aw_svl (a := A 2 ((4 * i + a) * 3 + 1)) ((hA.p2 hi ha (by omega) (by omega)).symm) ?_
  refine aw_ladd dX11_importedOf_22 ?_
  refine aw_aload_n dX11_importedOf_23 rfl ?_
  refine aw_getf fg_X11_9 dX11_importedOf_24 (hc43 hnx) rfl ?_
  refine aw_iload_n dX11_importedOf_27 rfl ?_
  refine aw_iload_n dX11_importedOf_28 rfl ?_
  refine aw_iconst dX11_importedOf_29 ?_
  refine aw_callS (As := [_, _, _]) (ρ := (_, 0, 0)) (kn' := (0, 0)) cs_X11_44 dX11_importedOf_30 rfl rfl (Nat.le_of_ble_eq_true rfl) (rmR _ _ _) ⟨Nat.le_refl _, Nat.le_refl _⟩ rfl (c_X11_pairAt hnx  (fun r30 h30 => ?_))
  subst h30
  refine aw_laldr dX11_importedOf_33 (hc44 hnx) (by omega) (by decide) (hL 0) (fun q33 => ?_)
  refine aw_svl (a := A 2 ((4 * i + a) * 3 + 2)) ((hA.p2 hi ha (by omega) (by omega)).symm) ?_
  refine aw_ladd dX11_importedOf_34 ?_
  exact aw_lreturn dX11_importedOf_35 rfl ⟨Nat.le_refl _, Nat.le_refl _⟩ (hQ _ (rfl))


/-! answers of the class that change nothing -/
abbrev isO (S : St) (o : Int) : Prop := 0 ≤ o ∧ o < S 26 0
abbrev isI (S : St) (i : Int) : Prop := 0 ≤ i ∧ i < S 27 0
abbrev isL (S : St) (l : Int) : Prop := 0 ≤ l ∧ l < S 28 0
abbrev isN (n : Int) : Prop := 1 ≤ n ∧ n ≤ 99999
def aTold (S : St) (w : Int) : Int := if 0 < S 26 0 ∧ 0 ≤ w ∧ w ≤ 5 then S 0 w else -1
def aOrigin (S : St) (o w : Int) : Int := if isO S o ∧ 0 ≤ w ∧ w ≤ 7 then (if w = 0 then S 1 o else S 14 (o * 8 + w)) else -1
def aPast (S : St) (i o y : Int) : Int := if (isI S i ∧ isO S o) ∧ 0 ≤ y ∧ y ≤ 3 then (if y = 3 then S 20 (4 * i + o) else S 2 ((4 * i + o) * 3 + y)) else -1
def aSort (S : St) (i o : Int) : Int := if isI S i ∧ isO S o then S 15 (4 * i + o) else -1
def aShare (S : St) (i o w : Int) : Int := if (isI S i ∧ isO S o) ∧ 0 ≤ w ∧ w ≤ 1 then (if w = 0 then S 16 (4 * i + o) else S 17 (4 * i + o)) else -1
def aMonth (S : St) (i m : Int) : Int := if isI S i ∧ 0 ≤ m ∧ m ≤ 11 then S 21 (i * 12 + m) else -1
def aIdle (S : St) (i o : Int) : Int := if isI S i ∧ isO S o then (if kept S i o then 1 else 0) else -1
def aWould (S : St) (i o n : Int) : Int := if (isI S i ∧ isO S o) ∧ isN n then offer S i o n (S 14 (o * 8 + 3)) (S 28 0) else -1
def aTotal (S : St) (w : Int) : Int := if 0 < S 26 0 ∧ 0 ≤ w ∧ w ≤ 4 then S 24 w else -1
def aFuture (S : St) (i o : Int) : Int := if isI S i ∧ isO S o then sny S i o else -1

set_option maxHeartbeats 1000000 in
theorem c_X10_told {Γ : GT} {S T U V : St} {G : Gw} {nx d : Nat} {Q : QT} (hnx : 52 ≤ nx) {w : Int} {c : Int} (hI : Inv c S) (hw : inI w) (hQ : ∀ r, r = aTold S w → Q (some (vi r)) (hp Γ S T U V G) nx) : AM Γ MX10_told (d + 1, 0, 0) [rf Γ 0, vi w] (hp Γ S T U V G) nx Q := by
  refine am_of (by decide) (Nat.le_of_ble_eq_true rfl) (ls := [some (rf Γ 0), some _]) rfl ?_
  have hR := hI.R
  have i1 := hI.i1
  have hz : 0 ≤ S 28 0 ∧ S 28 0 ≤ 60 := i1.2.2.1
  have hkS : nS S = (S 28 0).toNat := rfl
  have hkI : nIm S = (S 27 0).toNat := rfl
  have hkO : nOr S = (S 26 0).toNat := rfl
  refine aw_aload_n dX10_told_0 rfl ?_
  refine aw_getf fg_X10_26 dX10_told_1 (hc0 hnx) rfl ?_
  refine aw_callV (As := []) (ρ := (_, 0, 0)) (kn' := (0, 0)) cv_X10_181 dX10_told_4 rfl rfl (hc9 hnx) rfl rfl (Nat.le_of_ble_eq_true rfl) (rmR _ _ _) ⟨Nat.le_refl _, Nat.le_refl _⟩ rfl (c_X7_hasScheme hnx hR (fun r4 h4 => ?_))
  rcases h4 with ⟨rfl, h4⟩ | ⟨rfl, h4⟩
  · skip
    refine aw_if_eq (tgt := 32) dX10_told_7 rfl (by decide) (fun c => absurd c (by decide)) (fun _ => ?_)
    refine aw_iload_n dX10_told_10 rfl ?_
    refine aw_callS (As := [_]) (ρ := (_, 0, 0)) (kn' := (0, 0)) cs_X10_198 dX10_told_11 rfl rfl (Nat.le_of_ble_eq_true rfl) (rmR _ _ _) ⟨Nat.le_refl _, Nat.le_refl _⟩ rfl (c_X10_isTold hnx (by omega) (fun r11 h11 => ?_))
    rcases h11 with ⟨rfl, h11⟩ | ⟨rfl, h11⟩
    · skip
      refine aw_if_eq (tgt := 32) dX10_told_14 rfl (by decide) (fun c => absurd c (by decide)) (fun _ => ?_)
      refine aw_aload_n dX10_told_17 rfl ?_
      refine aw_getf fg_X10_26 dX10_told_18 (hc0 hnx) rfl ?_
      refine aw_getf fg_X10_81 dX10_told_21 (hc9 hnx) rfl ?_
      refine aw_getf fg_X10_207 dX10_told_24 (hc10 hnx) rfl ?_
      refine aw_iload_n dX10_told_27 rfl ?_
      refine aw_ialdr dX10_told_28 (hc11 hnx) (by omega) (by decide) (hR 0 (by decide)) (fun q28 => ?_)
      refine aw_goto (tgt := 33) dX10_told_29 rfl ?_
      exact aw_ireturn dX10_told_33 rfl rfl ⟨Nat.le_refl _, Nat.le_refl _⟩ (hQ _ (by unfold aTold; (repeat' split) <;> omega))
    · skip
      refine aw_if_eq (tgt := 32) dX10_told_14 rfl (by decide) (fun _ => ?_) (fun c => absurd c (by decide))
      refine aw_iconst dX10_told_32 ?_
      exact aw_ireturn dX10_told_33 rfl rfl ⟨Nat.le_refl _, Nat.le_refl _⟩ (hQ _ (by unfold aTold; (repeat' split) <;> omega))
  · skip
    refine aw_if_eq (tgt := 32) dX10_told_7 rfl (by decide) (fun _ => ?_) (fun c => absurd c (by decide))
    refine aw_iconst dX10_told_32 ?_
    exact aw_ireturn dX10_told_33 rfl rfl ⟨Nat.le_refl _, Nat.le_refl _⟩ (hQ _ (by unfold aTold; (repeat' split) <;> omega))

set_option maxHeartbeats 1000000 in
theorem c_X10_sort {Γ : GT} {S T U V : St} {G : Gw} {nx d : Nat} {Q : QT} (hnx : 52 ≤ nx) {i j : Int} {c : Int} (hI : Inv c S) (hi : inI i) (hj : inI j) (hQ : ∀ r, r = aSort S i j → Q (some (vi r)) (hp Γ S T U V G) nx) : AM Γ MX10_sort (d + 2, 0, 0) [rf Γ 0, vi i, vi j] (hp Γ S T U V G) nx Q := by
  refine am_of (by decide) (Nat.le_of_ble_eq_true rfl) (ls := [some (rf Γ 0), some _, some _]) rfl ?_
  have hR := hI.R
  have i1 := hI.i1
  have hz : 0 ≤ S 28 0 ∧ S 28 0 ≤ 60 := i1.2.2.1
  have hkS : nS S = (S 28 0).toNat := rfl
  have hkI : nIm S = (S 27 0).toNat := rfl
  have hkO : nOr S = (S 26 0).toNat := rfl
  refine aw_aload_n dX10_sort_0 rfl ?_
  refine aw_getf fg_X10_26 dX10_sort_1 (hc0 hnx) rfl ?_
  refine aw_iload_n dX10_sort_4 rfl ?_
  refine aw_iload_n dX10_sort_5 rfl ?_
  refine aw_callV (As := [_, _]) (ρ := (_, 0, 0)) (kn' := (0, 0)) cv_X10_87 dX10_sort_6 rfl rfl (hc9 hnx) rfl rfl (Nat.le_of_ble_eq_true rfl) (rmR _ _ _) ⟨Nat.le_refl _, Nat.le_refl _⟩ rfl (c_X7_hasPair hnx hR (by omega) (fun r6 h6 => ?_))
  rcases h6 with ⟨rfl, h6⟩ | ⟨rfl, h6⟩
  · skip
    refine aw_if_ne (tgt := 14) dX10_sort_9 rfl (by decide) (fun _ => ?_) (fun c => absurd c (by decide))
    refine aw_aload_n dX10_sort_14 rfl ?_
    refine aw_getf fg_X10_26 dX10_sort_15 (hc0 hnx) rfl ?_
    refine aw_getf fg_X10_156 dX10_sort_18 (hc9 hnx) rfl ?_
    refine aw_getf fg_X10_232 dX10_sort_21 (hc25 hnx) rfl ?_
    refine aw_iload_n dX10_sort_24 rfl ?_
    refine aw_iload_n dX10_sort_25 rfl ?_
    refine aw_callS (As := [_, _]) (ρ := (_, 0, 0)) (kn' := (0, 0)) cs_X10_160 dX10_sort_26 rfl rfl (Nat.le_of_ble_eq_true rfl) (rmR _ _ _) ⟨Nat.le_refl _, Nat.le_refl _⟩ rfl (c_X10_pairOf hnx  (fun r26 h26 => ?_))
    subst h26
    refine aw_ialdr dX10_sort_29 (hc27 hnx) (by omega) (by decide) (hR 15 (by decide)) (fun q29 => ?_)
    exact aw_ireturn dX10_sort_30 rfl rfl ⟨Nat.le_refl _, Nat.le_refl _⟩ (hQ _ (by unfold aSort; simp only [isI, isO]; (repeat' split) <;> omega))
  · skip
    refine aw_if_ne (tgt := 14) dX10_sort_9 rfl (by decide) (fun c => absurd c (by decide)) (fun _ => ?_)
    refine aw_iconst dX10_sort_12 ?_
    exact aw_ireturn dX10_sort_13 rfl rfl ⟨Nat.le_refl _, Nat.le_refl _⟩ (hQ _ (by unfold aSort; simp only [isI, isO]; (repeat' split) <;> omega))

set_option maxHeartbeats 1000000 in
theorem c_X10_month {Γ : GT} {S T U V : St} {G : Gw} {nx d : Nat} {Q : QT} (hnx : 52 ≤ nx) {i m : Int} {c : Int} (hI : Inv c S) (hi : inI i) (hm : inI m) (hQ : ∀ r, r = aMonth S i m → Q (some (vi r)) (hp Γ S T U V G) nx) : AM Γ MX10_month (d + 1, 0, 0) [rf Γ 0, vi i, vi m] (hp Γ S T U V G) nx Q := by
  refine am_of (by decide) (Nat.le_of_ble_eq_true rfl) (ls := [some (rf Γ 0), some _, some _]) rfl ?_
  have hR := hI.R
  have i1 := hI.i1
  have hz : 0 ≤ S 28 0 ∧ S 28 0 ≤ 60 := i1.2.2.1
  have hkS : nS S = (S 28 0).toNat := rfl
  have hkI : nIm S = (S 27 0).toNat := rfl
  have hkO : nOr S = (S 26 0).toNat := rfl
  refine aw_aload_n dX10_month_0 rfl ?_
  refine aw_getf fg_X10_26 dX10_month_1 (hc0 hnx) rfl ?_
  refine aw_iload_n dX10_month_4 rfl ?_
  refine aw_callV (As := [_]) (ρ := (_, 0, 0)) (kn' := (0, 0)) cv_X10_133 dX10_month_5 rfl rfl (hc9 hnx) rfl rfl (Nat.le_of_ble_eq_true rfl) (rmR _ _ _) ⟨Nat.le_refl _, Nat.le_refl _⟩ rfl (c_X7_hasImporter hnx hR (by omega) (fun r5 h5 => ?_))
  rcases h5 with ⟨rfl, h5⟩ | ⟨rfl, h5⟩
  · skip
    refine aw_if_eq (tgt := 21) dX10_month_8 rfl (by decide) (fun c => absurd c (by decide)) (fun _ => ?_)
    refine aw_iload_n dX10_month_11 rfl ?_
    refine aw_if_lt (tgt := 21) dX10_month_12 rfl (by omega) (fun c12 => ?_) (fun c12 => ?_)
    · skip
      refine aw_iconst dX10_month_21 ?_
      exact aw_ireturn dX10_month_22 rfl rfl ⟨Nat.le_refl _, Nat.le_refl _⟩ (hQ _ (by unfold aMonth; simp only [isI]; (repeat' split) <;> omega))
    · skip
      refine aw_iload_n dX10_month_15 rfl ?_
      refine aw_bipush dX10_month_16 rfl ?_
      refine aw_icmp_lt (tgt := 23) dX10_month_18 rfl (by omega) (fun c18 => ?_) (fun c18 => ?_)
      · skip
        refine aw_aload_n dX10_month_23 rfl ?_
        refine aw_getf fg_X10_26 dX10_month_24 (hc0 hnx) rfl ?_
        refine aw_getf fg_X10_220 dX10_month_27 (hc9 hnx) rfl ?_
        refine aw_getf fg_X10_261 dX10_month_30 (hc32 hnx) rfl ?_
        refine aw_iload_n dX10_month_33 rfl ?_
        refine aw_bipush dX10_month_34 rfl ?_
        refine aw_imul dX10_month_36 ?_
        refine aw_iload_n dX10_month_37 rfl ?_
        refine aw_iadd dX10_month_38 ?_
        refine aw_ialdr dX10_month_39 (hc34 hnx) (by omega) (by decide) (hR 21 (by decide)) (fun q39 => ?_)
        exact aw_ireturn dX10_month_40 rfl rfl ⟨Nat.le_refl _, Nat.le_refl _⟩ (hQ _ (by unfold aMonth; simp only [isI]; (repeat' split) <;> omega))
      · skip
        refine aw_iconst dX10_month_21 ?_
        exact aw_ireturn dX10_month_22 rfl rfl ⟨Nat.le_refl _, Nat.le_refl _⟩ (hQ _ (by unfold aMonth; simp only [isI]; (repeat' split) <;> omega))
  · skip
    refine aw_if_eq (tgt := 21) dX10_month_8 rfl (by decide) (fun _ => ?_) (fun c => absurd c (by decide))
    refine aw_iconst dX10_month_21 ?_
    exact aw_ireturn dX10_month_22 rfl rfl ⟨Nat.le_refl _, Nat.le_refl _⟩ (hQ _ (by unfold aMonth; simp only [isI]; (repeat' split) <;> omega))

set_option maxHeartbeats 1000000 in
theorem c_X10_total {Γ : GT} {S T U V : St} {G : Gw} {nx d : Nat} {Q : QT} (hnx : 52 ≤ nx) {w : Int} {c : Int} (hI : Inv c S) (hw : inI w) (hQ : ∀ r, r = aTotal S w → Q (some (vi r)) (hp Γ S T U V G) nx) : AM Γ MX10_total (d + 1, 0, 0) [rf Γ 0, vi w] (hp Γ S T U V G) nx Q := by
  refine am_of (by decide) (Nat.le_of_ble_eq_true rfl) (ls := [some (rf Γ 0), some _]) rfl ?_
  have hR := hI.R
  have i1 := hI.i1
  have hz : 0 ≤ S 28 0 ∧ S 28 0 ≤ 60 := i1.2.2.1
  have hkS : nS S = (S 28 0).toNat := rfl
  have hkI : nIm S = (S 27 0).toNat := rfl
  have hkO : nOr S = (S 26 0).toNat := rfl
  refine aw_aload_n dX10_total_0 rfl ?_
  refine aw_getf fg_X10_26 dX10_total_1 (hc0 hnx) rfl ?_
  refine aw_callV (As := []) (ρ := (_, 0, 0)) (kn' := (0, 0)) cv_X10_181 dX10_total_4 rfl rfl (hc9 hnx) rfl rfl (Nat.le_of_ble_eq_true rfl) (rmR _ _ _) ⟨Nat.le_refl _, Nat.le_refl _⟩ rfl (c_X7_hasScheme hnx hR (fun r4 h4 => ?_))
  rcases h4 with ⟨rfl, h4⟩ | ⟨rfl, h4⟩
  · skip
    refine aw_if_eq (tgt := 31) dX10_total_7 rfl (by decide) (fun c => absurd c (by decide)) (fun _ => ?_)
    refine aw_iload_n dX10_total_10 rfl ?_
    refine aw_if_lt (tgt := 31) dX10_total_11 rfl (by omega) (fun c11 => ?_) (fun c11 => ?_)
    · skip
      refine aw_iconst dX10_total_31 ?_
      exact aw_ireturn dX10_total_32 rfl rfl ⟨Nat.le_refl _, Nat.le_refl _⟩ (hQ _ (by unfold aTotal; (repeat' split) <;> omega))
    · skip
      refine aw_iload_n dX10_total_14 rfl ?_
      refine aw_iconst dX10_total_15 ?_
      refine aw_icmp_ge (tgt := 31) dX10_total_16 rfl (by omega) (fun c16 => ?_) (fun c16 => ?_)
      · skip
        refine aw_iconst dX10_total_31 ?_
        exact aw_ireturn dX10_total_32 rfl rfl ⟨Nat.le_refl _, Nat.le_refl _⟩ (hQ _ (by unfold aTotal; (repeat' split) <;> omega))
      · skip
        refine aw_aload_n dX10_total_19 rfl ?_
        refine aw_getf fg_X10_26 dX10_total_20 (hc0 hnx) rfl ?_
        refine aw_getf fg_X10_129 dX10_total_23 (hc9 hnx) rfl ?_
        refine aw_iload_n dX10_total_26 rfl ?_
        refine aw_ialdr dX10_total_27 (hc37 hnx) (by omega) (by decide) (hR 24 (by decide)) (fun q27 => ?_)
        refine aw_goto (tgt := 32) dX10_total_28 rfl ?_
        exact aw_ireturn dX10_total_32 rfl rfl ⟨Nat.le_refl _, Nat.le_refl _⟩ (hQ _ (by unfold aTotal; (repeat' split) <;> omega))
  · skip
    refine aw_if_eq (tgt := 31) dX10_total_7 rfl (by decide) (fun _ => ?_) (fun c => absurd c (by decide))
    refine aw_iconst dX10_total_31 ?_
    exact aw_ireturn dX10_total_32 rfl rfl ⟨Nat.le_refl _, Nat.le_refl _⟩ (hQ _ (by unfold aTotal; (repeat' split) <;> omega))

set_option maxHeartbeats 1000000 in
theorem c_X10_past {Γ : GT} {S T U V : St} {G : Gw} {nx d : Nat} {Q : QT} (hnx : 52 ≤ nx) {i j y : Int} {c : Int} (hI : Inv c S) (hi : inI i) (hj : inI j) (hy : inI y) (hQ : ∀ r, r = aPast S i j y → Q (some (vi r)) (hp Γ S T U V G) nx) : AM Γ MX10_past (d + 2, 0, 0) [rf Γ 0, vi i, vi j, vi y] (hp Γ S T U V G) nx Q := by
  refine am_of (by decide) (Nat.le_of_ble_eq_true rfl) (ls := [some (rf Γ 0), some _, some _, some _, none]) rfl ?_
  have hR := hI.R
  have i1 := hI.i1
  have hz : 0 ≤ S 28 0 ∧ S 28 0 ≤ 60 := i1.2.2.1
  have hkS : nS S = (S 28 0).toNat := rfl
  have hkI : nIm S = (S 27 0).toNat := rfl
  have hkO : nOr S = (S 26 0).toNat := rfl
  refine aw_aload_n dX10_past_0 rfl ?_
  refine aw_getf fg_X10_26 dX10_past_1 (hc0 hnx) rfl ?_
  refine aw_iload_n dX10_past_4 rfl ?_
  refine aw_iload_n dX10_past_5 rfl ?_
  refine aw_callV (As := [_, _]) (ρ := (_, 0, 0)) (kn' := (0, 0)) cv_X10_87 dX10_past_6 rfl rfl (hc9 hnx) rfl rfl (Nat.le_of_ble_eq_true rfl) (rmR _ _ _) ⟨Nat.le_refl _, Nat.le_refl _⟩ rfl (c_X7_hasPair hnx hR (by omega) (fun r6 h6 => ?_))
  rcases h6 with ⟨rfl, h6⟩ | ⟨rfl, h6⟩
  · skip
    refine aw_if_eq (tgt := 21) dX10_past_9 rfl (by decide) (fun c => absurd c (by decide)) (fun _ => ?_)
    refine aw_iload_n dX10_past_12 rfl ?_
    refine aw_if_lt (tgt := 21) dX10_past_13 rfl (by omega) (fun c13 => ?_) (fun c13 => ?_)
    · skip
      refine aw_iconst dX10_past_21 ?_
      exact aw_ireturn dX10_past_22 rfl rfl ⟨Nat.le_refl _, Nat.le_refl _⟩ (hQ _ (by unfold aPast; simp only [isI, isO]; (repeat' split) <;> omega))
    · skip
      refine aw_iload_n dX10_past_16 rfl ?_
      refine aw_iconst dX10_past_17 ?_
      refine aw_icmp_le (tgt := 23) dX10_past_18 rfl (by omega) (fun c18 => ?_) (fun c18 => ?_)
      · skip
        refine aw_iload_n dX10_past_23 rfl ?_
        refine aw_iload_n dX10_past_24 rfl ?_
        refine aw_callS (As := [_, _]) (ρ := (_, 0, 0)) (kn' := (0, 0)) cs_X10_160 dX10_past_25 rfl rfl (Nat.le_of_ble_eq_true rfl) (rmR _ _ _) ⟨Nat.le_refl _, Nat.le_refl _⟩ rfl (c_X10_pairOf hnx  (fun r25 h25 => ?_))
        refine aw_istore (ls' := [some (rf Γ 0), some _, some _, some _, some _]) dX10_past_28 (by decide) rfl ?_
        subst h25
        refine aw_iload_n dX10_past_30 rfl ?_
        refine aw_iconst dX10_past_31 ?_
        refine aw_icmp_ne (tgt := 51) dX10_past_32 rfl (by omega) (fun c32 => ?_) (fun c32 => ?_)
        · skip
          refine aw_aload_n dX10_past_51 rfl ?_
          refine aw_getf fg_X10_26 dX10_past_52 (hc0 hnx) rfl ?_
          refine aw_getf fg_X10_81 dX10_past_55 (hc9 hnx) rfl ?_
          refine aw_iload dX10_past_58 rfl ?_
          refine aw_iload_n dX10_past_60 rfl ?_
          refine aw_callV (As := [_, _]) (ρ := (_, 0, 0)) (kn' := (0, 0)) cv_X10_229 dX10_past_61 rfl rfl (hc10 hnx) rfl rfl (Nat.le_of_ble_eq_true rfl) (rmR _ _ _) ⟨Nat.le_refl _, Nat.le_refl _⟩ rfl (c_X5_inYear hnx hR (by omega) (by omega) (fun r61 h61 => ?_))
          exact aw_ireturn dX10_past_64 rfl rfl ⟨Nat.le_refl _, Nat.le_refl _⟩ (hQ _ (by unfold aPast; simp only [isI, isO]; (repeat' split) <;> omega))
        · skip
          refine aw_aload_n dX10_past_35 rfl ?_
          refine aw_getf fg_X10_26 dX10_past_36 (hc0 hnx) rfl ?_
          refine aw_getf fg_X10_220 dX10_past_39 (hc9 hnx) rfl ?_
          refine aw_getf fg_X10_224 dX10_past_42 (hc32 hnx) rfl ?_
          refine aw_iload dX10_past_45 rfl ?_
          refine aw_ialdr dX10_past_47 (hc33 hnx) (by omega) (by decide) (hR 20 (by decide)) (fun q47 => ?_)
          refine aw_goto (tgt := 64) dX10_past_48 rfl ?_
          exact aw_ireturn dX10_past_64 rfl rfl ⟨Nat.le_refl _, Nat.le_refl _⟩ (hQ _ (by unfold aPast; simp only [isI, isO]; (repeat' split) <;> omega))
      · skip
        refine aw_iconst dX10_past_21 ?_
        exact aw_ireturn dX10_past_22 rfl rfl ⟨Nat.le_refl _, Nat.le_refl _⟩ (hQ _ (by unfold aPast; simp only [isI, isO]; (repeat' split) <;> omega))
  · skip
    refine aw_if_eq (tgt := 21) dX10_past_9 rfl (by decide) (fun _ => ?_) (fun c => absurd c (by decide))
    refine aw_iconst dX10_past_21 ?_
    exact aw_ireturn dX10_past_22 rfl rfl ⟨Nat.le_refl _, Nat.le_refl _⟩ (hQ _ (by unfold aPast; simp only [isI, isO]; (repeat' split) <;> omega))

set_option maxHeartbeats 1000000 in
theorem c_X10_share {Γ : GT} {S T U V : St} {G : Gw} {nx d : Nat} {Q : QT} (hnx : 52 ≤ nx) {i j w : Int} {c : Int} (hI : Inv c S) (hi : inI i) (hj : inI j) (hw : inI w) (hQ : ∀ r, r = aShare S i j w → Q (some (vi r)) (hp Γ S T U V G) nx) : AM Γ MX10_share (d + 2, 0, 0) [rf Γ 0, vi i, vi j, vi w] (hp Γ S T U V G) nx Q := by
  refine am_of (by decide) (Nat.le_of_ble_eq_true rfl) (ls := [some (rf Γ 0), some _, some _, some _, none]) rfl ?_
  have hR := hI.R
  have i1 := hI.i1
  have hz : 0 ≤ S 28 0 ∧ S 28 0 ≤ 60 := i1.2.2.1
  have hkS : nS S = (S 28 0).toNat := rfl
  have hkI : nIm S = (S 27 0).toNat := rfl
  have hkO : nOr S = (S 26 0).toNat := rfl
  refine aw_aload_n dX10_share_0 rfl ?_
  refine aw_getf fg_X10_26 dX10_share_1 (hc0 hnx) rfl ?_
  refine aw_iload_n dX10_share_4 rfl ?_
  refine aw_iload_n dX10_share_5 rfl ?_
  refine aw_callV (As := [_, _]) (ρ := (_, 0, 0)) (kn' := (0, 0)) cv_X10_87 dX10_share_6 rfl rfl (hc9 hnx) rfl rfl (Nat.le_of_ble_eq_true rfl) (rmR _ _ _) ⟨Nat.le_refl _, Nat.le_refl _⟩ rfl (c_X7_hasPair hnx hR (by omega) (fun r6 h6 => ?_))
  rcases h6 with ⟨rfl, h6⟩ | ⟨rfl, h6⟩
  · skip
    refine aw_if_eq (tgt := 21) dX10_share_9 rfl (by decide) (fun c => absurd c (by decide)) (fun _ => ?_)
    refine aw_iload_n dX10_share_12 rfl ?_
    refine aw_if_lt (tgt := 21) dX10_share_13 rfl (by omega) (fun c13 => ?_) (fun c13 => ?_)
    · skip
      refine aw_iconst dX10_share_21 ?_
      exact aw_ireturn dX10_share_22 rfl rfl ⟨Nat.le_refl _, Nat.le_refl _⟩ (hQ _ (by unfold aShare; simp only [isI, isO]; (repeat' split) <;> omega))
    · skip
      refine aw_iload_n dX10_share_16 rfl ?_
      refine aw_iconst dX10_share_17 ?_
      refine aw_icmp_le (tgt := 23) dX10_share_18 rfl (by omega) (fun c18 => ?_) (fun c18 => ?_)
      · skip
        refine aw_iload_n dX10_share_23 rfl ?_
        refine aw_iload_n dX10_share_24 rfl ?_
        refine aw_callS (As := [_, _]) (ρ := (_, 0, 0)) (kn' := (0, 0)) cs_X10_160 dX10_share_25 rfl rfl (Nat.le_of_ble_eq_true rfl) (rmR _ _ _) ⟨Nat.le_refl _, Nat.le_refl _⟩ rfl (c_X10_pairOf hnx  (fun r25 h25 => ?_))
        refine aw_istore (ls' := [some (rf Γ 0), some _, some _, some _, some _]) dX10_share_28 (by decide) rfl ?_
        subst h25
        refine aw_iload_n dX10_share_30 rfl ?_
        refine aw_if_ne (tgt := 50) dX10_share_31 rfl (by omega) (fun c31 => ?_) (fun c31 => ?_)
        · skip
          refine aw_aload_n dX10_share_50 rfl ?_
          refine aw_getf fg_X10_26 dX10_share_51 (hc0 hnx) rfl ?_
          refine aw_getf fg_X10_156 dX10_share_54 (hc9 hnx) rfl ?_
          refine aw_getf fg_X10_168 dX10_share_57 (hc25 hnx) rfl ?_
          refine aw_iload dX10_share_60 rfl ?_
          refine aw_ialdr dX10_share_62 (hc29 hnx) (by omega) (by decide) (hR 17 (by decide)) (fun q62 => ?_)
          exact aw_ireturn dX10_share_63 rfl rfl ⟨Nat.le_refl _, Nat.le_refl _⟩ (hQ _ (by unfold aShare; simp only [isI, isO]; (repeat' split) <;> omega))
        · skip
          refine aw_aload_n dX10_share_34 rfl ?_
          refine aw_getf fg_X10_26 dX10_share_35 (hc0 hnx) rfl ?_
          refine aw_getf fg_X10_156 dX10_share_38 (hc9 hnx) rfl ?_
          refine aw_getf fg_X10_240 dX10_share_41 (hc25 hnx) rfl ?_
          refine aw_iload dX10_share_44 rfl ?_
          refine aw_ialdr dX10_share_46 (hc28 hnx) (by omega) (by decide) (hR 16 (by decide)) (fun q46 => ?_)
          refine aw_goto (tgt := 63) dX10_share_47 rfl ?_
          exact aw_ireturn dX10_share_63 rfl rfl ⟨Nat.le_refl _, Nat.le_refl _⟩ (hQ _ (by unfold aShare; simp only [isI, isO]; (repeat' split) <;> omega))
      · skip
        refine aw_iconst dX10_share_21 ?_
        exact aw_ireturn dX10_share_22 rfl rfl ⟨Nat.le_refl _, Nat.le_refl _⟩ (hQ _ (by unfold aShare; simp only [isI, isO]; (repeat' split) <;> omega))
  · skip
    refine aw_if_eq (tgt := 21) dX10_share_9 rfl (by decide) (fun _ => ?_) (fun c => absurd c (by decide))
    refine aw_iconst dX10_share_21 ?_
    exact aw_ireturn dX10_share_22 rfl rfl ⟨Nat.le_refl _, Nat.le_refl _⟩ (hQ _ (by unfold aShare; simp only [isI, isO]; (repeat' split) <;> omega))

set_option maxHeartbeats 1000000 in
theorem c_X10_origin {Γ : GT} {S T U V : St} {G : Gw} {nx d : Nat} {Q : QT} (hnx : 52 ≤ nx) {j w : Int} {c : Int} (hI : Inv c S) (hj : inI j) (hw : inI w) (hQ : ∀ r, r = aOrigin S j w → Q (some (vi r)) (hp Γ S T U V G) nx) : AM Γ MX10_origin (d + 1, 0, 0) [rf Γ 0, vi j, vi w] (hp Γ S T U V G) nx Q := by
  refine am_of (by decide) (Nat.le_of_ble_eq_true rfl) (ls := [some (rf Γ 0), some _, some _]) rfl ?_
  have hR := hI.R
  have i1 := hI.i1
  have hz : 0 ≤ S 28 0 ∧ S 28 0 ≤ 60 := i1.2.2.1
  have hkS : nS S = (S 28 0).toNat := rfl
  have hkI : nIm S = (S 27 0).toNat := rfl
  have hkO : nOr S = (S 26 0).toNat := rfl
  refine aw_aload_n dX10_origin_0 rfl ?_
  refine aw_getf fg_X10_26 dX10_origin_1 (hc0 hnx) rfl ?_
  refine aw_iload_n dX10_origin_4 rfl ?_
  refine aw_callV (As := [_]) (ρ := (_, 0, 0)) (kn' := (0, 0)) cv_X10_191 dX10_origin_5 rfl rfl (hc9 hnx) rfl rfl (Nat.le_of_ble_eq_true rfl) (rmR _ _ _) ⟨Nat.le_refl _, Nat.le_refl _⟩ rfl (c_X7_hasOrigin hnx hR (by omega) (fun r5 h5 => ?_))
  rcases h5 with ⟨rfl, h5⟩ | ⟨rfl, h5⟩
  · skip
    refine aw_if_eq (tgt := 21) dX10_origin_8 rfl (by decide) (fun c => absurd c (by decide)) (fun _ => ?_)
    refine aw_iload_n dX10_origin_11 rfl ?_
    refine aw_if_lt (tgt := 21) dX10_origin_12 rfl (by omega) (fun c12 => ?_) (fun c12 => ?_)
    · skip
      refine aw_iconst dX10_origin_21 ?_
      exact aw_ireturn dX10_origin_22 rfl rfl ⟨Nat.le_refl _, Nat.le_refl _⟩ (hQ _ (by unfold aOrigin; simp only [isO]; (repeat' split) <;> omega))
    · skip
      refine aw_iload_n dX10_origin_15 rfl ?_
      refine aw_bipush dX10_origin_16 rfl ?_
      refine aw_icmp_lt (tgt := 23) dX10_origin_18 rfl (by omega) (fun c18 => ?_) (fun c18 => ?_)
      · skip
        refine aw_iload_n dX10_origin_23 rfl ?_
        refine aw_if_ne (tgt := 42) dX10_origin_24 rfl (by omega) (fun c24 => ?_) (fun c24 => ?_)
        · skip
          refine aw_aload_n dX10_origin_42 rfl ?_
          refine aw_getf fg_X10_26 dX10_origin_43 (hc0 hnx) rfl ?_
          refine aw_getf fg_X10_156 dX10_origin_46 (hc9 hnx) rfl ?_
          refine aw_iload_n dX10_origin_49 rfl ?_
          refine aw_iload_n dX10_origin_50 rfl ?_
          refine aw_callV (As := [_, _]) (ρ := (_, 0, 0)) (kn' := (0, 0)) cv_X10_217 dX10_origin_51 rfl rfl (hc25 hnx) rfl rfl (Nat.le_of_ble_eq_true rfl) (rmR _ _ _) ⟨Nat.le_refl _, Nat.le_refl _⟩ rfl (c_X3_figure hnx hR (by omega) (fun r51 h51 => ?_))
          exact aw_ireturn dX10_origin_54 rfl rfl ⟨Nat.le_refl _, Nat.le_refl _⟩ (hQ _ (by unfold aOrigin; simp only [isO]; (repeat' split) <;> omega))
        · skip
          refine aw_aload_n dX10_origin_27 rfl ?_
          refine aw_getf fg_X10_26 dX10_origin_28 (hc0 hnx) rfl ?_
          refine aw_getf fg_X10_81 dX10_origin_31 (hc9 hnx) rfl ?_
          refine aw_getf fg_X10_195 dX10_origin_34 (hc10 hnx) rfl ?_
          refine aw_iload_n dX10_origin_37 rfl ?_
          refine aw_ialdr dX10_origin_38 (hc12 hnx) (by omega) (by decide) (hR 1 (by decide)) (fun q38 => ?_)
          refine aw_goto (tgt := 54) dX10_origin_39 rfl ?_
          exact aw_ireturn dX10_origin_54 rfl rfl ⟨Nat.le_refl _, Nat.le_refl _⟩ (hQ _ (by unfold aOrigin; simp only [isO]; (repeat' split) <;> omega))
      · skip
        refine aw_iconst dX10_origin_21 ?_
        exact aw_ireturn dX10_origin_22 rfl rfl ⟨Nat.le_refl _, Nat.le_refl _⟩ (hQ _ (by unfold aOrigin; simp only [isO]; (repeat' split) <;> omega))
  · skip
    refine aw_if_eq (tgt := 21) dX10_origin_8 rfl (by decide) (fun _ => ?_) (fun c => absurd c (by decide))
    refine aw_iconst dX10_origin_21 ?_
    exact aw_ireturn dX10_origin_22 rfl rfl ⟨Nat.le_refl _, Nat.le_refl _⟩ (hQ _ (by unfold aOrigin; simp only [isO]; (repeat' split) <;> omega))

set_option maxHeartbeats 1000000 in
theorem c_X10_idle {Γ : GT} {S T U V : St} {G : Gw} {nx d : Nat} {Q : QT} (hnx : 52 ≤ nx) {i j : Int} {c : Int} (hI : Inv c S) (hi : inI i) (hj : inI j) (hQ : ∀ r, r = aIdle S i j → Q (some (vi r)) (hp Γ S T U V G) nx) : AM Γ MX10_idle (d + 3, 0, 0) [rf Γ 0, vi i, vi j] (hp Γ S T U V G) nx Q := by
  refine am_of (by decide) (Nat.le_of_ble_eq_true rfl) (ls := [some (rf Γ 0), some _, some _]) rfl ?_
  have hR := hI.R
  have i1 := hI.i1
  have hz : 0 ≤ S 28 0 ∧ S 28 0 ≤ 60 := i1.2.2.1
  have hkS : nS S = (S 28 0).toNat := rfl
  have hkI : nIm S = (S 27 0).toNat := rfl
  have hkO : nOr S = (S 26 0).toNat := rfl
  refine aw_aload_n dX10_idle_0 rfl ?_
  refine aw_getf fg_X10_26 dX10_idle_1 (hc0 hnx) rfl ?_
  refine aw_iload_n dX10_idle_4 rfl ?_
  refine aw_iload_n dX10_idle_5 rfl ?_
  refine aw_callV (As := [_, _]) (ρ := (_, 0, 0)) (kn' := (0, 0)) cv_X10_87 dX10_idle_6 rfl rfl (hc9 hnx) rfl rfl (Nat.le_of_ble_eq_true rfl) (rmR _ _ _) ⟨Nat.le_refl _, Nat.le_refl _⟩ rfl (c_X7_hasPair hnx hR (by omega) (fun r6 h6 => ?_))
  rcases h6 with ⟨rfl, h6⟩ | ⟨rfl, h6⟩
  · skip
    refine aw_if_ne (tgt := 14) dX10_idle_9 rfl (by decide) (fun _ => ?_) (fun c => absurd c (by decide))
    refine aw_aload_n dX10_idle_14 rfl ?_
    refine aw_getf fg_X10_26 dX10_idle_15 (hc0 hnx) rfl ?_
    refine aw_iload_n dX10_idle_18 rfl ?_
    refine aw_iload_n dX10_idle_19 rfl ?_
    refine aw_callV (As := [_, _]) (ρ := (_, 0, 0)) (kn' := (0, 0)) cv_X10_268 dX10_idle_20 rfl rfl (hc9 hnx) rfl rfl (Nat.le_of_ble_eq_true rfl) (rmR _ _ _) ⟨Nat.le_refl _, Nat.le_refl _⟩ rfl (c_X7_isKeptOut hnx hI (by omega) (by omega) (fun r20 h20 => ?_))
    rcases h20 with ⟨rfl, h20⟩ | ⟨rfl, h20⟩
    · skip
      refine aw_if_eq (tgt := 30) dX10_idle_23 rfl (by decide) (fun c => absurd c (by decide)) (fun _ => ?_)
      refine aw_iconst dX10_idle_26 ?_
      refine aw_goto (tgt := 31) dX10_idle_27 rfl ?_
      exact aw_ireturn dX10_idle_31 rfl rfl ⟨Nat.le_refl _, Nat.le_refl _⟩ (hQ _ (by unfold aIdle; rw [if_pos (by simp only [isI, isO]; omega)]; first | rw [if_pos h20] | rw [if_neg h20]))
    · skip
      refine aw_if_eq (tgt := 30) dX10_idle_23 rfl (by decide) (fun _ => ?_) (fun c => absurd c (by decide))
      refine aw_iconst dX10_idle_30 ?_
      exact aw_ireturn dX10_idle_31 rfl rfl ⟨Nat.le_refl _, Nat.le_refl _⟩ (hQ _ (by unfold aIdle; rw [if_pos (by simp only [isI, isO]; omega)]; first | rw [if_pos h20] | rw [if_neg h20]))
  · skip
    refine aw_if_ne (tgt := 14) dX10_idle_9 rfl (by decide) (fun c => absurd c (by decide)) (fun _ => ?_)
    refine aw_iconst dX10_idle_12 ?_
    exact aw_ireturn dX10_idle_13 rfl rfl ⟨Nat.le_refl _, Nat.le_refl _⟩ (hQ _ (by unfold aIdle; rw [if_neg (by simp only [isI, isO]; omega)]))

set_option maxHeartbeats 1000000 in
theorem c_X10_would {Γ : GT} {S T U V : St} {G : Gw} {nx d : Nat} {Q : QT} (hnx : 52 ≤ nx) {i j n : Int} {c : Int} (hI : Inv c S) (hi : inI i) (hj : inI j) (hn : inI n) (hQ : ∀ r, r = aWould S i j n → Q (some (vi r)) (hp Γ S T U V G) nx) : AM Γ MX10_would (d + 5, 0, 0) [rf Γ 0, vi i, vi j, vi n] (hp Γ S T U V G) nx Q := by
  refine am_of (by decide) (Nat.le_of_ble_eq_true rfl) (ls := [some (rf Γ 0), some _, some _, some _]) rfl ?_
  have hR := hI.R
  have i1 := hI.i1
  have hz : 0 ≤ S 28 0 ∧ S 28 0 ≤ 60 := i1.2.2.1
  have hkS : nS S = (S 28 0).toNat := rfl
  have hkI : nIm S = (S 27 0).toNat := rfl
  have hkO : nOr S = (S 26 0).toNat := rfl
  refine aw_aload_n dX10_would_0 rfl ?_
  refine aw_getf fg_X10_26 dX10_would_1 (hc0 hnx) rfl ?_
  refine aw_iload_n dX10_would_4 rfl ?_
  refine aw_iload_n dX10_would_5 rfl ?_
  refine aw_callV (As := [_, _]) (ρ := (_, 0, 0)) (kn' := (0, 0)) cv_X10_87 dX10_would_6 rfl rfl (hc9 hnx) rfl rfl (Nat.le_of_ble_eq_true rfl) (rmR _ _ _) ⟨Nat.le_refl _, Nat.le_refl _⟩ rfl (c_X7_hasPair hnx hR (by omega) (fun r6 h6 => ?_))
  rcases h6 with ⟨rfl, h6⟩ | ⟨rfl, h6⟩
  · skip
    refine aw_if_eq (tgt := 19) dX10_would_9 rfl (by decide) (fun c => absurd c (by decide)) (fun _ => ?_)
    refine aw_iload_n dX10_would_12 rfl ?_
    refine aw_callS (As := [_]) (ρ := (_, 0, 0)) (kn' := (0, 0)) cs_X10_91 dX10_would_13 rfl rfl (Nat.le_of_ble_eq_true rfl) (rmR _ _ _) ⟨Nat.le_refl _, Nat.le_refl _⟩ rfl (c_X10_isAmount hnx (by omega) (fun r13 h13 => ?_))
    rcases h13 with ⟨rfl, h13⟩ | ⟨rfl, h13⟩
    · skip
      refine aw_if_ne (tgt := 21) dX10_would_16 rfl (by decide) (fun _ => ?_) (fun c => absurd c (by decide))
      refine aw_aload_n dX10_would_21 rfl ?_
      refine aw_getf fg_X10_26 dX10_would_22 (hc0 hnx) rfl ?_
      refine aw_iload_n dX10_would_25 rfl ?_
      refine aw_iload_n dX10_would_26 rfl ?_
      refine aw_iload_n dX10_would_27 rfl ?_
      refine aw_callV (As := [_, _, _]) (ρ := (_, 0, 0)) (kn' := (0, 0)) cv_X10_95 dX10_would_28 rfl rfl (hc9 hnx) rfl rfl (Nat.le_of_ble_eq_true rfl) (rmR _ _ _) ⟨Nat.le_refl _, Nat.le_refl _⟩ rfl (c_X7_offerNow hnx hI (by omega) (by omega) (by omega) (fun r28 h28 => ?_))
      exact aw_ireturn dX10_would_31 rfl rfl ⟨Nat.le_refl _, Nat.le_refl _⟩ (hQ _ (by unfold aWould; rw [if_pos (by simp only [isI, isO, isN]; omega)]; exact h28))
    · skip
      refine aw_if_ne (tgt := 21) dX10_would_16 rfl (by decide) (fun c => absurd c (by decide)) (fun _ => ?_)
      refine aw_iconst dX10_would_19 ?_
      exact aw_ireturn dX10_would_20 rfl rfl ⟨Nat.le_refl _, Nat.le_refl _⟩ (hQ _ (by unfold aWould; rw [if_neg (by simp only [isI, isO, isN]; omega)]))
  · skip
    refine aw_if_eq (tgt := 19) dX10_would_9 rfl (by decide) (fun _ => ?_) (fun c => absurd c (by decide))
    refine aw_iconst dX10_would_19 ?_
    exact aw_ireturn dX10_would_20 rfl rfl ⟨Nat.le_refl _, Nat.le_refl _⟩ (hQ _ (by unfold aWould; rw [if_neg (by simp only [isI, isO, isN]; omega)]))

set_option maxHeartbeats 1000000 in
theorem c_X10_future {Γ : GT} {S T U V : St} {G : Gw} {nx d : Nat} {Q : QT} (hnx : 52 ≤ nx) {i j : Int} {c : Int} (hI : Inv c S) (hi : inI i) (hj : inI j) (hQ : ∀ r, r = aFuture S i j → Q (some (vi r)) (hp Γ S T U V G) nx) : AM Γ MX10_future (d + 3, 0, 0) [rf Γ 0, vi i, vi j] (hp Γ S T U V G) nx Q := by
  refine am_of (by decide) (Nat.le_of_ble_eq_true rfl) (ls := [some (rf Γ 0), some _, some _]) rfl ?_
  have hR := hI.R
  have i1 := hI.i1
  have hz : 0 ≤ S 28 0 ∧ S 28 0 ≤ 60 := i1.2.2.1
  have hkS : nS S = (S 28 0).toNat := rfl
  have hkI : nIm S = (S 27 0).toNat := rfl
  have hkO : nOr S = (S 26 0).toNat := rfl
  refine aw_aload_n dX10_future_0 rfl ?_
  refine aw_getf fg_X10_26 dX10_future_1 (hc0 hnx) rfl ?_
  refine aw_iload_n dX10_future_4 rfl ?_
  refine aw_iload_n dX10_future_5 rfl ?_
  refine aw_callV (As := [_, _]) (ρ := (_, 0, 0)) (kn' := (0, 0)) cv_X10_87 dX10_future_6 rfl rfl (hc9 hnx) rfl rfl (Nat.le_of_ble_eq_true rfl) (rmR _ _ _) ⟨Nat.le_refl _, Nat.le_refl _⟩ rfl (c_X7_hasPair hnx hR (by omega) (fun r6 h6 => ?_))
  rcases h6 with ⟨rfl, h6⟩ | ⟨rfl, h6⟩
  · skip
    refine aw_if_eq (tgt := 24) dX10_future_9 rfl (by decide) (fun c => absurd c (by decide)) (fun _ => ?_)
    refine aw_aload_n dX10_future_12 rfl ?_
    refine aw_getf fg_X10_26 dX10_future_13 (hc0 hnx) rfl ?_
    refine aw_iload_n dX10_future_16 rfl ?_
    refine aw_iload_n dX10_future_17 rfl ?_
    refine aw_callV (As := [_, _]) (ρ := (_, 0, 0)) (kn' := (0, 0)) cv_X10_344 dX10_future_18 rfl rfl (hc9 hnx) rfl rfl (Nat.le_of_ble_eq_true rfl) (rmR _ _ _) ⟨Nat.le_refl _, Nat.le_refl _⟩ rfl (c_X7_shareNextYear hnx hI (by omega) (by omega) (fun r18 h18 => ?_))
    refine aw_goto (tgt := 25) dX10_future_21 rfl ?_
    exact aw_ireturn dX10_future_25 rfl rfl ⟨Nat.le_refl _, Nat.le_refl _⟩ (hQ _ (by unfold aFuture; first | (rw [if_pos (by simp only [isI, isO]; omega)]; exact h18) | rw [if_neg (by simp only [isI, isO]; omega)]))
  · skip
    refine aw_if_eq (tgt := 24) dX10_future_9 rfl (by decide) (fun _ => ?_) (fun c => absurd c (by decide))
    refine aw_iconst dX10_future_24 ?_
    exact aw_ireturn dX10_future_25 rfl rfl ⟨Nat.le_refl _, Nat.le_refl _⟩ (hQ _ (by unfold aFuture; first | (rw [if_pos (by simp only [isI, isO]; omega)]; exact h18) | rw [if_neg (by simp only [isI, isO]; omega)]))


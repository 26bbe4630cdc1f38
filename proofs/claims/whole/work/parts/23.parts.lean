/-! the scheme, the period, the year -/
def old (S : St) (p : Int) : Int := S 2 (p * 3 + 0) + S 2 (p * 3 + 1) + S 2 (p * 3 + 2)
def b1 (P : Prop) [Decidable P] : Int := if P then 1 else 0
def yws (S : St) (p : Int) : Int := b1 (0 < S 2 (p * 3 + 0)) + b1 (0 < S 2 (p * 3 + 1)) + b1 (0 < S 2 (p * 3 + 2))
def growS (S : St) (p v : Int) : St := u1 (u1 (u1 S 2 (p * 3 + 2) (S 2 (p * 3 + 1))) 2 (p * 3 + 1) (S 2 (p * 3 + 0))) 2 (p * 3 + 0) v
def addS (S : St) (o w n : Int) : St := u1 S 14 (o * 8 + w) (S 14 (o * 8 + w) + n)
def imI (S : St) (i : Int) (n : Nat) : Int := sm (fun m => S 21 (i * 12 + m)) n
def imO (S : St) (o a : Int) (n : Nat) : Int := sm (fun m => S 22 (o * 12 + (a + m))) n
def yclS (S : St) : St := clS (clS (clS S 20 32) 21 96) 22 48
def cfS (S : St) (o : Int) (n : Nat) : St := sset S 14 (fun j => if o * 8 ≤ j ∧ j < o * 8 + n then 0 else S 14 j)
theorem cfS_s (S : St) (o : Int) (n : Nat) : u1 (cfS S o n) 14 (o * 8 + (n : Int)) 0 = cfS S o (n + 1) := by
  funext f j
  rw [u1_at]; unfold cfS sset
  by_cases hf : f = 14
  · subst hf
    by_cases hj : j = o * 8 + (n : Int)
    · subst hj; simp; intro h; omega
    · simp only [hj, and_false, if_false, if_true]
      by_cases h : o * 8 ≤ j ∧ j < o * 8 + (n : Int)
      · rw [if_pos h, if_pos (by omega)]
      · rw [if_neg h, if_neg (by omega)]
  · simp [hf]
theorem cfS_0 (S : St) (o : Int) : cfS S o 0 = S := by
  funext f j
  unfold cfS sset
  by_cases hf : f = 14
  · subst hf; simp only [if_true]; rw [if_neg (by omega)]
  · simp [hf]
theorem Rg.cf {S : St} (hR : Rg S) (o : Int) (n : Nat) : Rg (cfS S o n) := by
  refine hR.sset (fun i => ?_)
  split
  · exact ⟨by omega, by omega⟩
  · exact hR 14 (by decide) i

set_option maxHeartbeats 1000000 in
theorem c_X5_inYear {Γ : GT} {S T U V : St} {G : Gw} {nx d : Nat} {Q : QT} (hnx : 52 ≤ nx) {p y : Int} (hR : Rg S) (hp32 : 0 ≤ p ∧ p < 32) (hy : 0 ≤ y ∧ y < 3) (hQ : ∀ r, r = S 2 (p * 3 + y) → Q (some (vi r)) (hp Γ S T U V G) nx) : AM Γ MX5_inYear (d, 0, 0) [rf Γ 10, vi p, vi y] (hp Γ S T U V G) nx Q := by
  refine am_of (by decide) (Nat.le_of_ble_eq_true rfl) (ls := [some (rf Γ 10), some _, some _]) rfl ?_
  refine aw_aload_n dX5_inYear_0 rfl ?_
  refine aw_getf fg_X5_18 dX5_inYear_1 (hc10 hnx) rfl ?_
  refine aw_iload_n dX5_inYear_4 rfl ?_
  refine aw_iconst dX5_inYear_5 ?_
  refine aw_imul dX5_inYear_6 ?_
  refine aw_iload_n dX5_inYear_7 rfl ?_
  refine aw_iadd dX5_inYear_8 ?_
  refine aw_ialdr dX5_inYear_9 (hc13 hnx) (by omega) (by decide) (hR 2 (by decide)) (fun q9 => ?_)
  exact aw_ireturn dX5_inYear_10 rfl rfl ⟨Nat.le_refl _, Nat.le_refl _⟩ (hQ _ (rfl))

set_option maxHeartbeats 1000000 in
theorem c_X5_putYear {Γ : GT} {S T U V : St} {G : Gw} {nx d : Nat} {Q : QT} (hnx : 52 ≤ nx) {p y v : Int} (hR : Rg S) (hp32 : 0 ≤ p ∧ p < 32) (hy : 0 ≤ y ∧ y < 3) (hv : inI v) (hQ : Rg (u1 S 2 (p * 3 + y) v) → Q none (hp Γ (u1 S 2 (p * 3 + y) v) T U V G) nx) : AM Γ MX5_putYear (d, 0, 0) [rf Γ 10, vi p, vi y, vi v] (hp Γ S T U V G) nx Q := by
  refine am_of (by decide) (Nat.le_of_ble_eq_true rfl) (ls := [some (rf Γ 10), some _, some _, some _]) rfl ?_
  refine aw_aload_n dX5_putYear_0 rfl ?_
  refine aw_getf fg_X5_18 dX5_putYear_1 (hc10 hnx) rfl ?_
  refine aw_iload_n dX5_putYear_4 rfl ?_
  refine aw_iconst dX5_putYear_5 ?_
  refine aw_imul dX5_putYear_6 ?_
  refine aw_iload_n dX5_putYear_7 rfl ?_
  refine aw_iadd dX5_putYear_8 ?_
  refine aw_iload_n dX5_putYear_9 rfl ?_
  refine aw_iastS dX5_putYear_10 (hc13 hnx) (by omega) (by decide) hR (by omega) (fun _ => hu13) (fun hR => ?_)
  exact aw_return dX5_putYear_11 rfl ⟨Nat.le_refl _, Nat.le_refl _⟩ (hQ hR)

set_option maxHeartbeats 1000000 in
theorem c_X5_putYearT {Γ : GT} {S T U V : St} {G : Gw} {nx d : Nat} {Q : QT} (hnx : 52 ≤ nx) {p y v : Int} (hT : Rg T) (hp32 : 0 ≤ p ∧ p < 32) (hy : 0 ≤ y ∧ y < 3) (hv : inI v) (hQ : Rg (u1 T 2 (p * 3 + y) v) → Q none (hp Γ S (u1 T 2 (p * 3 + y) v) U V G) nx) : AM Γ MX5_putYear (d, 0, 0) [rf Γ 4, vi p, vi y, vi v] (hp Γ S T U V G) nx Q := by
  refine am_of (by decide) (Nat.le_of_ble_eq_true rfl) (ls := [some (rf Γ 4), some _, some _, some _]) rfl ?_
  refine aw_aload_n dX5_putYear_0 rfl ?_
  refine aw_getf fg_X5_18 dX5_putYear_1 (hc4 hnx) rfl ?_
  refine aw_iload_n dX5_putYear_4 rfl ?_
  refine aw_iconst dX5_putYear_5 ?_
  refine aw_imul dX5_putYear_6 ?_
  refine aw_iload_n dX5_putYear_7 rfl ?_
  refine aw_iadd dX5_putYear_8 ?_
  refine aw_iload_n dX5_putYear_9 rfl ?_
  refine aw_iastT dX5_putYear_10 (hc7 hnx) (by omega) (by decide) hT (by omega) (fun _ => hu7) (fun hT => ?_)
  exact aw_return dX5_putYear_11 rfl ⟨Nat.le_refl _, Nat.le_refl _⟩ (hQ hT)

set_option maxHeartbeats 1000000 in
theorem c_X5_inOldYears {Γ : GT} {S T U V : St} {G : Gw} {nx d : Nat} {Q : QT} (hnx : 52 ≤ nx) {p : Int} (hR : Rg S) (hp32 : 0 ≤ p ∧ p < 32) (hQ : ∀ r, r = old S p → Q (some (vi r)) (hp Γ S T U V G) nx) : AM Γ MX5_inOldYears (d + 1, 0, 0) [rf Γ 10, vi p] (hp Γ S T U V G) nx Q := by
  refine am_of (by decide) (Nat.le_of_ble_eq_true rfl) (ls := [some (rf Γ 10), some _]) rfl ?_
  refine aw_aload_n dX5_inOldYears_0 rfl ?_
  refine aw_iload_n dX5_inOldYears_1 rfl ?_
  refine aw_iconst dX5_inOldYears_2 ?_
  refine aw_callV (As := [_, _]) (ρ := (_, 0, 0)) (kn' := (0, 0)) cv_X5_40 dX5_inOldYears_3 rfl rfl (hc10 hnx) rfl rfl (Nat.le_of_ble_eq_true rfl) (rmR _ _ _) ⟨Nat.le_refl _, Nat.le_refl _⟩ rfl (c_X5_inYear hnx hR (by omega) (by omega) (fun r3 h3 => ?_))
  refine aw_aload_n dX5_inOldYears_6 rfl ?_
  refine aw_iload_n dX5_inOldYears_7 rfl ?_
  refine aw_iconst dX5_inOldYears_8 ?_
  refine aw_callV (As := [_, _]) (ρ := (_, 0, 0)) (kn' := (0, 0)) cv_X5_40 dX5_inOldYears_9 rfl rfl (hc10 hnx) rfl rfl (Nat.le_of_ble_eq_true rfl) (rmR _ _ _) ⟨Nat.le_refl _, Nat.le_refl _⟩ rfl (c_X5_inYear hnx hR (by omega) (by omega) (fun r9 h9 => ?_))
  refine aw_iadd dX5_inOldYears_12 ?_
  refine aw_aload_n dX5_inOldYears_13 rfl ?_
  refine aw_iload_n dX5_inOldYears_14 rfl ?_
  refine aw_iconst dX5_inOldYears_15 ?_
  refine aw_callV (As := [_, _]) (ρ := (_, 0, 0)) (kn' := (0, 0)) cv_X5_40 dX5_inOldYears_16 rfl rfl (hc10 hnx) rfl rfl (Nat.le_of_ble_eq_true rfl) (rmR _ _ _) ⟨Nat.le_refl _, Nat.le_refl _⟩ rfl (c_X5_inYear hnx hR (by omega) (by omega) (fun r16 h16 => ?_))
  refine aw_iadd dX5_inOldYears_19 ?_
  exact aw_ireturn dX5_inOldYears_20 rfl rfl ⟨Nat.le_refl _, Nat.le_refl _⟩ (hQ _ (by subst h3; subst h9; subst h16; rfl))

set_option maxHeartbeats 1000000 in
theorem c_X5_yearsWithSome {Γ : GT} {S T U V : St} {G : Gw} {nx d : Nat} {Q : QT} (hnx : 52 ≤ nx) {p : Int} (hR : Rg S) (hp32 : 0 ≤ p ∧ p < 32) (hQ : ∀ r, r = yws S p → Q (some (vi r)) (hp Γ S T U V G) nx) : AM Γ MX5_yearsWithSome (d + 1, 0, 0) [rf Γ 10, vi p] (hp Γ S T U V G) nx Q := by
  refine am_of (by decide) (Nat.le_of_ble_eq_true rfl) (ls := [some (rf Γ 10), some _]) rfl ?_
  refine aw_aload_n dX5_yearsWithSome_0 rfl ?_
  refine aw_iload_n dX5_yearsWithSome_1 rfl ?_
  refine aw_iconst dX5_yearsWithSome_2 ?_
  refine aw_callV (As := [_, _]) (ρ := (_, 0, 0)) (kn' := (0, 0)) cv_X5_40 dX5_yearsWithSome_3 rfl rfl (hc10 hnx) rfl rfl (Nat.le_of_ble_eq_true rfl) (rmR _ _ _) ⟨Nat.le_refl _, Nat.le_refl _⟩ rfl (c_X5_inYear hnx hR (by omega) (by omega) (fun r3 h3 => ?_))
  have q3 := hR 2 (by decide) (p * 3 + 0)
  refine aw_if_le (tgt := 13) dX5_yearsWithSome_6 rfl (by omega) (fun c6 => ?_) (fun c6 => ?_)
  · skip
    refine aw_iconst dX5_yearsWithSome_13 ?_
    refine aw_aload_n dX5_yearsWithSome_14 rfl ?_
    refine aw_iload_n dX5_yearsWithSome_15 rfl ?_
    refine aw_iconst dX5_yearsWithSome_16 ?_
    refine aw_callV (As := [_, _]) (ρ := (_, 0, 0)) (kn' := (0, 0)) cv_X5_40 dX5_yearsWithSome_17 rfl rfl (hc10 hnx) rfl rfl (Nat.le_of_ble_eq_true rfl) (rmR _ _ _) ⟨Nat.le_refl _, Nat.le_refl _⟩ rfl (c_X5_inYear hnx hR (by omega) (by omega) (fun r17 h17 => ?_))
    have q17 := hR 2 (by decide) (p * 3 + 1)
    refine aw_if_le (tgt := 27) dX5_yearsWithSome_20 rfl (by omega) (fun c20 => ?_) (fun c20 => ?_)
    · skip
      refine aw_iconst dX5_yearsWithSome_27 ?_
      refine aw_iadd dX5_yearsWithSome_28 ?_
      refine aw_aload_n dX5_yearsWithSome_29 rfl ?_
      refine aw_iload_n dX5_yearsWithSome_30 rfl ?_
      refine aw_iconst dX5_yearsWithSome_31 ?_
      refine aw_callV (As := [_, _]) (ρ := (_, 0, 0)) (kn' := (0, 0)) cv_X5_40 dX5_yearsWithSome_32 rfl rfl (hc10 hnx) rfl rfl (Nat.le_of_ble_eq_true rfl) (rmR _ _ _) ⟨Nat.le_refl _, Nat.le_refl _⟩ rfl (c_X5_inYear hnx hR (by omega) (by omega) (fun r32 h32 => ?_))
      have q32 := hR 2 (by decide) (p * 3 + 2)
      refine aw_if_le (tgt := 42) dX5_yearsWithSome_35 rfl (by omega) (fun c35 => ?_) (fun c35 => ?_)
      · skip
        refine aw_iconst dX5_yearsWithSome_42 ?_
        refine aw_iadd dX5_yearsWithSome_43 ?_
        exact aw_ireturn dX5_yearsWithSome_44 rfl rfl ⟨Nat.le_refl _, Nat.le_refl _⟩ (hQ _ (by subst h3; subst h17; subst h32; simp only [yws, b1]; (repeat' split) <;> omega))
      · skip
        refine aw_iconst dX5_yearsWithSome_38 ?_
        refine aw_goto (tgt := 43) dX5_yearsWithSome_39 rfl ?_
        refine aw_iadd dX5_yearsWithSome_43 ?_
        exact aw_ireturn dX5_yearsWithSome_44 rfl rfl ⟨Nat.le_refl _, Nat.le_refl _⟩ (hQ _ (by subst h3; subst h17; subst h32; simp only [yws, b1]; (repeat' split) <;> omega))
    · skip
      refine aw_iconst dX5_yearsWithSome_23 ?_
      refine aw_goto (tgt := 28) dX5_yearsWithSome_24 rfl ?_
      refine aw_iadd dX5_yearsWithSome_28 ?_
      refine aw_aload_n dX5_yearsWithSome_29 rfl ?_
      refine aw_iload_n dX5_yearsWithSome_30 rfl ?_
      refine aw_iconst dX5_yearsWithSome_31 ?_
      refine aw_callV (As := [_, _]) (ρ := (_, 0, 0)) (kn' := (0, 0)) cv_X5_40 dX5_yearsWithSome_32 rfl rfl (hc10 hnx) rfl rfl (Nat.le_of_ble_eq_true rfl) (rmR _ _ _) ⟨Nat.le_refl _, Nat.le_refl _⟩ rfl (c_X5_inYear hnx hR (by omega) (by omega) (fun r32 h32 => ?_))
      have q32 := hR 2 (by decide) (p * 3 + 2)
      refine aw_if_le (tgt := 42) dX5_yearsWithSome_35 rfl (by omega) (fun c35 => ?_) (fun c35 => ?_)
      · skip
        refine aw_iconst dX5_yearsWithSome_42 ?_
        refine aw_iadd dX5_yearsWithSome_43 ?_
        exact aw_ireturn dX5_yearsWithSome_44 rfl rfl ⟨Nat.le_refl _, Nat.le_refl _⟩ (hQ _ (by subst h3; subst h17; subst h32; simp only [yws, b1]; (repeat' split) <;> omega))
      · skip
        refine aw_iconst dX5_yearsWithSome_38 ?_
        refine aw_goto (tgt := 43) dX5_yearsWithSome_39 rfl ?_
        refine aw_iadd dX5_yearsWithSome_43 ?_
        exact aw_ireturn dX5_yearsWithSome_44 rfl rfl ⟨Nat.le_refl _, Nat.le_refl _⟩ (hQ _ (by subst h3; subst h17; subst h32; simp only [yws, b1]; (repeat' split) <;> omega))
  · skip
    refine aw_iconst dX5_yearsWithSome_9 ?_
    refine aw_goto (tgt := 14) dX5_yearsWithSome_10 rfl ?_
    refine aw_aload_n dX5_yearsWithSome_14 rfl ?_
    refine aw_iload_n dX5_yearsWithSome_15 rfl ?_
    refine aw_iconst dX5_yearsWithSome_16 ?_
    refine aw_callV (As := [_, _]) (ρ := (_, 0, 0)) (kn' := (0, 0)) cv_X5_40 dX5_yearsWithSome_17 rfl rfl (hc10 hnx) rfl rfl (Nat.le_of_ble_eq_true rfl) (rmR _ _ _) ⟨Nat.le_refl _, Nat.le_refl _⟩ rfl (c_X5_inYear hnx hR (by omega) (by omega) (fun r17 h17 => ?_))
    have q17 := hR 2 (by decide) (p * 3 + 1)
    refine aw_if_le (tgt := 27) dX5_yearsWithSome_20 rfl (by omega) (fun c20 => ?_) (fun c20 => ?_)
    · skip
      refine aw_iconst dX5_yearsWithSome_27 ?_
      refine aw_iadd dX5_yearsWithSome_28 ?_
      refine aw_aload_n dX5_yearsWithSome_29 rfl ?_
      refine aw_iload_n dX5_yearsWithSome_30 rfl ?_
      refine aw_iconst dX5_yearsWithSome_31 ?_
      refine aw_callV (As := [_, _]) (ρ := (_, 0, 0)) (kn' := (0, 0)) cv_X5_40 dX5_yearsWithSome_32 rfl rfl (hc10 hnx) rfl rfl (Nat.le_of_ble_eq_true rfl) (rmR _ _ _) ⟨Nat.le_refl _, Nat.le_refl _⟩ rfl (c_X5_inYear hnx hR (by omega) (by omega) (fun r32 h32 => ?_))
      have q32 := hR 2 (by decide) (p * 3 + 2)
      refine aw_if_le (tgt := 42) dX5_yearsWithSome_35 rfl (by omega) (fun c35 => ?_) (fun c35 => ?_)
      · skip
        refine aw_iconst dX5_yearsWithSome_42 ?_
        refine aw_iadd dX5_yearsWithSome_43 ?_
        exact aw_ireturn dX5_yearsWithSome_44 rfl rfl ⟨Nat.le_refl _, Nat.le_refl _⟩ (hQ _ (by subst h3; subst h17; subst h32; simp only [yws, b1]; (repeat' split) <;> omega))
      · skip
        refine aw_iconst dX5_yearsWithSome_38 ?_
        refine aw_goto (tgt := 43) dX5_yearsWithSome_39 rfl ?_
        refine aw_iadd dX5_yearsWithSome_43 ?_
        exact aw_ireturn dX5_yearsWithSome_44 rfl rfl ⟨Nat.le_refl _, Nat.le_refl _⟩ (hQ _ (by subst h3; subst h17; subst h32; simp only [yws, b1]; (repeat' split) <;> omega))
    · skip
      refine aw_iconst dX5_yearsWithSome_23 ?_
      refine aw_goto (tgt := 28) dX5_yearsWithSome_24 rfl ?_
      refine aw_iadd dX5_yearsWithSome_28 ?_
      refine aw_aload_n dX5_yearsWithSome_29 rfl ?_
      refine aw_iload_n dX5_yearsWithSome_30 rfl ?_
      refine aw_iconst dX5_yearsWithSome_31 ?_
      refine aw_callV (As := [_, _]) (ρ := (_, 0, 0)) (kn' := (0, 0)) cv_X5_40 dX5_yearsWithSome_32 rfl rfl (hc10 hnx) rfl rfl (Nat.le_of_ble_eq_true rfl) (rmR _ _ _) ⟨Nat.le_refl _, Nat.le_refl _⟩ rfl (c_X5_inYear hnx hR (by omega) (by omega) (fun r32 h32 => ?_))
      have q32 := hR 2 (by decide) (p * 3 + 2)
      refine aw_if_le (tgt := 42) dX5_yearsWithSome_35 rfl (by omega) (fun c35 => ?_) (fun c35 => ?_)
      · skip
        refine aw_iconst dX5_yearsWithSome_42 ?_
        refine aw_iadd dX5_yearsWithSome_43 ?_
        exact aw_ireturn dX5_yearsWithSome_44 rfl rfl ⟨Nat.le_refl _, Nat.le_refl _⟩ (hQ _ (by subst h3; subst h17; subst h32; simp only [yws, b1]; (repeat' split) <;> omega))
      · skip
        refine aw_iconst dX5_yearsWithSome_38 ?_
        refine aw_goto (tgt := 43) dX5_yearsWithSome_39 rfl ?_
        refine aw_iadd dX5_yearsWithSome_43 ?_
        exact aw_ireturn dX5_yearsWithSome_44 rfl rfl ⟨Nat.le_refl _, Nat.le_refl _⟩ (hQ _ (by subst h3; subst h17; subst h32; simp only [yws, b1]; (repeat' split) <;> omega))

set_option maxHeartbeats 1000000 in
theorem c_X5_growOlder {Γ : GT} {S T U V : St} {G : Gw} {nx d : Nat} {Q : QT} (hnx : 52 ≤ nx) {p v : Int} (hR : Rg S) (hp32 : 0 ≤ p ∧ p < 32) (hv : inI v) (hQ : Rg (growS S p v) → Q none (hp Γ (growS S p v) T U V G) nx) : AM Γ MX5_growOlder (d + 1, 0, 0) [rf Γ 10, vi p, vi v] (hp Γ S T U V G) nx Q := by
  refine am_of (by decide) (Nat.le_of_ble_eq_true rfl) (ls := [some (rf Γ 10), some _, some _]) rfl ?_
  have hR0 := hR
  have g0 := hR0 2 (by decide) (p * 3 + 0)
  have g1 := hR0 2 (by decide) (p * 3 + 1)
  refine aw_aload_n dX5_growOlder_0 rfl ?_
  refine aw_iload_n dX5_growOlder_1 rfl ?_
  refine aw_iconst dX5_growOlder_2 ?_
  refine aw_aload_n dX5_growOlder_3 rfl ?_
  refine aw_iload_n dX5_growOlder_4 rfl ?_
  refine aw_iconst dX5_growOlder_5 ?_
  refine aw_callV (As := [_, _]) (ρ := (_, 0, 0)) (kn' := (0, 0)) cv_X5_40 dX5_growOlder_6 rfl rfl (hc10 hnx) rfl rfl (Nat.le_of_ble_eq_true rfl) (rmR _ _ _) ⟨Nat.le_refl _, Nat.le_refl _⟩ rfl (c_X5_inYear hnx hR (by omega) (by omega) (fun r6 h6 => ?_))
  subst h6
  refine aw_callV (As := [_, _, _]) (ρ := (_, 0, 0)) (kn' := (0, 0)) cv_X5_44 dX5_growOlder_9 rfl rfl (hc10 hnx) rfl rfl (Nat.le_of_ble_eq_true rfl) (rmR _ _ _) ⟨Nat.le_refl _, Nat.le_refl _⟩ rfl (c_X5_putYear hnx hR (by omega) (by omega) (by omega) (fun hR => ?_))
  refine aw_aload_n dX5_growOlder_12 rfl ?_
  refine aw_iload_n dX5_growOlder_13 rfl ?_
  refine aw_iconst dX5_growOlder_14 ?_
  refine aw_aload_n dX5_growOlder_15 rfl ?_
  refine aw_iload_n dX5_growOlder_16 rfl ?_
  refine aw_iconst dX5_growOlder_17 ?_
  refine aw_callV (As := [_, _]) (ρ := (_, 0, 0)) (kn' := (0, 0)) cv_X5_40 dX5_growOlder_18 rfl rfl (hc10 hnx) rfl rfl (Nat.le_of_ble_eq_true rfl) (rmR _ _ _) ⟨Nat.le_refl _, Nat.le_refl _⟩ rfl (c_X5_inYear hnx hR (by omega) (by omega) (fun r18 h18 => ?_))
  have e18 : r18 = S 2 (p * 3 + 0) := by rw [h18, u1_at, if_neg (by omega)]
  subst e18
  refine aw_callV (As := [_, _, _]) (ρ := (_, 0, 0)) (kn' := (0, 0)) cv_X5_44 dX5_growOlder_21 rfl rfl (hc10 hnx) rfl rfl (Nat.le_of_ble_eq_true rfl) (rmR _ _ _) ⟨Nat.le_refl _, Nat.le_refl _⟩ rfl (c_X5_putYear hnx hR (by omega) (by omega) (by omega) (fun hR => ?_))
  refine aw_aload_n dX5_growOlder_24 rfl ?_
  refine aw_iload_n dX5_growOlder_25 rfl ?_
  refine aw_iconst dX5_growOlder_26 ?_
  refine aw_iload_n dX5_growOlder_27 rfl ?_
  refine aw_callV (As := [_, _, _]) (ρ := (_, 0, 0)) (kn' := (0, 0)) cv_X5_44 dX5_growOlder_28 rfl rfl (hc10 hnx) rfl rfl (Nat.le_of_ble_eq_true rfl) (rmR _ _ _) ⟨Nat.le_refl _, Nat.le_refl _⟩ rfl (c_X5_putYear hnx hR (by omega) (by omega) (by omega) (fun hR => ?_))
  exact aw_return dX5_growOlder_31 rfl ⟨Nat.le_refl _, Nat.le_refl _⟩ (hQ hR)

set_option maxHeartbeats 1000000 in
theorem c_X3_isTraditional {Γ : GT} {S T U V : St} {G : Gw} {nx d : Nat} {Q : QT} (hnx : 52 ≤ nx) {p : Int} (hR : Rg S) (hp32 : 0 ≤ p ∧ p < 32) (hQ : ∀ r, (r = 1 ∧ (S 15 p = 1) ∨ r = 0 ∧ ¬ (S 15 p = 1)) → Q (some (vi r)) (hp Γ S T U V G) nx) : AM Γ MX3_isTraditional (d, 0, 0) [rf Γ 25, vi p] (hp Γ S T U V G) nx Q := by
  refine am_of (by decide) (Nat.le_of_ble_eq_true rfl) (ls := [some (rf Γ 25), some _]) rfl ?_
  refine aw_aload_n dX3_isTraditional_0 rfl ?_
  refine aw_getf fg_X3_15 dX3_isTraditional_1 (hc25 hnx) rfl ?_
  refine aw_iload_n dX3_isTraditional_4 rfl ?_
  refine aw_ialdr dX3_isTraditional_5 (hc27 hnx) (by omega) (by decide) (hR 15 (by decide)) (fun q5 => ?_)
  refine aw_iconst dX3_isTraditional_6 ?_
  refine aw_icmp_ne (tgt := 14) dX3_isTraditional_7 rfl (by omega) (fun c7 => ?_) (fun c7 => ?_)
  · skip
    refine aw_iconst dX3_isTraditional_14 ?_
    exact aw_zreturn dX3_isTraditional_15 rfl (by omega) ⟨Nat.le_refl _, Nat.le_refl _⟩ (hQ _ (by omega))
  · skip
    refine aw_iconst dX3_isTraditional_10 ?_
    refine aw_goto (tgt := 15) dX3_isTraditional_11 rfl ?_
    exact aw_zreturn dX3_isTraditional_15 rfl (by omega) ⟨Nat.le_refl _, Nat.le_refl _⟩ (hQ _ (by omega))

set_option maxHeartbeats 1000000 in
theorem c_X3_figure {Γ : GT} {S T U V : St} {G : Gw} {nx d : Nat} {Q : QT} (hnx : 52 ≤ nx) {j w : Int} (hR : Rg S) (hj : (0 ≤ j ∧ j < 4) ∧ 0 ≤ w ∧ w < 8) (hQ : ∀ r, r = S 14 (j * 8 + w) → Q (some (vi r)) (hp Γ S T U V G) nx) : AM Γ MX3_figure (d, 0, 0) [rf Γ 25, vi j, vi w] (hp Γ S T U V G) nx Q := by
  refine am_of (by decide) (Nat.le_of_ble_eq_true rfl) (ls := [some (rf Γ 25), some _, some _]) rfl ?_
  refine aw_aload_n dX3_figure_0 rfl ?_
  refine aw_getf fg_X3_9 dX3_figure_1 (hc25 hnx) rfl ?_
  refine aw_iload_n dX3_figure_4 rfl ?_
  refine aw_bipush dX3_figure_5 rfl ?_
  refine aw_imul dX3_figure_7 ?_
  refine aw_iload_n dX3_figure_8 rfl ?_
  refine aw_iadd dX3_figure_9 ?_
  refine aw_ialdr dX3_figure_10 (hc26 hnx) (by omega) (by decide) (hR 14 (by decide)) (fun q10 => ?_)
  exact aw_ireturn dX3_figure_11 rfl rfl ⟨Nat.le_refl _, Nat.le_refl _⟩ (hQ _ (rfl))

set_option maxHeartbeats 1000000 in
theorem c_X3_add {Γ : GT} {S T U V : St} {G : Gw} {nx d : Nat} {Q : QT} (hnx : 52 ≤ nx) {j w n : Int} (hR : Rg S) (hj : (0 ≤ j ∧ j < 4) ∧ 0 ≤ w ∧ w < 8) (hn : inI (S 14 (j * 8 + w) + n)) (hQ : Rg (addS S j w n) → Q none (hp Γ (addS S j w n) T U V G) nx) : AM Γ MX3_add (d, 0, 0) [rf Γ 25, vi j, vi w, vi n] (hp Γ S T U V G) nx Q := by
  refine am_of (by decide) (Nat.le_of_ble_eq_true rfl) (ls := [some (rf Γ 25), some _, some _, some _]) rfl ?_
  refine aw_aload_n dX3_add_0 rfl ?_
  refine aw_getf fg_X3_9 dX3_add_1 (hc25 hnx) rfl ?_
  refine aw_iload_n dX3_add_4 rfl ?_
  refine aw_bipush dX3_add_5 rfl ?_
  refine aw_imul dX3_add_7 ?_
  refine aw_iload_n dX3_add_8 rfl ?_
  refine aw_iadd dX3_add_9 ?_
  refine aw_dup2_11 dX3_add_10 rfl rfl ?_
  refine aw_ialdr dX3_add_11 (hc26 hnx) (by omega) (by decide) (hR 14 (by decide)) (fun q11 => ?_)
  refine aw_iload_n dX3_add_12 rfl ?_
  refine aw_iadd dX3_add_13 ?_
  refine aw_iastS dX3_add_14 (hc26 hnx) (by omega) (by decide) hR (by omega) (fun _ => hu26) (fun hR => ?_)
  exact aw_return dX3_add_15 rfl ⟨Nat.le_refl _, Nat.le_refl _⟩ (hQ hR)

set_option maxHeartbeats 1000000 in
theorem c_X3_clearFigures {Γ : GT} {S T U V : St} {G : Gw} {nx d : Nat} {Q : QT} (hnx : 52 ≤ nx) {j : Int} (hR : Rg S) (hj : 0 ≤ j ∧ j < 4) (hQ : Rg (cfS S j 8) → Q none (hp Γ (cfS S j 8) T U V G) nx) : AM Γ MX3_clearFigures (d, 0, 0) [rf Γ 25, vi j] (hp Γ S T U V G) nx Q := by
  refine am_of (by decide) (Nat.le_of_ble_eq_true rfl) (ls := [some (rf Γ 25), some _, none]) rfl ?_
  refine aw_iconst dX3_clearFigures_0 ?_
  refine aw_istore_n (ls' := [some (rf Γ 25), some _, some _]) dX3_clearFigures_1 (by decide) rfl ?_
  refine aw_hp (S' := cfS S j 0) (cfS_0 S j) rfl rfl rfl rfl ?_
  refine loopN (8) (P := fun k =>  AW Γ MX3_clearFigures _ _ (0, 0) 2 [some (rf Γ 25), some (vi j), some (vi (k : Int))] [] (hp Γ (cfS S j k) T U V G) nx) (fun k hk ih => ?_) 0 (Nat.zero_le _) 
  refine aw_iload_n dX3_clearFigures_2 rfl ?_
  have hR0 := hR
  replace hR := hR0.cf j k
  refine aw_bipush dX3_clearFigures_3 rfl ?_
  refine aw_icmp_ge (tgt := 26) dX3_clearFigures_5 rfl (by omega) (fun c5 => ?_) (fun c5 => ?_)
  · skip
    obtain rfl : k = 8 := by omega
    exact aw_return dX3_clearFigures_26 rfl ⟨Nat.le_refl _, Nat.le_refl _⟩ (hQ hR)
  · skip
    refine aw_aload_n dX3_clearFigures_8 rfl ?_
    refine aw_getf fg_X3_9 dX3_clearFigures_9 (hc25 hnx) rfl ?_
    refine aw_iload_n dX3_clearFigures_12 rfl ?_
    refine aw_bipush dX3_clearFigures_13 rfl ?_
    refine aw_imul dX3_clearFigures_15 ?_
    refine aw_iload_n dX3_clearFigures_16 rfl ?_
    refine aw_iadd dX3_clearFigures_17 ?_
    refine aw_iconst dX3_clearFigures_18 ?_
    refine aw_iastS dX3_clearFigures_19 (hc26 hnx) (by omega) (by decide) hR (by omega) (fun _ => hu26) (fun hR => ?_)
    rw [cfS_s]
    refine aw_iinc (ls' := [some (rf Γ 25), some _, some _]) dX3_clearFigures_20 rfl (by decide) rfl ?_
    refine aw_goto (tgt := 2) dX3_clearFigures_23 rfl ?_
    exact ih (by omega)   

set_option maxHeartbeats 1000000 in
theorem c_X9_importedBy {Γ : GT} {S T U V : St} {G : Gw} {nx d : Nat} {Q : QT} (hnx : 52 ≤ nx) {i : Int} (hR : Rg S) (hi : 0 ≤ i ∧ i < 8) (hQ : ∀ r, r = imI S i 12 → Q (some (vi r)) (hp Γ S T U V G) nx) : AM Γ MX9_importedBy (d, 0, 0) [rf Γ 32, vi i] (hp Γ S T U V G) nx Q := by
  refine am_of (by decide) (Nat.le_of_ble_eq_true rfl) (ls := [some (rf Γ 32), some _, none, none]) rfl ?_
  refine aw_iconst dX9_importedBy_0 ?_
  refine aw_istore_n (ls' := [some (rf Γ 32), some _, some _, none]) dX9_importedBy_1 (by decide) rfl ?_
  refine aw_iconst dX9_importedBy_2 ?_
  refine aw_istore_n (ls' := [some (rf Γ 32), some _, some _, some _]) dX9_importedBy_3 (by decide) rfl ?_
  refine loopN (12) (P := fun k => ∀ (x : Int) , x = imI S i k →  AW Γ MX9_importedBy _ _ (0, 0) 4 [some (rf Γ 32), some (vi i), some (vi x), some (vi (k : Int))] [] (hp Γ S T U V G) nx) (fun k hk ih => ?_) 0 (Nat.zero_le _) _ rfl 
  intro x i4_0
  refine aw_iload_n dX9_importedBy_4 rfl ?_
  refine aw_bipush dX9_importedBy_5 rfl ?_
  refine aw_icmp_ge (tgt := 30) dX9_importedBy_7 rfl (by omega) (fun c7 => ?_) (fun c7 => ?_)
  · skip
    obtain rfl : k = 12 := by omega
    refine aw_iload_n dX9_importedBy_30 rfl ?_
    exact aw_ireturn dX9_importedBy_31 rfl rfl ⟨Nat.le_refl _, Nat.le_refl _⟩ (hQ _ (by omega))
  · skip
    refine aw_iload_n dX9_importedBy_10 rfl ?_
    refine aw_aload_n dX9_importedBy_11 rfl ?_
    refine aw_getf fg_X9_15 dX9_importedBy_12 (hc32 hnx) rfl ?_
    refine aw_iload_n dX9_importedBy_15 rfl ?_
    refine aw_bipush dX9_importedBy_16 rfl ?_
    refine aw_imul dX9_importedBy_18 ?_
    refine aw_iload_n dX9_importedBy_19 rfl ?_
    refine aw_iadd dX9_importedBy_20 ?_
    refine aw_ialdr dX9_importedBy_21 (hc34 hnx) (by omega) (by decide) (hR 21 (by decide)) (fun q21 => ?_)
    refine aw_iadd dX9_importedBy_22 ?_
    refine aw_nmI (fun x2_23 hx2_23 => ?_)
    refine aw_istore_n (ls' := [some (rf Γ 32), some _, some _, some _]) dX9_importedBy_23 (by decide) rfl ?_
    refine aw_iinc (ls' := [some (rf Γ 32), some _, some _, some _]) dX9_importedBy_24 rfl (by decide) rfl ?_
    refine aw_goto (tgt := 4) dX9_importedBy_27 rfl ?_
    exact ih (by omega) x2_23  (by subst i4_0; subst hx2_23; rfl)

set_option maxHeartbeats 1000000 in
theorem c_X9_importedOf {Γ : GT} {S T U V : St} {G : Gw} {nx d : Nat} {Q : QT} (hnx : 52 ≤ nx) {j a n : Int} (hR : Rg S) (hj : 0 ≤ j ∧ j < 4) (ha : 0 ≤ a ∧ 0 ≤ n ∧ a + n ≤ 12) (hQ : ∀ r, r = imO S j a n.toNat → Q (some (vi r)) (hp Γ S T U V G) nx) : AM Γ MX9_importedOf (d, 0, 0) [rf Γ 32, vi j, vi a, vi n] (hp Γ S T U V G) nx Q := by
  refine am_of (by decide) (Nat.le_of_ble_eq_true rfl) (ls := [some (rf Γ 32), some _, some _, some _, none, none]) rfl ?_
  refine aw_iconst dX9_importedOf_0 ?_
  refine aw_istore (ls' := [some (rf Γ 32), some _, some _, some _, some _, none]) dX9_importedOf_1 (by decide) rfl ?_
  refine aw_iload_n dX9_importedOf_3 rfl ?_
  refine aw_istore (ls' := [some (rf Γ 32), some _, some _, some _, some _, some _]) dX9_importedOf_4 (by decide) rfl ?_
  refine loopN (n.toNat) (P := fun k => ∀ (x : Int) (m : Int) , x = imO S j a k → m = a + (k : Int) →  AW Γ MX9_importedOf _ _ (0, 0) 6 [some (rf Γ 32), some (vi j), some (vi a), some (vi n), some (vi x), some (vi m)] [] (hp Γ S T U V G) nx) (fun k hk ih => ?_) 0 (Nat.zero_le _) _ _ rfl (by omega)
  intro x m i6_0 i6_1
  refine aw_iload dX9_importedOf_6 rfl ?_
  refine aw_iload_n dX9_importedOf_8 rfl ?_
  refine aw_iload_n dX9_importedOf_9 rfl ?_
  refine aw_iadd dX9_importedOf_10 ?_
  refine aw_icmp_ge (tgt := 44) dX9_importedOf_11 rfl (by omega) (fun c11 => ?_) (fun c11 => ?_)
  · skip
    obtain rfl : k = n.toNat := by omega
    refine aw_iload dX9_importedOf_44 rfl ?_
    exact aw_ireturn dX9_importedOf_46 rfl rfl ⟨Nat.le_refl _, Nat.le_refl _⟩ (hQ _ (by omega))
  · skip
    refine aw_iload dX9_importedOf_14 rfl ?_
    refine aw_bipush dX9_importedOf_16 rfl ?_
    refine aw_icmp_ge (tgt := 44) dX9_importedOf_18 rfl (by omega) (fun c18 => ?_) (fun c18 => ?_)
    · skip
      obtain rfl : k = n.toNat := by omega
      refine aw_iload dX9_importedOf_44 rfl ?_
      exact aw_ireturn dX9_importedOf_46 rfl rfl ⟨Nat.le_refl _, Nat.le_refl _⟩ (hQ _ (by omega))
    · skip
      refine aw_iload dX9_importedOf_21 rfl ?_
      refine aw_aload_n dX9_importedOf_23 rfl ?_
      refine aw_getf fg_X9_18 dX9_importedOf_24 (hc32 hnx) rfl ?_
      refine aw_iload_n dX9_importedOf_27 rfl ?_
      refine aw_bipush dX9_importedOf_28 rfl ?_
      refine aw_imul dX9_importedOf_30 ?_
      refine aw_iload dX9_importedOf_31 rfl ?_
      refine aw_iadd dX9_importedOf_33 ?_
      refine aw_ialdr dX9_importedOf_34 (hc35 hnx) (by omega) (by decide) (hR 22 (by decide)) (fun q34 => ?_)
      refine aw_iadd dX9_importedOf_35 ?_
      refine aw_nmI (fun x4_36 hx4_36 => ?_)
      refine aw_istore (ls' := [some (rf Γ 32), some _, some _, some _, some _, some _]) dX9_importedOf_36 (by decide) rfl ?_
      refine aw_iinc (ls' := [some (rf Γ 32), some _, some _, some _, some _, some _]) dX9_importedOf_38 rfl (by decide) rfl ?_
      refine aw_goto (tgt := 6) dX9_importedOf_41 rfl ?_
      exact ih (by omega) x4_36 _  (by subst i6_0; subst hx4_36; subst i6_1; rfl) (by omega)

set_option maxHeartbeats 1000000 in
theorem c_X9_clear {Γ : GT} {S T U V : St} {G : Gw} {nx d : Nat} {Q : QT} (hnx : 52 ≤ nx) (hR : Rg S) (hQ : Rg (yclS S) → Q none (hp Γ (yclS S) T U V G) nx) : AM Γ MX9_clear (d + 1, 0, 0) [rf Γ 32] (hp Γ S T U V G) nx Q := by
  refine am_of (by decide) (Nat.le_of_ble_eq_true rfl) (ls := [some (rf Γ 32)]) rfl ?_
  refine aw_aload_n dX9_clear_0 rfl ?_
  refine aw_getf fg_X9_9 dX9_clear_1 (hc32 hnx) rfl ?_
  refine aw_iconst dX9_clear_4 ?_
  refine aw_callS (As := [_, _]) (ρ := (_, 0, 0)) (kn' := (0, 0)) cs_X9_21 dX9_clear_5 rfl rfl (Nat.le_of_ble_eq_true rfl) (rmR _ _ _) ⟨Nat.le_refl _, Nat.le_refl _⟩ rfl (c_fill_i (hc33 hnx) (by decide) hu33 ?_)
  refine aw_aload_n dX9_clear_8 rfl ?_
  refine aw_getf fg_X9_15 dX9_clear_9 (hc32 hnx) rfl ?_
  refine aw_iconst dX9_clear_12 ?_
  refine aw_callS (As := [_, _]) (ρ := (_, 0, 0)) (kn' := (0, 0)) cs_X9_21 dX9_clear_13 rfl rfl (Nat.le_of_ble_eq_true rfl) (rmR _ _ _) ⟨Nat.le_refl _, Nat.le_refl _⟩ rfl (c_fill_i (hc34 hnx) (by decide) hu34 ?_)
  refine aw_aload_n dX9_clear_16 rfl ?_
  refine aw_getf fg_X9_18 dX9_clear_17 (hc32 hnx) rfl ?_
  refine aw_iconst dX9_clear_20 ?_
  refine aw_callS (As := [_, _]) (ρ := (_, 0, 0)) (kn' := (0, 0)) cs_X9_21 dX9_clear_21 rfl rfl (Nat.le_of_ble_eq_true rfl) (rmR _ _ _) ⟨Nat.le_refl _, Nat.le_refl _⟩ rfl (c_fill_i (hc35 hnx) (by decide) hu35 ?_)
  exact aw_return dX9_clear_24 rfl ⟨Nat.le_refl _, Nat.le_refl _⟩ (hQ (((hR.cl (by decide)).cl (by decide)).cl (by decide)))

set_option maxHeartbeats 1000000 in
theorem c_X10_isAmount {Γ : GT} {S T U V : St} {G : Gw} {nx d : Nat} {Q : QT} (hnx : 52 ≤ nx) {n : Int} (hn : inI n) (hQ : ∀ r, (r = 1 ∧ (1 ≤ n ∧ n ≤ 99999) ∨ r = 0 ∧ ¬ (1 ≤ n ∧ n ≤ 99999)) → Q (some (vi r)) (hp Γ S T U V G) nx) : AM Γ MX10_isAmount (d, 0, 0) [vi n] (hp Γ S T U V G) nx Q := by
  refine am_of (by decide) (Nat.le_of_ble_eq_true rfl) (ls := [some _]) rfl ?_
  refine aw_iload_n dX10_isAmount_0 rfl ?_
  refine aw_iconst dX10_isAmount_1 ?_
  refine aw_icmp_lt (tgt := 15) dX10_isAmount_2 rfl (by omega) (fun c2 => ?_) (fun c2 => ?_)
  · skip
    refine aw_iconst dX10_isAmount_15 ?_
    exact aw_zreturn dX10_isAmount_16 rfl (by omega) ⟨Nat.le_refl _, Nat.le_refl _⟩ (hQ _ (by omega))
  · skip
    refine aw_iload_n dX10_isAmount_5 rfl ?_
    refine aw_ldc dX10_isAmount_6 qk_X10_194 ?_
    refine aw_st (st' := vi 99999 :: _) rfl ?_
    refine aw_icmp_gt (tgt := 15) dX10_isAmount_8 rfl (by omega) (fun c8 => ?_) (fun c8 => ?_)
    · skip
      refine aw_iconst dX10_isAmount_15 ?_
      exact aw_zreturn dX10_isAmount_16 rfl (by omega) ⟨Nat.le_refl _, Nat.le_refl _⟩ (hQ _ (by omega))
    · skip
      refine aw_iconst dX10_isAmount_11 ?_
      refine aw_goto (tgt := 16) dX10_isAmount_12 rfl ?_
      exact aw_zreturn dX10_isAmount_16 rfl (by omega) ⟨Nat.le_refl _, Nat.le_refl _⟩ (hQ _ (by omega))

set_option maxHeartbeats 1000000 in
theorem c_X10_isDays {Γ : GT} {S T U V : St} {G : Gw} {nx d : Nat} {Q : QT} (hnx : 52 ≤ nx) {n : Int} (hn : inI n) (hQ : ∀ r, (r = 1 ∧ (1 ≤ n ∧ n ≤ 90) ∨ r = 0 ∧ ¬ (1 ≤ n ∧ n ≤ 90)) → Q (some (vi r)) (hp Γ S T U V G) nx) : AM Γ MX10_isDays (d, 0, 0) [vi n] (hp Γ S T U V G) nx Q := by
  refine am_of (by decide) (Nat.le_of_ble_eq_true rfl) (ls := [some _]) rfl ?_
  refine aw_iload_n dX10_isDays_0 rfl ?_
  refine aw_iconst dX10_isDays_1 ?_
  refine aw_icmp_lt (tgt := 15) dX10_isDays_2 rfl (by omega) (fun c2 => ?_) (fun c2 => ?_)
  · skip
    refine aw_iconst dX10_isDays_15 ?_
    exact aw_zreturn dX10_isDays_16 rfl (by omega) ⟨Nat.le_refl _, Nat.le_refl _⟩ (hQ _ (by omega))
  · skip
    refine aw_iload_n dX10_isDays_5 rfl ?_
    refine aw_bipush dX10_isDays_6 rfl ?_
    refine aw_icmp_gt (tgt := 15) dX10_isDays_8 rfl (by omega) (fun c8 => ?_) (fun c8 => ?_)
    · skip
      refine aw_iconst dX10_isDays_15 ?_
      exact aw_zreturn dX10_isDays_16 rfl (by omega) ⟨Nat.le_refl _, Nat.le_refl _⟩ (hQ _ (by omega))
    · skip
      refine aw_iconst dX10_isDays_11 ?_
      refine aw_goto (tgt := 16) dX10_isDays_12 rfl ?_
      exact aw_zreturn dX10_isDays_16 rfl (by omega) ⟨Nat.le_refl _, Nat.le_refl _⟩ (hQ _ (by omega))

set_option maxHeartbeats 1000000 in
theorem c_X10_isTold {Γ : GT} {S T U V : St} {G : Gw} {nx d : Nat} {Q : QT} (hnx : 52 ≤ nx) {n : Int} (hn : inI n) (hQ : ∀ r, (r = 1 ∧ (0 ≤ n ∧ n ≤ 5) ∨ r = 0 ∧ ¬ (0 ≤ n ∧ n ≤ 5)) → Q (some (vi r)) (hp Γ S T U V G) nx) : AM Γ MX10_isTold (d, 0, 0) [vi n] (hp Γ S T U V G) nx Q := by
  refine am_of (by decide) (Nat.le_of_ble_eq_true rfl) (ls := [some _]) rfl ?_
  refine aw_iload_n dX10_isTold_0 rfl ?_
  refine aw_if_lt (tgt := 13) dX10_isTold_1 rfl (by omega) (fun c1 => ?_) (fun c1 => ?_)
  · skip
    refine aw_iconst dX10_isTold_13 ?_
    exact aw_zreturn dX10_isTold_14 rfl (by omega) ⟨Nat.le_refl _, Nat.le_refl _⟩ (hQ _ (by omega))
  · skip
    refine aw_iload_n dX10_isTold_4 rfl ?_
    refine aw_iconst dX10_isTold_5 ?_
    refine aw_icmp_gt (tgt := 13) dX10_isTold_6 rfl (by omega) (fun c6 => ?_) (fun c6 => ?_)
    · skip
      refine aw_iconst dX10_isTold_13 ?_
      exact aw_zreturn dX10_isTold_14 rfl (by omega) ⟨Nat.le_refl _, Nat.le_refl _⟩ (hQ _ (by omega))
    · skip
      refine aw_iconst dX10_isTold_9 ?_
      refine aw_goto (tgt := 14) dX10_isTold_10 rfl ?_
      exact aw_zreturn dX10_isTold_14 rfl (by omega) ⟨Nat.le_refl _, Nat.le_refl _⟩ (hQ _ (by omega))

set_option maxHeartbeats 1000000 in
theorem c_X10_pairOf {Γ : GT} {S T U V : St} {G : Gw} {nx d : Nat} {Q : QT} (hnx : 52 ≤ nx) {i j : Int} (hQ : ∀ r, r = 4 * i + j → Q (some (vi r)) (hp Γ S T U V G) nx) : AM Γ MX10_pairOf (d, 0, 0) [vi i, vi j] (hp Γ S T U V G) nx Q := by
  refine am_of (by decide) (Nat.le_of_ble_eq_true rfl) (ls := [some _, some _]) rfl ?_
  refine aw_iload_n dX10_pairOf_0 rfl ?_
  refine aw_iconst dX10_pairOf_1 ?_
  refine aw_imul dX10_pairOf_2 ?_
  refine aw_iload_n dX10_pairOf_3 rfl ?_
  refine aw_iadd dX10_pairOf_4 ?_
  exact aw_ireturn dX10_pairOf_5 rfl rfl ⟨Nat.le_refl _, Nat.le_refl _⟩ (hQ _ (by omega))

set_option maxHeartbeats 1000000 in
theorem c_X10_logPlace {Γ : GT} {S T U V : St} {G : Gw} {nx d : Nat} {Q : QT} (hnx : 52 ≤ nx) {i j w : Int} (hQ : ∀ r, r = (i * 4 + j) * 5 + w → Q (some (vi r)) (hp Γ S T U V G) nx) : AM Γ MX10_logPlace (d, 0, 0) [vi i, vi j, vi w] (hp Γ S T U V G) nx Q := by
  refine am_of (by decide) (Nat.le_of_ble_eq_true rfl) (ls := [some _, some _, some _]) rfl ?_
  refine aw_iload_n dX10_logPlace_0 rfl ?_
  refine aw_iconst dX10_logPlace_1 ?_
  refine aw_imul dX10_logPlace_2 ?_
  refine aw_iload_n dX10_logPlace_3 rfl ?_
  refine aw_iadd dX10_logPlace_4 ?_
  refine aw_iconst dX10_logPlace_5 ?_
  refine aw_imul dX10_logPlace_6 ?_
  refine aw_iload_n dX10_logPlace_7 rfl ?_
  refine aw_iadd dX10_logPlace_8 ?_
  exact aw_ireturn dX10_logPlace_9 rfl rfl ⟨Nat.le_refl _, Nat.le_refl _⟩ (hQ _ (rfl))

set_option maxHeartbeats 1000000 in
theorem c_X10_partOfAll {Γ : GT} {S T U V : St} {G : Gw} {nx d : Nat} {Q : QT} (hnx : 52 ≤ nx) {w b a : Int} (hw : inI w ∧ inI b ∧ 0 ≤ w ∧ 0 ≤ b) (hm : inL (w * b)) (ha : inL a ∧ 0 ≤ a) (hQ : ∀ r, r = (if 0 < a then w * b / a else 0) → Q (some (vi r)) (hp Γ S T U V G) nx) : AM Γ MX10_partOfAll (d, 0, 0) [vi w, vi b, vl a] (hp Γ S T U V G) nx Q := by
  refine am_of (by decide) (Nat.le_of_ble_eq_true rfl) (ls := [some _, some _, some _, none]) rfl ?_
  have hwb : 0 ≤ w * b := Int.mul_nonneg (by omega) (by omega)
  refine aw_lload_n dX10_partOfAll_0 rfl ?_
  refine aw_lconst0 dX10_partOfAll_1 ?_
  refine aw_lif_le (tgt := 17) dX10_partOfAll_2 dX10_partOfAll_3 rfl (by omega) (fun c2 => ?_) (fun c2 => ?_)
  · skip
    refine aw_iconst dX10_partOfAll_17 ?_
    exact aw_ireturn dX10_partOfAll_18 rfl rfl ⟨Nat.le_refl _, Nat.le_refl _⟩ (hQ _ (by split <;> first | rfl | omega))
  · skip
    refine aw_iload_n dX10_partOfAll_6 rfl ?_
    refine aw_i2l dX10_partOfAll_7 (by omega) ?_
    refine aw_iload_n dX10_partOfAll_8 rfl ?_
    refine aw_i2l dX10_partOfAll_9 (by omega) ?_
    refine aw_lmul dX10_partOfAll_10 ?_
    refine aw_lload_n dX10_partOfAll_11 rfl ?_
    refine aw_ldiv dX10_partOfAll_12 (by omega) (by omega) ?_
    refine aw_l2i dX10_partOfAll_13 ?_
    refine aw_goto (tgt := 18) dX10_partOfAll_14 rfl ?_
    exact aw_ireturn dX10_partOfAll_18 rfl rfl ⟨Nat.le_refl _, Nat.le_refl _⟩ (hQ _ (by split <;> first | rfl | omega))

set_option maxHeartbeats 1000000 in
theorem c_X7_hasScheme {Γ : GT} {S T U V : St} {G : Gw} {nx d : Nat} {Q : QT} (hnx : 52 ≤ nx) (hR : Rg S) (hQ : ∀ r, (r = 1 ∧ (0 < S 26 0) ∨ r = 0 ∧ ¬ (0 < S 26 0)) → Q (some (vi r)) (hp Γ S T U V G) nx) : AM Γ MX7_hasScheme (d, 0, 0) [rf Γ 9] (hp Γ S T U V G) nx Q := by
  refine am_of (by decide) (Nat.le_of_ble_eq_true rfl) (ls := [some (rf Γ 9)]) rfl ?_
  have r26 := hR 26 (by decide) 0
  refine aw_aload_n dX7_hasScheme_0 rfl ?_
  refine aw_getf fg_X7_12 dX7_hasScheme_1 (hc9 hnx) rfl ?_
  refine aw_getf fg_X7_91 dX7_hasScheme_4 (hc10 hnx) rfl ?_
  refine aw_if_le (tgt := 14) dX7_hasScheme_7 rfl (by omega) (fun c7 => ?_) (fun c7 => ?_)
  · skip
    refine aw_iconst dX7_hasScheme_14 ?_
    exact aw_zreturn dX7_hasScheme_15 rfl (by omega) ⟨Nat.le_refl _, Nat.le_refl _⟩ (hQ _ (by omega))
  · skip
    refine aw_iconst dX7_hasScheme_10 ?_
    refine aw_goto (tgt := 15) dX7_hasScheme_11 rfl ?_
    exact aw_zreturn dX7_hasScheme_15 rfl (by omega) ⟨Nat.le_refl _, Nat.le_refl _⟩ (hQ _ (by omega))

set_option maxHeartbeats 1000000 in
theorem c_X7_hasOrigin {Γ : GT} {S T U V : St} {G : Gw} {nx d : Nat} {Q : QT} (hnx : 52 ≤ nx) {j : Int} (hR : Rg S) (hj : inI j) (hQ : ∀ r, (r = 1 ∧ (0 ≤ j ∧ j < S 26 0) ∨ r = 0 ∧ ¬ (0 ≤ j ∧ j < S 26 0)) → Q (some (vi r)) (hp Γ S T U V G) nx) : AM Γ MX7_hasOrigin (d, 0, 0) [rf Γ 9, vi j] (hp Γ S T U V G) nx Q := by
  refine am_of (by decide) (Nat.le_of_ble_eq_true rfl) (ls := [some (rf Γ 9), some _]) rfl ?_
  have r26 := hR 26 (by decide) 0
  refine aw_iload_n dX7_hasOrigin_0 rfl ?_
  refine aw_if_lt (tgt := 19) dX7_hasOrigin_1 rfl (by omega) (fun c1 => ?_) (fun c1 => ?_)
  · skip
    refine aw_iconst dX7_hasOrigin_19 ?_
    exact aw_zreturn dX7_hasOrigin_20 rfl (by omega) ⟨Nat.le_refl _, Nat.le_refl _⟩ (hQ _ (by omega))
  · skip
    refine aw_iload_n dX7_hasOrigin_4 rfl ?_
    refine aw_aload_n dX7_hasOrigin_5 rfl ?_
    refine aw_getf fg_X7_12 dX7_hasOrigin_6 (hc9 hnx) rfl ?_
    refine aw_getf fg_X7_91 dX7_hasOrigin_9 (hc10 hnx) rfl ?_
    refine aw_icmp_ge (tgt := 19) dX7_hasOrigin_12 rfl (by omega) (fun c12 => ?_) (fun c12 => ?_)
    · skip
      refine aw_iconst dX7_hasOrigin_19 ?_
      exact aw_zreturn dX7_hasOrigin_20 rfl (by omega) ⟨Nat.le_refl _, Nat.le_refl _⟩ (hQ _ (by omega))
    · skip
      refine aw_iconst dX7_hasOrigin_15 ?_
      refine aw_goto (tgt := 20) dX7_hasOrigin_16 rfl ?_
      exact aw_zreturn dX7_hasOrigin_20 rfl (by omega) ⟨Nat.le_refl _, Nat.le_refl _⟩ (hQ _ (by omega))

set_option maxHeartbeats 1000000 in
theorem c_X7_hasImporter {Γ : GT} {S T U V : St} {G : Gw} {nx d : Nat} {Q : QT} (hnx : 52 ≤ nx) {j : Int} (hR : Rg S) (hj : inI j) (hQ : ∀ r, (r = 1 ∧ (0 ≤ j ∧ j < S 27 0) ∨ r = 0 ∧ ¬ (0 ≤ j ∧ j < S 27 0)) → Q (some (vi r)) (hp Γ S T U V G) nx) : AM Γ MX7_hasImporter (d, 0, 0) [rf Γ 9, vi j] (hp Γ S T U V G) nx Q := by
  refine am_of (by decide) (Nat.le_of_ble_eq_true rfl) (ls := [some (rf Γ 9), some _]) rfl ?_
  have r26 := hR 27 (by decide) 0
  refine aw_iload_n dX7_hasImporter_0 rfl ?_
  refine aw_if_lt (tgt := 19) dX7_hasImporter_1 rfl (by omega) (fun c1 => ?_) (fun c1 => ?_)
  · skip
    refine aw_iconst dX7_hasImporter_19 ?_
    exact aw_zreturn dX7_hasImporter_20 rfl (by omega) ⟨Nat.le_refl _, Nat.le_refl _⟩ (hQ _ (by omega))
  · skip
    refine aw_iload_n dX7_hasImporter_4 rfl ?_
    refine aw_aload_n dX7_hasImporter_5 rfl ?_
    refine aw_getf fg_X7_12 dX7_hasImporter_6 (hc9 hnx) rfl ?_
    refine aw_getf fg_X7_94 dX7_hasImporter_9 (hc10 hnx) rfl ?_
    refine aw_icmp_ge (tgt := 19) dX7_hasImporter_12 rfl (by omega) (fun c12 => ?_) (fun c12 => ?_)
    · skip
      refine aw_iconst dX7_hasImporter_19 ?_
      exact aw_zreturn dX7_hasImporter_20 rfl (by omega) ⟨Nat.le_refl _, Nat.le_refl _⟩ (hQ _ (by omega))
    · skip
      refine aw_iconst dX7_hasImporter_15 ?_
      refine aw_goto (tgt := 20) dX7_hasImporter_16 rfl ?_
      exact aw_zreturn dX7_hasImporter_20 rfl (by omega) ⟨Nat.le_refl _, Nat.le_refl _⟩ (hQ _ (by omega))

set_option maxHeartbeats 1000000 in
theorem c_X7_hasPair {Γ : GT} {S T U V : St} {G : Gw} {nx d : Nat} {Q : QT} (hnx : 52 ≤ nx) {i j : Int} (hR : Rg S) (hj : inI i ∧ inI j) (hQ : ∀ r, (r = 1 ∧ ((0 ≤ i ∧ i < S 27 0) ∧ 0 ≤ j ∧ j < S 26 0) ∨ r = 0 ∧ ¬ ((0 ≤ i ∧ i < S 27 0) ∧ 0 ≤ j ∧ j < S 26 0)) → Q (some (vi r)) (hp Γ S T U V G) nx) : AM Γ MX7_hasPair (d + 1, 0, 0) [rf Γ 9, vi i, vi j] (hp Γ S T U V G) nx Q := by
  refine am_of (by decide) (Nat.le_of_ble_eq_true rfl) (ls := [some (rf Γ 9), some _, some _]) rfl ?_
  refine aw_aload_n dX7_hasPair_0 rfl ?_
  refine aw_iload_n dX7_hasPair_1 rfl ?_
  refine aw_callV (As := [_]) (ρ := (_, 0, 0)) (kn' := (0, 0)) cv_X7_97 dX7_hasPair_2 rfl rfl (hc9 hnx) rfl rfl (Nat.le_of_ble_eq_true rfl) (rmR _ _ _) ⟨Nat.le_refl _, Nat.le_refl _⟩ rfl (c_X7_hasImporter hnx hR (by omega) (fun r2 h2 => ?_))
  rcases h2 with ⟨rfl, h2⟩ | ⟨rfl, h2⟩
  · skip
    refine aw_if_eq (tgt := 20) dX7_hasPair_5 rfl (by decide) (fun c => absurd c (by decide)) (fun _ => ?_)
    refine aw_aload_n dX7_hasPair_8 rfl ?_
    refine aw_iload_n dX7_hasPair_9 rfl ?_
    refine aw_callV (As := [_]) (ρ := (_, 0, 0)) (kn' := (0, 0)) cv_X7_101 dX7_hasPair_10 rfl rfl (hc9 hnx) rfl rfl (Nat.le_of_ble_eq_true rfl) (rmR _ _ _) ⟨Nat.le_refl _, Nat.le_refl _⟩ rfl (c_X7_hasOrigin hnx hR (by omega) (fun r10 h10 => ?_))
    rcases h10 with ⟨rfl, h10⟩ | ⟨rfl, h10⟩
    · skip
      refine aw_if_eq (tgt := 20) dX7_hasPair_13 rfl (by decide) (fun c => absurd c (by decide)) (fun _ => ?_)
      refine aw_iconst dX7_hasPair_16 ?_
      refine aw_goto (tgt := 21) dX7_hasPair_17 rfl ?_
      exact aw_zreturn dX7_hasPair_21 rfl (by omega) ⟨Nat.le_refl _, Nat.le_refl _⟩ (hQ _ (by omega))
    · skip
      refine aw_if_eq (tgt := 20) dX7_hasPair_13 rfl (by decide) (fun _ => ?_) (fun c => absurd c (by decide))
      refine aw_iconst dX7_hasPair_20 ?_
      exact aw_zreturn dX7_hasPair_21 rfl (by omega) ⟨Nat.le_refl _, Nat.le_refl _⟩ (hQ _ (by omega))
  · skip
    refine aw_if_eq (tgt := 20) dX7_hasPair_5 rfl (by decide) (fun _ => ?_) (fun c => absurd c (by decide))
    refine aw_iconst dX7_hasPair_20 ?_
    exact aw_zreturn dX7_hasPair_21 rfl (by omega) ⟨Nat.le_refl _, Nat.le_refl _⟩ (hQ _ (by omega))


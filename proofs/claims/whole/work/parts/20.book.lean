set_option maxHeartbeats 4000000 in
theorem c_X1_has {Γ : GT} {S T U V : St} {G : Gw} {nx d : Nat} {Q : QT} (hnx : 52 ≤ nx) {l : Int} (hR : Rg S) (hl : inI l) (hQ : ∀ r, (r = 1 ∧ 0 ≤ l ∧ l < S 28 0 ∨ r = 0 ∧ ¬ (0 ≤ l ∧ l < S 28 0)) → Q (some (vi r)) (hp Γ S T U V G) nx) : AM Γ MX1_has (d, 0, 0) [rf Γ 14, vi l] (hp Γ S T U V G) nx Q := by
  refine am_of (by decide) (Nat.le_of_ble_eq_true rfl) (ls := [some (rf Γ 14), some _]) rfl ?_
  have r0 := hR 28 (by decide) 0
  refine aw_iload_n dX1_has_0 rfl ?_
  refine aw_if_lt (tgt := 16) dX1_has_1 rfl (by omega) (fun c1 => ?_) (fun c1 => ?_)
  · skip
    refine aw_iconst dX1_has_16 ?_
    exact aw_zreturn dX1_has_17 rfl (by omega) ⟨Nat.le_refl _, Nat.le_refl _⟩ (hQ _ (by omega))
  · skip
    refine aw_iload_n dX1_has_4 rfl ?_
    refine aw_aload_n dX1_has_5 rfl ?_
    refine aw_getf fg_X1_42 dX1_has_6 (hc14 hnx) rfl ?_
    refine aw_icmp_ge (tgt := 16) dX1_has_9 rfl (by omega) (fun c9 => ?_) (fun c9 => ?_)
    · skip
      refine aw_iconst dX1_has_16 ?_
      exact aw_zreturn dX1_has_17 rfl (by omega) ⟨Nat.le_refl _, Nat.le_refl _⟩ (hQ _ (by omega))
    · skip
      refine aw_iconst dX1_has_12 ?_
      refine aw_goto (tgt := 17) dX1_has_13 rfl ?_
      exact aw_zreturn dX1_has_17 rfl (by omega) ⟨Nat.le_refl _, Nat.le_refl _⟩ (hQ _ (by omega))

set_option maxHeartbeats 4000000 in
theorem c_X1_isOpen {Γ : GT} {S T U V : St} {G : Gw} {nx d : Nat} {Q : QT} (hnx : 52 ≤ nx) {l : Int} (hR : Rg S) (hl : 0 ≤ l ∧ l < 60) (hQ : ∀ r, (r = 1 ∧ S 10 l = 0 ∨ r = 0 ∧ ¬ S 10 l = 0) → Q (some (vi r)) (hp Γ S T U V G) nx) : AM Γ MX1_isOpen (d, 0, 0) [rf Γ 14, vi l] (hp Γ S T U V G) nx Q := by
  refine am_of (by decide) (Nat.le_of_ble_eq_true rfl) (ls := [some (rf Γ 14), some _]) rfl ?_
  refine aw_aload_n dX1_isOpen_0 rfl ?_
  refine aw_getf fg_X1_30 dX1_isOpen_1 (hc14 hnx) rfl ?_
  refine aw_iload_n dX1_isOpen_4 rfl ?_
  refine aw_ialdr dX1_isOpen_5 (hc21 hnx) (by omega) (by decide) (hR 10 (by decide)) (fun q5 => ?_)
  refine aw_if_ne (tgt := 13) dX1_isOpen_6 rfl (by omega) (fun c6 => ?_) (fun c6 => ?_)
  · skip
    refine aw_iconst dX1_isOpen_13 ?_
    exact aw_zreturn dX1_isOpen_14 rfl (by omega) ⟨Nat.le_refl _, Nat.le_refl _⟩ (hQ _ (by omega))
  · skip
    refine aw_iconst dX1_isOpen_9 ?_
    refine aw_goto (tgt := 14) dX1_isOpen_10 rfl ?_
    exact aw_zreturn dX1_isOpen_14 rfl (by omega) ⟨Nat.le_refl _, Nat.le_refl _⟩ (hQ _ (by omega))

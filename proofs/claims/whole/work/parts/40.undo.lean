/-! taken back, forgotten -/
set_option maxHeartbeats 1000000 in
theorem c_X0_forget {Γ : GT} {S T U V : St} {G : Gw} {nx d : Nat} {Q : QT} (hnx : 52 ≤ nx)  (hQ : Q none (hp Γ S T (u0 U 17 0) V G) nx) : AM Γ MX0_forget (d, 0, 0) [rf Γ 38] (hp Γ S T U V G) nx Q := by
  refine am_of (by decide) (Nat.le_of_ble_eq_true rfl) (ls := [some (rf Γ 38)]) rfl ?_
  refine aw_aload_n dX0_forget_0 rfl ?_
  refine aw_iconst dX0_forget_1 ?_
  refine aw_putU fp_X0_26 dX0_forget_2 (hc38 hnx) (Nat.le_of_ble_eq_true rfl) hu38_17 ?_
  exact aw_return dX0_forget_5 rfl ⟨Nat.le_refl _, Nat.le_refl _⟩ hQ

set_option maxHeartbeats 1000000 in
theorem c_X0_takeBackInto {Γ : GT} {S T U V : St} {G : Gw} {nx d : Nat} {Q : QT} (hnx : 52 ≤ nx) (hR : Rg S) (ht : 0 ≤ U 16 0 ∧ U 16 0 < 10) (hm : 0 ≤ U 17 0 ∧ U 17 0 ≤ 10) (hW : U 3 ((U 16 0 + 10 - 1) % 10) < 0 ∨ ∃ j : Nat, U 3 ((U 16 0 + 10 - 1) % 10) = ((j * 29 + 52 : Nat) : Int))
    (hN : U 17 0 = 0 → Q (some (vi (-1))) (hp Γ S T U V G) nx)
    (hQ : 0 < U 17 0 → ∃ j : Nat, U 3 ((U 16 0 + 10 - 1) % 10) = ((j * 29 + 52 : Nat) : Int) ∧ j * 29 + 81 ≤ nx ∧ Rg (G j) ∧ (0 ≤ G j 28 0 ∧ G j 28 0 ≤ 60) ∧ (Rg (cpSt (G j) S) → Q (some (vi (U 17 0 - 1))) (hp Γ (cpSt (G j) S) T (u0 (u0 U 16 ((U 16 0 + 10 - 1) % 10)) 17 (U 17 0 - 1)) V G) nx)) : AM Γ MX0_takeBackInto (d + 3, 0, 0) [rf Γ 38, rf Γ 9] (hp Γ S T U V G) nx Q := by
  refine am_of (by decide) (Nat.le_of_ble_eq_true rfl) (ls := [some (rf Γ 38), some (rf Γ 9), none, none]) rfl ?_
  refine aw_aload_n dX0_takeBackInto_0 rfl ?_
  refine aw_getf fg_X0_17 dX0_takeBackInto_1 (hc38 hnx) rfl ?_
  refine aw_bipush dX0_takeBackInto_4 rfl ?_
  refine aw_iadd dX0_takeBackInto_6 ?_
  refine aw_iconst dX0_takeBackInto_7 ?_
  refine aw_isub dX0_takeBackInto_8 ?_
  refine aw_bipush dX0_takeBackInto_9 rfl ?_
  refine aw_irem dX0_takeBackInto_11 (by omega) (by omega) ?_
  refine aw_istore_n (ls' := [some (rf Γ 38), some (rf Γ 9), some _, none]) dX0_takeBackInto_12 (by decide) rfl ?_
  refine aw_aload_n dX0_takeBackInto_13 rfl ?_
  refine aw_getf fg_X0_11 dX0_takeBackInto_14 (hc38 hnx) rfl ?_
  refine aw_iload_n dX0_takeBackInto_17 rfl ?_
  by_cases h0 : U 17 0 = 0
  · rcases hW with hw | ⟨j, hw⟩
    · refine aw_aaldN dX0_takeBackInto_18 (hc39 hnx) (by omega) (by decide) hw ?_
      refine aw_astore_nN (ls' := [some (rf Γ 38), some (rf Γ 9), some _, some .null]) dX0_takeBackInto_19 (by decide) rfl ?_
      refine aw_aload_n dX0_takeBackInto_20 rfl ?_
      refine aw_getf fg_X0_26 dX0_takeBackInto_21 (hc38 hnx) rfl ?_
      refine aw_if_eq (tgt := 31) dX0_takeBackInto_24 rfl (by omega) (fun c => ?_) (fun c => absurd h0 c)
      refine aw_iconst dX0_takeBackInto_31 ?_
      exact aw_ireturn dX0_takeBackInto_32 rfl rfl ⟨Nat.le_refl _, Nat.le_refl _⟩ (hN h0)
    · refine aw_aaldR dX0_takeBackInto_18 (hc39 hnx) (by omega) (by decide) (by omega) ?_
      refine aw_astore_n (ls' := [some (rf Γ 38), some (rf Γ 9), some _, some _]) dX0_takeBackInto_19 (by decide) rfl ?_
      refine aw_aload_n dX0_takeBackInto_20 rfl ?_
      refine aw_getf fg_X0_26 dX0_takeBackInto_21 (hc38 hnx) rfl ?_
      refine aw_if_eq (tgt := 31) dX0_takeBackInto_24 rfl (by omega) (fun c => ?_) (fun c => absurd h0 c)
      refine aw_iconst dX0_takeBackInto_31 ?_
      exact aw_ireturn dX0_takeBackInto_32 rfl rfl ⟨Nat.le_refl _, Nat.le_refl _⟩ (hN h0)
  · obtain ⟨j, hw, hj, hX, hz, hq⟩ := hQ (by omega)
    refine aw_aaldR dX0_takeBackInto_18 (hc39 hnx) (by omega) (by decide) (by omega) ?_
    rw [hw, Int.toNat_natCast]
    refine aw_astore_n (ls' := [some (rf Γ 38), some (rf Γ 9), some _, some (rf Γ (j * 29 + 52 + 0))]) dX0_takeBackInto_19 (by decide) rfl ?_
    refine aw_aload_n dX0_takeBackInto_20 rfl ?_
    refine aw_getf fg_X0_26 dX0_takeBackInto_21 (hc38 hnx) rfl ?_
    refine aw_if_eq (tgt := 31) dX0_takeBackInto_24 rfl (by omega) (fun c => absurd c h0) (fun c => ?_)
    refine aw_aload_n dX0_takeBackInto_27 rfl ?_
    refine aw_ifnonnull (tgt := 33) dX0_takeBackInto_28 rfl ?_
    refine aw_aload_n dX0_takeBackInto_33 rfl ?_
    refine aw_aload_n dX0_takeBackInto_34 rfl ?_
    have eG : hp Γ S T U V G = hp Γ S T U V (gset G j (G j)) := by rw [gset_self]
    rw [eG]
    refine aw_callV (As := [_]) (ρ := (_, 0, 0)) (kn' := (0, 0)) cv_X0_22 dX0_takeBackInto_35 rfl rfl (hc9 hnx) rfl rfl (Nat.le_of_ble_eq_true rfl) (rmR _ _ _) ⟨Nat.le_refl _, Nat.le_refl _⟩ rfl (c_X7_copyFromB hnx hj hR hX hz (fun hR2 => ?_))
    rw [gset_self]
    refine aw_aload_n dX0_takeBackInto_38 rfl ?_
    refine aw_iload_n dX0_takeBackInto_39 rfl ?_
    refine aw_putU fp_X0_17 dX0_takeBackInto_40 (hc38 hnx) (Nat.le_of_ble_eq_true rfl) hu38_16 ?_
    refine aw_aload_n dX0_takeBackInto_43 rfl ?_
    refine aw_dup dX0_takeBackInto_44 rfl ?_
    refine aw_getf fg_X0_26 dX0_takeBackInto_45 (hc38 hnx) rfl ?_
    refine aw_sv (a := U 17 0) rfl ?_
    refine aw_iconst dX0_takeBackInto_48 ?_
    refine aw_isub dX0_takeBackInto_49 ?_
    refine aw_putU fp_X0_26 dX0_takeBackInto_50 (hc38 hnx) (Nat.le_of_ble_eq_true rfl) hu38_17 ?_
    refine aw_aload_n dX0_takeBackInto_53 rfl ?_
    refine aw_getf fg_X0_26 dX0_takeBackInto_54 (hc38 hnx) rfl ?_
    exact aw_ireturn dX0_takeBackInto_57 rfl rfl ⟨Nat.le_refl _, Nat.le_refl _⟩ (hq hR2)


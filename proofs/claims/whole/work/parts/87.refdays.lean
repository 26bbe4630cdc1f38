/-! the reference: days go -/
set_option maxHeartbeats 1000000 in
theorem c_X11_days {Γ : GT} {S T U V A : St} {G : Gw} {nx d : Nat} {Q : QT} (hnx : 52 ≤ nx) {n : Int} {c : Int} (hI : Inv c A) (hA : Ag A (V 0)) (hL : RgL V) (hM : 0 ≤ V 10 0 ∧ V 10 0 ≤ 10) (hn : inI n) (hN : ∀ r, r = rDays A n → r ≠ 0 → Q (some (vi r)) (hp Γ S T U V G) nx) (hQ : rDays A n = 0 → ∀ V2, KP V V2 → Ag (daysS A n.toNat) (V2 0) → Q (some (vi (daysN A n.toNat))) (hp Γ S T U V2 G) nx) : AM Γ MX11_days (d + 6, 0, 0) [rf Γ 43, vi n] (hp Γ S T U V G) nx Q := by
  refine am_of (by decide) (Nat.le_of_ble_eq_true rfl) (ls := [some (rf Γ 43), some _, none, none]) rfl ?_
  have hR := hI.R
  have i1 := hI.i1
  have hz : 0 ≤ A 28 0 ∧ A 28 0 ≤ 60 := i1.2.2.1
  have hkS : nS A = (A 28 0).toNat := rfl
  have hkI : nIm A = (A 27 0).toNat := rfl
  have hkO : nOr A = (A 26 0).toNat := rfl
  have hb := hI.bd
  refine aw_aload_n dX11_days_0 rfl ?_
  refine aw_callV (As := []) (ρ := (_, 0, 0)) (kn' := (0, 0)) cv_X11_286 dX11_days_1 rfl rfl (hc43 hnx) rfl rfl (Nat.le_of_ble_eq_true rfl) (rmR _ _ _) ⟨Nat.le_refl _, Nat.le_refl _⟩ rfl (c_X11_hasScheme hnx hI hA hL (fun r1 h1 => ?_))
  rcases h1 with ⟨rfl, h1⟩ | ⟨rfl, h1⟩
  · skip
    refine aw_if_eq (tgt := 19) dX11_days_4 rfl (by decide) (fun c => absurd c (by decide)) (fun _ => ?_)
    refine aw_iload_n dX11_days_7 rfl ?_
    refine aw_i2l dX11_days_8 (by omega) ?_
    refine aw_lconst1 dX11_days_9 ?_
    refine aw_ldc2 dX11_days_10 qk_X11_212 ?_
    refine aw_st (st' := vl 90 :: _) rfl ?_
    refine aw_callS (As := [_, _, _]) (ρ := (_, 0, 0)) (kn' := (0, 0)) cs_X11_51 dX11_days_13 rfl rfl (Nat.le_of_ble_eq_true rfl) (rmR _ _ _) ⟨Nat.le_refl _, Nat.le_refl _⟩ rfl (c_X11_in hnx (by omega) (fun r13 h13 => ?_))
    rcases h13 with ⟨rfl, h13⟩ | ⟨rfl, h13⟩
    · skip
      refine aw_if_ne (tgt := 21) dX11_days_16 rfl (by decide) (fun _ => ?_) (fun c => absurd c (by decide))
      refine aw_aload_n dX11_days_21 rfl ?_
      refine aw_getf fg_X11_9 dX11_days_22 (hc43 hnx) rfl ?_
      refine aw_bipush dX11_days_25 rfl ?_
      refine aw_rdA (f := 25) (i := 0) (v := A 25 0) dX11_days_27 hnx hL hA hb (un_25) (by show _ = (9 : Int); omega) (rfl) (fun q27 => ?_)
      refine aw_iload_n dX11_days_28 rfl ?_
      refine aw_i2l dX11_days_29 (by omega) ?_
      refine aw_ladd dX11_days_30 ?_
      refine aw_ldc2 dX11_days_31 qk_X11_289 ?_
      refine aw_st (st' := vl 3600 :: _) rfl ?_
      refine aw_lif_le (tgt := 41) dX11_days_34 dX11_days_35 rfl (by omega) (fun c34 => ?_) (fun c34 => ?_)
      · skip
        have acc : rDays A n = 0 := by simp only [rDays]; (repeat' split) <;> omega
        refine aw_aload_n dX11_days_41 rfl ?_
        refine aw_callV (As := []) (ρ := (_, 0, 0)) (kn' := (0, 0)) cv_X11_242 dX11_days_42 rfl rfl (hc43 hnx) rfl rfl (Nat.le_of_ble_eq_true rfl) (rmR _ _ _) ⟨Nat.le_refl _, Nat.le_refl _⟩ rfl (c_X11_keepsPast hnx hL (by omega) (fun V42 hK hV42 => ?_))
        have hX : VX V42 V42 := VX.rfl
        replace hL := hK.2.1
        replace hA : Ag A (V42 0) := by rw [hV42]; exact hA
        refine aw_iconst dX11_days_45 ?_
        refine aw_istore_n (ls' := [some (rf Γ 43), some _, some _, none]) dX11_days_46 (by decide) rfl ?_
        refine aw_iconst dX11_days_47 ?_
        refine aw_istore_n (ls' := [some (rf Γ 43), some _, some _, some _]) dX11_days_48 (by decide) rfl ?_
        refine loopN (n.toNat) (P := fun k => ∀ (x : Int) (W : St), x = daysN A k → VX V42 W → RgL W → Ag (daysS A k) (W 0) →  AW Γ MX11_days _ _ (0, 0) 49 [some (rf Γ 43), some (vi n), some (vi x), some (vi (k : Int))] [] (hp Γ S T U W G) nx) (fun k hk ih => ?_) 0 (Nat.zero_le _) _ V42 rfl hX hL hA
        intro x W i49_0 i49_1 i49_2 i49_3
        refine aw_iload_n dX11_days_49 rfl ?_
        refine aw_iload_n dX11_days_50 rfl ?_
        refine aw_icmp_ge (tgt := 67) dX11_days_51 rfl (by omega) (fun c51 => ?_) (fun c51 => ?_)
        · skip
          obtain rfl : k = n.toNat := by omega
          subst i49_0
          refine aw_iload_n dX11_days_67 rfl ?_
          exact aw_ireturn dX11_days_68 rfl rfl ⟨Nat.le_refl _, Nat.le_refl _⟩ (hQ acc _ (hK.vx i49_1 i49_2) i49_3)
        · skip
          have hD := hI.days (by omega) k (by omega)
          have hI2 := hD.1
          refine aw_iload_n dX11_days_54 rfl ?_
          refine aw_aload_n dX11_days_55 rfl ?_
          refine aw_callV (As := []) (ρ := (_, 0, 0)) (kn' := (0, 0)) cv_X11_291 dX11_days_56 rfl rfl (hc43 hnx) rfl rfl (Nat.le_of_ble_eq_true rfl) (rmR _ _ _) ⟨Nat.le_refl _, Nat.le_refl _⟩ rfl (c_X11_dayGoes hnx hI2 i49_3 i49_2 (by omega) (by omega) (fun r56 V56 h56 hX56 hL56 hA56 => ?_))
          refine aw_iadd dX11_days_59 ?_
          refine aw_nmI (fun x2_60 hx2_60 => ?_)
          refine aw_istore_n (ls' := [some (rf Γ 43), some _, some _, some _]) dX11_days_60 (by decide) rfl ?_
          refine aw_iinc (ls' := [some (rf Γ 43), some _, some _, some _]) dX11_days_61 rfl (by decide) rfl ?_
          refine aw_goto (tgt := 49) dX11_days_64 rfl ?_
          exact ih (by omega) x2_60 V56 (by subst i49_0; subst hx2_60; subst h56; rfl) (i49_1.trans hX56) hL56 hA56
      · skip
        refine aw_bipush dX11_days_38 rfl ?_
        exact aw_ireturn dX11_days_40 rfl rfl ⟨Nat.le_refl _, Nat.le_refl _⟩ (hN _ (by simp only [rDays]; (repeat' split) <;> omega) (by omega))
    · skip
      refine aw_if_ne (tgt := 21) dX11_days_16 rfl (by decide) (fun c => absurd c (by decide)) (fun _ => ?_)
      refine aw_iconst dX11_days_19 ?_
      exact aw_ireturn dX11_days_20 rfl rfl ⟨Nat.le_refl _, Nat.le_refl _⟩ (hN _ (by simp only [rDays]; (repeat' split) <;> omega) (by omega))
  · skip
    refine aw_if_eq (tgt := 19) dX11_days_4 rfl (by decide) (fun _ => ?_) (fun c => absurd c (by decide))
    refine aw_iconst dX11_days_19 ?_
    exact aw_ireturn dX11_days_20 rfl rfl ⟨Nat.le_refl _, Nat.le_refl _⟩ (hN _ (by simp only [rDays]; (repeat' split) <;> omega) (by omega))


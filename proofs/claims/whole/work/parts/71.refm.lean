/-! the reference: acts -/
set_option maxHeartbeats 1000000 in
theorem c_X11_isOpen_m {Γ : GT} {S T U V A : St} {G : Gw} {nx d : Nat} {Q : QT} (hnx : 52 ≤ nx) {l : Int} (hA : Ag A (V 0)) (hb : bd A) (hL : RgL V) (hl : 0 ≤ l ∧ l < A 28 0) (h10 : inI (A 10 l)) (hQ : ∀ r, (r = 1 ∧ (A 10 l = 0) ∨ r = 0 ∧ ¬ (A 10 l = 0)) → Q (some (vi r)) (hp Γ S T U V G) nx) : AM Γ MX11_isOpen (d + 2, 0, 0) [rf Γ 43, vi l] (hp Γ S T U V G) nx Q := by
  refine am_of (by decide) (Nat.le_of_ble_eq_true rfl) (ls := [some (rf Γ 43), some _]) rfl ?_
  obtain ⟨b1, b2, b3, b4⟩ := id hb
  refine aw_aload_n dX11_isOpen_0 rfl ?_
  refine aw_iload_n dX11_isOpen_1 rfl ?_
  refine aw_iconst dX11_isOpen_2 ?_
  refine aw_callV (As := [_, _]) (ρ := (_, 0, 0)) (kn' := (0, 0)) cv_X11_196 dX11_isOpen_3 rfl rfl (hc43 hnx) rfl rfl (Nat.le_of_ble_eq_true rfl) (rmR _ _ _) ⟨Nat.le_refl _, Nat.le_refl _⟩ rfl (c_X11_ofLicence hnx hL (by omega) (by omega) (fun r3 h3 => ?_))
  replace h3 := h3.trans (hA.l10 hl)
  refine aw_if_ne (tgt := 13) dX11_isOpen_6 rfl (by omega) (fun c6 => ?_) (fun c6 => ?_)
  · skip
    refine aw_iconst dX11_isOpen_13 ?_
    exact aw_zreturn dX11_isOpen_14 rfl (by omega) ⟨Nat.le_refl _, Nat.le_refl _⟩ (hQ _ (by omega))
  · skip
    refine aw_iconst dX11_isOpen_9 ?_
    refine aw_goto (tgt := 14) dX11_isOpen_10 rfl ?_
    exact aw_zreturn dX11_isOpen_14 rfl (by omega) ⟨Nat.le_refl _, Nat.le_refl _⟩ (hQ _ (by omega))

set_option maxHeartbeats 1000000 in
theorem c_X11_leftOf_m {Γ : GT} {S T U V A : St} {G : Gw} {nx d : Nat} {Q : QT} (hnx : 52 ≤ nx) {l : Int} (hA : Ag A (V 0)) (hb : bd A) (hL : RgL V) (hl : 0 ≤ l ∧ l < A 28 0) (h10 : inI (A 10 l)) (hQ : ∀ r, r = rem A l → Q (some (vi r)) (hp Γ S T U V G) nx) : AM Γ MX11_leftOf (d + 3, 0, 0) [rf Γ 43, vi l] (hp Γ S T U V G) nx Q := by
  refine am_of (by decide) (Nat.le_of_ble_eq_true rfl) (ls := [some (rf Γ 43), some _]) rfl ?_
  obtain ⟨b1, b2, b3, b4⟩ := id hb
  refine aw_aload_n dX11_leftOf_0 rfl ?_
  refine aw_iload_n dX11_leftOf_1 rfl ?_
  refine aw_callV (As := [_]) (ρ := (_, 0, 0)) (kn' := (0, 0)) cv_X11_199 dX11_leftOf_2 rfl rfl (hc43 hnx) rfl rfl (Nat.le_of_ble_eq_true rfl) (rmR _ _ _) ⟨Nat.le_refl _, Nat.le_refl _⟩ rfl (c_X11_isOpen_m hnx hA hb hL hl h10 (fun r2 h2 => ?_))
  rcases h2 with ⟨rfl, h2⟩ | ⟨rfl, h2⟩
  · skip
    refine aw_if_eq (tgt := 24) dX11_leftOf_5 rfl (by decide) (fun c => absurd c (by decide)) (fun _ => ?_)
    refine aw_aload_n dX11_leftOf_8 rfl ?_
    refine aw_iload_n dX11_leftOf_9 rfl ?_
    refine aw_iconst dX11_leftOf_10 ?_
    refine aw_callV (As := [_, _]) (ρ := (_, 0, 0)) (kn' := (0, 0)) cv_X11_196 dX11_leftOf_11 rfl rfl (hc43 hnx) rfl rfl (Nat.le_of_ble_eq_true rfl) (rmR _ _ _) ⟨Nat.le_refl _, Nat.le_refl _⟩ rfl (c_X11_ofLicence hnx hL (by omega) (by omega) (fun r11 h11 => ?_))
    replace h11 := h11.trans (hA.l6 hl)
    refine aw_aload_n dX11_leftOf_14 rfl ?_
    refine aw_iload_n dX11_leftOf_15 rfl ?_
    refine aw_iconst dX11_leftOf_16 ?_
    refine aw_callV (As := [_, _]) (ρ := (_, 0, 0)) (kn' := (0, 0)) cv_X11_196 dX11_leftOf_17 rfl rfl (hc43 hnx) rfl rfl (Nat.le_of_ble_eq_true rfl) (rmR _ _ _) ⟨Nat.le_refl _, Nat.le_refl _⟩ rfl (c_X11_ofLicence hnx hL (by omega) (by omega) (fun r17 h17 => ?_))
    replace h17 := h17.trans (hA.l9 hl)
    refine aw_isub dX11_leftOf_20 ?_
    refine aw_goto (tgt := 25) dX11_leftOf_21 rfl ?_
    exact aw_ireturn dX11_leftOf_25 rfl rfl ⟨Nat.le_refl _, Nat.le_refl _⟩ (hQ _ (by simp only [rem]; split <;> omega))
  · skip
    refine aw_if_eq (tgt := 24) dX11_leftOf_5 rfl (by decide) (fun _ => ?_) (fun c => absurd c (by decide))
    refine aw_iconst dX11_leftOf_24 ?_
    exact aw_ireturn dX11_leftOf_25 rfl rfl ⟨Nat.le_refl _, Nat.le_refl _⟩ (hQ _ (by simp only [rem]; split <;> omega))

set_option maxHeartbeats 1000000 in
theorem c_X11_isOfThisPeriod_m {Γ : GT} {S T U V A : St} {G : Gw} {nx d : Nat} {Q : QT} (hnx : 52 ≤ nx) {l : Int} (hA : Ag A (V 0)) (hb : bd A) (hL : RgL V) (hl : 0 ≤ l ∧ l < A 28 0) (h7 : 0 ≤ A 7 l ∧ A 7 l ≤ 3600) (h25 : 0 ≤ A 25 0 ∧ A 25 0 ≤ 3600) (hQ : ∀ r, (r = 1 ∧ (A 7 l / 90 = A 25 0 / 90) ∨ r = 0 ∧ ¬ (A 7 l / 90 = A 25 0 / 90)) → Q (some (vi r)) (hp Γ S T U V G) nx) : AM Γ MX11_isOfThisPeriod (d + 1, 0, 0) [rf Γ 43, vi l] (hp Γ S T U V G) nx Q := by
  refine am_of (by decide) (Nat.le_of_ble_eq_true rfl) (ls := [some (rf Γ 43), some _]) rfl ?_
  obtain ⟨b1, b2, b3, b4⟩ := id hb
  refine aw_aload_n dX11_isOfThisPeriod_0 rfl ?_
  refine aw_getf fg_X11_9 dX11_isOfThisPeriod_1 (hc43 hnx) rfl ?_
  refine aw_iload_n dX11_isOfThisPeriod_4 rfl ?_
  refine aw_iconst dX11_isOfThisPeriod_5 ?_
  refine aw_callS (As := [_, _]) (ρ := (_, 0, 0)) (kn' := (0, 0)) cs_X11_48 dX11_isOfThisPeriod_6 rfl rfl (Nat.le_of_ble_eq_true rfl) (rmR _ _ _) ⟨Nat.le_refl _, Nat.le_refl _⟩ rfl (c_X11_licenceAt hnx  (fun r6 h6 => ?_))
  refine aw_rdA (f := 7) (i := l) (v := A 7 l) dX11_isOfThisPeriod_9 hnx hL hA hb (un_7 hl) (by show _ = 456 + 10 * (l) + 3; omega) (rfl) (fun q9 => ?_)
  refine aw_ldc2 dX11_isOfThisPeriod_10 qk_X11_212 ?_
  refine aw_st (st' := vl 90 :: _) rfl ?_
  refine aw_ldiv dX11_isOfThisPeriod_13 (by omega) (by omega) ?_
  refine aw_aload_n dX11_isOfThisPeriod_14 rfl ?_
  refine aw_getf fg_X11_9 dX11_isOfThisPeriod_15 (hc43 hnx) rfl ?_
  refine aw_bipush dX11_isOfThisPeriod_18 rfl ?_
  refine aw_rdA (f := 25) (i := 0) (v := A 25 0) dX11_isOfThisPeriod_20 hnx hL hA hb (un_25) (by show _ = (9 : Int); omega) (rfl) (fun q20 => ?_)
  refine aw_ldc2 dX11_isOfThisPeriod_21 qk_X11_212 ?_
  refine aw_st (st' := vl 90 :: _) rfl ?_
  refine aw_ldiv dX11_isOfThisPeriod_24 (by omega) (by omega) ?_
  refine aw_lif_ne (tgt := 33) dX11_isOfThisPeriod_25 dX11_isOfThisPeriod_26 rfl (by omega) (fun c25 => ?_) (fun c25 => ?_)
  · skip
    refine aw_iconst dX11_isOfThisPeriod_33 ?_
    exact aw_zreturn dX11_isOfThisPeriod_34 rfl (by omega) ⟨Nat.le_refl _, Nat.le_refl _⟩ (hQ _ (by omega))
  · skip
    refine aw_iconst dX11_isOfThisPeriod_29 ?_
    refine aw_goto (tgt := 34) dX11_isOfThisPeriod_30 rfl ?_
    exact aw_zreturn dX11_isOfThisPeriod_34 rfl (by omega) ⟨Nat.le_refl _, Nat.le_refl _⟩ (hQ _ (by omega))

set_option maxHeartbeats 1000000 in
theorem c_X11_ends {Γ : GT} {S T U V A : St} {G : Gw} {nx d : Nat} {Q : QT} (hnx : 52 ≤ nx) {l h : Int} (hA : Ag A (V 0)) (hb : bd A) (hL : RgL V) (hl : 0 ≤ l ∧ l < A 28 0) (hh : 1 ≤ h ∧ h ≤ 3) (hQ : ∀ V2, VX V V2 → RgL V2 → Ag (closeS A l h (A 25 0)) (V2 0) → Q none (hp Γ S T U V2 G) nx) : AM Γ MX11_ends (d + 1, 0, 0) [rf Γ 43, vi l, vi h] (hp Γ S T U V G) nx Q := by
  refine am_of (by decide) (Nat.le_of_ble_eq_true rfl) (ls := [some (rf Γ 43), some _, some _]) rfl ?_
  obtain ⟨b1, b2, b3, b4⟩ := id hb
  have hL0 := hL
  refine aw_aload_n dX11_ends_0 rfl ?_
  refine aw_getf fg_X11_9 dX11_ends_1 (hc43 hnx) rfl ?_
  refine aw_iload_n dX11_ends_4 rfl ?_
  refine aw_iconst dX11_ends_5 ?_
  refine aw_callS (As := [_, _]) (ρ := (_, 0, 0)) (kn' := (0, 0)) cs_X11_48 dX11_ends_6 rfl rfl (Nat.le_of_ble_eq_true rfl) (rmR _ _ _) ⟨Nat.le_refl _, Nat.le_refl _⟩ rfl (c_X11_licenceAt hnx  (fun r6 h6 => ?_))
  subst h6
  refine aw_iload_n dX11_ends_9 rfl ?_
  refine aw_i2l dX11_ends_10 (by omega) ?_
  refine aw_lastV dX11_ends_11 (hc44 hnx) (by omega) (by decide) hL (by omega) (fun _ => hu44) (fun hL => ?_)
  refine aw_aload_n dX11_ends_12 rfl ?_
  refine aw_getf fg_X11_9 dX11_ends_13 (hc43 hnx) rfl ?_
  refine aw_iload_n dX11_ends_16 rfl ?_
  refine aw_bipush dX11_ends_17 rfl ?_
  refine aw_callS (As := [_, _]) (ρ := (_, 0, 0)) (kn' := (0, 0)) cs_X11_48 dX11_ends_19 rfl rfl (Nat.le_of_ble_eq_true rfl) (rmR _ _ _) ⟨Nat.le_refl _, Nat.le_refl _⟩ rfl (c_X11_licenceAt hnx  (fun r19 h19 => ?_))
  subst h19
  refine aw_aload_n dX11_ends_22 rfl ?_
  refine aw_getf fg_X11_9 dX11_ends_23 (hc43 hnx) rfl ?_
  refine aw_bipush dX11_ends_26 rfl ?_
  refine aw_laldr dX11_ends_28 (hc44 hnx) (by omega) (by decide) (hL 0) (fun q28 => ?_)
  refine aw_svl (a := A 25 0) ((by unfold u1; rw [sset_eq, uz_n _ _ (by omega)]; exact hA.c9.symm)) ?_
  have r25 : inL (A 25 0) := by rw [← hA.c9]; exact hL0 0 9
  refine aw_lastV dX11_ends_29 (hc44 hnx) (by omega) (by decide) hL (by omega) (fun _ => hu44) (fun hL => ?_)
  exact aw_return dX11_ends_30 rfl ⟨Nat.le_refl _, Nat.le_refl _⟩ (hQ _ (fun f hf => by unfold u1; rw [sset_ne _ _ hf, sset_ne _ _ hf]) hL (hA.close hb hl (by omega)))

set_option maxHeartbeats 1000000 in
theorem c_X11_newLicence {Γ : GT} {S T U V A : St} {G : Gw} {nx d : Nat} {Q : QT} (hnx : 52 ≤ nx) {i o n t last g : Int} (hA : Ag A (V 0)) (hb : bd A) (hL : RgL V) (hm : A 28 0 < 60) (hr : inI i ∧ inI o ∧ inI n ∧ inL t ∧ inL last ∧ inI g) (hQ : ∀ V2, VX V V2 → RgL V2 → Ag (issS A i o n t last g) (V2 0) → Q (some (vi (A 28 0))) (hp Γ S T U V2 G) nx) : AM Γ MX11_newLicence (d + 1, 0, 0) [rf Γ 43, vi i, vi o, vi n, vl t, vl last, vi g] (hp Γ S T U V G) nx Q := by
  refine am_of (by decide) (Nat.le_of_ble_eq_true rfl) (ls := [some (rf Γ 43), some _, some _, some _, some _, none, some _, none, some _, none]) rfl ?_
  obtain ⟨b1, b2, b3, b4⟩ := id hb
  refine aw_aload_n dX11_newLicence_0 rfl ?_
  refine aw_bipush dX11_newLicence_1 rfl ?_
  refine aw_callV (As := [_]) (ρ := (_, 0, 0)) (kn' := (0, 0)) cv_X11_164 dX11_newLicence_3 rfl rfl (hc43 hnx) rfl rfl (Nat.le_of_ble_eq_true rfl) (rmR _ _ _) ⟨Nat.le_refl _, Nat.le_refl _⟩ rfl (c_X11_many hnx hL (by omega) (fun r3 h3 => ?_))
  obtain rfl : r3 = A 28 0 := h3.trans hA.c8
  refine aw_istore (ls' := [some (rf Γ 43), some _, some _, some _, some _, none, some _, none, some _, some _]) dX11_newLicence_6 (by decide) rfl ?_
  refine aw_aload_n dX11_newLicence_8 rfl ?_
  refine aw_getf fg_X11_9 dX11_newLicence_9 (hc43 hnx) rfl ?_
  refine aw_iload dX11_newLicence_12 rfl ?_
  refine aw_iconst dX11_newLicence_14 ?_
  refine aw_callS (As := [_, _]) (ρ := (_, 0, 0)) (kn' := (0, 0)) cs_X11_48 dX11_newLicence_15 rfl rfl (Nat.le_of_ble_eq_true rfl) (rmR _ _ _) ⟨Nat.le_refl _, Nat.le_refl _⟩ rfl (c_X11_licenceAt hnx  (fun r15 h15 => ?_))
  subst h15
  refine aw_iload_n dX11_newLicence_18 rfl ?_
  refine aw_i2l dX11_newLicence_19 (by omega) ?_
  refine aw_lastV dX11_newLicence_20 (hc44 hnx) (by omega) (by decide) hL (by omega) (fun _ => hu44) (fun hL => ?_)
  refine aw_aload_n dX11_newLicence_21 rfl ?_
  refine aw_getf fg_X11_9 dX11_newLicence_22 (hc43 hnx) rfl ?_
  refine aw_iload dX11_newLicence_25 rfl ?_
  refine aw_iconst dX11_newLicence_27 ?_
  refine aw_callS (As := [_, _]) (ρ := (_, 0, 0)) (kn' := (0, 0)) cs_X11_48 dX11_newLicence_28 rfl rfl (Nat.le_of_ble_eq_true rfl) (rmR _ _ _) ⟨Nat.le_refl _, Nat.le_refl _⟩ rfl (c_X11_licenceAt hnx  (fun r28 h28 => ?_))
  subst h28
  refine aw_iload_n dX11_newLicence_31 rfl ?_
  refine aw_i2l dX11_newLicence_32 (by omega) ?_
  refine aw_lastV dX11_newLicence_33 (hc44 hnx) (by omega) (by decide) hL (by omega) (fun _ => hu44) (fun hL => ?_)
  refine aw_aload_n dX11_newLicence_34 rfl ?_
  refine aw_getf fg_X11_9 dX11_newLicence_35 (hc43 hnx) rfl ?_
  refine aw_iload dX11_newLicence_38 rfl ?_
  refine aw_iconst dX11_newLicence_40 ?_
  refine aw_callS (As := [_, _]) (ρ := (_, 0, 0)) (kn' := (0, 0)) cs_X11_48 dX11_newLicence_41 rfl rfl (Nat.le_of_ble_eq_true rfl) (rmR _ _ _) ⟨Nat.le_refl _, Nat.le_refl _⟩ rfl (c_X11_licenceAt hnx  (fun r41 h41 => ?_))
  subst h41
  refine aw_iload_n dX11_newLicence_44 rfl ?_
  refine aw_i2l dX11_newLicence_45 (by omega) ?_
  refine aw_lastV dX11_newLicence_46 (hc44 hnx) (by omega) (by decide) hL (by omega) (fun _ => hu44) (fun hL => ?_)
  refine aw_aload_n dX11_newLicence_47 rfl ?_
  refine aw_getf fg_X11_9 dX11_newLicence_48 (hc43 hnx) rfl ?_
  refine aw_iload dX11_newLicence_51 rfl ?_
  refine aw_iconst dX11_newLicence_53 ?_
  refine aw_callS (As := [_, _]) (ρ := (_, 0, 0)) (kn' := (0, 0)) cs_X11_48 dX11_newLicence_54 rfl rfl (Nat.le_of_ble_eq_true rfl) (rmR _ _ _) ⟨Nat.le_refl _, Nat.le_refl _⟩ rfl (c_X11_licenceAt hnx  (fun r54 h54 => ?_))
  subst h54
  refine aw_lload dX11_newLicence_57 rfl ?_
  refine aw_lastV dX11_newLicence_59 (hc44 hnx) (by omega) (by decide) hL (by omega) (fun _ => hu44) (fun hL => ?_)
  refine aw_aload_n dX11_newLicence_60 rfl ?_
  refine aw_getf fg_X11_9 dX11_newLicence_61 (hc43 hnx) rfl ?_
  refine aw_iload dX11_newLicence_64 rfl ?_
  refine aw_iconst dX11_newLicence_66 ?_
  refine aw_callS (As := [_, _]) (ρ := (_, 0, 0)) (kn' := (0, 0)) cs_X11_48 dX11_newLicence_67 rfl rfl (Nat.le_of_ble_eq_true rfl) (rmR _ _ _) ⟨Nat.le_refl _, Nat.le_refl _⟩ rfl (c_X11_licenceAt hnx  (fun r67 h67 => ?_))
  subst h67
  refine aw_lconst0 dX11_newLicence_70 ?_
  refine aw_lastV dX11_newLicence_71 (hc44 hnx) (by omega) (by decide) hL (by omega) (fun _ => hu44) (fun hL => ?_)
  refine aw_aload_n dX11_newLicence_72 rfl ?_
  refine aw_getf fg_X11_9 dX11_newLicence_73 (hc43 hnx) rfl ?_
  refine aw_iload dX11_newLicence_76 rfl ?_
  refine aw_iconst dX11_newLicence_78 ?_
  refine aw_callS (As := [_, _]) (ρ := (_, 0, 0)) (kn' := (0, 0)) cs_X11_48 dX11_newLicence_79 rfl rfl (Nat.le_of_ble_eq_true rfl) (rmR _ _ _) ⟨Nat.le_refl _, Nat.le_refl _⟩ rfl (c_X11_licenceAt hnx  (fun r79 h79 => ?_))
  subst h79
  refine aw_lconst0 dX11_newLicence_82 ?_
  refine aw_lastV dX11_newLicence_83 (hc44 hnx) (by omega) (by decide) hL (by omega) (fun _ => hu44) (fun hL => ?_)
  refine aw_aload_n dX11_newLicence_84 rfl ?_
  refine aw_getf fg_X11_9 dX11_newLicence_85 (hc43 hnx) rfl ?_
  refine aw_iload dX11_newLicence_88 rfl ?_
  refine aw_bipush dX11_newLicence_90 rfl ?_
  refine aw_callS (As := [_, _]) (ρ := (_, 0, 0)) (kn' := (0, 0)) cs_X11_48 dX11_newLicence_92 rfl rfl (Nat.le_of_ble_eq_true rfl) (rmR _ _ _) ⟨Nat.le_refl _, Nat.le_refl _⟩ rfl (c_X11_licenceAt hnx  (fun r92 h92 => ?_))
  subst h92
  refine aw_lload dX11_newLicence_95 rfl ?_
  refine aw_lastV dX11_newLicence_97 (hc44 hnx) (by omega) (by decide) hL (by omega) (fun _ => hu44) (fun hL => ?_)
  refine aw_aload_n dX11_newLicence_98 rfl ?_
  refine aw_getf fg_X11_9 dX11_newLicence_99 (hc43 hnx) rfl ?_
  refine aw_iload dX11_newLicence_102 rfl ?_
  refine aw_bipush dX11_newLicence_104 rfl ?_
  refine aw_callS (As := [_, _]) (ρ := (_, 0, 0)) (kn' := (0, 0)) cs_X11_48 dX11_newLicence_106 rfl rfl (Nat.le_of_ble_eq_true rfl) (rmR _ _ _) ⟨Nat.le_refl _, Nat.le_refl _⟩ rfl (c_X11_licenceAt hnx  (fun r106 h106 => ?_))
  subst h106
  refine aw_lconst0 dX11_newLicence_109 ?_
  refine aw_lastV dX11_newLicence_110 (hc44 hnx) (by omega) (by decide) hL (by omega) (fun _ => hu44) (fun hL => ?_)
  refine aw_aload_n dX11_newLicence_111 rfl ?_
  refine aw_getf fg_X11_9 dX11_newLicence_112 (hc43 hnx) rfl ?_
  refine aw_iload dX11_newLicence_115 rfl ?_
  refine aw_bipush dX11_newLicence_117 rfl ?_
  refine aw_callS (As := [_, _]) (ρ := (_, 0, 0)) (kn' := (0, 0)) cs_X11_48 dX11_newLicence_119 rfl rfl (Nat.le_of_ble_eq_true rfl) (rmR _ _ _) ⟨Nat.le_refl _, Nat.le_refl _⟩ rfl (c_X11_licenceAt hnx  (fun r119 h119 => ?_))
  subst h119
  refine aw_iload dX11_newLicence_122 rfl ?_
  refine aw_i2l dX11_newLicence_124 (by omega) ?_
  refine aw_lastV dX11_newLicence_125 (hc44 hnx) (by omega) (by decide) hL (by omega) (fun _ => hu44) (fun hL => ?_)
  refine aw_aload_n dX11_newLicence_126 rfl ?_
  refine aw_getf fg_X11_9 dX11_newLicence_127 (hc43 hnx) rfl ?_
  refine aw_iload dX11_newLicence_130 rfl ?_
  refine aw_bipush dX11_newLicence_132 rfl ?_
  refine aw_callS (As := [_, _]) (ρ := (_, 0, 0)) (kn' := (0, 0)) cs_X11_48 dX11_newLicence_134 rfl rfl (Nat.le_of_ble_eq_true rfl) (rmR _ _ _) ⟨Nat.le_refl _, Nat.le_refl _⟩ rfl (c_X11_licenceAt hnx  (fun r134 h134 => ?_))
  subst h134
  refine aw_lconst0 dX11_newLicence_137 ?_
  refine aw_lastV dX11_newLicence_138 (hc44 hnx) (by omega) (by decide) hL (by omega) (fun _ => hu44) (fun hL => ?_)
  refine aw_aload_n dX11_newLicence_139 rfl ?_
  refine aw_getf fg_X11_9 dX11_newLicence_140 (hc43 hnx) rfl ?_
  refine aw_bipush dX11_newLicence_143 rfl ?_
  refine aw_dup2_11 dX11_newLicence_145 rfl rfl ?_
  refine aw_laldr dX11_newLicence_146 (hc44 hnx) (by omega) (by decide) (hL 0) (fun q146 => ?_)
  refine aw_svl (a := A 28 0) ((by unfold u1; simp only [sset_eq]; (iterate 10 rw [uz_n _ _ (by omega)]); exact hA.c8.symm)) ?_
  refine aw_lconst1 dX11_newLicence_147 ?_
  refine aw_ladd dX11_newLicence_148 ?_
  refine aw_lastV dX11_newLicence_149 (hc44 hnx) (by omega) (by decide) hL (by omega) (fun _ => hu44) (fun hL => ?_)
  refine aw_iload dX11_newLicence_150 rfl ?_
  exact aw_ireturn dX11_newLicence_152 rfl rfl ⟨Nat.le_refl _, Nat.le_refl _⟩ (hQ _ (fun f hf => by unfold u1; iterate 11 rw [sset_ne _ _ hf]) hL (hA.iss hb i o n t last g hm))


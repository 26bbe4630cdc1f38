/-! the reference: readers at the turn of a period -/
set_option maxHeartbeats 1000000 in
theorem c_X11_importedOf_m {Γ : GT} {S T U V A : St} {G : Gw} {nx d : Nat} {Q : QT} (hnx : 52 ≤ nx) {i a : Int} (hA : Ag A (V 0)) (hb : bd A) (hL : RgL V) (hR : Rg A) (hi : 0 ≤ i ∧ i < A 27 0) (ha : 0 ≤ a ∧ a < A 26 0)  (hQ : ∀ r, r = old A (4 * i + a) → Q (some (vl r)) (hp Γ S T U V G) nx) : AM Γ MX11_importedOf (d + 1, 0, 0) [rf Γ 43, vi i, vi a] (hp Γ S T U V G) nx Q := by
  refine am_of (by decide) (Nat.le_of_ble_eq_true rfl) (ls := [some (rf Γ 43), some _, some _]) rfl ?_
  obtain ⟨b1, b2, b3, b4⟩ := id hb
  have hkI : nIm A = (A 27 0).toNat := rfl
  have hkO : nOr A = (A 26 0).toNat := rfl
  refine aw_aload_n dX11_importedOf_0 rfl ?_
  refine aw_getf fg_X11_9 dX11_importedOf_1 (hc43 hnx) rfl ?_
  refine aw_iload_n dX11_importedOf_4 rfl ?_
  refine aw_iload_n dX11_importedOf_5 rfl ?_
  refine aw_iconst dX11_importedOf_6 ?_
  refine aw_callS (As := [_, _, _]) (ρ := (_, 0, 0)) (kn' := (0, 0)) cs_X11_44 dX11_importedOf_7 rfl rfl (Nat.le_of_ble_eq_true rfl) (rmR _ _ _) ⟨Nat.le_refl _, Nat.le_refl _⟩ rfl (c_X11_pairAt hnx  (fun r7 h7 => ?_))
  subst h7
  refine aw_laldr dX11_importedOf_10 (hc44 hnx) (by omega) (by decide) (hL 0) (fun q10 => ?_)
  refine aw_svl (a := A 2 ((4 * i + a) * 3 + 0)) ((hA.p2 hi ha (by omega) (by omega)).symm) ?_
  refine aw_aload_n dX11_importedOf_11 rfl ?_
  refine aw_getf fg_X11_9 dX11_importedOf_12 (hc43 hnx) rfl ?_
  refine aw_iload_n dX11_importedOf_15 rfl ?_
  refine aw_iload_n dX11_importedOf_16 rfl ?_
  refine aw_iconst dX11_importedOf_17 ?_
  refine aw_callS (As := [_, _, _]) (ρ := (_, 0, 0)) (kn' := (0, 0)) cs_X11_44 dX11_importedOf_18 rfl rfl (Nat.le_of_ble_eq_true rfl) (rmR _ _ _) ⟨Nat.le_refl _, Nat.le_refl _⟩ rfl (c_X11_pairAt hnx  (fun r18 h18 => ?_))
  subst h18
  refine aw_laldr dX11_importedOf_21 (hc44 hnx) (by omega) (by decide) (hL 0) (fun q21 => ?_)
  refine aw_svl (a := A 2 ((4 * i + a) * 3 + 1)) ((hA.p2 hi ha (by omega) (by omega)).symm) ?_
  refine aw_ladd dX11_importedOf_22 ?_
  refine aw_aload_n dX11_importedOf_23 rfl ?_
  refine aw_getf fg_X11_9 dX11_importedOf_24 (hc43 hnx) rfl ?_
  refine aw_iload_n dX11_importedOf_27 rfl ?_
  refine aw_iload_n dX11_importedOf_28 rfl ?_
  refine aw_iconst dX11_importedOf_29 ?_
  refine aw_callS (As := [_, _, _]) (ρ := (_, 0, 0)) (kn' := (0, 0)) cs_X11_44 dX11_importedOf_30 rfl rfl (Nat.le_of_ble_eq_true rfl) (rmR _ _ _) ⟨Nat.le_refl _, Nat.le_refl _⟩ rfl (c_X11_pairAt hnx  (fun r30 h30 => ?_))
  subst h30
  refine aw_laldr dX11_importedOf_33 (hc44 hnx) (by omega) (by decide) (hL 0) (fun q33 => ?_)
  refine aw_svl (a := A 2 ((4 * i + a) * 3 + 2)) ((hA.p2 hi ha (by omega) (by omega)).symm) ?_
  refine aw_ladd dX11_importedOf_34 ?_
  exact aw_lreturn dX11_importedOf_35 rfl ⟨Nat.le_refl _, Nat.le_refl _⟩ (hQ _ (rfl))

set_option maxHeartbeats 1000000 in
theorem c_X11_isTraditional_m {Γ : GT} {S T U V A : St} {G : Gw} {nx d : Nat} {Q : QT} (hnx : 52 ≤ nx) {i a : Int} (hA : Ag A (V 0)) (hb : bd A) (hL : RgL V) (hR : Rg A) (hi : 0 ≤ i ∧ i < A 27 0) (ha : 0 ≤ a ∧ a < A 26 0)  (hQ : ∀ r, (r = 1 ∧ (A 0 5 ≤ yws A (4 * i + a)) ∨ r = 0 ∧ ¬ (A 0 5 ≤ yws A (4 * i + a))) → Q (some (vi r)) (hp Γ S T U V G) nx) : AM Γ MX11_isTraditional (d + 2, 0, 0) [rf Γ 43, vi i, vi a] (hp Γ S T U V G) nx Q := by
  refine am_of (by decide) (Nat.le_of_ble_eq_true rfl) (ls := [some (rf Γ 43), some _, some _, none, none]) rfl ?_
  obtain ⟨b1, b2, b3, b4⟩ := id hb
  have hkI : nIm A = (A 27 0).toNat := rfl
  have hkO : nOr A = (A 26 0).toNat := rfl
  refine aw_iconst dX11_isTraditional_0 ?_
  refine aw_istore_n (ls' := [some (rf Γ 43), some _, some _, some _, none]) dX11_isTraditional_1 (by decide) rfl ?_
  refine aw_iconst dX11_isTraditional_2 ?_
  refine aw_istore (ls' := [some (rf Γ 43), some _, some _, some _, some _]) dX11_isTraditional_3 (by decide) rfl ?_
  refine loopN (3) (P := fun k => ∀ (x : Int) , x = ywk A (4 * i + a) k →  AW Γ MX11_isTraditional _ _ (0, 0) 5 [some (rf Γ 43), some (vi i), some (vi a), some (vi x), some (vi (k : Int))] [] (hp Γ S T U V G) nx) (fun k hk ih => ?_) 0 (Nat.zero_le _) _ rfl
  intro x i5_0
  refine aw_iload dX11_isTraditional_5 rfl ?_
  refine aw_iconst dX11_isTraditional_7 ?_
  refine aw_icmp_ge (tgt := 41) dX11_isTraditional_8 rfl (by omega) (fun c8 => ?_) (fun c8 => ?_)
  · skip
    obtain rfl : k = 3 := by omega
    have yk := ywk_in A (4 * i + a) 3
    rw [ywk_3] at i5_0 yk
    refine aw_iload_n dX11_isTraditional_41 rfl ?_
    refine aw_aload_n dX11_isTraditional_42 rfl ?_
    refine aw_iconst dX11_isTraditional_43 ?_
    refine aw_callV (As := [_]) (ρ := (_, 0, 0)) (kn' := (0, 0)) cv_X11_164 dX11_isTraditional_44 rfl rfl (hc43 hnx) rfl rfl (Nat.le_of_ble_eq_true rfl) (rmR _ _ _) ⟨Nat.le_refl _, Nat.le_refl _⟩ rfl (c_X11_many hnx hL (by omega) (fun r44 h44 => ?_))
    replace h44 : r44 = A 0 5 := h44.trans (hA.tm (by omega))
    have t5 := hR 0 (by decide) 5
    refine aw_icmp_lt (tgt := 54) dX11_isTraditional_47 rfl (by omega) (fun c47 => ?_) (fun c47 => ?_)
    · skip
      refine aw_iconst dX11_isTraditional_54 ?_
      exact aw_zreturn dX11_isTraditional_55 rfl (by omega) ⟨Nat.le_refl _, Nat.le_refl _⟩ (hQ _ (by omega))
    · skip
      refine aw_iconst dX11_isTraditional_50 ?_
      refine aw_goto (tgt := 55) dX11_isTraditional_51 rfl ?_
      exact aw_zreturn dX11_isTraditional_55 rfl (by omega) ⟨Nat.le_refl _, Nat.le_refl _⟩ (hQ _ (by omega))
  · skip
    refine aw_iload_n dX11_isTraditional_11 rfl ?_
    refine aw_aload_n dX11_isTraditional_12 rfl ?_
    refine aw_iload_n dX11_isTraditional_13 rfl ?_
    refine aw_iload_n dX11_isTraditional_14 rfl ?_
    refine aw_iconst dX11_isTraditional_15 ?_
    refine aw_iload dX11_isTraditional_16 rfl ?_
    refine aw_iadd dX11_isTraditional_18 ?_
    refine aw_callV (As := [_, _, _]) (ρ := (_, 0, 0)) (kn' := (0, 0)) cv_X11_167 dX11_isTraditional_19 rfl rfl (hc43 hnx) rfl rfl (Nat.le_of_ble_eq_true rfl) (rmR _ _ _) ⟨Nat.le_refl _, Nat.le_refl _⟩ rfl (c_X11_ofPair hnx hL (by omega) (by omega) (by omega) (fun r19 h19 => ?_))
    replace h19 : r19 = A 2 ((4 * i + a) * 3 + (k : Int)) := h19.trans (by rw [show 0 + (k : Int) = k by omega]; exact hA.p2 hi ha (by omega) (by omega))
    have r2 := hR 2 (by decide) ((4 * i + a) * 3 + (k : Int))
    have yk := ywk_in A (4 * i + a) k
    refine aw_if_le (tgt := 29) dX11_isTraditional_22 rfl (by omega) (fun c22 => ?_) (fun c22 => ?_)
    · skip
      refine aw_iconst dX11_isTraditional_29 ?_
      refine aw_callS (As := [_]) (ρ := (_, 0, 0)) (kn' := (0, 0)) cs_X11_122 dX11_isTraditional_30 rfl rfl (Nat.le_of_ble_eq_true rfl) (rmR _ _ _) ⟨Nat.le_refl _, Nat.le_refl _⟩ rfl (c_X11_truth hnx (by omega) (fun r30 h30 => ?_))
      refine aw_iadd dX11_isTraditional_33 ?_
      refine aw_nmI (fun x3_34 hx3_34 => ?_)
      refine aw_istore_n (ls' := [some (rf Γ 43), some _, some _, some _, some _]) dX11_isTraditional_34 (by decide) rfl ?_
      refine aw_iinc (ls' := [some (rf Γ 43), some _, some _, some _, some _]) dX11_isTraditional_35 rfl (by decide) rfl ?_
      refine aw_goto (tgt := 5) dX11_isTraditional_38 rfl ?_
      exact ih (by omega) x3_34  (by rw [ywk, Jvm.Pilot.@@N@@.b1]; split <;> omega)
    · skip
      refine aw_iconst dX11_isTraditional_25 ?_
      refine aw_goto (tgt := 30) dX11_isTraditional_26 rfl ?_
      refine aw_callS (As := [_]) (ρ := (_, 0, 0)) (kn' := (0, 0)) cs_X11_122 dX11_isTraditional_30 rfl rfl (Nat.le_of_ble_eq_true rfl) (rmR _ _ _) ⟨Nat.le_refl _, Nat.le_refl _⟩ rfl (c_X11_truth hnx (by omega) (fun r30 h30 => ?_))
      refine aw_iadd dX11_isTraditional_33 ?_
      refine aw_nmI (fun x3_34 hx3_34 => ?_)
      refine aw_istore_n (ls' := [some (rf Γ 43), some _, some _, some _, some _]) dX11_isTraditional_34 (by decide) rfl ?_
      refine aw_iinc (ls' := [some (rf Γ 43), some _, some _, some _, some _]) dX11_isTraditional_35 rfl (by decide) rfl ?_
      refine aw_goto (tgt := 5) dX11_isTraditional_38 rfl ?_
      exact ih (by omega) x3_34  (by rw [ywk, Jvm.Pilot.@@N@@.b1]; split <;> omega)

set_option maxHeartbeats 1000000 in
theorem c_X11_allImported_m {Γ : GT} {S T U V A : St} {G : Gw} {nx d : Nat} {Q : QT} (hnx : 52 ≤ nx) {a : Int} (hA : Ag A (V 0)) (hb : bd A) (hL : RgL V) (hR : Rg A) (ha : 0 ≤ a ∧ a < A 26 0)  (hQ : ∀ r, r = allT A a (nIm A) → Q (some (vl r)) (hp Γ S T U V G) nx) : AM Γ MX11_allImported (d + 2, 0, 0) [rf Γ 43, vi a] (hp Γ S T U V G) nx Q := by
  refine am_of (by decide) (Nat.le_of_ble_eq_true rfl) (ls := [some (rf Γ 43), some _, none, none, none]) rfl ?_
  obtain ⟨b1, b2, b3, b4⟩ := id hb
  have hkI : nIm A = (A 27 0).toNat := rfl
  have hkO : nOr A = (A 26 0).toNat := rfl
  refine aw_lconst0 dX11_allImported_0 ?_
  refine aw_lstore_n (ls' := [some (rf Γ 43), some _, some _, none, none]) dX11_allImported_1 (by decide) rfl ?_
  refine aw_iconst dX11_allImported_2 ?_
  refine aw_istore (ls' := [some (rf Γ 43), some _, some _, none, some _]) dX11_allImported_3 (by decide) rfl ?_
  refine loopN (nIm A) (P := fun k => ∀ (x : Int) , x = allT A a k →  AW Γ MX11_allImported _ _ (0, 0) 5 [some (rf Γ 43), some (vi a), some (vl x), none, some (vi (k : Int))] [] (hp Γ S T U V G) nx) (fun k hk ih => ?_) 0 (Nat.zero_le _) _ rfl
  intro x i5_0
  refine aw_iload dX11_allImported_5 rfl ?_
  refine aw_aload_n dX11_allImported_7 rfl ?_
  refine aw_bipush dX11_allImported_8 rfl ?_
  refine aw_callV (As := [_]) (ρ := (_, 0, 0)) (kn' := (0, 0)) cv_X11_164 dX11_allImported_10 rfl rfl (hc43 hnx) rfl rfl (Nat.le_of_ble_eq_true rfl) (rmR _ _ _) ⟨Nat.le_refl _, Nat.le_refl _⟩ rfl (c_X11_many hnx hL (by omega) (fun r10 h10 => ?_))
  replace h10 : r10 = A 27 0 := h10.trans hA.c7
  refine aw_icmp_ge (tgt := 48) dX11_allImported_13 rfl (by omega) (fun c13 => ?_) (fun c13 => ?_)
  · skip
    obtain rfl : k = nIm A := by omega
    refine aw_lload_n dX11_allImported_48 rfl ?_
    exact aw_lreturn dX11_allImported_49 rfl ⟨Nat.le_refl _, Nat.le_refl _⟩ (hQ _ (by omega))
  · skip
    refine aw_lload_n dX11_allImported_16 rfl ?_
    refine aw_aload_n dX11_allImported_17 rfl ?_
    refine aw_iload dX11_allImported_18 rfl ?_
    refine aw_iload_n dX11_allImported_20 rfl ?_
    refine aw_iconst dX11_allImported_21 ?_
    refine aw_callV (As := [_, _, _]) (ρ := (_, 0, 0)) (kn' := (0, 0)) cv_X11_167 dX11_allImported_22 rfl rfl (hc43 hnx) rfl rfl (Nat.le_of_ble_eq_true rfl) (rmR _ _ _) ⟨Nat.le_refl _, Nat.le_refl _⟩ rfl (c_X11_ofPair hnx hL (by omega) (by omega) (by omega) (fun r22 h22 => ?_))
    replace h22 : r22 = A 15 (4 * (k : Int) + a) := h22.trans (hA.p15 (by omega) ha (by omega))
    have r15 := hR 15 (by decide) (4 * (k : Int) + a)
    refine aw_iconst dX11_allImported_25 ?_
    refine aw_icmp_ne (tgt := 39) dX11_allImported_26 rfl (by omega) (fun c26 => ?_) (fun c26 => ?_)
    · skip
      refine aw_lconst0 dX11_allImported_39 ?_
      refine aw_ladd dX11_allImported_40 ?_
      refine aw_nmL (fun x2_41 hx2_41 => ?_)
      refine aw_lstore_n (ls' := [some (rf Γ 43), some _, some _, none, some _]) dX11_allImported_41 (by decide) rfl ?_
      refine aw_iinc (ls' := [some (rf Γ 43), some _, some _, none, some _]) dX11_allImported_42 rfl (by decide) rfl ?_
      refine aw_goto (tgt := 5) dX11_allImported_45 rfl ?_
      exact ih (by omega) x2_41  (by simp only [allT, sm] at i5_0 ⊢; split <;> omega)
    · skip
      refine aw_aload_n dX11_allImported_29 rfl ?_
      refine aw_iload dX11_allImported_30 rfl ?_
      refine aw_iload_n dX11_allImported_32 rfl ?_
      refine aw_callV (As := [_, _]) (ρ := (_, 0, 0)) (kn' := (0, 0)) cv_X11_170 dX11_allImported_33 rfl rfl (hc43 hnx) rfl rfl (Nat.le_of_ble_eq_true rfl) (rmR _ _ _) ⟨Nat.le_refl _, Nat.le_refl _⟩ rfl (c_X11_importedOf_m hnx hA hb hL hR (by omega) (by omega) (fun r33 h33 => ?_))
      refine aw_goto (tgt := 40) dX11_allImported_36 rfl ?_
      refine aw_ladd dX11_allImported_40 ?_
      refine aw_nmL (fun x2_41 hx2_41 => ?_)
      refine aw_lstore_n (ls' := [some (rf Γ 43), some _, some _, none, some _]) dX11_allImported_41 (by decide) rfl ?_
      refine aw_iinc (ls' := [some (rf Γ 43), some _, some _, none, some _]) dX11_allImported_42 rfl (by decide) rfl ?_
      refine aw_goto (tgt := 5) dX11_allImported_45 rfl ?_
      exact ih (by omega) x2_41  (by simp only [allT, sm] at i5_0 ⊢; split <;> omega)

set_option maxHeartbeats 1000000 in
theorem c_X11_leaves_m {Γ : GT} {S T U V A : St} {G : Gw} {nx d : Nat} {Q : QT} (hnx : 52 ≤ nx) {a : Int} (hA : Ag A (V 0)) (hb : bd A) (hL : RgL V) (hR : Rg A) (ha : 0 ≤ a ∧ a < A 26 0)  (hQ : ∀ r, r = leftI A a → Q (some (vl r)) (hp Γ S T U V G) nx) : AM Γ MX11_leaves (d + 1, 0, 0) [rf Γ 43, vi a] (hp Γ S T U V G) nx Q := by
  refine am_of (by decide) (Nat.le_of_ble_eq_true rfl) (ls := [some (rf Γ 43), some _, none, none, none]) rfl ?_
  obtain ⟨b1, b2, b3, b4⟩ := id hb
  have hkI : nIm A = (A 27 0).toNat := rfl
  have hkO : nOr A = (A 26 0).toNat := rfl
  refine aw_aload_n dX11_leaves_0 rfl ?_
  refine aw_getf fg_X11_9 dX11_leaves_1 (hc43 hnx) rfl ?_
  refine aw_iload_n dX11_leaves_4 rfl ?_
  refine aw_iconst dX11_leaves_5 ?_
  refine aw_callS (As := [_, _]) (ρ := (_, 0, 0)) (kn' := (0, 0)) cs_X11_40 dX11_leaves_6 rfl rfl (Nat.le_of_ble_eq_true rfl) (rmR _ _ _) ⟨Nat.le_refl _, Nat.le_refl _⟩ rfl (c_X11_originAt hnx  (fun r6 h6 => ?_))
  subst h6
  refine aw_laldr dX11_leaves_9 (hc44 hnx) (by omega) (by decide) (hL 0) (fun q9 => ?_)
  refine aw_svl (a := A 14 (a * 8 + 3)) ((hA.of ha (by omega)).symm) ?_
  refine aw_nmL (fun x2_10 hx2_10 => ?_)
  refine aw_lstore_n (ls' := [some (rf Γ 43), some _, some _, none, none]) dX11_leaves_10 (by decide) rfl ?_
  refine aw_iconst dX11_leaves_11 ?_
  refine aw_istore (ls' := [some (rf Γ 43), some _, some _, none, some _]) dX11_leaves_12 (by decide) rfl ?_
  refine loopN (nIm A) (P := fun k => ∀ (x : Int) , x = A 14 (a * 8 + 3) + lefts A a k →  AW Γ MX11_leaves _ _ (0, 0) 14 [some (rf Γ 43), some (vi a), some (vl x), none, some (vi (k : Int))] [] (hp Γ S T U V G) nx) (fun k hk ih => ?_) 0 (Nat.zero_le _) _ (by rw [lefts, sm]; omega)
  intro x i14_0
  refine aw_iload dX11_leaves_14 rfl ?_
  refine aw_aload_n dX11_leaves_16 rfl ?_
  refine aw_bipush dX11_leaves_17 rfl ?_
  refine aw_callV (As := [_]) (ρ := (_, 0, 0)) (kn' := (0, 0)) cv_X11_164 dX11_leaves_19 rfl rfl (hc43 hnx) rfl rfl (Nat.le_of_ble_eq_true rfl) (rmR _ _ _) ⟨Nat.le_refl _, Nat.le_refl _⟩ rfl (c_X11_many hnx hL (by omega) (fun r19 h19 => ?_))
  replace h19 : r19 = A 27 0 := h19.trans hA.c7
  refine aw_icmp_ge (tgt := 47) dX11_leaves_22 rfl (by omega) (fun c22 => ?_) (fun c22 => ?_)
  · skip
    obtain rfl : k = nIm A := by omega
    refine aw_lload_n dX11_leaves_47 rfl ?_
    exact aw_lreturn dX11_leaves_48 rfl ⟨Nat.le_refl _, Nat.le_refl _⟩ (hQ _ (by unfold leftI; omega))
  · skip
    refine aw_lload_n dX11_leaves_25 rfl ?_
    refine aw_aload_n dX11_leaves_26 rfl ?_
    refine aw_getf fg_X11_9 dX11_leaves_27 (hc43 hnx) rfl ?_
    refine aw_iload dX11_leaves_30 rfl ?_
    refine aw_iload_n dX11_leaves_32 rfl ?_
    refine aw_bipush dX11_leaves_33 rfl ?_
    refine aw_callS (As := [_, _, _]) (ρ := (_, 0, 0)) (kn' := (0, 0)) cs_X11_44 dX11_leaves_35 rfl rfl (Nat.le_of_ble_eq_true rfl) (rmR _ _ _) ⟨Nat.le_refl _, Nat.le_refl _⟩ rfl (c_X11_pairAt hnx  (fun r35 h35 => ?_))
    subst h35
    refine aw_laldr dX11_leaves_38 (hc44 hnx) (by omega) (by decide) (hL 0) (fun q38 => ?_)
    refine aw_svl (a := A 17 (4 * (k : Int) + a)) ((hA.p17 (by omega) ha (by omega)).symm) ?_
    refine aw_ladd dX11_leaves_39 ?_
    refine aw_nmL (fun x2_40 hx2_40 => ?_)
    refine aw_lstore_n (ls' := [some (rf Γ 43), some _, some _, none, some _]) dX11_leaves_40 (by decide) rfl ?_
    refine aw_iinc (ls' := [some (rf Γ 43), some _, some _, none, some _]) dX11_leaves_41 rfl (by decide) rfl ?_
    refine aw_goto (tgt := 14) dX11_leaves_44 rfl ?_
    exact ih (by omega) x2_40  (by simp only [lefts, sm] at i14_0 ⊢; omega)

set_option maxHeartbeats 1000000 in
theorem c_X11_shareBy_m {Γ : GT} {S T U V A : St} {G : Gw} {nx d : Nat} {Q : QT} (hnx : 52 ≤ nx) {i a q p : Int} (hA : Ag A (V 0)) (hb : bd A) (hL : RgL V) (hZ : Inv0 A) (hi : 0 ≤ i ∧ i < A 27 0) (ha : 0 ≤ a ∧ a < A 26 0) (hpp : 0 ≤ p ∧ p ≤ 100) (hq : 0 ≤ q ∧ q ≤ 99999) (hpos : A 15 (4 * i + a) = 1 → 0 < allT A a (nIm A)) (hQ : ∀ r, r = shr A i a p q → Q (some (vi r)) (hp Γ S T U V G) nx) : AM Γ MX11_shareBy (d + 3, 0, 0) [rf Γ 43, vi i, vi a, vl q, vl p] (hp Γ S T U V G) nx Q := by
  refine am_of (by decide) (Nat.le_of_ble_eq_true rfl) (ls := [some (rf Γ 43), some _, some _, some _, none, some _, none]) rfl ?_
  obtain ⟨b1, b2, b3, b4⟩ := id hb
  have hkI : nIm A = (A 27 0).toNat := rfl
  have hkO : nOr A = (A 26 0).toNat := rfl
  have hR := hZ.1
  have m1 := hZ.old (p := 4 * i + a) (by omega)
  have m2 := mul_rg hq hpp
  have m5 := mul_rg (a := q * p / 100) (b := old A (4 * i + a)) (A := 99999) (B := 153598464) ⟨by omega, by omega⟩ m1
  have r15 := hR 15 (by decide) (4 * i + a)
  have m4 := hZ.allT (o := a) (by omega) (nIm A) (by omega)
  refine aw_aload_n dX11_shareBy_0 rfl ?_
  refine aw_iload_n dX11_shareBy_1 rfl ?_
  refine aw_iload_n dX11_shareBy_2 rfl ?_
  refine aw_iconst dX11_shareBy_3 ?_
  refine aw_callV (As := [_, _, _]) (ρ := (_, 0, 0)) (kn' := (0, 0)) cv_X11_167 dX11_shareBy_4 rfl rfl (hc43 hnx) rfl rfl (Nat.le_of_ble_eq_true rfl) (rmR _ _ _) ⟨Nat.le_refl _, Nat.le_refl _⟩ rfl (c_X11_ofPair hnx hL (by omega) (by omega) (by omega) (fun r4 h4 => ?_))
  replace h4 : r4 = A 15 (4 * i + a) := h4.trans (hA.p15 hi ha (by omega))
  refine aw_iconst dX11_shareBy_7 ?_
  refine aw_icmp_ne (tgt := 36) dX11_shareBy_8 rfl (by omega) (fun c8 => ?_) (fun c8 => ?_)
  · skip
    refine aw_iconst dX11_shareBy_36 ?_
    exact aw_ireturn dX11_shareBy_37 rfl rfl ⟨Nat.le_refl _, Nat.le_refl _⟩ (hQ _ (by unfold shr poa; first | (rw [if_neg (by omega)]) | (rw [if_pos (by omega), if_pos (by omega), Int.mul_comm p q])))
  · skip
    refine aw_lload_n dX11_shareBy_11 rfl ?_
    refine aw_lload dX11_shareBy_12 rfl ?_
    refine aw_lmul dX11_shareBy_14 ?_
    refine aw_ldc2 dX11_shareBy_15 qk_X11_174 ?_
    refine aw_st (st' := vl 100 :: _) rfl ?_
    refine aw_ldiv dX11_shareBy_18 (by omega) (by omega) ?_
    refine aw_aload_n dX11_shareBy_19 rfl ?_
    refine aw_iload_n dX11_shareBy_20 rfl ?_
    refine aw_iload_n dX11_shareBy_21 rfl ?_
    refine aw_callV (As := [_, _]) (ρ := (_, 0, 0)) (kn' := (0, 0)) cv_X11_170 dX11_shareBy_22 rfl rfl (hc43 hnx) rfl rfl (Nat.le_of_ble_eq_true rfl) (rmR _ _ _) ⟨Nat.le_refl _, Nat.le_refl _⟩ rfl (c_X11_importedOf_m hnx hA hb hL hR hi ha (fun r22 h22 => ?_))
    subst h22
    refine aw_lmul dX11_shareBy_25 ?_
    refine aw_aload_n dX11_shareBy_26 rfl ?_
    refine aw_iload_n dX11_shareBy_27 rfl ?_
    refine aw_callV (As := [_]) (ρ := (_, 0, 0)) (kn' := (0, 0)) cv_X11_176 dX11_shareBy_28 rfl rfl (hc43 hnx) rfl rfl (Nat.le_of_ble_eq_true rfl) (rmR _ _ _) ⟨Nat.le_refl _, Nat.le_refl _⟩ rfl (c_X11_allImported_m hnx hA hb hL hR ha (fun r28 h28 => ?_))
    subst h28
    have a1 := hpos (by omega)
    refine aw_ldiv dX11_shareBy_31 (by omega) (by omega) ?_
    refine aw_l2i dX11_shareBy_32 ?_
    refine aw_goto (tgt := 37) dX11_shareBy_33 rfl ?_
    exact aw_ireturn dX11_shareBy_37 rfl rfl ⟨Nat.le_refl _, Nat.le_refl _⟩ (hQ _ (by unfold shr poa; first | (rw [if_neg (by omega)]) | (rw [if_pos (by omega), if_pos (by omega), Int.mul_comm p q])))


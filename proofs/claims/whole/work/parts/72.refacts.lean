/-! the reference: acts with a past kept -/
set_option maxHeartbeats 1000000 in
theorem c_X11_lend {Γ : GT} {S T U V A : St} {G : Gw} {nx d : Nat} {Q : QT} (hnx : 52 ≤ nx) {i m j n : Int} {c : Int} (hI : Inv c A) (hA : Ag A (V 0)) (hL : RgL V) (hM : 0 ≤ V 10 0 ∧ V 10 0 ≤ 10) (hi : inI i) (hm : inI m) (hj : inI j) (hn : inI n) (hN : ∀ r, r = rLend A i m j n → r ≠ 0 → Q (some (vi r)) (hp Γ S T U V G) nx) (hQ : rLend A i m j n = 0 → ∀ V2, KP V V2 → Ag (lendS A (4 * i + j) (4 * m + j) n) (V2 0) → Q (some (vi (A 17 (4 * i + j) - n))) (hp Γ S T U V2 G) nx) : AM Γ MX11_lend (d + 4, 0, 0) [rf Γ 43, vi i, vi m, vi j, vi n] (hp Γ S T U V G) nx Q := by
  refine am_of (by decide) (Nat.le_of_ble_eq_true rfl) (ls := [some (rf Γ 43), some _, some _, some _, some _]) rfl ?_
  have hR := hI.R
  have i1 := hI.i1
  have hz : 0 ≤ A 28 0 ∧ A 28 0 ≤ 60 := i1.2.2.1
  have hkS : nS A = (A 28 0).toNat := rfl
  have hkI : nIm A = (A 27 0).toNat := rfl
  have hkO : nOr A = (A 26 0).toNat := rfl
  have hb := hI.bd
  refine aw_aload_n dX11_lend_0 rfl ?_
  refine aw_iload_n dX11_lend_1 rfl ?_
  refine aw_iload_n dX11_lend_2 rfl ?_
  refine aw_callV (As := [_, _]) (ρ := (_, 0, 0)) (kn' := (0, 0)) cv_X11_236 dX11_lend_3 rfl rfl (hc43 hnx) rfl rfl (Nat.le_of_ble_eq_true rfl) (rmR _ _ _) ⟨Nat.le_refl _, Nat.le_refl _⟩ rfl (c_X11_arePair hnx hI hA hL (by omega) (fun r3 h3 => ?_))
  rcases h3 with ⟨rfl, h3⟩ | ⟨rfl, h3⟩
  · skip
    refine aw_if_eq (tgt := 30) dX11_lend_6 rfl (by decide) (fun c => absurd c (by decide)) (fun _ => ?_)
    refine aw_aload_n dX11_lend_9 rfl ?_
    refine aw_iload_n dX11_lend_10 rfl ?_
    refine aw_callV (As := [_]) (ρ := (_, 0, 0)) (kn' := (0, 0)) cv_X11_55 dX11_lend_11 rfl rfl (hc43 hnx) rfl rfl (Nat.le_of_ble_eq_true rfl) (rmR _ _ _) ⟨Nat.le_refl _, Nat.le_refl _⟩ rfl (c_X11_isImporter hnx hI hA hL (by omega) (fun r11 h11 => ?_))
    rcases h11 with ⟨rfl, h11⟩ | ⟨rfl, h11⟩
    · skip
      refine aw_if_eq (tgt := 30) dX11_lend_14 rfl (by decide) (fun c => absurd c (by decide)) (fun _ => ?_)
      refine aw_iload_n dX11_lend_17 rfl ?_
      refine aw_iload_n dX11_lend_18 rfl ?_
      refine aw_icmp_eq (tgt := 30) dX11_lend_19 rfl (by omega) (fun c19 => ?_) (fun c19 => ?_)
      · skip
        refine aw_iconst dX11_lend_30 ?_
        exact aw_ireturn dX11_lend_31 rfl rfl ⟨Nat.le_refl _, Nat.le_refl _⟩ (hN _ (by simp only [rLend, isL, isI, isO, isN]; (repeat' split) <;> omega) (by omega))
      · skip
        refine aw_iload dX11_lend_22 rfl ?_
        refine aw_callS (As := [_]) (ρ := (_, 0, 0)) (kn' := (0, 0)) cs_X11_239 dX11_lend_24 rfl rfl (Nat.le_of_ble_eq_true rfl) (rmR _ _ _) ⟨Nat.le_refl _, Nat.le_refl _⟩ rfl (c_X11_isMuch hnx (by omega) (fun r24 h24 => ?_))
        rcases h24 with ⟨rfl, h24⟩ | ⟨rfl, h24⟩
        · skip
          refine aw_if_ne (tgt := 32) dX11_lend_27 rfl (by decide) (fun _ => ?_) (fun c => absurd c (by decide))
          have pr := hI.pr (i := i) (o := j) (by omega) (by omega)
          have pm := hI.pr (i := m) (o := j) (by omega) (by omega)
          refine aw_aload_n dX11_lend_32 rfl ?_
          refine aw_iload_n dX11_lend_33 rfl ?_
          refine aw_iload_n dX11_lend_34 rfl ?_
          refine aw_iconst dX11_lend_35 ?_
          refine aw_callV (As := [_, _, _]) (ρ := (_, 0, 0)) (kn' := (0, 0)) cv_X11_167 dX11_lend_36 rfl rfl (hc43 hnx) rfl rfl (Nat.le_of_ble_eq_true rfl) (rmR _ _ _) ⟨Nat.le_refl _, Nat.le_refl _⟩ rfl (c_X11_ofPair_4 hnx hI hA hL (by omega) (by omega) (fun r36 h36 => ?_))
          refine aw_if_eq (tgt := 52) dX11_lend_39 rfl (by omega) (fun c39 => ?_) (fun c39 => ?_)
          · skip
            refine aw_bipush dX11_lend_52 rfl ?_
            exact aw_ireturn dX11_lend_54 rfl rfl ⟨Nat.le_refl _, Nat.le_refl _⟩ (hN _ (by simp only [rLend, isL, isI, isO, isN]; (repeat' split) <;> omega) (by omega))
          · skip
            refine aw_aload_n dX11_lend_42 rfl ?_
            refine aw_iload_n dX11_lend_43 rfl ?_
            refine aw_iload_n dX11_lend_44 rfl ?_
            refine aw_iconst dX11_lend_45 ?_
            refine aw_callV (As := [_, _, _]) (ρ := (_, 0, 0)) (kn' := (0, 0)) cv_X11_167 dX11_lend_46 rfl rfl (hc43 hnx) rfl rfl (Nat.le_of_ble_eq_true rfl) (rmR _ _ _) ⟨Nat.le_refl _, Nat.le_refl _⟩ rfl (c_X11_ofPair_4 hnx hI hA hL (by omega) (by omega) (fun r46 h46 => ?_))
            refine aw_if_ne (tgt := 55) dX11_lend_49 rfl (by omega) (fun c49 => ?_) (fun c49 => ?_)
            · skip
              have r1 := hR 17 (by decide) (4 * i + j)
              refine aw_aload_n dX11_lend_55 rfl ?_
              refine aw_iload_n dX11_lend_56 rfl ?_
              refine aw_iload_n dX11_lend_57 rfl ?_
              refine aw_bipush dX11_lend_58 rfl ?_
              refine aw_callV (As := [_, _, _]) (ρ := (_, 0, 0)) (kn' := (0, 0)) cv_X11_167 dX11_lend_60 rfl rfl (hc43 hnx) rfl rfl (Nat.le_of_ble_eq_true rfl) (rmR _ _ _) ⟨Nat.le_refl _, Nat.le_refl _⟩ rfl (c_X11_ofPair_6 hnx hI hA hL (by omega) (by omega) (fun r60 h60 => ?_))
              refine aw_iload dX11_lend_63 rfl ?_
              refine aw_icmp_ge (tgt := 71) dX11_lend_65 rfl (by omega) (fun c65 => ?_) (fun c65 => ?_)
              · skip
                have acc : rLend A i m j n = 0 := by simp only [rLend, isL, isI, isO, isN]; (repeat' split) <;> omega
                refine aw_aload_n dX11_lend_71 rfl ?_
                refine aw_callV (As := []) (ρ := (_, 0, 0)) (kn' := (0, 0)) cv_X11_242 dX11_lend_72 rfl rfl (hc43 hnx) rfl rfl (Nat.le_of_ble_eq_true rfl) (rmR _ _ _) ⟨Nat.le_refl _, Nat.le_refl _⟩ rfl (c_X11_keepsPast hnx hL (by omega) (fun V72 hK hV72 => ?_))
                have hX : VX V72 V72 := VX.rfl
                replace hL := hK.2.1
                replace hA : Ag A (V72 0) := by rw [hV72]; exact hA
                have si : 0 ≤ i ∧ i < A 27 0 := by omega
                have sm : 0 ≤ m ∧ m < A 27 0 := by omega
                have sj : 0 ≤ j ∧ j < A 26 0 := by omega
                have r1 := hR 17 (by decide) (4 * i + j)
                have r2 := hR 17 (by decide) (4 * m + j)
                refine aw_aload_n dX11_lend_75 rfl ?_
                refine aw_getf fg_X11_9 dX11_lend_76 (hc43 hnx) rfl ?_
                refine aw_iload_n dX11_lend_79 rfl ?_
                refine aw_iload_n dX11_lend_80 rfl ?_
                refine aw_bipush dX11_lend_81 rfl ?_
                refine aw_callS (As := [_, _, _]) (ρ := (_, 0, 0)) (kn' := (0, 0)) cs_X11_44 dX11_lend_83 rfl rfl (Nat.le_of_ble_eq_true rfl) (rmR _ _ _) ⟨Nat.le_refl _, Nat.le_refl _⟩ rfl (c_X11_pairAt hnx  (fun r83 h83 => ?_))
                refine aw_dup2_11 dX11_lend_86 rfl rfl ?_
                refine aw_rdA (f := 17) (i := 4 * i + j) (v := A 17 (4 * i + j)) dX11_lend_87 hnx hL hA hb (un_17 hb si sj) (by show _ = 48 + 8 * (4 * i + j) + 6; omega) (rfl) (fun q87 => ?_)
                refine aw_iload dX11_lend_88 rfl ?_
                refine aw_i2l dX11_lend_90 (by omega) ?_
                refine aw_lsub dX11_lend_91 ?_
                refine aw_stA (f := 17) (i := 4 * i + j) (v := A 17 (4 * i + j) - n) dX11_lend_92 hnx hX hL hA hb (un_17 hb si sj) (by decide) (by show _ = 48 + 8 * (4 * i + j) + 6; omega) (by omega) (by omega) (fun V92 hX hL hA => ?_)
                refine aw_aload_n dX11_lend_93 rfl ?_
                refine aw_getf fg_X11_9 dX11_lend_94 (hc43 hnx) rfl ?_
                refine aw_iload_n dX11_lend_97 rfl ?_
                refine aw_iload_n dX11_lend_98 rfl ?_
                refine aw_bipush dX11_lend_99 rfl ?_
                refine aw_callS (As := [_, _, _]) (ρ := (_, 0, 0)) (kn' := (0, 0)) cs_X11_44 dX11_lend_101 rfl rfl (Nat.le_of_ble_eq_true rfl) (rmR _ _ _) ⟨Nat.le_refl _, Nat.le_refl _⟩ rfl (c_X11_pairAt hnx  (fun r101 h101 => ?_))
                refine aw_dup2_11 dX11_lend_104 rfl rfl ?_
                refine aw_rdA (f := 17) (i := 4 * m + j) (v := A 17 (4 * m + j)) dX11_lend_105 hnx hL hA hb (un_17 hb sm sj) (by show _ = 48 + 8 * (4 * m + j) + 6; omega) (by rw [u1_at, if_neg (by omega)]) (fun q105 => ?_)
                refine aw_iload dX11_lend_106 rfl ?_
                refine aw_i2l dX11_lend_108 (by omega) ?_
                refine aw_ladd dX11_lend_109 ?_
                refine aw_stA (f := 17) (i := 4 * m + j) (v := A 17 (4 * m + j) + n) dX11_lend_110 hnx hX hL hA hb (un_17 hb sm sj) (by decide) (by show _ = 48 + 8 * (4 * m + j) + 6; omega) (by omega) (by omega) (fun V110 hX hL hA => ?_)
                refine aw_aload_n dX11_lend_111 rfl ?_
                refine aw_iload_n dX11_lend_112 rfl ?_
                refine aw_iload_n dX11_lend_113 rfl ?_
                refine aw_bipush dX11_lend_114 rfl ?_
                refine aw_callV (As := [_, _, _]) (ρ := (_, 0, 0)) (kn' := (0, 0)) cv_X11_167 dX11_lend_116 rfl rfl (hc43 hnx) rfl rfl (Nat.le_of_ble_eq_true rfl) (rmR _ _ _) ⟨Nat.le_refl _, Nat.le_refl _⟩ rfl (c_X11_ofPair hnx hL (by omega) (by omega) (by omega) (fun r116 h116 => ?_))
                refine aw_sv (a := A 17 (4 * i + j) - n) ((by rw [h116, hA.p17 si sj i1.1.2, u1_at, if_neg (by omega), u1_at, if_pos ⟨rfl, rfl⟩])) ?_
                exact aw_ireturn dX11_lend_119 rfl rfl ⟨Nat.le_refl _, Nat.le_refl _⟩ (hQ acc _ (hK.vx hX hL) hA)
              · skip
                refine aw_bipush dX11_lend_68 rfl ?_
                exact aw_ireturn dX11_lend_70 rfl rfl ⟨Nat.le_refl _, Nat.le_refl _⟩ (hN _ (by simp only [rLend, isL, isI, isO, isN]; (repeat' split) <;> omega) (by omega))
            · skip
              refine aw_bipush dX11_lend_52 rfl ?_
              exact aw_ireturn dX11_lend_54 rfl rfl ⟨Nat.le_refl _, Nat.le_refl _⟩ (hN _ (by simp only [rLend, isL, isI, isO, isN]; (repeat' split) <;> omega) (by omega))
        · skip
          refine aw_if_ne (tgt := 32) dX11_lend_27 rfl (by decide) (fun c => absurd c (by decide)) (fun _ => ?_)
          refine aw_iconst dX11_lend_30 ?_
          exact aw_ireturn dX11_lend_31 rfl rfl ⟨Nat.le_refl _, Nat.le_refl _⟩ (hN _ (by simp only [rLend, isL, isI, isO, isN]; (repeat' split) <;> omega) (by omega))
    · skip
      refine aw_if_eq (tgt := 30) dX11_lend_14 rfl (by decide) (fun _ => ?_) (fun c => absurd c (by decide))
      refine aw_iconst dX11_lend_30 ?_
      exact aw_ireturn dX11_lend_31 rfl rfl ⟨Nat.le_refl _, Nat.le_refl _⟩ (hN _ (by simp only [rLend, isL, isI, isO, isN]; (repeat' split) <;> omega) (by omega))
  · skip
    refine aw_if_eq (tgt := 30) dX11_lend_6 rfl (by decide) (fun _ => ?_) (fun c => absurd c (by decide))
    refine aw_iconst dX11_lend_30 ?_
    exact aw_ireturn dX11_lend_31 rfl rfl ⟨Nat.le_refl _, Nat.le_refl _⟩ (hN _ (by simp only [rLend, isL, isI, isO, isN]; (repeat' split) <;> omega) (by omega))

set_option maxHeartbeats 1000000 in
theorem c_X11_becomes {Γ : GT} {S T U V A : St} {G : Gw} {nx d : Nat} {Q : QT} (hnx : 52 ≤ nx) {f : Nat} {i a n : Int} (hA : Ag A (V 0)) (hb : bd A) (hL : RgL V) (hM : 0 ≤ V 10 0 ∧ V 10 0 ≤ 10) (hu : us A f i) (hf : sf f) (ha : a = pl f i) (hr : inI (A f i)) (hn : inI n) (hQ : ∀ r V2, (A f i = n ∧ r = -2 ∧ V2 = V ∨ ¬ A f i = n ∧ r = A f i ∧ KP V V2 ∧ Ag (u1 A f i n) (V2 0)) → Q (some (vi r)) (hp Γ S T U V2 G) nx) : AM Γ MX11_becomes (d + 2, 0, 0) [rf Γ 43, vi a, vi n] (hp Γ S T U V G) nx Q := by
  refine am_of (by decide) (Nat.le_of_ble_eq_true rfl) (ls := [some (rf Γ 43), some _, some _, none]) rfl ?_
  refine aw_aload_n dX11_becomes_0 rfl ?_
  refine aw_getf fg_X11_9 dX11_becomes_1 (hc43 hnx) rfl ?_
  refine aw_iload_n dX11_becomes_4 rfl ?_
  refine aw_rdA (f := f) (i := i) (v := A f i) dX11_becomes_5 hnx hL hA hb (hu) (ha) (rfl) (fun q5 => ?_)
  refine aw_l2i dX11_becomes_6 ?_
  refine aw_nmI (fun x3_7 hx3_7 => ?_)
  refine aw_istore_n (ls' := [some (rf Γ 43), some _, some _, some _]) dX11_becomes_7 (by decide) rfl ?_
  refine aw_iload_n dX11_becomes_8 rfl ?_
  refine aw_iload_n dX11_becomes_9 rfl ?_
  refine aw_icmp_ne (tgt := 16) dX11_becomes_10 rfl (by omega) (fun c10 => ?_) (fun c10 => ?_)
  · skip
    refine aw_aload_n dX11_becomes_16 rfl ?_
    refine aw_callV (As := []) (ρ := (_, 0, 0)) (kn' := (0, 0)) cv_X11_242 dX11_becomes_17 rfl rfl (hc43 hnx) rfl rfl (Nat.le_of_ble_eq_true rfl) (rmR _ _ _) ⟨Nat.le_refl _, Nat.le_refl _⟩ rfl (c_X11_keepsPast hnx hL (by omega) (fun V17 hK hV17 => ?_))
    have hX : VX V17 V17 := VX.rfl
    replace hL := hK.2.1
    replace hA : Ag A (V17 0) := by rw [hV17]; exact hA
    refine aw_aload_n dX11_becomes_20 rfl ?_
    refine aw_getf fg_X11_9 dX11_becomes_21 (hc43 hnx) rfl ?_
    refine aw_iload_n dX11_becomes_24 rfl ?_
    refine aw_iload_n dX11_becomes_25 rfl ?_
    refine aw_i2l dX11_becomes_26 (by omega) ?_
    refine aw_stA (f := f) (i := i) (v := n) dX11_becomes_27 hnx hX hL hA hb (hu) (hf) (ha) (by omega) (by omega) (fun V27 hX hL hA => ?_)
    refine aw_iload_n dX11_becomes_28 rfl ?_
    exact aw_ireturn dX11_becomes_29 rfl rfl ⟨Nat.le_refl _, Nat.le_refl _⟩ (hQ _ _ (Or.inr ⟨by omega, by omega, hK.vx hX hL, hA⟩))
  · skip
    refine aw_bipush dX11_becomes_13 rfl ?_
    exact aw_ireturn dX11_becomes_15 rfl rfl ⟨Nat.le_refl _, Nat.le_refl _⟩ (hQ _ _ (Or.inl ⟨by omega, rfl, rfl⟩))

set_option maxHeartbeats 1000000 in
theorem c_X11_widen {Γ : GT} {S T U V A : St} {G : Gw} {nx d : Nat} {Q : QT} (hnx : 52 ≤ nx) {j q : Int} {c : Int} (hI : Inv c A) (hA : Ag A (V 0)) (hL : RgL V) (hM : 0 ≤ V 10 0 ∧ V 10 0 ≤ 10) (hj : inI j) (hq : inI q) (hN : ∀ r, r = rWiden A j q → r ≠ 0 → Q (some (vi r)) (hp Γ S T U V G) nx) (hQ : rWiden A j q = 0 → ∀ V2, KP V V2 → Ag (u1 A 1 j q) (V2 0) → Q (some (vi (A 1 j))) (hp Γ S T U V2 G) nx) : AM Γ MX11_widen (d + 3, 0, 0) [rf Γ 43, vi j, vi q] (hp Γ S T U V G) nx Q := by
  refine am_of (by decide) (Nat.le_of_ble_eq_true rfl) (ls := [some (rf Γ 43), some _, some _]) rfl ?_
  have hR := hI.R
  have i1 := hI.i1
  have hz : 0 ≤ A 28 0 ∧ A 28 0 ≤ 60 := i1.2.2.1
  have hkS : nS A = (A 28 0).toNat := rfl
  have hkI : nIm A = (A 27 0).toNat := rfl
  have hkO : nOr A = (A 26 0).toNat := rfl
  have hb := hI.bd
  refine aw_aload_n dX11_widen_0 rfl ?_
  refine aw_iload_n dX11_widen_1 rfl ?_
  refine aw_callV (As := [_]) (ρ := (_, 0, 0)) (kn' := (0, 0)) cv_X11_59 dX11_widen_2 rfl rfl (hc43 hnx) rfl rfl (Nat.le_of_ble_eq_true rfl) (rmR _ _ _) ⟨Nat.le_refl _, Nat.le_refl _⟩ rfl (c_X11_isOrigin hnx hI hA hL (by omega) (fun r2 h2 => ?_))
  rcases h2 with ⟨rfl, h2⟩ | ⟨rfl, h2⟩
  · skip
    refine aw_if_eq (tgt := 33) dX11_widen_5 rfl (by decide) (fun c => absurd c (by decide)) (fun _ => ?_)
    refine aw_iload_n dX11_widen_8 rfl ?_
    refine aw_i2l dX11_widen_9 (by omega) ?_
    refine aw_lconst0 dX11_widen_10 ?_
    refine aw_ldc2 dX11_widen_11 qk_X11_62 ?_
    refine aw_st (st' := vl 99999 :: _) rfl ?_
    refine aw_callS (As := [_, _, _]) (ρ := (_, 0, 0)) (kn' := (0, 0)) cs_X11_51 dX11_widen_14 rfl rfl (Nat.le_of_ble_eq_true rfl) (rmR _ _ _) ⟨Nat.le_refl _, Nat.le_refl _⟩ rfl (c_X11_in hnx (by omega) (fun r14 h14 => ?_))
    rcases h14 with ⟨rfl, h14⟩ | ⟨rfl, h14⟩
    · skip
      refine aw_if_eq (tgt := 33) dX11_widen_17 rfl (by decide) (fun c => absurd c (by decide)) (fun _ => ?_)
      refine aw_aload_n dX11_widen_20 rfl ?_
      refine aw_iload_n dX11_widen_21 rfl ?_
      refine aw_iconst dX11_widen_22 ?_
      refine aw_callS (As := [_, _]) (ρ := (_, 0, 0)) (kn' := (0, 0)) cs_X11_40 dX11_widen_23 rfl rfl (Nat.le_of_ble_eq_true rfl) (rmR _ _ _) ⟨Nat.le_refl _, Nat.le_refl _⟩ rfl (c_X11_originAt hnx  (fun r23 h23 => ?_))
      refine aw_iload_n dX11_widen_26 rfl ?_
      refine aw_callV (As := [_, _]) (ρ := (_, 0, 0)) (kn' := (0, 0)) cv_X11_294 dX11_widen_27 rfl rfl (hc43 hnx) rfl rfl (Nat.le_of_ble_eq_true rfl) (rmR _ _ _) ⟨Nat.le_refl _, Nat.le_refl _⟩ rfl (c_X11_becomes (f := 1) (i := j) hnx hA hb hL hM (un_1 (by omega)) (by decide) (by show _ = 16 + 8 * j; omega) (hR 1 (by decide) j) (by omega) (fun r27 V27 h27 => ?_))
      refine aw_goto (tgt := 34) dX11_widen_30 rfl ?_
      exact aw_ireturn dX11_widen_34 rfl rfl ⟨Nat.le_refl _, Nat.le_refl _⟩ (by first | exact h27.elim (fun z => by obtain ⟨e, e2, e3⟩ := z; subst e2; subst e3; exact hN _ (by simp only [rWiden, isL, isI, isO, isN]; (repeat' split) <;> omega) (by omega)) (fun z => by obtain ⟨e, e2, hK, hA2⟩ := z; subst e2; exact hQ (by simp only [rWiden, isL, isI, isO, isN]; (repeat' split) <;> omega) _ hK hA2) | exact hN _ (by simp only [rWiden, isL, isI, isO, isN]; (repeat' split) <;> omega) (by omega))
    · skip
      refine aw_if_eq (tgt := 33) dX11_widen_17 rfl (by decide) (fun _ => ?_) (fun c => absurd c (by decide))
      refine aw_iconst dX11_widen_33 ?_
      exact aw_ireturn dX11_widen_34 rfl rfl ⟨Nat.le_refl _, Nat.le_refl _⟩ (by first | exact h27.elim (fun z => by obtain ⟨e, e2, e3⟩ := z; subst e2; subst e3; exact hN _ (by simp only [rWiden, isL, isI, isO, isN]; (repeat' split) <;> omega) (by omega)) (fun z => by obtain ⟨e, e2, hK, hA2⟩ := z; subst e2; exact hQ (by simp only [rWiden, isL, isI, isO, isN]; (repeat' split) <;> omega) _ hK hA2) | exact hN _ (by simp only [rWiden, isL, isI, isO, isN]; (repeat' split) <;> omega) (by omega))
  · skip
    refine aw_if_eq (tgt := 33) dX11_widen_5 rfl (by decide) (fun _ => ?_) (fun c => absurd c (by decide))
    refine aw_iconst dX11_widen_33 ?_
    exact aw_ireturn dX11_widen_34 rfl rfl ⟨Nat.le_refl _, Nat.le_refl _⟩ (by first | exact h27.elim (fun z => by obtain ⟨e, e2, e3⟩ := z; subst e2; subst e3; exact hN _ (by simp only [rWiden, isL, isI, isO, isN]; (repeat' split) <;> omega) (by omega)) (fun z => by obtain ⟨e, e2, hK, hA2⟩ := z; subst e2; exact hQ (by simp only [rWiden, isL, isI, isO, isN]; (repeat' split) <;> omega) _ hK hA2) | exact hN _ (by simp only [rWiden, isL, isI, isO, isN]; (repeat' split) <;> omega) (by omega))

set_option maxHeartbeats 1000000 in
theorem c_X11_lowest {Γ : GT} {S T U V : St} {G : Gw} {nx d : Nat} {Q : QT} (hnx : 52 ≤ nx) {w : Int} (hw : inI w) (hQ : ∀ r, r = (if w = 1 ∨ w = 2 ∨ w = 5 then 1 else 0) → Q (some (vi r)) (hp Γ S T U V G) nx) : AM Γ MX11_lowest (d + 1, 0, 0) [vi w] (hp Γ S T U V G) nx Q := by
  refine am_of (by decide) (Nat.le_of_ble_eq_true rfl) (ls := [some _]) rfl ?_
  refine aw_iload_n dX11_lowest_0 rfl ?_
  refine aw_iconst dX11_lowest_1 ?_
  refine aw_icmp_eq (tgt := 15) dX11_lowest_2 rfl (by omega) (fun c2 => ?_) (fun c2 => ?_)
  · skip
    refine aw_iconst dX11_lowest_15 ?_
    refine aw_goto (tgt := 20) dX11_lowest_16 rfl ?_
    refine aw_callS (As := [_]) (ρ := (_, 0, 0)) (kn' := (0, 0)) cs_X11_122 dX11_lowest_20 rfl rfl (Nat.le_of_ble_eq_true rfl) (rmR _ _ _) ⟨Nat.le_refl _, Nat.le_refl _⟩ rfl (c_X11_truth hnx (by omega) (fun r20 h20 => ?_))
    exact aw_ireturn dX11_lowest_23 rfl rfl ⟨Nat.le_refl _, Nat.le_refl _⟩ (hQ _ (by split <;> omega))
  · skip
    refine aw_iload_n dX11_lowest_5 rfl ?_
    refine aw_iconst dX11_lowest_6 ?_
    refine aw_icmp_eq (tgt := 15) dX11_lowest_7 rfl (by omega) (fun c7 => ?_) (fun c7 => ?_)
    · skip
      refine aw_iconst dX11_lowest_15 ?_
      refine aw_goto (tgt := 20) dX11_lowest_16 rfl ?_
      refine aw_callS (As := [_]) (ρ := (_, 0, 0)) (kn' := (0, 0)) cs_X11_122 dX11_lowest_20 rfl rfl (Nat.le_of_ble_eq_true rfl) (rmR _ _ _) ⟨Nat.le_refl _, Nat.le_refl _⟩ rfl (c_X11_truth hnx (by omega) (fun r20 h20 => ?_))
      exact aw_ireturn dX11_lowest_23 rfl rfl ⟨Nat.le_refl _, Nat.le_refl _⟩ (hQ _ (by split <;> omega))
    · skip
      refine aw_iload_n dX11_lowest_10 rfl ?_
      refine aw_iconst dX11_lowest_11 ?_
      refine aw_icmp_ne (tgt := 19) dX11_lowest_12 rfl (by omega) (fun c12 => ?_) (fun c12 => ?_)
      · skip
        refine aw_iconst dX11_lowest_19 ?_
        refine aw_callS (As := [_]) (ρ := (_, 0, 0)) (kn' := (0, 0)) cs_X11_122 dX11_lowest_20 rfl rfl (Nat.le_of_ble_eq_true rfl) (rmR _ _ _) ⟨Nat.le_refl _, Nat.le_refl _⟩ rfl (c_X11_truth hnx (by omega) (fun r20 h20 => ?_))
        exact aw_ireturn dX11_lowest_23 rfl rfl ⟨Nat.le_refl _, Nat.le_refl _⟩ (hQ _ (by split <;> omega))
      · skip
        refine aw_iconst dX11_lowest_15 ?_
        refine aw_goto (tgt := 20) dX11_lowest_16 rfl ?_
        refine aw_callS (As := [_]) (ρ := (_, 0, 0)) (kn' := (0, 0)) cs_X11_122 dX11_lowest_20 rfl rfl (Nat.le_of_ble_eq_true rfl) (rmR _ _ _) ⟨Nat.le_refl _, Nat.le_refl _⟩ rfl (c_X11_truth hnx (by omega) (fun r20 h20 => ?_))
        exact aw_ireturn dX11_lowest_23 rfl rfl ⟨Nat.le_refl _, Nat.le_refl _⟩ (hQ _ (by split <;> omega))

set_option maxHeartbeats 1000000 in
theorem c_X11_highest {Γ : GT} {S T U V : St} {G : Gw} {nx d : Nat} {Q : QT} (hnx : 52 ≤ nx) {w : Int} (hw : inI w) (hQ : ∀ r, r = (if w = 1 then 99999 else if w = 2 then 90 else if w = 4 then 2000 else if w = 5 then 3 else 100) → Q (some (vi r)) (hp Γ S T U V G) nx) : AM Γ MX11_highest (d, 0, 0) [vi w] (hp Γ S T U V G) nx Q := by
  refine am_of (by decide) (Nat.le_of_ble_eq_true rfl) (ls := [some _]) rfl ?_
  refine aw_iload_n dX11_highest_0 rfl ?_
  by_cases cs1 : 1 ≤ w ∧ w ≤ 5
  · obtain cc1 := (show w = 1 ∨ w = 2 ∨ w = 3 ∨ w = 4 ∨ w = 5 by omega)
    rcases cc1 with cc1 | cc1 | cc1 | cc1 | cc1
    · refine aw_tableIn (tgt := 36) dX11_highest_1 (by omega) (by omega) (by omega) (by rw [cc1]; rfl) rfl ?_
      refine aw_ldc dX11_highest_36 qk_X11_126 ?_
      refine aw_st (st' := vi 99999 :: _) rfl ?_
      exact aw_ireturn dX11_highest_38 rfl rfl ⟨Nat.le_refl _, Nat.le_refl _⟩ (hQ _ (by (repeat' split) <;> omega))
    · refine aw_tableIn (tgt := 39) dX11_highest_1 (by omega) (by omega) (by omega) (by rw [cc1]; rfl) rfl ?_
      refine aw_bipush dX11_highest_39 rfl ?_
      exact aw_ireturn dX11_highest_41 rfl rfl ⟨Nat.le_refl _, Nat.le_refl _⟩ (hQ _ (by (repeat' split) <;> omega))
    · refine aw_tableIn (tgt := 48) dX11_highest_1 (by omega) (by omega) (by omega) (by rw [cc1]; rfl) rfl ?_
      refine aw_bipush dX11_highest_48 rfl ?_
      exact aw_ireturn dX11_highest_50 rfl rfl ⟨Nat.le_refl _, Nat.le_refl _⟩ (hQ _ (by (repeat' split) <;> omega))
    · refine aw_tableIn (tgt := 42) dX11_highest_1 (by omega) (by omega) (by omega) (by rw [cc1]; rfl) rfl ?_
      refine aw_sipush dX11_highest_42 rfl ?_
      exact aw_ireturn dX11_highest_45 rfl rfl ⟨Nat.le_refl _, Nat.le_refl _⟩ (hQ _ (by (repeat' split) <;> omega))
    · refine aw_tableIn (tgt := 46) dX11_highest_1 (by omega) (by omega) (by omega) (by rw [cc1]; rfl) rfl ?_
      refine aw_iconst dX11_highest_46 ?_
      exact aw_ireturn dX11_highest_47 rfl rfl ⟨Nat.le_refl _, Nat.le_refl _⟩ (hQ _ (by (repeat' split) <;> omega))
  · refine aw_tableOut (tgt := 48) dX11_highest_1 (by omega) (by omega) rfl ?_
    refine aw_bipush dX11_highest_48 rfl ?_
    exact aw_ireturn dX11_highest_50 rfl rfl ⟨Nat.le_refl _, Nat.le_refl _⟩ (hQ _ (by (repeat' split) <;> omega))

theorem tL_is {w : Int} (h : 0 ≤ w ∧ w ≤ 5) : tL w = if w = 1 ∨ w = 2 ∨ w = 5 then 1 else 0 := by
  have e : w = 0 ∨ w = 1 ∨ w = 2 ∨ w = 3 ∨ w = 4 ∨ w = 5 := by omega
  rcases e with e | e | e | e | e | e <;> subst e <;> rfl
theorem tM_is {w : Int} (h : 0 ≤ w ∧ w ≤ 5) : tM w = if w = 1 then 99999 else if w = 2 then 90 else if w = 4 then 2000 else if w = 5 then 3 else 100 := by
  have e : w = 0 ∨ w = 1 ∨ w = 2 ∨ w = 3 ∨ w = 4 ∨ w = 5 := by omega
  rcases e with e | e | e | e | e | e <;> subst e <;> rfl

set_option maxHeartbeats 1000000 in
theorem c_X11_set {Γ : GT} {S T U V A : St} {G : Gw} {nx d : Nat} {Q : QT} (hnx : 52 ≤ nx) {w n : Int} {c : Int} (hI : Inv c A) (hA : Ag A (V 0)) (hL : RgL V) (hM : 0 ≤ V 10 0 ∧ V 10 0 ≤ 10) (hw : inI w) (hn : inI n) (hN : ∀ r, r = rSet A w n → r ≠ 0 → Q (some (vi r)) (hp Γ S T U V G) nx) (hQ : rSet A w n = 0 → ∀ V2, KP V V2 → Ag (u1 A 0 w n) (V2 0) → Q (some (vi (A 0 w))) (hp Γ S T U V2 G) nx) : AM Γ MX11_set (d + 3, 0, 0) [rf Γ 43, vi w, vi n] (hp Γ S T U V G) nx Q := by
  refine am_of (by decide) (Nat.le_of_ble_eq_true rfl) (ls := [some (rf Γ 43), some _, some _]) rfl ?_
  have hR := hI.R
  have i1 := hI.i1
  have hz : 0 ≤ A 28 0 ∧ A 28 0 ≤ 60 := i1.2.2.1
  have hkS : nS A = (A 28 0).toNat := rfl
  have hkI : nIm A = (A 27 0).toNat := rfl
  have hkO : nOr A = (A 26 0).toNat := rfl
  have hb := hI.bd
  refine aw_aload_n dX11_set_0 rfl ?_
  refine aw_callV (As := []) (ρ := (_, 0, 0)) (kn' := (0, 0)) cv_X11_286 dX11_set_1 rfl rfl (hc43 hnx) rfl rfl (Nat.le_of_ble_eq_true rfl) (rmR _ _ _) ⟨Nat.le_refl _, Nat.le_refl _⟩ rfl (c_X11_hasScheme hnx hI hA hL (fun r1 h1 => ?_))
  rcases h1 with ⟨rfl, h1⟩ | ⟨rfl, h1⟩
  · skip
    refine aw_if_eq (tgt := 46) dX11_set_4 rfl (by decide) (fun c => absurd c (by decide)) (fun _ => ?_)
    refine aw_iload_n dX11_set_7 rfl ?_
    refine aw_i2l dX11_set_8 (by omega) ?_
    refine aw_lconst0 dX11_set_9 ?_
    refine aw_ldc2 dX11_set_10 qk_X11_297 ?_
    refine aw_st (st' := vl 5 :: _) rfl ?_
    refine aw_callS (As := [_, _, _]) (ρ := (_, 0, 0)) (kn' := (0, 0)) cs_X11_51 dX11_set_13 rfl rfl (Nat.le_of_ble_eq_true rfl) (rmR _ _ _) ⟨Nat.le_refl _, Nat.le_refl _⟩ rfl (c_X11_in hnx (by omega) (fun r13 h13 => ?_))
    rcases h13 with ⟨rfl, h13⟩ | ⟨rfl, h13⟩
    · skip
      refine aw_if_eq (tgt := 46) dX11_set_16 rfl (by decide) (fun c => absurd c (by decide)) (fun _ => ?_)
      refine aw_iload_n dX11_set_19 rfl ?_
      refine aw_i2l dX11_set_20 (by omega) ?_
      refine aw_iload_n dX11_set_21 rfl ?_
      refine aw_callS (As := [_]) (ρ := (_, 0, 0)) (kn' := (0, 0)) cs_X11_144 dX11_set_22 rfl rfl (Nat.le_of_ble_eq_true rfl) (rmR _ _ _) ⟨Nat.le_refl _, Nat.le_refl _⟩ rfl (c_X11_lowest hnx (by omega) (fun r22 h22 => ?_))
      have e1 := tL_is (w := w) (by omega)
      rw [← e1] at h22
      have tl := tLM_in (w := w) (by omega)
      refine aw_i2l dX11_set_25 (by omega) ?_
      refine aw_iload_n dX11_set_26 rfl ?_
      refine aw_callS (As := [_]) (ρ := (_, 0, 0)) (kn' := (0, 0)) cs_X11_148 dX11_set_27 rfl rfl (Nat.le_of_ble_eq_true rfl) (rmR _ _ _) ⟨Nat.le_refl _, Nat.le_refl _⟩ rfl (c_X11_highest hnx (by omega) (fun r27 h27 => ?_))
      have e2 := tM_is (w := w) (by omega)
      rw [← e2] at h27
      refine aw_i2l dX11_set_30 (by omega) ?_
      refine aw_callS (As := [_, _, _]) (ρ := (_, 0, 0)) (kn' := (0, 0)) cs_X11_51 dX11_set_31 rfl rfl (Nat.le_of_ble_eq_true rfl) (rmR _ _ _) ⟨Nat.le_refl _, Nat.le_refl _⟩ rfl (c_X11_in hnx (by omega) (fun r31 h31 => ?_))
      rcases h31 with ⟨rfl, h31⟩ | ⟨rfl, h31⟩
      · skip
        refine aw_if_eq (tgt := 46) dX11_set_34 rfl (by decide) (fun c => absurd c (by decide)) (fun _ => ?_)
        refine aw_aload_n dX11_set_37 rfl ?_
        refine aw_iload_n dX11_set_38 rfl ?_
        refine aw_iload_n dX11_set_39 rfl ?_
        refine aw_callV (As := [_, _]) (ρ := (_, 0, 0)) (kn' := (0, 0)) cv_X11_294 dX11_set_40 rfl rfl (hc43 hnx) rfl rfl (Nat.le_of_ble_eq_true rfl) (rmR _ _ _) ⟨Nat.le_refl _, Nat.le_refl _⟩ rfl (c_X11_becomes (f := 0) (i := w) hnx hA hb hL hM (un_0 (by omega)) (by decide) rfl (hR 0 (by decide) w) (by omega) (fun r40 V40 h40 => ?_))
        refine aw_goto (tgt := 47) dX11_set_43 rfl ?_
        exact aw_ireturn dX11_set_47 rfl rfl ⟨Nat.le_refl _, Nat.le_refl _⟩ (by first | exact h40.elim (fun z => by obtain ⟨e, e2, e3⟩ := z; subst e2; subst e3; exact hN _ (by simp only [rSet, isL, isI, isO, isN]; (repeat' split) <;> omega) (by omega)) (fun z => by obtain ⟨e, e2, hK, hA2⟩ := z; subst e2; exact hQ (by simp only [rSet, isL, isI, isO, isN]; (repeat' split) <;> omega) _ hK hA2) | exact hN _ (by simp only [rSet, isL, isI, isO, isN]; (repeat' split) <;> omega) (by omega))
      · skip
        refine aw_if_eq (tgt := 46) dX11_set_34 rfl (by decide) (fun _ => ?_) (fun c => absurd c (by decide))
        refine aw_iconst dX11_set_46 ?_
        exact aw_ireturn dX11_set_47 rfl rfl ⟨Nat.le_refl _, Nat.le_refl _⟩ (by first | exact h40.elim (fun z => by obtain ⟨e, e2, e3⟩ := z; subst e2; subst e3; exact hN _ (by simp only [rSet, isL, isI, isO, isN]; (repeat' split) <;> omega) (by omega)) (fun z => by obtain ⟨e, e2, hK, hA2⟩ := z; subst e2; exact hQ (by simp only [rSet, isL, isI, isO, isN]; (repeat' split) <;> omega) _ hK hA2) | exact hN _ (by simp only [rSet, isL, isI, isO, isN]; (repeat' split) <;> omega) (by omega))
    · skip
      refine aw_if_eq (tgt := 46) dX11_set_16 rfl (by decide) (fun _ => ?_) (fun c => absurd c (by decide))
      refine aw_iconst dX11_set_46 ?_
      exact aw_ireturn dX11_set_47 rfl rfl ⟨Nat.le_refl _, Nat.le_refl _⟩ (by first | exact h40.elim (fun z => by obtain ⟨e, e2, e3⟩ := z; subst e2; subst e3; exact hN _ (by simp only [rSet, isL, isI, isO, isN]; (repeat' split) <;> omega) (by omega)) (fun z => by obtain ⟨e, e2, hK, hA2⟩ := z; subst e2; exact hQ (by simp only [rSet, isL, isI, isO, isN]; (repeat' split) <;> omega) _ hK hA2) | exact hN _ (by simp only [rSet, isL, isI, isO, isN]; (repeat' split) <;> omega) (by omega))
  · skip
    refine aw_if_eq (tgt := 46) dX11_set_4 rfl (by decide) (fun _ => ?_) (fun c => absurd c (by decide))
    refine aw_iconst dX11_set_46 ?_
    exact aw_ireturn dX11_set_47 rfl rfl ⟨Nat.le_refl _, Nat.le_refl _⟩ (by first | exact h40.elim (fun z => by obtain ⟨e, e2, e3⟩ := z; subst e2; subst e3; exact hN _ (by simp only [rSet, isL, isI, isO, isN]; (repeat' split) <;> omega) (by omega)) (fun z => by obtain ⟨e, e2, hK, hA2⟩ := z; subst e2; exact hQ (by simp only [rSet, isL, isI, isO, isN]; (repeat' split) <;> omega) _ hK hA2) | exact hN _ (by simp only [rSet, isL, isI, isO, isN]; (repeat' split) <;> omega) (by omega))


/-! the reference: an application, an excess -/
theorem snl_no {x : Int} (h : 0 ≤ x ∧ x < 2047 * 4503599627370496) : vn_snl2d (L x) = false := by
  have e : (L x).toUInt64.toNat = x.toNat := LU_toNat (by omega)
  have hn : ¬ ((L x).toUInt64 &&& 0x7fffffffffffffff > 0x7ff0000000000000) := by
    intro z
    have z2 : (0x7ff0000000000000 : UInt64).toNat < ((L x).toUInt64 &&& 0x7fffffffffffffff).toNat := UInt64.lt_iff_toNat_lt.mp z
    rw [UInt64.toNat_and, e] at z2
    have z3 := Nat.and_le_left (n := x.toNat) (m := (0x7fffffffffffffff : UInt64).toNat)
    have z4 : (0x7ff0000000000000 : UInt64).toNat = 9218868437227405312 := rfl
    omega
  unfold vn_snl2d
  rw [decide_eq_false hn, Bool.false_and]

set_option maxHeartbeats 1000000 in
theorem c_X11_apply {Γ : GT} {S T U V A : St} {G : Gw} {nx d : Nat} {Q : QT} (hnx : 52 ≤ nx) {i j n : Int} {c : Int} (hI : Inv c A) (hA : Ag A (V 0)) (hL : RgL V) (hM : 0 ≤ V 10 0 ∧ V 10 0 ≤ 10) (hi : inI i) (hj : inI j) (hn : inI n) (hN : ∀ r, r = rApply A i j n → r ≠ 0 → Q (some (vi r)) (hp Γ S T U V G) nx) (hQ : rApply A i j n = 0 → ∀ V2, KP V V2 → Ag (grS A i j (aWould A i j n)) (V2 0) → Q (some (vi (A 28 0))) (hp Γ S T U V2 G) nx) : AM Γ MX11_apply (d + 7, 0, 0) [rf Γ 43, vi i, vi j, vi n] (hp Γ S T U V G) nx Q := by
  refine am_of (by decide) (Nat.le_of_ble_eq_true rfl) (ls := [some (rf Γ 43), some _, some _, some _, none]) rfl ?_
  have hR := hI.R
  have i1 := hI.i1
  have hz : 0 ≤ A 28 0 ∧ A 28 0 ≤ 60 := i1.2.2.1
  have hkS : nS A = (A 28 0).toNat := rfl
  have hkI : nIm A = (A 27 0).toNat := rfl
  have hkO : nOr A = (A 26 0).toNat := rfl
  have hb := hI.bd
  refine aw_aload_n dX11_apply_0 rfl ?_
  refine aw_iload_n dX11_apply_1 rfl ?_
  refine aw_iload_n dX11_apply_2 rfl ?_
  refine aw_callV (As := [_, _]) (ρ := (_, 0, 0)) (kn' := (0, 0)) cv_X11_236 dX11_apply_3 rfl rfl (hc43 hnx) rfl rfl (Nat.le_of_ble_eq_true rfl) (rmR _ _ _) ⟨Nat.le_refl _, Nat.le_refl _⟩ rfl (c_X11_arePair hnx hI hA hL (by omega) (fun r3 h3 => ?_))
  rcases h3 with ⟨rfl, h3⟩ | ⟨rfl, h3⟩
  · skip
    refine aw_if_eq (tgt := 16) dX11_apply_6 rfl (by decide) (fun c => absurd c (by decide)) (fun _ => ?_)
    refine aw_iload_n dX11_apply_9 rfl ?_
    refine aw_callS (As := [_]) (ρ := (_, 0, 0)) (kn' := (0, 0)) cs_X11_239 dX11_apply_10 rfl rfl (Nat.le_of_ble_eq_true rfl) (rmR _ _ _) ⟨Nat.le_refl _, Nat.le_refl _⟩ rfl (c_X11_isMuch hnx (by omega) (fun r10 h10 => ?_))
    rcases h10 with ⟨rfl, h10⟩ | ⟨rfl, h10⟩
    · skip
      refine aw_if_ne (tgt := 18) dX11_apply_13 rfl (by decide) (fun _ => ?_) (fun c => absurd c (by decide))
      refine aw_aload_n dX11_apply_18 rfl ?_
      refine aw_iload_n dX11_apply_19 rfl ?_
      refine aw_iload_n dX11_apply_20 rfl ?_
      refine aw_iload_n dX11_apply_21 rfl ?_
      refine aw_callV (As := [_, _, _]) (ρ := (_, 0, 0)) (kn' := (0, 0)) cv_X11_229 dX11_apply_22 rfl rfl (hc43 hnx) rfl rfl (Nat.le_of_ble_eq_true rfl) (rmR _ _ _) ⟨Nat.le_refl _, Nat.le_refl _⟩ rfl (c_X11_grantable hnx hI hA hL (by omega) (by omega) (by omega) (fun r22 h22 => ?_))
      have of := offer_in A i j n (A 14 (j * 8 + 3)) (A 28 0) (by omega) (hI.pr (i := i) (o := j) (by omega) (by omega)).2.2.1
      have ew : aWould A i j n = r22 := by unfold aWould; rw [if_pos (by simp only [isI, isO, isN]; omega)]; omega
      refine aw_istore (ls' := [some (rf Γ 43), some _, some _, some _, some _]) dX11_apply_25 (by decide) rfl ?_
      refine aw_iload dX11_apply_27 rfl ?_
      refine aw_if_ge (tgt := 35) dX11_apply_29 rfl (by omega) (fun c29 => ?_) (fun c29 => ?_)
      · skip
        refine aw_aload_n dX11_apply_35 rfl ?_
        refine aw_callV (As := []) (ρ := (_, 0, 0)) (kn' := (0, 0)) cv_X11_242 dX11_apply_36 rfl rfl (hc43 hnx) rfl rfl (Nat.le_of_ble_eq_true rfl) (rmR _ _ _) ⟨Nat.le_refl _, Nat.le_refl _⟩ rfl (c_X11_keepsPast hnx hL (by omega) (fun V36 hK hV36 => ?_))
        have hX : VX V36 V36 := VX.rfl
        replace hL := hK.2.1
        replace hA : Ag A (V36 0) := by rw [hV36]; exact hA
        refine aw_aload_n dX11_apply_39 rfl ?_
        refine aw_iload_n dX11_apply_40 rfl ?_
        refine aw_iload_n dX11_apply_41 rfl ?_
        refine aw_iload_n dX11_apply_42 rfl ?_
        refine aw_callV (As := [_, _, _]) (ρ := (_, 0, 0)) (kn' := (0, 0)) cv_X11_245 dX11_apply_43 rfl rfl (hc43 hnx) rfl rfl (Nat.le_of_ble_eq_true rfl) (rmR _ _ _) ⟨Nat.le_refl _, Nat.le_refl _⟩ rfl (c_X11_issues hnx hI hA hL (by omega) (by omega) (by omega) (fun r43 V43 h43 => ?_))
        exact aw_ireturn dX11_apply_46 rfl rfl ⟨Nat.le_refl _, Nat.le_refl _⟩ (h43.elim (fun z => absurd z.1 (by omega)) (fun z => by obtain ⟨z1, z2, z3, z4, z5⟩ := z; subst z2; rw [← h22, ← ew] at z5; exact hQ (by unfold rApply; rw [ew, if_neg (by omega)]) _ (hK.vx z3 z4) z5))
      · skip
        refine aw_iload dX11_apply_32 rfl ?_
        exact aw_ireturn dX11_apply_34 rfl rfl ⟨Nat.le_refl _, Nat.le_refl _⟩ (hN _ (by unfold rApply; rw [ew, if_pos (by omega)]) (by omega))
    · skip
      refine aw_if_ne (tgt := 18) dX11_apply_13 rfl (by decide) (fun c => absurd c (by decide)) (fun _ => ?_)
      have aw1 : aWould A i j n = -1 := by unfold aWould; rw [if_neg (by simp only [isI, isO, isN]; omega)]
      refine aw_iconst dX11_apply_16 ?_
      exact aw_ireturn dX11_apply_17 rfl rfl ⟨Nat.le_refl _, Nat.le_refl _⟩ (hN _ (by unfold rApply; rw [aw1]; rfl) (by decide))
  · skip
    refine aw_if_eq (tgt := 16) dX11_apply_6 rfl (by decide) (fun _ => ?_) (fun c => absurd c (by decide))
    have aw1 : aWould A i j n = -1 := by unfold aWould; rw [if_neg (by simp only [isI, isO, isN]; omega)]
    refine aw_iconst dX11_apply_16 ?_
    exact aw_ireturn dX11_apply_17 rfl rfl ⟨Nat.le_refl _, Nat.le_refl _⟩ (hN _ (by unfold rApply; rw [aw1]; rfl) (by decide))

set_option maxHeartbeats 1000000 in
theorem c_X11_owedOf {Γ : GT} {S T U V A : St} {G : Gw} {nx d : Nat} {Q : QT} (hnx : 52 ≤ nx) {i : Int} {c : Int} (hI : Inv c A) (hA : Ag A (V 0)) (hL : RgL V) (hi : 0 ≤ i ∧ i < A 27 0) (hQ : Q (some (.double (L (A 23 i)).toUInt64)) (hp Γ S T U V G) nx) : AM Γ MX11_owedOf (d + 1, 0, 0) [rf Γ 43, vi i] (hp Γ S T U V G) nx Q := by
  refine am_of (by decide) (Nat.le_of_ble_eq_true rfl) (ls := [some (rf Γ 43), some _]) rfl ?_
  have hR := hI.R
  have i1 := hI.i1
  have hz : 0 ≤ A 28 0 ∧ A 28 0 ≤ 60 := i1.2.2.1
  have hkS : nS A = (A 28 0).toNat := rfl
  have hkI : nIm A = (A 27 0).toNat := rfl
  have hkO : nOr A = (A 26 0).toNat := rfl
  have hb := hI.bd
  have ow := hI.i11 i (by omega) (by omega)
  unfold OW at ow
  have cc := hI.cc
  refine aw_aload_n dX11_owedOf_0 rfl ?_
  refine aw_getf fg_X11_9 dX11_owedOf_1 (hc43 hnx) rfl ?_
  refine aw_sipush dX11_owedOf_4 rfl ?_
  refine aw_iload_n dX11_owedOf_7 rfl ?_
  refine aw_iadd dX11_owedOf_8 ?_
  refine aw_rdA (f := 23) (i := i) (v := A 23 i) dX11_owedOf_9 hnx hL hA hb (un_23 hi) (by show _ = 304 + (i); omega) (rfl) (fun q9 => ?_)
  refine aw_l2dbits qm_X11_260 qv_java_lang_Double_longBitsToDouble qt_java_lang_Double_longBitsToDouble qn_Jxe99ae (snl_no (by omega)) (rmN _ _ _ (Nat.le_of_ble_eq_true rfl)) dX11_owedOf_10 ?_
  exact aw_dreturn dX11_owedOf_13 rfl ⟨Nat.le_refl _, Nat.le_refl _⟩ hQ

set_option maxHeartbeats 1000000 in
theorem c_X11_excess {Γ : GT} {S T U V A : St} {G : Gw} {nx d : Nat} {Q : QT} (hnx : 52 ≤ nx) {i j n v : Int} {c : Int} (hI : Inv c A) (hA : Ag A (V 0)) (hL : RgL V) (hM : 0 ≤ V 10 0 ∧ V 10 0 ≤ 10) (hi : inI i) (hj : inI j) (hn : inI n) (hv : inI v) (hN : ∀ r, r = rExc A i j n v → r ≠ 0 → Q (some (vl r)) (hp Γ S T U V G) nx) (hc : c ≤ 511) (hQ : rExc A i j n v = 0 → ∀ V2, KP V V2 → Ag (exS A i j n v) (V2 0) → Q (some (.long (dueD A n v).toInt64)) (hp Γ S T U V2 G) nx) : AM Γ MX11_excess (d + 4, 0, 0) [rf Γ 43, vi i, vi j, vi n, vi v] (hp Γ S T U V G) nx Q := by
  refine am_of (by decide) (Nat.le_of_ble_eq_true rfl) (ls := [some (rf Γ 43), some _, some _, some _, some _, none, none]) rfl ?_
  have hR := hI.R
  have i1 := hI.i1
  have hz : 0 ≤ A 28 0 ∧ A 28 0 ≤ 60 := i1.2.2.1
  have hkS : nS A = (A 28 0).toNat := rfl
  have hkI : nIm A = (A 27 0).toNat := rfl
  have hkO : nOr A = (A 26 0).toNat := rfl
  have hb := hI.bd
  refine aw_aload_n dX11_excess_0 rfl ?_
  refine aw_iload_n dX11_excess_1 rfl ?_
  refine aw_iload_n dX11_excess_2 rfl ?_
  refine aw_callV (As := [_, _]) (ρ := (_, 0, 0)) (kn' := (0, 0)) cv_X11_236 dX11_excess_3 rfl rfl (hc43 hnx) rfl rfl (Nat.le_of_ble_eq_true rfl) (rmR _ _ _) ⟨Nat.le_refl _, Nat.le_refl _⟩ rfl (c_X11_arePair hnx hI hA hL (by omega) (fun r3 h3 => ?_))
  rcases h3 with ⟨rfl, h3⟩ | ⟨rfl, h3⟩
  · skip
    refine aw_if_eq (tgt := 29) dX11_excess_6 rfl (by decide) (fun c => absurd c (by decide)) (fun _ => ?_)
    refine aw_iload_n dX11_excess_9 rfl ?_
    refine aw_callS (As := [_]) (ρ := (_, 0, 0)) (kn' := (0, 0)) cs_X11_239 dX11_excess_10 rfl rfl (Nat.le_of_ble_eq_true rfl) (rmR _ _ _) ⟨Nat.le_refl _, Nat.le_refl _⟩ rfl (c_X11_isMuch hnx (by omega) (fun r10 h10 => ?_))
    rcases h10 with ⟨rfl, h10⟩ | ⟨rfl, h10⟩
    · skip
      refine aw_if_eq (tgt := 29) dX11_excess_13 rfl (by decide) (fun c => absurd c (by decide)) (fun _ => ?_)
      refine aw_iload dX11_excess_16 rfl ?_
      refine aw_i2l dX11_excess_18 (by omega) ?_
      refine aw_lconst1 dX11_excess_19 ?_
      refine aw_ldc2 dX11_excess_20 qk_X11_266 ?_
      refine aw_st (st' := vl 9999 :: _) rfl ?_
      refine aw_callS (As := [_, _, _]) (ρ := (_, 0, 0)) (kn' := (0, 0)) cs_X11_51 dX11_excess_23 rfl rfl (Nat.le_of_ble_eq_true rfl) (rmR _ _ _) ⟨Nat.le_refl _, Nat.le_refl _⟩ rfl (c_X11_in hnx (by omega) (fun r23 h23 => ?_))
      rcases h23 with ⟨rfl, h23⟩ | ⟨rfl, h23⟩
      · skip
        refine aw_if_ne (tgt := 33) dX11_excess_26 rfl (by decide) (fun _ => ?_) (fun c => absurd c (by decide))
        have acc : rExc A i j n v = 0 := by simp only [rExc, isL, isI, isO, isN]; (repeat' split) <;> omega
        refine aw_aload_n dX11_excess_33 rfl ?_
        refine aw_callV (As := []) (ρ := (_, 0, 0)) (kn' := (0, 0)) cv_X11_242 dX11_excess_34 rfl rfl (hc43 hnx) rfl rfl (Nat.le_of_ble_eq_true rfl) (rmR _ _ _) ⟨Nat.le_refl _, Nat.le_refl _⟩ rfl (c_X11_keepsPast hnx hL (by omega) (fun V34 hK hV34 => ?_))
        have hX : VX V34 V34 := VX.rfl
        replace hL := hK.2.1
        replace hA : Ag A (V34 0) := by rw [hV34]; exact hA
        have si : 0 ≤ i ∧ i < A 27 0 := by omega
        have sj : 0 ≤ j ∧ j < A 26 0 := by omega
        have t := hI.tm (by omega)
        have dm := dmD (n := n) (v := v) (t := A 0 4) (by omega) (by omega) (by omega)
        have du := dueDn (S := A) (n := n) (v := v) (by omega) (by omega) (by omega)
        have cc := hI.cc
        have ow := ow_add (c := c) (y := dueD A n v) ⟨cc.1, hc⟩ (hI.i11 i (by omega) (by omega)) du
        have nv : 0 ≤ n * v ∧ n * v ≤ 99999 * 9999 := ⟨Int.mul_nonneg (by omega) (by omega), Int.mul_le_mul (by omega) (by omega) (by omega) (by omega)⟩
        have q20 := hR 20 (by decide) (4 * i + j)
        have q14 := hR 14 (by decide) (j * 8 + 6)
        have q24 := hR 24 (by decide) 4
        refine aw_iload_n dX11_excess_37 rfl ?_
        refine aw_i2l dX11_excess_38 (by omega) ?_
        refine aw_iload dX11_excess_39 rfl ?_
        refine aw_i2l dX11_excess_41 (by omega) ?_
        refine aw_lmul dX11_excess_42 ?_
        refine aw_l2d dX11_excess_43 ?_
        refine aw_sd (a := FP.i2d (I (n * v))) (l2d_i (by omega)).symm ?_
        refine aw_aload_n dX11_excess_44 rfl ?_
        refine aw_getf fg_X11_9 dX11_excess_45 (hc43 hnx) rfl ?_
        refine aw_iconst dX11_excess_48 ?_
        refine aw_rdA (f := 0) (i := 4) (v := A 0 4) dX11_excess_49 hnx hL hA hb (un_0 (by decide)) (by show _ = (4); omega) (rfl) (fun q49 => ?_)
        refine aw_l2d dX11_excess_50 ?_
        refine aw_sd (a := FP.i2d (I (A 0 4))) (l2d_i (by omega)).symm ?_
        refine aw_dmul dX11_excess_51 (dm.n64 (by omega)) ?_
        refine aw_ldc2d dX11_excess_52 qk_X11_270 ?_
        refine aw_ddiv dX11_excess_55 (du.n64 (by omega)) ?_
        refine aw_sd (a := dueD A n v) rfl ?_
        refine aw_nmD (fun x5_56 hx5_56 => ?_)
        refine aw_dstore (ls' := [some (rf Γ 43), some _, some _, some _, some _, some _, none]) dX11_excess_56 (by decide) rfl ?_
        subst hx5_56
        refine aw_aload_n dX11_excess_58 rfl ?_
        refine aw_getf fg_X11_9 dX11_excess_59 (hc43 hnx) rfl ?_
        refine aw_sipush dX11_excess_62 rfl ?_
        refine aw_iload_n dX11_excess_65 rfl ?_
        refine aw_iadd dX11_excess_66 ?_
        refine aw_aload_n dX11_excess_67 rfl ?_
        refine aw_iload_n dX11_excess_68 rfl ?_
        refine aw_callV (As := [_]) (ρ := (_, 0, 0)) (kn' := (0, 0)) cv_X11_272 dX11_excess_69 rfl rfl (hc43 hnx) rfl rfl (Nat.le_of_ble_eq_true rfl) (rmR _ _ _) ⟨Nat.le_refl _, Nat.le_refl _⟩ rfl (c_X11_owedOf hnx hI hA hL (by omega) ?_)
        refine aw_dload dX11_excess_72 rfl ?_
        refine aw_dadd dX11_excess_74 (ow.2.n64 (by omega)) ?_
        refine aw_callS (As := [_]) (ρ := (_, 0, 0)) (kn' := (0, 0)) cs_X11_276 dX11_excess_75 rfl rfl (Nat.le_of_ble_eq_true rfl) (rmR _ _ _) ⟨Nat.le_refl _, Nat.le_refl _⟩ rfl (c_dtl hnx (ow.2.nn (by omega)) ?_)
        refine aw_slg (a := L (owB A i n v)) (by unfold owB; exact L_of _) ?_
        have oi : inL (owB A i n v) := by have z := ow.1; unfold OW at z; unfold owB; omega
        refine aw_stA (f := 23) (i := i) (v := owB A i n v) dX11_excess_78 hnx hX hL hA hb (un_23 si) (by decide) (by show _ = 304 + (i); omega) (rfl) (oi) (fun V78 hX hL hA => ?_)
        refine aw_aload_n dX11_excess_79 rfl ?_
        refine aw_getf fg_X11_9 dX11_excess_80 (hc43 hnx) rfl ?_
        refine aw_iload_n dX11_excess_83 rfl ?_
        refine aw_iload_n dX11_excess_84 rfl ?_
        refine aw_iconst dX11_excess_85 ?_
        refine aw_callS (As := [_, _, _]) (ρ := (_, 0, 0)) (kn' := (0, 0)) cs_X11_44 dX11_excess_86 rfl rfl (Nat.le_of_ble_eq_true rfl) (rmR _ _ _) ⟨Nat.le_refl _, Nat.le_refl _⟩ rfl (c_X11_pairAt hnx  (fun r86 h86 => ?_))
        refine aw_dup2_11 dX11_excess_89 rfl rfl ?_
        refine aw_rdA (f := 20) (i := 4 * i + j) (v := A 20 (4 * i + j)) dX11_excess_90 hnx hL hA hb (un_20 hb si sj) (by show _ = 48 + 8 * (4 * i + j) + 3; omega) (rfl) (fun q90 => ?_)
        refine aw_iload_n dX11_excess_91 rfl ?_
        refine aw_i2l dX11_excess_92 (by omega) ?_
        refine aw_ladd dX11_excess_93 ?_
        refine aw_stA (f := 20) (i := 4 * i + j) (v := A 20 (4 * i + j) + n) dX11_excess_94 hnx hX hL hA hb (un_20 hb si sj) (by decide) (by show _ = 48 + 8 * (4 * i + j) + 3; omega) (by omega) (by omega) (fun V94 hX hL hA => ?_)
        refine aw_aload_n dX11_excess_95 rfl ?_
        refine aw_getf fg_X11_9 dX11_excess_96 (hc43 hnx) rfl ?_
        refine aw_iload_n dX11_excess_99 rfl ?_
        refine aw_bipush dX11_excess_100 rfl ?_
        refine aw_callS (As := [_, _]) (ρ := (_, 0, 0)) (kn' := (0, 0)) cs_X11_40 dX11_excess_102 rfl rfl (Nat.le_of_ble_eq_true rfl) (rmR _ _ _) ⟨Nat.le_refl _, Nat.le_refl _⟩ rfl (c_X11_originAt hnx  (fun r102 h102 => ?_))
        refine aw_dup2_11 dX11_excess_105 rfl rfl ?_
        refine aw_rdA (f := 14) (i := j * 8 + 6) (v := A 14 (j * 8 + 6)) dX11_excess_106 hnx hL hA hb (un_14 sj (by decide)) (by show _ = 16 + (j * 8 + 6); omega) (rfl) (fun q106 => ?_)
        refine aw_iload_n dX11_excess_107 rfl ?_
        refine aw_i2l dX11_excess_108 (by omega) ?_
        refine aw_ladd dX11_excess_109 ?_
        refine aw_stA (f := 14) (i := j * 8 + 6) (v := A 14 (j * 8 + 6) + n) dX11_excess_110 hnx hX hL hA hb (un_14 sj (by decide)) (by decide) (by show _ = 16 + (j * 8 + 6); omega) (by omega) (by omega) (fun V110 hX hL hA => ?_)
        refine aw_aload_n dX11_excess_111 rfl ?_
        refine aw_getf fg_X11_9 dX11_excess_112 (hc43 hnx) rfl ?_
        refine aw_bipush dX11_excess_115 rfl ?_
        refine aw_dup2_11 dX11_excess_117 rfl rfl ?_
        refine aw_rdA (f := 24) (i := 4) (v := A 24 4) dX11_excess_118 hnx hL hA hb (un_24 (by decide)) (by show _ = 11 + (4); omega) (rfl) (fun q118 => ?_)
        refine aw_iload_n dX11_excess_119 rfl ?_
        refine aw_i2l dX11_excess_120 (by omega) ?_
        refine aw_ladd dX11_excess_121 ?_
        refine aw_stA (f := 24) (i := 4) (v := A 24 4 + n) dX11_excess_122 hnx hX hL hA hb (un_24 (by decide)) (by decide) (by show _ = 11 + (4); omega) (by omega) (by omega) (fun V122 hX hL hA => ?_)
        refine aw_dload dX11_excess_123 rfl ?_
        refine aw_callS (As := [_]) (ρ := (_, 0, 0)) (kn' := (0, 0)) cs_X11_276 dX11_excess_125 rfl rfl (Nat.le_of_ble_eq_true rfl) (rmR _ _ _) ⟨Nat.le_refl _, Nat.le_refl _⟩ rfl (c_dtl hnx (du.nn (by omega)) ?_)
        exact aw_lreturn dX11_excess_128 rfl ⟨Nat.le_refl _, Nat.le_refl _⟩ (hQ acc _ (hK.vx hX hL) hA)
      · skip
        refine aw_if_ne (tgt := 33) dX11_excess_26 rfl (by decide) (fun c => absurd c (by decide)) (fun _ => ?_)
        refine aw_ldc2 dX11_excess_29 qk_X11_268 ?_
        refine aw_st (st' := vl (-1) :: _) rfl ?_
        exact aw_lreturn dX11_excess_32 rfl ⟨Nat.le_refl _, Nat.le_refl _⟩ (hN _ (by simp only [rExc, isL, isI, isO, isN]; (repeat' split) <;> omega) (by omega))
    · skip
      refine aw_if_eq (tgt := 29) dX11_excess_13 rfl (by decide) (fun _ => ?_) (fun c => absurd c (by decide))
      refine aw_ldc2 dX11_excess_29 qk_X11_268 ?_
      refine aw_st (st' := vl (-1) :: _) rfl ?_
      exact aw_lreturn dX11_excess_32 rfl ⟨Nat.le_refl _, Nat.le_refl _⟩ (hN _ (by simp only [rExc, isL, isI, isO, isN]; (repeat' split) <;> omega) (by omega))
  · skip
    refine aw_if_eq (tgt := 29) dX11_excess_6 rfl (by decide) (fun _ => ?_) (fun c => absurd c (by decide))
    refine aw_ldc2 dX11_excess_29 qk_X11_268 ?_
    refine aw_st (st' := vl (-1) :: _) rfl ?_
    exact aw_lreturn dX11_excess_32 rfl ⟨Nat.le_refl _, Nat.le_refl _⟩ (hN _ (by simp only [rExc, isL, isI, isO, isN]; (repeat' split) <;> omega) (by omega))


/-! the reference: granting -/
theorem gr_yes (A : St) {i o n : Int} (h : A 15 (4 * i + o) = 1) : issS (u1 (u1 (u1 (u1 A 17 (4 * i + o) (A 17 (4 * i + o) - n)) 18 (4 * i + o) (A 18 (4 * i + o) + n)) 14 (o * 8 + 4) (A 14 (o * 8 + 4) + n)) 24 0 (A 24 0 + n)) i o n (A 25 0) (lastD A) (-1) = grS A i o n := by
  unfold grS gr1; rw [if_pos h]; rfl
theorem gr_no (A : St) {i o n : Int} (h : ¬ A 15 (4 * i + o) = 1) : issS (u1 (u1 (u1 (u1 A 14 (o * 8 + 3) (A 14 (o * 8 + 3) - n)) 18 (4 * i + o) (A 18 (4 * i + o) + n)) 14 (o * 8 + 4) (A 14 (o * 8 + 4) + n)) 24 0 (A 24 0 + n)) i o n (A 25 0) (lastD A) (-1) = grS A i o n := by
  unfold grS gr1; rw [if_neg h]; unfold gr2 addS
  have e : (u1 (u1 A 14 (o * 8 + 3) (A 14 (o * 8 + 3) + -n)) 18 (4 * i + o) (A 18 (4 * i + o) + n)) 14 (o * 8 + 4) = A 14 (o * 8 + 4) := by
    rw [u1_at, if_neg (fun z => absurd z.1 (by decide)), u1_at, if_neg (by omega)]
  rw [e, show A 14 (o * 8 + 3) + -n = A 14 (o * 8 + 3) - n by omega]

set_option maxHeartbeats 1000000 in
theorem c_X11_issues {Γ : GT} {S T U V A : St} {G : Gw} {nx d : Nat} {Q : QT} (hnx : 52 ≤ nx) {i a n : Int} {c : Int} (hI : Inv c A) (hA : Ag A (V 0)) (hL : RgL V) (hi : 0 ≤ i ∧ i < A 27 0) (ha : 0 ≤ a ∧ a < A 26 0) (hn : 1 ≤ n ∧ n ≤ 99999) (hQ : ∀ r V2, (offer A i a n (A 14 (a * 8 + 3)) (A 28 0) < 0 ∧ r = offer A i a n (A 14 (a * 8 + 3)) (A 28 0) ∧ V2 = V ∨ 0 ≤ offer A i a n (A 14 (a * 8 + 3)) (A 28 0) ∧ r = A 28 0 ∧ VX V V2 ∧ RgL V2 ∧ Ag (grS A i a (offer A i a n (A 14 (a * 8 + 3)) (A 28 0))) (V2 0)) → Q (some (vi r)) (hp Γ S T U V2 G) nx) : AM Γ MX11_issues (d + 6, 0, 0) [rf Γ 43, vi i, vi a, vi n] (hp Γ S T U V G) nx Q := by
  refine am_of (by decide) (Nat.le_of_ble_eq_true rfl) (ls := [some (rf Γ 43), some _, some _, some _, none, none, none]) rfl ?_
  have hR := hI.R
  have i1 := hI.i1
  have hz : 0 ≤ A 28 0 ∧ A 28 0 ≤ 60 := i1.2.2.1
  have hkS : nS A = (A 28 0).toNat := rfl
  have hkI : nIm A = (A 27 0).toNat := rfl
  have hkO : nOr A = (A 26 0).toNat := rfl
  have hb := hI.bd
  have hX : VX V V := VX.rfl
  have pr := hI.pr hi ha
  have fg := hI.fg ha
  have tm := hI.tm (by omega)
  have of := offer_in A i a n (A 14 (a * 8 + 3)) (A 28 0) (by omega) pr.2.2.1
  have o60 := offer_60 (S := A) (i := i) (o := a) (n := n) (q := A 14 (a * 8 + 3)) (w := A 28 0)
  have q17 := hR 17 (by decide) (4 * i + a)
  have q3 := hR 14 (by decide) (a * 8 + 3)
  have q18 := hR 18 (by decide) (4 * i + a)
  have q4 := hR 14 (by decide) (a * 8 + 4)
  have q24 := hR 24 (by decide) 0
  refine aw_aload_n dX11_issues_0 rfl ?_
  refine aw_iload_n dX11_issues_1 rfl ?_
  refine aw_iload_n dX11_issues_2 rfl ?_
  refine aw_iload_n dX11_issues_3 rfl ?_
  refine aw_callV (As := [_, _, _]) (ρ := (_, 0, 0)) (kn' := (0, 0)) cv_X11_229 dX11_issues_4 rfl rfl (hc43 hnx) rfl rfl (Nat.le_of_ble_eq_true rfl) (rmR _ _ _) ⟨Nat.le_refl _, Nat.le_refl _⟩ rfl (c_X11_grantable hnx hI hA hL hi ha (by omega) (fun r4 h4 => ?_))
  generalize offer A i a n (A 14 (a * 8 + 3)) (A 28 0) = x at *
  subst h4
  refine aw_istore (ls' := [some (rf Γ 43), some _, some _, some _, some _, none, none]) dX11_issues_7 (by decide) rfl ?_
  refine aw_iload dX11_issues_9 rfl ?_
  refine aw_if_ge (tgt := 17) dX11_issues_11 rfl (by omega) (fun c11 => ?_) (fun c11 => ?_)
  · skip
    have o60 := o60 (by omega)
    refine aw_aload_n dX11_issues_17 rfl ?_
    refine aw_getf fg_X11_9 dX11_issues_18 (hc43 hnx) rfl ?_
    refine aw_aload_n dX11_issues_21 rfl ?_
    refine aw_iload_n dX11_issues_22 rfl ?_
    refine aw_iload_n dX11_issues_23 rfl ?_
    refine aw_iconst dX11_issues_24 ?_
    refine aw_callV (As := [_, _, _]) (ρ := (_, 0, 0)) (kn' := (0, 0)) cv_X11_167 dX11_issues_25 rfl rfl (hc43 hnx) rfl rfl (Nat.le_of_ble_eq_true rfl) (rmR _ _ _) ⟨Nat.le_refl _, Nat.le_refl _⟩ rfl (c_X11_ofPair_4 hnx hI hA hL (by omega) (by omega) (fun r25 h25 => ?_))
    refine aw_iconst dX11_issues_28 ?_
    refine aw_icmp_ne (tgt := 42) dX11_issues_29 rfl (by omega) (fun c29 => ?_) (fun c29 => ?_)
    · skip
      refine aw_iload_n dX11_issues_42 rfl ?_
      refine aw_iconst dX11_issues_43 ?_
      refine aw_callS (As := [_, _]) (ρ := (_, 0, 0)) (kn' := (0, 0)) cs_X11_40 dX11_issues_44 rfl rfl (Nat.le_of_ble_eq_true rfl) (rmR _ _ _) ⟨Nat.le_refl _, Nat.le_refl _⟩ rfl (c_X11_originAt hnx  (fun r44 h44 => ?_))
      refine aw_dup2_11 dX11_issues_47 rfl rfl ?_
      refine aw_rdA (f := 14) (i := a * 8 + 3) (v := A 14 (a * 8 + 3)) dX11_issues_48 hnx hL hA hb (un_14 ha (by decide)) (by show _ = 16 + (a * 8 + 3); omega) (rfl) (fun q48 => ?_)
      refine aw_iload dX11_issues_49 rfl ?_
      refine aw_i2l dX11_issues_51 (by omega) ?_
      refine aw_lsub dX11_issues_52 ?_
      refine aw_stA (f := 14) (i := a * 8 + 3) (v := A 14 (a * 8 + 3) - r4) dX11_issues_53 hnx hX hL hA hb (un_14 ha (by decide)) (by decide) (by show _ = 16 + (a * 8 + 3); omega) (by omega) (by omega) (fun V53 hX hL hA => ?_)
      refine aw_aload_n dX11_issues_54 rfl ?_
      refine aw_getf fg_X11_9 dX11_issues_55 (hc43 hnx) rfl ?_
      refine aw_iload_n dX11_issues_58 rfl ?_
      refine aw_iload_n dX11_issues_59 rfl ?_
      refine aw_bipush dX11_issues_60 rfl ?_
      refine aw_callS (As := [_, _, _]) (ρ := (_, 0, 0)) (kn' := (0, 0)) cs_X11_44 dX11_issues_62 rfl rfl (Nat.le_of_ble_eq_true rfl) (rmR _ _ _) ⟨Nat.le_refl _, Nat.le_refl _⟩ rfl (c_X11_pairAt hnx  (fun r62 h62 => ?_))
      refine aw_dup2_11 dX11_issues_65 rfl rfl ?_
      refine aw_rdA (f := 18) (i := 4 * i + a) (v := A 18 (4 * i + a)) dX11_issues_66 hnx hL hA hb (un_18 hb hi ha) (by show _ = 48 + 8 * (4 * i + a) + 7; omega) (rfl) (fun q66 => ?_)
      refine aw_iload dX11_issues_67 rfl ?_
      refine aw_i2l dX11_issues_69 (by omega) ?_
      refine aw_ladd dX11_issues_70 ?_
      refine aw_stA (f := 18) (i := 4 * i + a) (v := A 18 (4 * i + a) + r4) dX11_issues_71 hnx hX hL hA hb (un_18 hb hi ha) (by decide) (by show _ = 48 + 8 * (4 * i + a) + 7; omega) (by omega) (by omega) (fun V71 hX hL hA => ?_)
      refine aw_aload_n dX11_issues_72 rfl ?_
      refine aw_getf fg_X11_9 dX11_issues_73 (hc43 hnx) rfl ?_
      refine aw_iload_n dX11_issues_76 rfl ?_
      refine aw_iconst dX11_issues_77 ?_
      refine aw_callS (As := [_, _]) (ρ := (_, 0, 0)) (kn' := (0, 0)) cs_X11_40 dX11_issues_78 rfl rfl (Nat.le_of_ble_eq_true rfl) (rmR _ _ _) ⟨Nat.le_refl _, Nat.le_refl _⟩ rfl (c_X11_originAt hnx  (fun r78 h78 => ?_))
      refine aw_dup2_11 dX11_issues_81 rfl rfl ?_
      refine aw_rdA (f := 14) (i := a * 8 + 4) (v := A 14 (a * 8 + 4)) dX11_issues_82 hnx hL hA hb (un_14 ha (by decide)) (by show _ = 16 + (a * 8 + 4); omega) (by first | rfl | (show u1 A 14 _ _ 14 _ = _; rw [u1_at, if_neg (by omega)])) (fun q82 => ?_)
      refine aw_iload dX11_issues_83 rfl ?_
      refine aw_i2l dX11_issues_85 (by omega) ?_
      refine aw_ladd dX11_issues_86 ?_
      refine aw_stA (f := 14) (i := a * 8 + 4) (v := A 14 (a * 8 + 4) + r4) dX11_issues_87 hnx hX hL hA hb (un_14 ha (by decide)) (by decide) (by show _ = 16 + (a * 8 + 4); omega) (by omega) (by omega) (fun V87 hX hL hA => ?_)
      refine aw_aload_n dX11_issues_88 rfl ?_
      refine aw_getf fg_X11_9 dX11_issues_89 (hc43 hnx) rfl ?_
      refine aw_bipush dX11_issues_92 rfl ?_
      refine aw_dup2_11 dX11_issues_94 rfl rfl ?_
      refine aw_rdA (f := 24) (i := 0) (v := A 24 0) dX11_issues_95 hnx hL hA hb (un_24 (by decide)) (by show _ = 11 + (0); omega) (rfl) (fun q95 => ?_)
      refine aw_iload dX11_issues_96 rfl ?_
      refine aw_i2l dX11_issues_98 (by omega) ?_
      refine aw_ladd dX11_issues_99 ?_
      refine aw_stA (f := 24) (i := 0) (v := A 24 0 + r4) dX11_issues_100 hnx hX hL hA hb (un_24 (by decide)) (by decide) (by show _ = 11 + (0); omega) (by omega) (by omega) (fun V100 hX hL hA => ?_)
      refine aw_aload_n dX11_issues_101 rfl ?_
      refine aw_getf fg_X11_9 dX11_issues_102 (hc43 hnx) rfl ?_
      refine aw_bipush dX11_issues_105 rfl ?_
      refine aw_rdA (f := 25) (i := 0) (v := A 25 0) dX11_issues_107 hnx hL hA hb (un_25) (by show _ = (9 : Int); omega) (rfl) (fun q107 => ?_)
      refine aw_aload_n dX11_issues_108 rfl ?_
      refine aw_getf fg_X11_9 dX11_issues_109 (hc43 hnx) rfl ?_
      refine aw_iconst dX11_issues_112 ?_
      refine aw_rdA (f := 0) (i := 2) (v := A 0 2) dX11_issues_113 hnx hL hA hb (un_0 (by decide)) (by show _ = (2); omega) (rfl) (fun q113 => ?_)
      refine aw_ladd dX11_issues_114 ?_
      refine aw_lconst1 dX11_issues_115 ?_
      refine aw_lsub dX11_issues_116 ?_
      refine aw_aload_n dX11_issues_117 rfl ?_
      refine aw_getf fg_X11_9 dX11_issues_118 (hc43 hnx) rfl ?_
      refine aw_bipush dX11_issues_121 rfl ?_
      refine aw_rdA (f := 25) (i := 0) (v := A 25 0) dX11_issues_123 hnx hL hA hb (un_25) (by show _ = (9 : Int); omega) (rfl) (fun q123 => ?_)
      refine aw_ldc2 dX11_issues_124 qk_X11_180 ?_
      refine aw_st (st' := vl 360 :: _) rfl ?_
      refine aw_ldiv dX11_issues_127 (by omega) (by omega) ?_
      refine aw_ldc2 dX11_issues_128 qk_X11_180 ?_
      refine aw_st (st' := vl 360 :: _) rfl ?_
      refine aw_lmul dX11_issues_131 ?_
      refine aw_ldc2 dX11_issues_132 qk_X11_180 ?_
      refine aw_st (st' := vl 360 :: _) rfl ?_
      refine aw_ladd dX11_issues_135 ?_
      refine aw_lconst1 dX11_issues_136 ?_
      refine aw_lsub dX11_issues_137 ?_
      refine aw_mminL qm_X11_193 dX11_issues_138 (by omega) (rmN _ _ _ (Nat.le_of_ble_eq_true rfl)) ⟨Nat.le_refl _, Nat.le_refl _⟩ (fun r138 h138 => ?_)
      refine aw_lstore (ls' := [some (rf Γ 43), some _, some _, some _, some _, some _, none]) dX11_issues_141 (by decide) rfl ?_
      have el : r138 = lastD A := by unfold lastD; omega
      subst el
      refine aw_aload_n dX11_issues_143 rfl ?_
      refine aw_iload_n dX11_issues_144 rfl ?_
      refine aw_iload_n dX11_issues_145 rfl ?_
      refine aw_iload dX11_issues_146 rfl ?_
      refine aw_aload_n dX11_issues_148 rfl ?_
      refine aw_getf fg_X11_9 dX11_issues_149 (hc43 hnx) rfl ?_
      refine aw_bipush dX11_issues_152 rfl ?_
      refine aw_rdA (f := 25) (i := 0) (v := A 25 0) dX11_issues_154 hnx hL hA hb (un_25) (by show _ = (9 : Int); omega) (rfl) (fun q154 => ?_)
      refine aw_lload dX11_issues_155 rfl ?_
      refine aw_iconst dX11_issues_157 ?_
      refine aw_callV (As := [_, _, _, _, _, _]) (ρ := (_, 0, 0)) (kn' := (0, 0)) cv_X11_232 dX11_issues_158 rfl rfl (hc43 hnx) rfl rfl (Nat.le_of_ble_eq_true rfl) (rmR _ _ _) ⟨Nat.le_refl _, Nat.le_refl _⟩ rfl (c_X11_newLicence hnx hA hb hL (show A 28 0 < 60 by omega) (by omega) (fun V158 hX158 hL hA => ?_))
      replace hX := hX.trans hX158
      exact aw_ireturn dX11_issues_161 rfl rfl ⟨Nat.le_refl _, Nat.le_refl _⟩ (hQ _ _ (Or.inr ⟨by omega, rfl, hX, hL, by first | (have w : A 15 (4 * i + a) = 1 := (by omega); rw [← gr_yes A w]; exact hA) | (have w : ¬ A 15 (4 * i + a) = 1 := (by omega); rw [← gr_no A w]; exact hA)⟩))
    · skip
      refine aw_iload_n dX11_issues_32 rfl ?_
      refine aw_iload_n dX11_issues_33 rfl ?_
      refine aw_bipush dX11_issues_34 rfl ?_
      refine aw_callS (As := [_, _, _]) (ρ := (_, 0, 0)) (kn' := (0, 0)) cs_X11_44 dX11_issues_36 rfl rfl (Nat.le_of_ble_eq_true rfl) (rmR _ _ _) ⟨Nat.le_refl _, Nat.le_refl _⟩ rfl (c_X11_pairAt hnx  (fun r36 h36 => ?_))
      refine aw_goto (tgt := 47) dX11_issues_39 rfl ?_
      refine aw_dup2_11 dX11_issues_47 rfl rfl ?_
      refine aw_rdA (f := 17) (i := 4 * i + a) (v := A 17 (4 * i + a)) dX11_issues_48 hnx hL hA hb (un_17 hb hi ha) (by show _ = 48 + 8 * (4 * i + a) + 6; omega) (rfl) (fun q48 => ?_)
      refine aw_iload dX11_issues_49 rfl ?_
      refine aw_i2l dX11_issues_51 (by omega) ?_
      refine aw_lsub dX11_issues_52 ?_
      refine aw_stA (f := 17) (i := 4 * i + a) (v := A 17 (4 * i + a) - r4) dX11_issues_53 hnx hX hL hA hb (un_17 hb hi ha) (by decide) (by show _ = 48 + 8 * (4 * i + a) + 6; omega) (by omega) (by omega) (fun V53 hX hL hA => ?_)
      refine aw_aload_n dX11_issues_54 rfl ?_
      refine aw_getf fg_X11_9 dX11_issues_55 (hc43 hnx) rfl ?_
      refine aw_iload_n dX11_issues_58 rfl ?_
      refine aw_iload_n dX11_issues_59 rfl ?_
      refine aw_bipush dX11_issues_60 rfl ?_
      refine aw_callS (As := [_, _, _]) (ρ := (_, 0, 0)) (kn' := (0, 0)) cs_X11_44 dX11_issues_62 rfl rfl (Nat.le_of_ble_eq_true rfl) (rmR _ _ _) ⟨Nat.le_refl _, Nat.le_refl _⟩ rfl (c_X11_pairAt hnx  (fun r62 h62 => ?_))
      refine aw_dup2_11 dX11_issues_65 rfl rfl ?_
      refine aw_rdA (f := 18) (i := 4 * i + a) (v := A 18 (4 * i + a)) dX11_issues_66 hnx hL hA hb (un_18 hb hi ha) (by show _ = 48 + 8 * (4 * i + a) + 7; omega) (rfl) (fun q66 => ?_)
      refine aw_iload dX11_issues_67 rfl ?_
      refine aw_i2l dX11_issues_69 (by omega) ?_
      refine aw_ladd dX11_issues_70 ?_
      refine aw_stA (f := 18) (i := 4 * i + a) (v := A 18 (4 * i + a) + r4) dX11_issues_71 hnx hX hL hA hb (un_18 hb hi ha) (by decide) (by show _ = 48 + 8 * (4 * i + a) + 7; omega) (by omega) (by omega) (fun V71 hX hL hA => ?_)
      refine aw_aload_n dX11_issues_72 rfl ?_
      refine aw_getf fg_X11_9 dX11_issues_73 (hc43 hnx) rfl ?_
      refine aw_iload_n dX11_issues_76 rfl ?_
      refine aw_iconst dX11_issues_77 ?_
      refine aw_callS (As := [_, _]) (ρ := (_, 0, 0)) (kn' := (0, 0)) cs_X11_40 dX11_issues_78 rfl rfl (Nat.le_of_ble_eq_true rfl) (rmR _ _ _) ⟨Nat.le_refl _, Nat.le_refl _⟩ rfl (c_X11_originAt hnx  (fun r78 h78 => ?_))
      refine aw_dup2_11 dX11_issues_81 rfl rfl ?_
      refine aw_rdA (f := 14) (i := a * 8 + 4) (v := A 14 (a * 8 + 4)) dX11_issues_82 hnx hL hA hb (un_14 ha (by decide)) (by show _ = 16 + (a * 8 + 4); omega) (by first | rfl | (show u1 A 14 _ _ 14 _ = _; rw [u1_at, if_neg (by omega)])) (fun q82 => ?_)
      refine aw_iload dX11_issues_83 rfl ?_
      refine aw_i2l dX11_issues_85 (by omega) ?_
      refine aw_ladd dX11_issues_86 ?_
      refine aw_stA (f := 14) (i := a * 8 + 4) (v := A 14 (a * 8 + 4) + r4) dX11_issues_87 hnx hX hL hA hb (un_14 ha (by decide)) (by decide) (by show _ = 16 + (a * 8 + 4); omega) (by omega) (by omega) (fun V87 hX hL hA => ?_)
      refine aw_aload_n dX11_issues_88 rfl ?_
      refine aw_getf fg_X11_9 dX11_issues_89 (hc43 hnx) rfl ?_
      refine aw_bipush dX11_issues_92 rfl ?_
      refine aw_dup2_11 dX11_issues_94 rfl rfl ?_
      refine aw_rdA (f := 24) (i := 0) (v := A 24 0) dX11_issues_95 hnx hL hA hb (un_24 (by decide)) (by show _ = 11 + (0); omega) (rfl) (fun q95 => ?_)
      refine aw_iload dX11_issues_96 rfl ?_
      refine aw_i2l dX11_issues_98 (by omega) ?_
      refine aw_ladd dX11_issues_99 ?_
      refine aw_stA (f := 24) (i := 0) (v := A 24 0 + r4) dX11_issues_100 hnx hX hL hA hb (un_24 (by decide)) (by decide) (by show _ = 11 + (0); omega) (by omega) (by omega) (fun V100 hX hL hA => ?_)
      refine aw_aload_n dX11_issues_101 rfl ?_
      refine aw_getf fg_X11_9 dX11_issues_102 (hc43 hnx) rfl ?_
      refine aw_bipush dX11_issues_105 rfl ?_
      refine aw_rdA (f := 25) (i := 0) (v := A 25 0) dX11_issues_107 hnx hL hA hb (un_25) (by show _ = (9 : Int); omega) (rfl) (fun q107 => ?_)
      refine aw_aload_n dX11_issues_108 rfl ?_
      refine aw_getf fg_X11_9 dX11_issues_109 (hc43 hnx) rfl ?_
      refine aw_iconst dX11_issues_112 ?_
      refine aw_rdA (f := 0) (i := 2) (v := A 0 2) dX11_issues_113 hnx hL hA hb (un_0 (by decide)) (by show _ = (2); omega) (rfl) (fun q113 => ?_)
      refine aw_ladd dX11_issues_114 ?_
      refine aw_lconst1 dX11_issues_115 ?_
      refine aw_lsub dX11_issues_116 ?_
      refine aw_aload_n dX11_issues_117 rfl ?_
      refine aw_getf fg_X11_9 dX11_issues_118 (hc43 hnx) rfl ?_
      refine aw_bipush dX11_issues_121 rfl ?_
      refine aw_rdA (f := 25) (i := 0) (v := A 25 0) dX11_issues_123 hnx hL hA hb (un_25) (by show _ = (9 : Int); omega) (rfl) (fun q123 => ?_)
      refine aw_ldc2 dX11_issues_124 qk_X11_180 ?_
      refine aw_st (st' := vl 360 :: _) rfl ?_
      refine aw_ldiv dX11_issues_127 (by omega) (by omega) ?_
      refine aw_ldc2 dX11_issues_128 qk_X11_180 ?_
      refine aw_st (st' := vl 360 :: _) rfl ?_
      refine aw_lmul dX11_issues_131 ?_
      refine aw_ldc2 dX11_issues_132 qk_X11_180 ?_
      refine aw_st (st' := vl 360 :: _) rfl ?_
      refine aw_ladd dX11_issues_135 ?_
      refine aw_lconst1 dX11_issues_136 ?_
      refine aw_lsub dX11_issues_137 ?_
      refine aw_mminL qm_X11_193 dX11_issues_138 (by omega) (rmN _ _ _ (Nat.le_of_ble_eq_true rfl)) ⟨Nat.le_refl _, Nat.le_refl _⟩ (fun r138 h138 => ?_)
      refine aw_lstore (ls' := [some (rf Γ 43), some _, some _, some _, some _, some _, none]) dX11_issues_141 (by decide) rfl ?_
      have el : r138 = lastD A := by unfold lastD; omega
      subst el
      refine aw_aload_n dX11_issues_143 rfl ?_
      refine aw_iload_n dX11_issues_144 rfl ?_
      refine aw_iload_n dX11_issues_145 rfl ?_
      refine aw_iload dX11_issues_146 rfl ?_
      refine aw_aload_n dX11_issues_148 rfl ?_
      refine aw_getf fg_X11_9 dX11_issues_149 (hc43 hnx) rfl ?_
      refine aw_bipush dX11_issues_152 rfl ?_
      refine aw_rdA (f := 25) (i := 0) (v := A 25 0) dX11_issues_154 hnx hL hA hb (un_25) (by show _ = (9 : Int); omega) (rfl) (fun q154 => ?_)
      refine aw_lload dX11_issues_155 rfl ?_
      refine aw_iconst dX11_issues_157 ?_
      refine aw_callV (As := [_, _, _, _, _, _]) (ρ := (_, 0, 0)) (kn' := (0, 0)) cv_X11_232 dX11_issues_158 rfl rfl (hc43 hnx) rfl rfl (Nat.le_of_ble_eq_true rfl) (rmR _ _ _) ⟨Nat.le_refl _, Nat.le_refl _⟩ rfl (c_X11_newLicence hnx hA hb hL (show A 28 0 < 60 by omega) (by omega) (fun V158 hX158 hL hA => ?_))
      replace hX := hX.trans hX158
      exact aw_ireturn dX11_issues_161 rfl rfl ⟨Nat.le_refl _, Nat.le_refl _⟩ (hQ _ _ (Or.inr ⟨by omega, rfl, hX, hL, by first | (have w : A 15 (4 * i + a) = 1 := (by omega); rw [← gr_yes A w]; exact hA) | (have w : ¬ A 15 (4 * i + a) = 1 := (by omega); rw [← gr_no A w]; exact hA)⟩))
  · skip
    refine aw_iload dX11_issues_14 rfl ?_
    exact aw_ireturn dX11_issues_16 rfl rfl ⟨Nat.le_refl _, Nat.le_refl _⟩ (hQ _ _ (Or.inl ⟨by omega, rfl, rfl⟩))


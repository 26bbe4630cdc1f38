set_option maxHeartbeats 1000000 in
theorem c_X7_passDay {Γ : GT} {S T U V : St} {G : Gw} {nx d : Nat} {Q : QT} (hnx : 52 ≤ nx) {c : Int} (hI : Inv c S) (hd : S 25 0 < 3600) (hk0 : 0 < S 26 0) (hQ : ∀ r, r = lapN S → Rg (dayS S) → Q (some (vi r)) (hp Γ (dayS S) T U V G) nx) : AM Γ MX7_passDay (d + 6, 0, 0) [rf Γ 9] (hp Γ S T U V G) nx Q := by
  refine am_of (by decide) (Nat.le_of_ble_eq_true rfl) (ls := [some (rf Γ 9), none, none]) rfl ?_
  have hR := hI.R
  have i1 := hI.i1
  have hz : 0 ≤ S 28 0 ∧ S 28 0 ≤ 60 := i1.2.2.1
  have hkS : nS S = (S 28 0).toNat := rfl
  have hkI : nIm S = (S 27 0).toNat := rfl
  have hkO : nOr S = (S 26 0).toNat := rfl
  have hR0 := hR
  refine aw_iconst dX7_passDay_0 ?_
  refine aw_istore_n (ls' := [some (rf Γ 9), some _, none]) dX7_passDay_1 (by decide) rfl ?_
  refine aw_iconst dX7_passDay_2 ?_
  refine aw_istore_n (ls' := [some (rf Γ 9), some _, some _]) dX7_passDay_3 (by decide) rfl ?_
  refine aw_hp (S' := u1 (lapA S 0) 24 3 (S 24 3)) (u1_self S 24 3) rfl rfl rfl rfl ?_
  refine loopN (nS S) (P := fun k => ∀ (x : Int) , x = lapA S k 24 3 - S 24 3 →  AW Γ MX7_passDay _ _ (0, 0) 4 [some (rf Γ 9), some (vi x), some (vi (k : Int))] [] (hp Γ (u1 (lapA S k) 24 3 (S 24 3)) T U V G) nx) (fun k hk ih => ?_) 0 (Nat.zero_le _) _ (show (0 : Int) = S 24 3 - S 24 3 by omega)
  intro x i4_0
  refine aw_iload_n dX7_passDay_4 rfl ?_
  have hL := hI.lap k hk
  replace hR : Rg (u1 (lapA S k) 24 3 (S 24 3)) := hL.R.u1 (hR0 24 (by decide) 3)
  have l28 : lapA S k 28 0 = S 28 0 := congrFun (lap_ne S (by decide) (by decide) (by decide) (by decide) k) 0
  have l25 : lapA S k 25 0 = S 25 0 := congrFun (lap_ne S (by decide) (by decide) (by decide) (by decide) k) 0
  have r24 := hL.R 24 (by decide) 3
  have s24 := hR0 24 (by decide) 3
  refine aw_aload_n dX7_passDay_5 rfl ?_
  refine aw_getf fg_X7_21 dX7_passDay_6 (hc9 hnx) rfl ?_
  refine aw_getf fg_X7_70 dX7_passDay_9 (hc14 hnx) rfl ?_
  refine aw_sv (a := S 28 0) (congrFun (lap_ne S (f := 28) (by decide) (by decide) (by decide) (by decide) k).symm _) ?_
  refine aw_icmp_ge (tgt := 57) dX7_passDay_12 rfl (by omega) (fun c12 => ?_) (fun c12 => ?_)
  · skip
    obtain rfl : k = nS S := by omega
    refine aw_aload_n dX7_passDay_57 rfl ?_
    refine aw_getf fg_X7_43 dX7_passDay_58 (hc9 hnx) rfl ?_
    refine aw_iconst dX7_passDay_61 ?_
    refine aw_dup2_11 dX7_passDay_62 rfl rfl ?_
    refine aw_ialdr dX7_passDay_63 (hc37 hnx) (by omega) (by decide) (hR 24 (by decide)) (fun q63 => ?_)
    refine aw_sv (a := S 24 3) (by rw [u1_at, if_pos ⟨rfl, rfl⟩]) ?_
    refine aw_iload_n dX7_passDay_64 rfl ?_
    refine aw_iadd dX7_passDay_65 ?_
    refine aw_iastS dX7_passDay_66 (hc37 hnx) (by omega) (by decide) hR (by omega) (fun _ => hu37) (fun hR => ?_)
    refine aw_hp (S' := lapA S (nS S)) (by rw [u1_u1, show S 24 3 + x = lapA S (nS S) 24 3 by omega, u1_self]) rfl rfl rfl rfl ?_
    replace hR := hL.R
    refine aw_aload_n dX7_passDay_67 rfl ?_
    refine aw_dup dX7_passDay_68 rfl ?_
    refine aw_getf fg_X7_66 dX7_passDay_69 (hc9 hnx) rfl ?_
    refine aw_sv (a := S 25 0) (l25.symm) ?_
    refine aw_iconst dX7_passDay_72 ?_
    refine aw_iadd dX7_passDay_73 ?_
    refine aw_putS fp_X7_66 dX7_passDay_74 (hc9 hnx) (Nat.le_of_ble_eq_true rfl) hR (by omega) hu9_25 (fun hR => ?_)
    refine aw_hp (S' := dyA S) rfl rfl rfl rfl rfl ?_
    replace hR : Rg (dyA S) := hR
    refine aw_aload_n dX7_passDay_77 rfl ?_
    refine aw_getf fg_X7_66 dX7_passDay_78 (hc9 hnx) rfl ?_
    refine aw_sv (a := S 25 0 + 1) (rfl) ?_
    refine aw_sipush dX7_passDay_81 rfl ?_
    refine aw_irem dX7_passDay_84 (by omega) (by omega) ?_
    refine aw_if_ne (tgt := 92) dX7_passDay_85 rfl (by omega) (fun c85 => ?_) (fun c85 => ?_)
    · skip
      first | refine aw_hp (S' := dyB S) (if_neg c85) rfl rfl rfl rfl ?_ | refine aw_hp (S' := dyB S) (if_pos c85) rfl rfl rfl rfl ?_
      replace hR : Rg (dyB S) := by first | (rw [dyB, if_neg c85]; exact hR) | (rw [dyB, if_pos c85]; exact hR)
      clear hL
      refine aw_aload_n dX7_passDay_92 rfl ?_
      refine aw_getf fg_X7_66 dX7_passDay_93 (hc9 hnx) rfl ?_
      refine aw_sv (a := S 25 0 + 1) (show S 25 0 + 1 = dyB S 25 0 by rw [dyB_ne S (by decide) (by decide) (by decide) (by decide)]; rfl) ?_
      refine aw_bipush dX7_passDay_96 rfl ?_
      refine aw_irem dX7_passDay_98 (by omega) (by omega) ?_
      refine aw_if_ne (tgt := 113) dX7_passDay_99 rfl (by omega) (fun c99 => ?_) (fun c99 => ?_)
      · skip
        first | rw [dayS, if_pos c99] at hQ | rw [dayS, if_neg c99] at hQ
        refine aw_iload_n dX7_passDay_113 rfl ?_
        exact aw_ireturn dX7_passDay_114 rfl rfl ⟨Nat.le_refl _, Nat.le_refl _⟩ (hQ _ i4_0 hR)
      · skip
        have hQ2 := hI.dayQ hd c99
        have e29 : dyB S 29 0 = S 29 0 := by rw [dyB_ne S (by decide) (by decide) (by decide) (by decide)]; exact congrFun (lap_ne S (by decide) (by decide) (by decide) (by decide) _) 0
        have e26 : dyB S 26 0 = S 26 0 := by rw [dyB_ne S (by decide) (by decide) (by decide) (by decide)]; exact congrFun (lap_ne S (by decide) (by decide) (by decide) (by decide) _) 0
        refine aw_aload_n dX7_passDay_102 rfl ?_
        refine aw_getf fg_X7_28 dX7_passDay_103 (hc9 hnx) rfl ?_
        refine aw_callV (As := []) (ρ := (_, 0, 0)) (kn' := (0, 0)) cv_X7_182 dX7_passDay_106 rfl rfl (hc25 hnx) rfl rfl (Nat.le_of_ble_eq_true rfl) (rmR _ _ _) ⟨Nat.le_refl _, Nat.le_refl _⟩ rfl (c_X3_writeLog hnx hR (by omega) (fun hR => ?_))
        refine aw_aload_n dX7_passDay_109 rfl ?_
        refine aw_callV (As := []) (ρ := (_, 0, 0)) (kn' := (0, 0)) cv_X7_88 dX7_passDay_110 rfl rfl (hc9 hnx) rfl rfl (Nat.le_of_ble_eq_true rfl) (rmR _ _ _) ⟨Nat.le_refl _, Nat.le_refl _⟩ rfl (c_X7_startPeriod hnx (hQ2.p (show 0 < dyB S 26 0 by omega)) (fun hR => ?_))
        first | rw [dayS, if_pos c99] at hQ | rw [dayS, if_neg c99] at hQ
        refine aw_iload_n dX7_passDay_113 rfl ?_
        exact aw_ireturn dX7_passDay_114 rfl rfl ⟨Nat.le_refl _, Nat.le_refl _⟩ (hQ _ i4_0 hR)
    · skip
      refine aw_aload_n dX7_passDay_88 rfl ?_
      refine aw_callV (As := []) (ρ := (_, 0, 0)) (kn' := (0, 0)) cv_X7_179 dX7_passDay_89 rfl rfl (hc9 hnx) rfl rfl (Nat.le_of_ble_eq_true rfl) (rmR _ _ _) ⟨Nat.le_refl _, Nat.le_refl _⟩ rfl (c_X7_turnYear hnx hR (fun hR => ?_))
      first | refine aw_hp (S' := dyB S) (if_neg c85) rfl rfl rfl rfl ?_ | refine aw_hp (S' := dyB S) (if_pos c85) rfl rfl rfl rfl ?_
      replace hR : Rg (dyB S) := by first | (rw [dyB, if_neg c85]; exact hR) | (rw [dyB, if_pos c85]; exact hR)
      clear hL
      refine aw_aload_n dX7_passDay_92 rfl ?_
      refine aw_getf fg_X7_66 dX7_passDay_93 (hc9 hnx) rfl ?_
      refine aw_sv (a := S 25 0 + 1) (show S 25 0 + 1 = dyB S 25 0 by rw [dyB_ne S (by decide) (by decide) (by decide) (by decide)]; rfl) ?_
      refine aw_bipush dX7_passDay_96 rfl ?_
      refine aw_irem dX7_passDay_98 (by omega) (by omega) ?_
      refine aw_if_ne (tgt := 113) dX7_passDay_99 rfl (by omega) (fun c99 => ?_) (fun c99 => ?_)
      · skip
        first | rw [dayS, if_pos c99] at hQ | rw [dayS, if_neg c99] at hQ
        refine aw_iload_n dX7_passDay_113 rfl ?_
        exact aw_ireturn dX7_passDay_114 rfl rfl ⟨Nat.le_refl _, Nat.le_refl _⟩ (hQ _ i4_0 hR)
      · skip
        have hQ2 := hI.dayQ hd c99
        have e29 : dyB S 29 0 = S 29 0 := by rw [dyB_ne S (by decide) (by decide) (by decide) (by decide)]; exact congrFun (lap_ne S (by decide) (by decide) (by decide) (by decide) _) 0
        have e26 : dyB S 26 0 = S 26 0 := by rw [dyB_ne S (by decide) (by decide) (by decide) (by decide)]; exact congrFun (lap_ne S (by decide) (by decide) (by decide) (by decide) _) 0
        refine aw_aload_n dX7_passDay_102 rfl ?_
        refine aw_getf fg_X7_28 dX7_passDay_103 (hc9 hnx) rfl ?_
        refine aw_callV (As := []) (ρ := (_, 0, 0)) (kn' := (0, 0)) cv_X7_182 dX7_passDay_106 rfl rfl (hc25 hnx) rfl rfl (Nat.le_of_ble_eq_true rfl) (rmR _ _ _) ⟨Nat.le_refl _, Nat.le_refl _⟩ rfl (c_X3_writeLog hnx hR (by omega) (fun hR => ?_))
        refine aw_aload_n dX7_passDay_109 rfl ?_
        refine aw_callV (As := []) (ρ := (_, 0, 0)) (kn' := (0, 0)) cv_X7_88 dX7_passDay_110 rfl rfl (hc9 hnx) rfl rfl (Nat.le_of_ble_eq_true rfl) (rmR _ _ _) ⟨Nat.le_refl _, Nat.le_refl _⟩ rfl (c_X7_startPeriod hnx (hQ2.p (show 0 < dyB S 26 0 by omega)) (fun hR => ?_))
        first | rw [dayS, if_pos c99] at hQ | rw [dayS, if_neg c99] at hQ
        refine aw_iload_n dX7_passDay_113 rfl ?_
        exact aw_ireturn dX7_passDay_114 rfl rfl ⟨Nat.le_refl _, Nat.le_refl _⟩ (hQ _ i4_0 hR)
  · skip
    refine aw_aload_n dX7_passDay_15 rfl ?_
    refine aw_getf fg_X7_21 dX7_passDay_16 (hc9 hnx) rfl ?_
    refine aw_iload_n dX7_passDay_19 rfl ?_
    refine aw_callV (As := [_]) (ρ := (_, 0, 0)) (kn' := (0, 0)) cv_X7_170 dX7_passDay_20 rfl rfl (hc14 hnx) rfl rfl (Nat.le_of_ble_eq_true rfl) (rmR _ _ _) ⟨Nat.le_refl _, Nat.le_refl _⟩ rfl (c_X1_isOpen hnx hR (by omega) (fun r20 h20 => ?_))
    rcases h20 with ⟨rfl, h20⟩ | ⟨rfl, h20⟩
    · skip
      first | change lapA S k 10 k = 0 at h20 | change ¬ lapA S k 10 k = 0 at h20
      refine aw_if_eq (tgt := 51) dX7_passDay_23 rfl (by decide) (fun c => absurd c (by decide)) (fun _ => ?_)
      refine aw_aload_n dX7_passDay_26 rfl ?_
      refine aw_getf fg_X7_21 dX7_passDay_27 (hc9 hnx) rfl ?_
      refine aw_getf fg_X7_173 dX7_passDay_30 (hc14 hnx) rfl ?_
      refine aw_iload_n dX7_passDay_33 rfl ?_
      refine aw_ialdr dX7_passDay_34 (hc19 hnx) (by omega) (by decide) (hR 8 (by decide)) (fun q34 => ?_)
      refine aw_sv (a := S 8 k) (congrFun (lap_ne S (f := 8) (by decide) (by decide) (by decide) (by decide) k).symm _) ?_
      have r8 := hR0 8 (by decide) (k : Int)
      refine aw_aload_n dX7_passDay_35 rfl ?_
      refine aw_getf fg_X7_66 dX7_passDay_36 (hc9 hnx) rfl ?_
      refine aw_sv (a := S 25 0) (congrFun (lap_ne S (f := 25) (by decide) (by decide) (by decide) (by decide) k).symm _) ?_
      refine aw_icmp_ne (tgt := 51) dX7_passDay_39 rfl (by omega) (fun c39 => ?_) (fun c39 => ?_)
      · skip
        refine aw_iinc (ls' := [some (rf Γ 9), some _, some _]) dX7_passDay_51 rfl (by decide) rfl ?_
        first | refine aw_hp (lap_s1 S k (S 24 3) h20 c39).symm rfl rfl rfl rfl ?_ | refine aw_hp (S' := u1 (lapA S (k + 1)) 24 3 (S 24 3)) (by rw [lap_s0 S k (fun e => by first | exact h20 e.1 | exact c39 e.2)]) rfl rfl rfl rfl ?_
        refine aw_goto (tgt := 4) dX7_passDay_54 rfl ?_
        exact ih (by omega) x  (by first | (rw [lap_t1 S k h20 c39]; omega) | (rw [lap_s0 S k (fun e => by first | exact h20 e.1 | exact c39 e.2)]; omega))
      · skip
        have li := hL.li (l := (k : Int)) (by omega)
        have fg := hL.fg li.2.1
        have rm := hL.rem (l := (k : Int)) (by omega)
        have rm1 := hL.rem1 (l := (k : Int)) (by omega)
        have rs := hL.rems
        have i1L := hL.i1
        have am := hL.am (l := (k : Int)) (by omega)
        have lf := hL.lfs li.2.1 (nIm (lapA S k)) (Nat.le_refl _)
        refine aw_iload_n dX7_passDay_42 rfl ?_
        refine aw_aload_n dX7_passDay_43 rfl ?_
        refine aw_iload_n dX7_passDay_44 rfl ?_
        refine aw_iconst dX7_passDay_45 ?_
        refine aw_callV (As := [_, _]) (ρ := (_, 0, 0)) (kn' := (0, 0)) cv_X7_176 dX7_passDay_46 rfl rfl (hc9 hnx) rfl rfl (Nat.le_of_ble_eq_true rfl) (rmR _ _ _) ⟨Nat.le_refl _, Nat.le_refl _⟩ rfl (c_X7_closeIntoPool hnx hR (by omega) (by omega) (show 0 ≤ lapA S k 5 k ∧ lapA S k 5 k < 4 by omega) (show 0 ≤ lapA S k 7 k by omega) (show 0 ≤ lapA S k 25 0 by omega) (show inI (rem (lapA S k) k) by omega) (show inI (lapA S k 14 (lapA S k 5 k * 8 + 3) + rem (lapA S k) k) by omega) (show inI (lapA S k 14 (lapA S k 5 k * 8 + 7) + rem (lapA S k) k) by omega) (fun r46 h46 hR => ?_))
        have h46b : r46 = rem (lapA S k) k := h46
        refine aw_iadd dX7_passDay_49 ?_
        refine aw_nmI (fun x1_50 hx1_50 => ?_)
        refine aw_istore_n (ls' := [some (rf Γ 9), some _, some _]) dX7_passDay_50 (by decide) rfl ?_
        refine aw_iinc (ls' := [some (rf Γ 9), some _, some _]) dX7_passDay_51 rfl (by decide) rfl ?_
        first | refine aw_hp (lap_s1 S k (S 24 3) h20 c39).symm rfl rfl rfl rfl ?_ | refine aw_hp (S' := u1 (lapA S (k + 1)) 24 3 (S 24 3)) (by rw [lap_s0 S k (fun e => by first | exact h20 e.1 | exact c39 e.2)]) rfl rfl rfl rfl ?_
        refine aw_goto (tgt := 4) dX7_passDay_54 rfl ?_
        exact ih (by omega) x1_50  (by first | (rw [lap_t1 S k h20 c39]; omega) | (rw [lap_s0 S k (fun e => by first | exact h20 e.1 | exact c39 e.2)]; omega))
    · skip
      first | change lapA S k 10 k = 0 at h20 | change ¬ lapA S k 10 k = 0 at h20
      refine aw_if_eq (tgt := 51) dX7_passDay_23 rfl (by decide) (fun _ => ?_) (fun c => absurd c (by decide))
      refine aw_iinc (ls' := [some (rf Γ 9), some _, some _]) dX7_passDay_51 rfl (by decide) rfl ?_
      first | refine aw_hp (lap_s1 S k (S 24 3) h20 c39).symm rfl rfl rfl rfl ?_ | refine aw_hp (S' := u1 (lapA S (k + 1)) 24 3 (S 24 3)) (by rw [lap_s0 S k (fun e => by first | exact h20 e.1 | exact c39 e.2)]) rfl rfl rfl rfl ?_
      refine aw_goto (tgt := 4) dX7_passDay_54 rfl ?_
      exact ih (by omega) x  (by first | (rw [lap_t1 S k h20 c39]; omega) | (rw [lap_s0 S k (fun e => by first | exact h20 e.1 | exact c39 e.2)]; omega))


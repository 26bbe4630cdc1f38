/-! the text is read; a scheme is told -/
set_option maxHeartbeats 1000000 in
theorem c_X4_readText {Γ : GT} {S T U V : St} {G : Gw} {nx d : Nat} {Q : QT} (hnx : 52 ≤ nx) (hB : ∀ j : Int, -128 ≤ U 0 j ∧ U 0 j ≤ 127) (hn : 0 ≤ U 10 0 ∧ U 10 0 ≤ 400) (hT : Rg T) (hQ : ∀ p : Int × Int × St, p = rtx (U 0) (U 10 0) T → PIn (U 10 0) p → Q (some (vi (rdF (U 10 0) p))) (hp Γ S p.2.2 (ua U p.1 (rdF (U 10 0) p)) V G) nx) : AM Γ MX4_readText (d + 6, 0, 0) [rf Γ 1] (hp Γ S T U V G) nx Q := by
  refine am_of (by decide) (Nat.le_of_ble_eq_true rfl) (ls := [some (rf Γ 1), none]) rfl ?_
  have hP1 := trm_in (B := U 0) hn.2 (tr0_in (B := U 0) hn.2 (a := 0) ⟨Int.le_refl 0, hn.1⟩ (clr_in hT) (show 0 ≤ clrT T 26 0 ∧ clrT T 26 0 ≤ 4 from ⟨Int.le_refl 0, by show (0 : Int) ≤ 4; decide⟩) (show 0 ≤ clrT T 27 0 ∧ clrT T 27 0 ≤ 8 from ⟨Int.le_refl 0, by show (0 : Int) ≤ 8; decide⟩)) 6
  refine aw_aload_n dX4_readText_0 rfl ?_
  refine aw_iconst dX4_readText_1 ?_
  refine aw_putU fp_X4_25 dX4_readText_2 (hc1 hnx) (Nat.le_of_ble_eq_true rfl) hu1_11 ?_
  refine aw_aload_n dX4_readText_5 rfl ?_
  refine aw_iconst dX4_readText_6 ?_
  refine aw_putU fp_X4_29 dX4_readText_7 (hc1 hnx) (Nat.le_of_ble_eq_true rfl) hu1_12 ?_
  refine aw_hp (U' := ua U 0 0) rfl rfl rfl rfl rfl ?_
  refine aw_aload_n dX4_readText_10 rfl ?_
  refine aw_getf fg_X4_21 dX4_readText_11 (hc1 hnx) rfl ?_
  refine aw_callV (As := []) (ρ := (_, 0, 0)) (kn' := (0, 0)) cv_X4_32 dX4_readText_14 rfl rfl (hc4 hnx) rfl rfl (Nat.le_of_ble_eq_true rfl) (rmR _ _ _) ⟨Nat.le_refl _, Nat.le_refl _⟩ rfl (c_X5_clear hnx hT (fun hT => ?_))
  refine aw_aload_n dX4_readText_17 rfl ?_
  refine aw_callV (As := []) (ρ := (_, 0, 0)) (kn' := (0, 0)) cv_X4_35 dX4_readText_18 rfl rfl (hc1 hnx) rfl rfl (Nat.le_of_ble_eq_true rfl) (rmR _ _ _) ⟨Nat.le_refl _, Nat.le_refl _⟩ rfl (c_X4_readTerms hnx hB hn ⟨Int.le_refl 0, hn.1⟩ hT ⟨Int.le_refl 0, by show (0 : Int) ≤ 4; decide⟩ ⟨Int.le_refl 0, by show (0 : Int) ≤ 8; decide⟩ (fun p18 h18 hT18 => ?_))
  subst h18
  refine aw_iconst dX4_readText_21 ?_
  refine aw_istore_n (ls' := [some (rf Γ 1), some _]) dX4_readText_22 (by decide) rfl ?_
  refine loopN (401) (P := fun k => ∀  (p : Int × Int × St), lop (U 0) (U 10 0) 401 (trm (U 0) (U 10 0) (tr0 (U 0) (U 10 0) (clrT T) 0) 6) = lop (U 0) (U 10 0) (401 - k) p → PIn (U 10 0) p →  AW Γ MX4_readText _ _ (0, 0) 23 [some (rf Γ 1), some (vi (k : Int))] [] (hp Γ S p.2.2 (ua U p.1 p.2.1) V G) nx) (fun k hk ih => ?_) 0 (Nat.zero_le _) (trm (U 0) (U 10 0) (tr0 (U 0) (U 10 0) (clrT T) 0) 6) rfl hP1
  intro  p i23_0 i23_1
  refine aw_iload_n dX4_readText_23 rfl ?_
  have hp1 := i23_1.1
  have hp2 := i23_1.2.1
  refine aw_sipush dX4_readText_24 rfl ?_
  refine aw_icmp_gt (tgt := 58) dX4_readText_27 rfl (by omega) (fun c27 => ?_) (fun c27 => ?_)
  · skip
    first | (have z0 : 401 - k = 0 := (by omega); obtain ⟨e, he, hpe⟩ : ∃ e : Int × Int × St, e = p ∧ rtx (U 0) (U 10 0) T = e := ⟨p, rfl, by show lop _ _ _ _ = p; rw [i23_0, z0]; rfl⟩) | (have z1 : ¬ p.2.1 = 0 := (by omega); obtain ⟨e, he, hpe⟩ : ∃ e : Int × Int × St, e = p ∧ rtx (U 0) (U 10 0) T = e := ⟨p, rfl, by show lop _ _ _ _ = p; rw [i23_0]; exact lop_f z1 _⟩) | (obtain ⟨e, he, hpe⟩ : ∃ e : Int × Int × St, e = (skb (U 0) (U 10 0) p.1, p.2.1, p.2.2) ∧ rtx (U 0) (U 10 0) T = e := ⟨_, rfl, by show lop _ _ _ _ = _; rw [i23_0, show 401 - k = (401 - (k + 1)) + 1 by omega, lop_e c34 h38, c34]⟩)
    have hE : PIn (U 10 0) e := by first | (rw [he]; exact i23_1) | (rw [he]; exact ⟨by have := skb_in (B := U 0) (n := U 10 0) (a := p.1) (by omega); show 0 ≤ skb (U 0) (U 10 0) p.1 ∧ skb (U 0) (U 10 0) p.1 ≤ U 10 0; omega, i23_1.2⟩)
    refine aw_hp (T' := e.2.2) (U' := ua U e.1 e.2.1) rfl (by rw [he]) (by rw [he]) rfl rfl ?_
    have he2 := hE.2.1
    have he4 := hE.2.2.2.1
    clear he
    refine aw_aload_n dX4_readText_58 rfl ?_
    refine aw_getf fg_X4_29 dX4_readText_59 (hc1 hnx) rfl ?_
    refine aw_sv (a := e.2.1) (rfl) ?_
    refine aw_if_ne (tgt := 87) dX4_readText_62 rfl (by omega) (fun c62 => ?_) (fun c62 => ?_)
    · skip
      first | refine aw_hp (U' := ua U e.1 (rdF (U 10 0) e)) rfl rfl (by rw [show rdF (U 10 0) e = (if e.2.1 = 0 then 8 * U 10 0 + 4 else e.2.1) by unfold rdF; rw [if_pos (by omega), if_pos (by omega)]]) rfl rfl ?_ | refine aw_hp (U' := ua U e.1 (rdF (U 10 0) e)) rfl rfl (by rw [show rdF (U 10 0) e = e.2.1 by unfold rdF; rw [if_neg (by omega)]]) rfl rfl ?_
      refine aw_aload_n dX4_readText_87 rfl ?_
      refine aw_getf fg_X4_29 dX4_readText_88 (hc1 hnx) rfl ?_
      refine aw_sv (a := rdF (U 10 0) e) (rfl) ?_
      exact aw_ireturn dX4_readText_91 rfl rfl ⟨Nat.le_refl _, Nat.le_refl _⟩ (hQ e hpe.symm hE)
    · skip
      refine aw_aload_n dX4_readText_65 rfl ?_
      refine aw_getf fg_X4_21 dX4_readText_66 (hc1 hnx) rfl ?_
      refine aw_getf fg_X4_48 dX4_readText_69 (hc4 hnx) rfl ?_
      refine aw_sv (a := e.2.2 26 0) (rfl) ?_
      refine aw_if_ne (tgt := 87) dX4_readText_72 rfl (by omega) (fun c72 => ?_) (fun c72 => ?_)
      · skip
        first | refine aw_hp (U' := ua U e.1 (rdF (U 10 0) e)) rfl rfl (by rw [show rdF (U 10 0) e = (if e.2.1 = 0 then 8 * U 10 0 + 4 else e.2.1) by unfold rdF; rw [if_pos (by omega), if_pos (by omega)]]) rfl rfl ?_ | refine aw_hp (U' := ua U e.1 (rdF (U 10 0) e)) rfl rfl (by rw [show rdF (U 10 0) e = e.2.1 by unfold rdF; rw [if_neg (by omega)]]) rfl rfl ?_
        refine aw_aload_n dX4_readText_87 rfl ?_
        refine aw_getf fg_X4_29 dX4_readText_88 (hc1 hnx) rfl ?_
        refine aw_sv (a := rdF (U 10 0) e) (rfl) ?_
        exact aw_ireturn dX4_readText_91 rfl rfl ⟨Nat.le_refl _, Nat.le_refl _⟩ (hQ e hpe.symm hE)
      · skip
        refine aw_aload_n dX4_readText_75 rfl ?_
        refine aw_aload_n dX4_readText_76 rfl ?_
        refine aw_getf fg_X4_12 dX4_readText_77 (hc1 hnx) rfl ?_
        refine aw_getf fg_X4_51 dX4_readText_80 (hc2 hnx) rfl ?_
        refine aw_sv (a := U 10 0) (rfl) ?_
        refine aw_iconst dX4_readText_83 ?_
        refine aw_callV (As := [_, _]) (ρ := (_, 0, 0)) (kn' := (0, 0)) cv_X4_54 dX4_readText_84 rfl rfl (hc1 hnx) rfl rfl (Nat.le_of_ble_eq_true rfl) (rmR _ _ _) ⟨Nat.le_refl _, Nat.le_refl _⟩ rfl (c_X4_fail hnx (by omega) ?_)
        first | refine aw_hp (U' := ua U e.1 (rdF (U 10 0) e)) rfl rfl (by rw [show rdF (U 10 0) e = (if e.2.1 = 0 then 8 * U 10 0 + 4 else e.2.1) by unfold rdF; rw [if_pos (by omega), if_pos (by omega)]]) rfl rfl ?_ | refine aw_hp (U' := ua U e.1 (rdF (U 10 0) e)) rfl rfl (by rw [show rdF (U 10 0) e = e.2.1 by unfold rdF; rw [if_neg (by omega)]]) rfl rfl ?_
        refine aw_aload_n dX4_readText_87 rfl ?_
        refine aw_getf fg_X4_29 dX4_readText_88 (hc1 hnx) rfl ?_
        refine aw_sv (a := rdF (U 10 0) e) (rfl) ?_
        exact aw_ireturn dX4_readText_91 rfl rfl ⟨Nat.le_refl _, Nat.le_refl _⟩ (hQ e hpe.symm hE)
  · skip
    refine aw_aload_n dX4_readText_30 rfl ?_
    refine aw_getf fg_X4_29 dX4_readText_31 (hc1 hnx) rfl ?_
    refine aw_sv (a := p.2.1) (rfl) ?_
    refine aw_if_ne (tgt := 58) dX4_readText_34 rfl (by omega) (fun c34 => ?_) (fun c34 => ?_)
    · skip
      first | (have z0 : 401 - k = 0 := (by omega); obtain ⟨e, he, hpe⟩ : ∃ e : Int × Int × St, e = p ∧ rtx (U 0) (U 10 0) T = e := ⟨p, rfl, by show lop _ _ _ _ = p; rw [i23_0, z0]; rfl⟩) | (have z1 : ¬ p.2.1 = 0 := (by omega); obtain ⟨e, he, hpe⟩ : ∃ e : Int × Int × St, e = p ∧ rtx (U 0) (U 10 0) T = e := ⟨p, rfl, by show lop _ _ _ _ = p; rw [i23_0]; exact lop_f z1 _⟩) | (obtain ⟨e, he, hpe⟩ : ∃ e : Int × Int × St, e = (skb (U 0) (U 10 0) p.1, p.2.1, p.2.2) ∧ rtx (U 0) (U 10 0) T = e := ⟨_, rfl, by show lop _ _ _ _ = _; rw [i23_0, show 401 - k = (401 - (k + 1)) + 1 by omega, lop_e c34 h38, c34]⟩)
      have hE : PIn (U 10 0) e := by first | (rw [he]; exact i23_1) | (rw [he]; exact ⟨by have := skb_in (B := U 0) (n := U 10 0) (a := p.1) (by omega); show 0 ≤ skb (U 0) (U 10 0) p.1 ∧ skb (U 0) (U 10 0) p.1 ≤ U 10 0; omega, i23_1.2⟩)
      refine aw_hp (T' := e.2.2) (U' := ua U e.1 e.2.1) rfl (by rw [he]) (by rw [he]) rfl rfl ?_
      have he2 := hE.2.1
      have he4 := hE.2.2.2.1
      clear he
      refine aw_aload_n dX4_readText_58 rfl ?_
      refine aw_getf fg_X4_29 dX4_readText_59 (hc1 hnx) rfl ?_
      refine aw_sv (a := e.2.1) (rfl) ?_
      refine aw_if_ne (tgt := 87) dX4_readText_62 rfl (by omega) (fun c62 => ?_) (fun c62 => ?_)
      · skip
        first | refine aw_hp (U' := ua U e.1 (rdF (U 10 0) e)) rfl rfl (by rw [show rdF (U 10 0) e = (if e.2.1 = 0 then 8 * U 10 0 + 4 else e.2.1) by unfold rdF; rw [if_pos (by omega), if_pos (by omega)]]) rfl rfl ?_ | refine aw_hp (U' := ua U e.1 (rdF (U 10 0) e)) rfl rfl (by rw [show rdF (U 10 0) e = e.2.1 by unfold rdF; rw [if_neg (by omega)]]) rfl rfl ?_
        refine aw_aload_n dX4_readText_87 rfl ?_
        refine aw_getf fg_X4_29 dX4_readText_88 (hc1 hnx) rfl ?_
        refine aw_sv (a := rdF (U 10 0) e) (rfl) ?_
        exact aw_ireturn dX4_readText_91 rfl rfl ⟨Nat.le_refl _, Nat.le_refl _⟩ (hQ e hpe.symm hE)
      · skip
        refine aw_aload_n dX4_readText_65 rfl ?_
        refine aw_getf fg_X4_21 dX4_readText_66 (hc1 hnx) rfl ?_
        refine aw_getf fg_X4_48 dX4_readText_69 (hc4 hnx) rfl ?_
        refine aw_sv (a := e.2.2 26 0) (rfl) ?_
        refine aw_if_ne (tgt := 87) dX4_readText_72 rfl (by omega) (fun c72 => ?_) (fun c72 => ?_)
        · skip
          first | refine aw_hp (U' := ua U e.1 (rdF (U 10 0) e)) rfl rfl (by rw [show rdF (U 10 0) e = (if e.2.1 = 0 then 8 * U 10 0 + 4 else e.2.1) by unfold rdF; rw [if_pos (by omega), if_pos (by omega)]]) rfl rfl ?_ | refine aw_hp (U' := ua U e.1 (rdF (U 10 0) e)) rfl rfl (by rw [show rdF (U 10 0) e = e.2.1 by unfold rdF; rw [if_neg (by omega)]]) rfl rfl ?_
          refine aw_aload_n dX4_readText_87 rfl ?_
          refine aw_getf fg_X4_29 dX4_readText_88 (hc1 hnx) rfl ?_
          refine aw_sv (a := rdF (U 10 0) e) (rfl) ?_
          exact aw_ireturn dX4_readText_91 rfl rfl ⟨Nat.le_refl _, Nat.le_refl _⟩ (hQ e hpe.symm hE)
        · skip
          refine aw_aload_n dX4_readText_75 rfl ?_
          refine aw_aload_n dX4_readText_76 rfl ?_
          refine aw_getf fg_X4_12 dX4_readText_77 (hc1 hnx) rfl ?_
          refine aw_getf fg_X4_51 dX4_readText_80 (hc2 hnx) rfl ?_
          refine aw_sv (a := U 10 0) (rfl) ?_
          refine aw_iconst dX4_readText_83 ?_
          refine aw_callV (As := [_, _]) (ρ := (_, 0, 0)) (kn' := (0, 0)) cv_X4_54 dX4_readText_84 rfl rfl (hc1 hnx) rfl rfl (Nat.le_of_ble_eq_true rfl) (rmR _ _ _) ⟨Nat.le_refl _, Nat.le_refl _⟩ rfl (c_X4_fail hnx (by omega) ?_)
          first | refine aw_hp (U' := ua U e.1 (rdF (U 10 0) e)) rfl rfl (by rw [show rdF (U 10 0) e = (if e.2.1 = 0 then 8 * U 10 0 + 4 else e.2.1) by unfold rdF; rw [if_pos (by omega), if_pos (by omega)]]) rfl rfl ?_ | refine aw_hp (U' := ua U e.1 (rdF (U 10 0) e)) rfl rfl (by rw [show rdF (U 10 0) e = e.2.1 by unfold rdF; rw [if_neg (by omega)]]) rfl rfl ?_
          refine aw_aload_n dX4_readText_87 rfl ?_
          refine aw_getf fg_X4_29 dX4_readText_88 (hc1 hnx) rfl ?_
          refine aw_sv (a := rdF (U 10 0) e) (rfl) ?_
          exact aw_ireturn dX4_readText_91 rfl rfl ⟨Nat.le_refl _, Nat.le_refl _⟩ (hQ e hpe.symm hE)
    · skip
      refine aw_aload_n dX4_readText_37 rfl ?_
      refine aw_callV (As := []) (ρ := (_, 0, 0)) (kn' := (0, 0)) cv_X4_38 dX4_readText_38 rfl rfl (hc1 hnx) rfl rfl (Nat.le_of_ble_eq_true rfl) (rmR _ _ _) ⟨Nat.le_refl _, Nat.le_refl _⟩ rfl (c_X4_isAtEnd hnx (f := p.2.1) hB hn hp1 (fun r38 h38 => ?_))
      rcases h38 with ⟨rfl, h38⟩ | ⟨rfl, h38⟩
      · skip
        refine aw_if_ne (tgt := 58) dX4_readText_41 rfl (by decide) (fun _ => ?_) (fun c => absurd c (by decide))
        first | (have z0 : 401 - k = 0 := (by omega); obtain ⟨e, he, hpe⟩ : ∃ e : Int × Int × St, e = p ∧ rtx (U 0) (U 10 0) T = e := ⟨p, rfl, by show lop _ _ _ _ = p; rw [i23_0, z0]; rfl⟩) | (have z1 : ¬ p.2.1 = 0 := (by omega); obtain ⟨e, he, hpe⟩ : ∃ e : Int × Int × St, e = p ∧ rtx (U 0) (U 10 0) T = e := ⟨p, rfl, by show lop _ _ _ _ = p; rw [i23_0]; exact lop_f z1 _⟩) | (obtain ⟨e, he, hpe⟩ : ∃ e : Int × Int × St, e = (skb (U 0) (U 10 0) p.1, p.2.1, p.2.2) ∧ rtx (U 0) (U 10 0) T = e := ⟨_, rfl, by show lop _ _ _ _ = _; rw [i23_0, show 401 - k = (401 - (k + 1)) + 1 by omega, lop_e c34 h38, c34]⟩)
        have hE : PIn (U 10 0) e := by first | (rw [he]; exact i23_1) | (rw [he]; exact ⟨by have := skb_in (B := U 0) (n := U 10 0) (a := p.1) (by omega); show 0 ≤ skb (U 0) (U 10 0) p.1 ∧ skb (U 0) (U 10 0) p.1 ≤ U 10 0; omega, i23_1.2⟩)
        refine aw_hp (T' := e.2.2) (U' := ua U e.1 e.2.1) rfl (by rw [he]) (by rw [he]) rfl rfl ?_
        have he2 := hE.2.1
        have he4 := hE.2.2.2.1
        clear he
        refine aw_aload_n dX4_readText_58 rfl ?_
        refine aw_getf fg_X4_29 dX4_readText_59 (hc1 hnx) rfl ?_
        refine aw_sv (a := e.2.1) (rfl) ?_
        refine aw_if_ne (tgt := 87) dX4_readText_62 rfl (by omega) (fun c62 => ?_) (fun c62 => ?_)
        · skip
          first | refine aw_hp (U' := ua U e.1 (rdF (U 10 0) e)) rfl rfl (by rw [show rdF (U 10 0) e = (if e.2.1 = 0 then 8 * U 10 0 + 4 else e.2.1) by unfold rdF; rw [if_pos (by omega), if_pos (by omega)]]) rfl rfl ?_ | refine aw_hp (U' := ua U e.1 (rdF (U 10 0) e)) rfl rfl (by rw [show rdF (U 10 0) e = e.2.1 by unfold rdF; rw [if_neg (by omega)]]) rfl rfl ?_
          refine aw_aload_n dX4_readText_87 rfl ?_
          refine aw_getf fg_X4_29 dX4_readText_88 (hc1 hnx) rfl ?_
          refine aw_sv (a := rdF (U 10 0) e) (rfl) ?_
          exact aw_ireturn dX4_readText_91 rfl rfl ⟨Nat.le_refl _, Nat.le_refl _⟩ (hQ e hpe.symm hE)
        · skip
          refine aw_aload_n dX4_readText_65 rfl ?_
          refine aw_getf fg_X4_21 dX4_readText_66 (hc1 hnx) rfl ?_
          refine aw_getf fg_X4_48 dX4_readText_69 (hc4 hnx) rfl ?_
          refine aw_sv (a := e.2.2 26 0) (rfl) ?_
          refine aw_if_ne (tgt := 87) dX4_readText_72 rfl (by omega) (fun c72 => ?_) (fun c72 => ?_)
          · skip
            first | refine aw_hp (U' := ua U e.1 (rdF (U 10 0) e)) rfl rfl (by rw [show rdF (U 10 0) e = (if e.2.1 = 0 then 8 * U 10 0 + 4 else e.2.1) by unfold rdF; rw [if_pos (by omega), if_pos (by omega)]]) rfl rfl ?_ | refine aw_hp (U' := ua U e.1 (rdF (U 10 0) e)) rfl rfl (by rw [show rdF (U 10 0) e = e.2.1 by unfold rdF; rw [if_neg (by omega)]]) rfl rfl ?_
            refine aw_aload_n dX4_readText_87 rfl ?_
            refine aw_getf fg_X4_29 dX4_readText_88 (hc1 hnx) rfl ?_
            refine aw_sv (a := rdF (U 10 0) e) (rfl) ?_
            exact aw_ireturn dX4_readText_91 rfl rfl ⟨Nat.le_refl _, Nat.le_refl _⟩ (hQ e hpe.symm hE)
          · skip
            refine aw_aload_n dX4_readText_75 rfl ?_
            refine aw_aload_n dX4_readText_76 rfl ?_
            refine aw_getf fg_X4_12 dX4_readText_77 (hc1 hnx) rfl ?_
            refine aw_getf fg_X4_51 dX4_readText_80 (hc2 hnx) rfl ?_
            refine aw_sv (a := U 10 0) (rfl) ?_
            refine aw_iconst dX4_readText_83 ?_
            refine aw_callV (As := [_, _]) (ρ := (_, 0, 0)) (kn' := (0, 0)) cv_X4_54 dX4_readText_84 rfl rfl (hc1 hnx) rfl rfl (Nat.le_of_ble_eq_true rfl) (rmR _ _ _) ⟨Nat.le_refl _, Nat.le_refl _⟩ rfl (c_X4_fail hnx (by omega) ?_)
            first | refine aw_hp (U' := ua U e.1 (rdF (U 10 0) e)) rfl rfl (by rw [show rdF (U 10 0) e = (if e.2.1 = 0 then 8 * U 10 0 + 4 else e.2.1) by unfold rdF; rw [if_pos (by omega), if_pos (by omega)]]) rfl rfl ?_ | refine aw_hp (U' := ua U e.1 (rdF (U 10 0) e)) rfl rfl (by rw [show rdF (U 10 0) e = e.2.1 by unfold rdF; rw [if_neg (by omega)]]) rfl rfl ?_
            refine aw_aload_n dX4_readText_87 rfl ?_
            refine aw_getf fg_X4_29 dX4_readText_88 (hc1 hnx) rfl ?_
            refine aw_sv (a := rdF (U 10 0) e) (rfl) ?_
            exact aw_ireturn dX4_readText_91 rfl rfl ⟨Nat.le_refl _, Nat.le_refl _⟩ (hQ e hpe.symm hE)
      · skip
        refine aw_if_ne (tgt := 58) dX4_readText_41 rfl (by decide) (fun c => absurd c (by decide)) (fun _ => ?_)
        have hf : p.2.1 = 0 := c34
        have sk := skb_in (B := U 0) (n := U 10 0) (a := p.1) (by omega)
        rw [hf]
        have hs := sep_in (B := U 0) hn.2 (T := p.2.2) (a := skb (U 0) (U 10 0) p.1) (by omega) i23_1.2.2.1 i23_1.2.2.2.1 i23_1.2.2.2.2
        have hs1 := hs.1
        have hs2 := hs.2.1
        refine aw_aload_n dX4_readText_44 rfl ?_
        refine aw_callV (As := []) (ρ := (_, 0, 0)) (kn' := (0, 0)) cv_X4_42 dX4_readText_45 rfl rfl (hc1 hnx) rfl rfl (Nat.le_of_ble_eq_true rfl) (rmR _ _ _) ⟨Nat.le_refl _, Nat.le_refl _⟩ rfl (c_X4_readSeparator hnx hB hn (by omega) (by omega) ?_)
        refine aw_aload_n dX4_readText_48 rfl ?_
        refine aw_callV (As := []) (ρ := (_, 0, 0)) (kn' := (0, 0)) cv_X4_45 dX4_readText_49 rfl rfl (hc1 hnx) rfl rfl (Nat.le_of_ble_eq_true rfl) (rmR _ _ _) ⟨Nat.le_refl _, Nat.le_refl _⟩ rfl (c_X4_readPiece hnx hB hn hs1 hs2 hs.2.2.1 hs.2.2.2.1 hs.2.2.2.2 (fun p49 h49 hT49 => ?_))
        have pn := pce_in (B := U 0) hn.2 hs
        subst h49
        refine aw_iinc (ls' := [some (rf Γ 1), some _]) dX4_readText_52 rfl (by decide) rfl ?_
        refine aw_goto (tgt := 23) dX4_readText_55 rfl ?_
        exact ih (by omega)  _ (by rw [i23_0, show 401 - k = (401 - (k + 1)) + 1 by omega, lop_s c34 h38]) pn.1


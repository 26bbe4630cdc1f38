/-! the reference: handing on, merging -/
theorem u0_u1 (A : St) {f g : Nat} (h : f ≠ g) (i v w : Int) : u0 (u1 A f i v) g w = u1 (u0 A g w) f i v := by
  funext f' i'
  rw [u0_at, u1_at, u1_at, u0_at]
  by_cases h1 : f' = g
  · rw [if_pos h1, if_neg (fun z => h (z.1.symm.trans h1)), if_pos h1]
  · rw [if_neg h1, if_neg h1]
theorem isr_u1 (A : St) {l : Int} (h : l ≠ A 28 0) (x i o n t la g : Int) : issS (u1 A 6 l x) i o n t la g = u1 (issS A i o n t la g) 6 l x := by
  have e : issS (u1 A 6 l x) i o n t la g = u1 (u1 (u1 (u1 (u1 (u1 (u1 (u1 (u1 (u1 (u0 (u1 A 6 l x) 28 (A 28 0 + 1)) 4 (A 28 0) i) 5 (A 28 0) o) 6 (A 28 0) n) 7 (A 28 0) t) 8 (A 28 0) la) 12 (A 28 0) g) 9 (A 28 0) 0) 10 (A 28 0) 0) 11 (A 28 0) (-1)) 13 (A 28 0) 0 := rfl
  rw [e, u0_u1 _ (by decide), u1_comm _ (f := 6) (g := 4) (by decide) l, u1_comm _ (f := 6) (g := 5) (by decide) l, u1_commI _ 6 h, u1_comm _ (f := 6) (g := 7) (by decide) l, u1_comm _ (f := 6) (g := 8) (by decide) l, u1_comm _ (f := 6) (g := 12) (by decide) l, u1_comm _ (f := 6) (g := 9) (by decide) l, u1_comm _ (f := 6) (g := 10) (by decide) l, u1_comm _ (f := 6) (g := 11) (by decide) l, u1_comm _ (f := 6) (g := 13) (by decide) l]
  rfl
def haR (A : St) (l i n : Int) : St := u1 (issS A i (A 5 l) n (A 7 l) (A 8 l) l) 6 l (A 6 l - n)
theorem haR_10 (A : St) {l i n : Int} (h : l ≠ A 28 0) : haR A l i n 10 l = A 10 l := by
  unfold haR; rw [u1_at, if_neg (fun z => absurd z.1 (by decide)), isr_old _ _ _ _ _ _ _ (by decide) h]
theorem haR_rem (A : St) {l i n : Int} (h : l ≠ A 28 0) (h0 : A 10 l = 0) : rem (haR A l i n) l = A 6 l - n - A 9 l := by
  unfold rem; rw [if_pos (by rw [haR_10 A h]; exact h0)]
  unfold haR; rw [u1_at, if_pos ⟨rfl, rfl⟩, u1_at, if_neg (fun z => absurd z.1 (by decide)), isr_old _ _ _ _ _ _ _ (by decide) h]
theorem hand_yes (A : St) {l i n : Int} (h : rem (haR A l i n) l = 0) : closeS (haR A l i n) l 1 (A 25 0) = handS A l i n (A 25 0) := by
  unfold handS cuS; exact (if_pos h).symm
theorem hand_no (A : St) {l i n : Int} (h : ¬ rem (haR A l i n) l = 0) : haR A l i n = handS A l i n (A 25 0) := by
  unfold handS cuS; exact (if_neg h).symm

set_option maxHeartbeats 1000000 in
theorem c_X11_hand {Γ : GT} {S T U V A : St} {G : Gw} {nx d : Nat} {Q : QT} (hnx : 52 ≤ nx) {l i n : Int} {c : Int} (hI : Inv c A) (hA : Ag A (V 0)) (hL : RgL V) (hM : 0 ≤ V 10 0 ∧ V 10 0 ≤ 10) (hl : inI l) (hi : inI i) (hn : inI n) (hN : ∀ r, r = rHand A l i n → r ≠ 0 → Q (some (vi r)) (hp Γ S T U V G) nx) (hQ : rHand A l i n = 0 → ∀ V2, KP V V2 → Ag (handS A l i n (A 25 0)) (V2 0) → Q (some (vi (A 28 0))) (hp Γ S T U V2 G) nx) : AM Γ MX11_hand (d + 5, 0, 0) [rf Γ 43, vi l, vi i, vi n] (hp Γ S T U V G) nx Q := by
  refine am_of (by decide) (Nat.le_of_ble_eq_true rfl) (ls := [some (rf Γ 43), some _, some _, some _, none]) rfl ?_
  have hR := hI.R
  have i1 := hI.i1
  have hz : 0 ≤ A 28 0 ∧ A 28 0 ≤ 60 := i1.2.2.1
  have hkS : nS A = (A 28 0).toNat := rfl
  have hkI : nIm A = (A 27 0).toNat := rfl
  have hkO : nOr A = (A 26 0).toNat := rfl
  have hb := hI.bd
  refine aw_aload_n dX11_hand_0 rfl ?_
  refine aw_iload_n dX11_hand_1 rfl ?_
  refine aw_callV (As := [_]) (ρ := (_, 0, 0)) (kn' := (0, 0)) cv_X11_248 dX11_hand_2 rfl rfl (hc43 hnx) rfl rfl (Nat.le_of_ble_eq_true rfl) (rmR _ _ _) ⟨Nat.le_refl _, Nat.le_refl _⟩ rfl (c_X11_isLicence hnx hI hA hL (by omega) (fun r2 h2 => ?_))
  rcases h2 with ⟨rfl, h2⟩ | ⟨rfl, h2⟩
  · skip
    refine aw_if_eq (tgt := 33) dX11_hand_5 rfl (by decide) (fun c => absurd c (by decide)) (fun _ => ?_)
    refine aw_aload_n dX11_hand_8 rfl ?_
    refine aw_iload_n dX11_hand_9 rfl ?_
    refine aw_callV (As := [_]) (ρ := (_, 0, 0)) (kn' := (0, 0)) cv_X11_55 dX11_hand_10 rfl rfl (hc43 hnx) rfl rfl (Nat.le_of_ble_eq_true rfl) (rmR _ _ _) ⟨Nat.le_refl _, Nat.le_refl _⟩ rfl (c_X11_isImporter hnx hI hA hL (by omega) (fun r10 h10 => ?_))
    rcases h10 with ⟨rfl, h10⟩ | ⟨rfl, h10⟩
    · skip
      refine aw_if_eq (tgt := 33) dX11_hand_13 rfl (by decide) (fun c => absurd c (by decide)) (fun _ => ?_)
      have sl : 0 ≤ l ∧ l < A 28 0 := by omega
      have li := hI.li sl
      have am := hI.am sl
      have rm := hI.rem sl
      have q4 := hR 4 (by decide) l
      refine aw_aload_n dX11_hand_16 rfl ?_
      refine aw_iload_n dX11_hand_17 rfl ?_
      refine aw_iconst dX11_hand_18 ?_
      refine aw_callV (As := [_, _]) (ρ := (_, 0, 0)) (kn' := (0, 0)) cv_X11_196 dX11_hand_19 rfl rfl (hc43 hnx) rfl rfl (Nat.le_of_ble_eq_true rfl) (rmR _ _ _) ⟨Nat.le_refl _, Nat.le_refl _⟩ rfl (c_X11_ofLicence_0 hnx hI hA hL (by omega) (fun r19 h19 => ?_))
      refine aw_iload_n dX11_hand_22 rfl ?_
      refine aw_icmp_eq (tgt := 33) dX11_hand_23 rfl (by omega) (fun c23 => ?_) (fun c23 => ?_)
      · skip
        refine aw_iconst dX11_hand_33 ?_
        exact aw_ireturn dX11_hand_34 rfl rfl ⟨Nat.le_refl _, Nat.le_refl _⟩ (hN _ (by simp only [rHand, isL, isI, isO, isN]; (repeat' split) <;> omega) (by omega))
      · skip
        refine aw_iload_n dX11_hand_26 rfl ?_
        refine aw_callS (As := [_]) (ρ := (_, 0, 0)) (kn' := (0, 0)) cs_X11_239 dX11_hand_27 rfl rfl (Nat.le_of_ble_eq_true rfl) (rmR _ _ _) ⟨Nat.le_refl _, Nat.le_refl _⟩ rfl (c_X11_isMuch hnx (by omega) (fun r27 h27 => ?_))
        rcases h27 with ⟨rfl, h27⟩ | ⟨rfl, h27⟩
        · skip
          refine aw_if_ne (tgt := 35) dX11_hand_30 rfl (by decide) (fun _ => ?_) (fun c => absurd c (by decide))
          refine aw_aload_n dX11_hand_35 rfl ?_
          refine aw_bipush dX11_hand_36 rfl ?_
          refine aw_callV (As := [_]) (ρ := (_, 0, 0)) (kn' := (0, 0)) cv_X11_164 dX11_hand_38 rfl rfl (hc43 hnx) rfl rfl (Nat.le_of_ble_eq_true rfl) (rmR _ _ _) ⟨Nat.le_refl _, Nat.le_refl _⟩ rfl (c_X11_many_8 hnx hI hA hL  (fun r38 h38 => ?_))
          refine aw_bipush dX11_hand_41 rfl ?_
          refine aw_icmp_ne (tgt := 49) dX11_hand_43 rfl (by omega) (fun c43 => ?_) (fun c43 => ?_)
          · skip
            refine aw_aload_n dX11_hand_49 rfl ?_
            refine aw_iload_n dX11_hand_50 rfl ?_
            refine aw_callV (As := [_]) (ρ := (_, 0, 0)) (kn' := (0, 0)) cv_X11_199 dX11_hand_51 rfl rfl (hc43 hnx) rfl rfl (Nat.le_of_ble_eq_true rfl) (rmR _ _ _) ⟨Nat.le_refl _, Nat.le_refl _⟩ rfl (c_X11_isOpen hnx hI hA hL (by omega) (fun r51 h51 => ?_))
            rcases h51 with ⟨rfl, h51⟩ | ⟨rfl, h51⟩
            · skip
              refine aw_if_ne (tgt := 60) dX11_hand_54 rfl (by decide) (fun _ => ?_) (fun c => absurd c (by decide))
              refine aw_aload_n dX11_hand_60 rfl ?_
              refine aw_iload_n dX11_hand_61 rfl ?_
              refine aw_callV (As := [_]) (ρ := (_, 0, 0)) (kn' := (0, 0)) cv_X11_214 dX11_hand_62 rfl rfl (hc43 hnx) rfl rfl (Nat.le_of_ble_eq_true rfl) (rmR _ _ _) ⟨Nat.le_refl _, Nat.le_refl _⟩ rfl (c_X11_leftOf hnx hI hA hL (by omega) (fun r62 h62 => ?_))
              refine aw_iload_n dX11_hand_65 rfl ?_
              refine aw_icmp_ge (tgt := 72) dX11_hand_66 rfl (by omega) (fun c66 => ?_) (fun c66 => ?_)
              · skip
                have acc : rHand A l i n = 0 := by simp only [rHand, isL, isI, isO, isN]; (repeat' split) <;> omega
                refine aw_aload_n dX11_hand_72 rfl ?_
                refine aw_callV (As := []) (ρ := (_, 0, 0)) (kn' := (0, 0)) cv_X11_242 dX11_hand_73 rfl rfl (hc43 hnx) rfl rfl (Nat.le_of_ble_eq_true rfl) (rmR _ _ _) ⟨Nat.le_refl _, Nat.le_refl _⟩ rfl (c_X11_keepsPast hnx hL (by omega) (fun V73 hK hV73 => ?_))
                have hX : VX V73 V73 := VX.rfl
                replace hL := hK.2.1
                replace hA : Ag A (V73 0) := by rw [hV73]; exact hA
                have q6 := hR 6 (by decide) l
                have q5 := hR 5 (by decide) l
                refine aw_aload_n dX11_hand_76 rfl ?_
                refine aw_getf fg_X11_9 dX11_hand_77 (hc43 hnx) rfl ?_
                refine aw_iload_n dX11_hand_80 rfl ?_
                refine aw_iconst dX11_hand_81 ?_
                refine aw_callS (As := [_, _]) (ρ := (_, 0, 0)) (kn' := (0, 0)) cs_X11_48 dX11_hand_82 rfl rfl (Nat.le_of_ble_eq_true rfl) (rmR _ _ _) ⟨Nat.le_refl _, Nat.le_refl _⟩ rfl (c_X11_licenceAt hnx  (fun r82 h82 => ?_))
                refine aw_dup2_11 dX11_hand_85 rfl rfl ?_
                refine aw_rdA (f := 6) (i := l) (v := A 6 l) dX11_hand_86 hnx hL hA hb (un_6 sl) (by show _ = 456 + 10 * (l) + 2; omega) (rfl) (fun q86 => ?_)
                refine aw_iload_n dX11_hand_87 rfl ?_
                refine aw_i2l dX11_hand_88 (by omega) ?_
                refine aw_lsub dX11_hand_89 ?_
                refine aw_stA (f := 6) (i := l) (v := A 6 l - n) dX11_hand_90 hnx hX hL hA hb (un_6 sl) (by decide) (by show _ = 456 + 10 * (l) + 2; omega) (by omega) (by omega) (fun V90 hX hL hA => ?_)
                refine aw_aload_n dX11_hand_91 rfl ?_
                refine aw_iload_n dX11_hand_92 rfl ?_
                refine aw_aload_n dX11_hand_93 rfl ?_
                refine aw_iload_n dX11_hand_94 rfl ?_
                refine aw_iconst dX11_hand_95 ?_
                refine aw_callV (As := [_, _]) (ρ := (_, 0, 0)) (kn' := (0, 0)) cv_X11_196 dX11_hand_96 rfl rfl (hc43 hnx) rfl rfl (Nat.le_of_ble_eq_true rfl) (rmR _ _ _) ⟨Nat.le_refl _, Nat.le_refl _⟩ rfl (c_X11_ofLicence hnx hL (by omega) (by omega) (fun r96 h96 => ?_))
                replace h96 : r96 = A 5 l := h96.trans (hA.l5 sl)
                subst h96
                refine aw_iload_n dX11_hand_99 rfl ?_
                refine aw_aload_n dX11_hand_100 rfl ?_
                refine aw_getf fg_X11_9 dX11_hand_101 (hc43 hnx) rfl ?_
                refine aw_iload_n dX11_hand_104 rfl ?_
                refine aw_iconst dX11_hand_105 ?_
                refine aw_callS (As := [_, _]) (ρ := (_, 0, 0)) (kn' := (0, 0)) cs_X11_48 dX11_hand_106 rfl rfl (Nat.le_of_ble_eq_true rfl) (rmR _ _ _) ⟨Nat.le_refl _, Nat.le_refl _⟩ rfl (c_X11_licenceAt hnx  (fun r106 h106 => ?_))
                refine aw_rdA (f := 7) (i := l) (v := A 7 l) dX11_hand_109 hnx hL hA hb (un_7 sl) (by show _ = 456 + 10 * (l) + 3; omega) (rfl) (fun q109 => ?_)
                refine aw_aload_n dX11_hand_110 rfl ?_
                refine aw_getf fg_X11_9 dX11_hand_111 (hc43 hnx) rfl ?_
                refine aw_iload_n dX11_hand_114 rfl ?_
                refine aw_bipush dX11_hand_115 rfl ?_
                refine aw_callS (As := [_, _]) (ρ := (_, 0, 0)) (kn' := (0, 0)) cs_X11_48 dX11_hand_117 rfl rfl (Nat.le_of_ble_eq_true rfl) (rmR _ _ _) ⟨Nat.le_refl _, Nat.le_refl _⟩ rfl (c_X11_licenceAt hnx  (fun r117 h117 => ?_))
                refine aw_rdA (f := 8) (i := l) (v := A 8 l) dX11_hand_120 hnx hL hA hb (un_8 sl) (by show _ = 456 + 10 * (l) + 6; omega) (rfl) (fun q120 => ?_)
                refine aw_iload_n dX11_hand_121 rfl ?_
                refine aw_callV (As := [_, _, _, _, _, _]) (ρ := (_, 0, 0)) (kn' := (0, 0)) cv_X11_232 dX11_hand_122 rfl rfl (hc43 hnx) rfl rfl (Nat.le_of_ble_eq_true rfl) (rmR _ _ _) ⟨Nat.le_refl _, Nat.le_refl _⟩ rfl (c_X11_newLicence hnx hA hb hL (show A 28 0 < 60 by omega) (by omega) (fun V122 hX122 hL hA => ?_))
                replace hX := hX.trans hX122
                have nl : l ≠ A 28 0 := by omega
                have eq := isr_u1 A nl (A 6 l - n) i (A 5 l) n (A 7 l) (A 8 l) l
                replace hA : Ag (haR A l i n) (V122 0) := by unfold haR; rw [← eq]; exact hA
                have hb2 : bd (haR A l i n) := ⟨i1.1, i1.2.1, (show 0 ≤ A 28 0 + 1 ∧ A 28 0 + 1 ≤ 60 by omega), i1.2.2.2.1⟩
                have sl2 : 0 ≤ l ∧ l < haR A l i n 28 0 := (show 0 ≤ l ∧ l < A 28 0 + 1 by omega)
                have q10 : inI (haR A l i n 10 l) := by rw [haR_10 A nl]; exact hR 10 (by decide) l
                have rb := haR_rem A (i := i) (n := n) nl (by omega)
                refine aw_istore (ls' := [some (rf Γ 43), some _, some _, some _, some _]) dX11_hand_125 (by decide) rfl ?_
                refine aw_aload_n dX11_hand_127 rfl ?_
                refine aw_iload_n dX11_hand_128 rfl ?_
                refine aw_callV (As := [_]) (ρ := (_, 0, 0)) (kn' := (0, 0)) cv_X11_214 dX11_hand_129 rfl rfl (hc43 hnx) rfl rfl (Nat.le_of_ble_eq_true rfl) (rmR _ _ _) ⟨Nat.le_refl _, Nat.le_refl _⟩ rfl (c_X11_leftOf_m hnx hA hb2 hL sl2 q10 (fun r129 h129 => ?_))
                refine aw_if_ne (tgt := 141) dX11_hand_132 rfl (by omega) (fun c132 => ?_) (fun c132 => ?_)
                · skip
                  refine aw_iload dX11_hand_141 rfl ?_
                  exact aw_ireturn dX11_hand_143 rfl rfl ⟨Nat.le_refl _, Nat.le_refl _⟩ (by first | (have w : rem (haR A l i n) l = 0 := (by omega); exact hQ acc _ (hK.vx hX hL) (by rw [← hand_yes A w]; exact hA)) | (have w : ¬ rem (haR A l i n) l = 0 := (by omega); exact hQ acc _ (hK.vx hX hL) (by rw [← hand_no A w]; exact hA)))
                · skip
                  refine aw_aload_n dX11_hand_135 rfl ?_
                  refine aw_iload_n dX11_hand_136 rfl ?_
                  refine aw_iconst dX11_hand_137 ?_
                  refine aw_callV (As := [_, _]) (ρ := (_, 0, 0)) (kn' := (0, 0)) cv_X11_220 dX11_hand_138 rfl rfl (hc43 hnx) rfl rfl (Nat.le_of_ble_eq_true rfl) (rmR _ _ _) ⟨Nat.le_refl _, Nat.le_refl _⟩ rfl (c_X11_ends hnx hA hb2 hL sl2 (by omega) (fun V138 hX138 hL hA => ?_))
                  replace hX := hX.trans hX138
                  refine aw_iload dX11_hand_141 rfl ?_
                  exact aw_ireturn dX11_hand_143 rfl rfl ⟨Nat.le_refl _, Nat.le_refl _⟩ (by first | (have w : rem (haR A l i n) l = 0 := (by omega); exact hQ acc _ (hK.vx hX hL) (by rw [← hand_yes A w]; exact hA)) | (have w : ¬ rem (haR A l i n) l = 0 := (by omega); exact hQ acc _ (hK.vx hX hL) (by rw [← hand_no A w]; exact hA)))
              · skip
                refine aw_bipush dX11_hand_69 rfl ?_
                exact aw_ireturn dX11_hand_71 rfl rfl ⟨Nat.le_refl _, Nat.le_refl _⟩ (hN _ (by simp only [rHand, isL, isI, isO, isN]; (repeat' split) <;> omega) (by omega))
            · skip
              refine aw_if_ne (tgt := 60) dX11_hand_54 rfl (by decide) (fun c => absurd c (by decide)) (fun _ => ?_)
              refine aw_bipush dX11_hand_57 rfl ?_
              exact aw_ireturn dX11_hand_59 rfl rfl ⟨Nat.le_refl _, Nat.le_refl _⟩ (hN _ (by simp only [rHand, isL, isI, isO, isN]; (repeat' split) <;> omega) (by omega))
          · skip
            refine aw_bipush dX11_hand_46 rfl ?_
            exact aw_ireturn dX11_hand_48 rfl rfl ⟨Nat.le_refl _, Nat.le_refl _⟩ (hN _ (by simp only [rHand, isL, isI, isO, isN]; (repeat' split) <;> omega) (by omega))
        · skip
          refine aw_if_ne (tgt := 35) dX11_hand_30 rfl (by decide) (fun c => absurd c (by decide)) (fun _ => ?_)
          refine aw_iconst dX11_hand_33 ?_
          exact aw_ireturn dX11_hand_34 rfl rfl ⟨Nat.le_refl _, Nat.le_refl _⟩ (hN _ (by simp only [rHand, isL, isI, isO, isN]; (repeat' split) <;> omega) (by omega))
    · skip
      refine aw_if_eq (tgt := 33) dX11_hand_13 rfl (by decide) (fun _ => ?_) (fun c => absurd c (by decide))
      refine aw_iconst dX11_hand_33 ?_
      exact aw_ireturn dX11_hand_34 rfl rfl ⟨Nat.le_refl _, Nat.le_refl _⟩ (hN _ (by simp only [rHand, isL, isI, isO, isN]; (repeat' split) <;> omega) (by omega))
  · skip
    refine aw_if_eq (tgt := 33) dX11_hand_5 rfl (by decide) (fun _ => ?_) (fun c => absurd c (by decide))
    refine aw_iconst dX11_hand_33 ?_
    exact aw_ireturn dX11_hand_34 rfl rfl ⟨Nat.le_refl _, Nat.le_refl _⟩ (hN _ (by simp only [rHand, isL, isI, isO, isN]; (repeat' split) <;> omega) (by omega))

set_option maxHeartbeats 1000000 in
theorem c_X11_goesOver_2 {Γ : GT} {S T U V A : St} {G : Gw} {nx d : Nat} {Q : QT} (hnx : 52 ≤ nx) {l j : Int} (hA : Ag A (V 0)) (hb : bd A) (hL : RgL V) (hl : 0 ≤ l ∧ l < A 28 0) (hj : 0 ≤ j ∧ j < A 28 0) (hlj : l ≠ j) (hr : inI (A 6 l) ∧ inI (A 6 j)) (hQ : ∀ V2, VX V V2 → RgL V2 → Ag (u1 (u1 A 6 l (A 6 l + A 6 j)) 6 j 0) (V2 0) → Q none (hp Γ S T U V2 G) nx) : AM Γ MX11_goesOver (d + 1, 0, 0) [rf Γ 43, vi l, vi j, vi 2] (hp Γ S T U V G) nx Q := by
  refine am_of (by decide) (Nat.le_of_ble_eq_true rfl) (ls := [some (rf Γ 43), some _, some _, some _]) rfl ?_
  obtain ⟨b1, b2, b3, b4⟩ := id hb
  have hX : VX V V := VX.rfl
  refine aw_aload_n dX11_goesOver_0 rfl ?_
  refine aw_getf fg_X11_9 dX11_goesOver_1 (hc43 hnx) rfl ?_
  refine aw_iload_n dX11_goesOver_4 rfl ?_
  refine aw_iload_n dX11_goesOver_5 rfl ?_
  refine aw_callS (As := [_, _]) (ρ := (_, 0, 0)) (kn' := (0, 0)) cs_X11_48 dX11_goesOver_6 rfl rfl (Nat.le_of_ble_eq_true rfl) (rmR _ _ _) ⟨Nat.le_refl _, Nat.le_refl _⟩ rfl (c_X11_licenceAt hnx  (fun r6 h6 => ?_))
  refine aw_dup2_11 dX11_goesOver_9 rfl rfl ?_
  refine aw_rdA (f := 6) (i := l) (v := A 6 l) dX11_goesOver_10 hnx hL hA hb (un_6 hl) (by show _ = 456 + 10 * (l) + 2; omega) (rfl) (fun q10 => ?_)
  refine aw_aload_n dX11_goesOver_11 rfl ?_
  refine aw_getf fg_X11_9 dX11_goesOver_12 (hc43 hnx) rfl ?_
  refine aw_iload_n dX11_goesOver_15 rfl ?_
  refine aw_iload_n dX11_goesOver_16 rfl ?_
  refine aw_callS (As := [_, _]) (ρ := (_, 0, 0)) (kn' := (0, 0)) cs_X11_48 dX11_goesOver_17 rfl rfl (Nat.le_of_ble_eq_true rfl) (rmR _ _ _) ⟨Nat.le_refl _, Nat.le_refl _⟩ rfl (c_X11_licenceAt hnx  (fun r17 h17 => ?_))
  refine aw_rdA (f := 6) (i := j) (v := A 6 j) dX11_goesOver_20 hnx hL hA hb (un_6 hj) (by show _ = 456 + 10 * (j) + 2; omega) (rfl) (fun q20 => ?_)
  refine aw_ladd dX11_goesOver_21 ?_
  refine aw_stA (f := 6) (i := l) (v := A 6 l + A 6 j) dX11_goesOver_22 hnx hX hL hA hb (un_6 hl) (by decide) (by show _ = 456 + 10 * (l) + 2; omega) (by omega) (by omega) (fun V22 hX hL hA => ?_)
  refine aw_aload_n dX11_goesOver_23 rfl ?_
  refine aw_getf fg_X11_9 dX11_goesOver_24 (hc43 hnx) rfl ?_
  refine aw_iload_n dX11_goesOver_27 rfl ?_
  refine aw_iload_n dX11_goesOver_28 rfl ?_
  refine aw_callS (As := [_, _]) (ρ := (_, 0, 0)) (kn' := (0, 0)) cs_X11_48 dX11_goesOver_29 rfl rfl (Nat.le_of_ble_eq_true rfl) (rmR _ _ _) ⟨Nat.le_refl _, Nat.le_refl _⟩ rfl (c_X11_licenceAt hnx  (fun r29 h29 => ?_))
  refine aw_lconst0 dX11_goesOver_32 ?_
  refine aw_stA (f := 6) (i := j) (v := 0) dX11_goesOver_33 hnx hX hL hA hb (un_6 hj) (by decide) (by show _ = 456 + 10 * (j) + 2; omega) (by omega) (by omega) (fun V33 hX hL hA => ?_)
  exact aw_return dX11_goesOver_34 rfl ⟨Nat.le_refl _, Nat.le_refl _⟩ (hQ _ hX hL hA)

set_option maxHeartbeats 1000000 in
theorem c_X11_goesOver_4 {Γ : GT} {S T U V A : St} {G : Gw} {nx d : Nat} {Q : QT} (hnx : 52 ≤ nx) {l j : Int} (hA : Ag A (V 0)) (hb : bd A) (hL : RgL V) (hl : 0 ≤ l ∧ l < A 28 0) (hj : 0 ≤ j ∧ j < A 28 0) (hlj : l ≠ j) (hr : inI (A 9 l) ∧ inI (A 9 j)) (hQ : ∀ V2, VX V V2 → RgL V2 → Ag (u1 (u1 A 9 l (A 9 l + A 9 j)) 9 j 0) (V2 0) → Q none (hp Γ S T U V2 G) nx) : AM Γ MX11_goesOver (d + 1, 0, 0) [rf Γ 43, vi l, vi j, vi 4] (hp Γ S T U V G) nx Q := by
  refine am_of (by decide) (Nat.le_of_ble_eq_true rfl) (ls := [some (rf Γ 43), some _, some _, some _]) rfl ?_
  obtain ⟨b1, b2, b3, b4⟩ := id hb
  have hX : VX V V := VX.rfl
  refine aw_aload_n dX11_goesOver_0 rfl ?_
  refine aw_getf fg_X11_9 dX11_goesOver_1 (hc43 hnx) rfl ?_
  refine aw_iload_n dX11_goesOver_4 rfl ?_
  refine aw_iload_n dX11_goesOver_5 rfl ?_
  refine aw_callS (As := [_, _]) (ρ := (_, 0, 0)) (kn' := (0, 0)) cs_X11_48 dX11_goesOver_6 rfl rfl (Nat.le_of_ble_eq_true rfl) (rmR _ _ _) ⟨Nat.le_refl _, Nat.le_refl _⟩ rfl (c_X11_licenceAt hnx  (fun r6 h6 => ?_))
  refine aw_dup2_11 dX11_goesOver_9 rfl rfl ?_
  refine aw_rdA (f := 9) (i := l) (v := A 9 l) dX11_goesOver_10 hnx hL hA hb (un_9 hl) (by show _ = 456 + 10 * (l) + 4; omega) (rfl) (fun q10 => ?_)
  refine aw_aload_n dX11_goesOver_11 rfl ?_
  refine aw_getf fg_X11_9 dX11_goesOver_12 (hc43 hnx) rfl ?_
  refine aw_iload_n dX11_goesOver_15 rfl ?_
  refine aw_iload_n dX11_goesOver_16 rfl ?_
  refine aw_callS (As := [_, _]) (ρ := (_, 0, 0)) (kn' := (0, 0)) cs_X11_48 dX11_goesOver_17 rfl rfl (Nat.le_of_ble_eq_true rfl) (rmR _ _ _) ⟨Nat.le_refl _, Nat.le_refl _⟩ rfl (c_X11_licenceAt hnx  (fun r17 h17 => ?_))
  refine aw_rdA (f := 9) (i := j) (v := A 9 j) dX11_goesOver_20 hnx hL hA hb (un_9 hj) (by show _ = 456 + 10 * (j) + 4; omega) (rfl) (fun q20 => ?_)
  refine aw_ladd dX11_goesOver_21 ?_
  refine aw_stA (f := 9) (i := l) (v := A 9 l + A 9 j) dX11_goesOver_22 hnx hX hL hA hb (un_9 hl) (by decide) (by show _ = 456 + 10 * (l) + 4; omega) (by omega) (by omega) (fun V22 hX hL hA => ?_)
  refine aw_aload_n dX11_goesOver_23 rfl ?_
  refine aw_getf fg_X11_9 dX11_goesOver_24 (hc43 hnx) rfl ?_
  refine aw_iload_n dX11_goesOver_27 rfl ?_
  refine aw_iload_n dX11_goesOver_28 rfl ?_
  refine aw_callS (As := [_, _]) (ρ := (_, 0, 0)) (kn' := (0, 0)) cs_X11_48 dX11_goesOver_29 rfl rfl (Nat.le_of_ble_eq_true rfl) (rmR _ _ _) ⟨Nat.le_refl _, Nat.le_refl _⟩ rfl (c_X11_licenceAt hnx  (fun r29 h29 => ?_))
  refine aw_lconst0 dX11_goesOver_32 ?_
  refine aw_stA (f := 9) (i := j) (v := 0) dX11_goesOver_33 hnx hX hL hA hb (un_9 hj) (by decide) (by show _ = 456 + 10 * (j) + 4; omega) (by omega) (by omega) (fun V33 hX hL hA => ?_)
  exact aw_return dX11_goesOver_34 rfl ⟨Nat.le_refl _, Nat.le_refl _⟩ (hQ _ hX hL hA)

set_option maxHeartbeats 1000000 in
theorem c_X11_goesOver_9 {Γ : GT} {S T U V A : St} {G : Gw} {nx d : Nat} {Q : QT} (hnx : 52 ≤ nx) {l j : Int} (hA : Ag A (V 0)) (hb : bd A) (hL : RgL V) (hl : 0 ≤ l ∧ l < A 28 0) (hj : 0 ≤ j ∧ j < A 28 0) (hlj : l ≠ j) (hr : inI (A 13 l) ∧ inI (A 13 j)) (hQ : ∀ V2, VX V V2 → RgL V2 → Ag (u1 (u1 A 13 l (A 13 l + A 13 j)) 13 j 0) (V2 0) → Q none (hp Γ S T U V2 G) nx) : AM Γ MX11_goesOver (d + 1, 0, 0) [rf Γ 43, vi l, vi j, vi 9] (hp Γ S T U V G) nx Q := by
  refine am_of (by decide) (Nat.le_of_ble_eq_true rfl) (ls := [some (rf Γ 43), some _, some _, some _]) rfl ?_
  obtain ⟨b1, b2, b3, b4⟩ := id hb
  have hX : VX V V := VX.rfl
  refine aw_aload_n dX11_goesOver_0 rfl ?_
  refine aw_getf fg_X11_9 dX11_goesOver_1 (hc43 hnx) rfl ?_
  refine aw_iload_n dX11_goesOver_4 rfl ?_
  refine aw_iload_n dX11_goesOver_5 rfl ?_
  refine aw_callS (As := [_, _]) (ρ := (_, 0, 0)) (kn' := (0, 0)) cs_X11_48 dX11_goesOver_6 rfl rfl (Nat.le_of_ble_eq_true rfl) (rmR _ _ _) ⟨Nat.le_refl _, Nat.le_refl _⟩ rfl (c_X11_licenceAt hnx  (fun r6 h6 => ?_))
  refine aw_dup2_11 dX11_goesOver_9 rfl rfl ?_
  refine aw_rdA (f := 13) (i := l) (v := A 13 l) dX11_goesOver_10 hnx hL hA hb (un_13 hl) (by show _ = 456 + 10 * (l) + 9; omega) (rfl) (fun q10 => ?_)
  refine aw_aload_n dX11_goesOver_11 rfl ?_
  refine aw_getf fg_X11_9 dX11_goesOver_12 (hc43 hnx) rfl ?_
  refine aw_iload_n dX11_goesOver_15 rfl ?_
  refine aw_iload_n dX11_goesOver_16 rfl ?_
  refine aw_callS (As := [_, _]) (ρ := (_, 0, 0)) (kn' := (0, 0)) cs_X11_48 dX11_goesOver_17 rfl rfl (Nat.le_of_ble_eq_true rfl) (rmR _ _ _) ⟨Nat.le_refl _, Nat.le_refl _⟩ rfl (c_X11_licenceAt hnx  (fun r17 h17 => ?_))
  refine aw_rdA (f := 13) (i := j) (v := A 13 j) dX11_goesOver_20 hnx hL hA hb (un_13 hj) (by show _ = 456 + 10 * (j) + 9; omega) (rfl) (fun q20 => ?_)
  refine aw_ladd dX11_goesOver_21 ?_
  refine aw_stA (f := 13) (i := l) (v := A 13 l + A 13 j) dX11_goesOver_22 hnx hX hL hA hb (un_13 hl) (by decide) (by show _ = 456 + 10 * (l) + 9; omega) (by omega) (by omega) (fun V22 hX hL hA => ?_)
  refine aw_aload_n dX11_goesOver_23 rfl ?_
  refine aw_getf fg_X11_9 dX11_goesOver_24 (hc43 hnx) rfl ?_
  refine aw_iload_n dX11_goesOver_27 rfl ?_
  refine aw_iload_n dX11_goesOver_28 rfl ?_
  refine aw_callS (As := [_, _]) (ρ := (_, 0, 0)) (kn' := (0, 0)) cs_X11_48 dX11_goesOver_29 rfl rfl (Nat.le_of_ble_eq_true rfl) (rmR _ _ _) ⟨Nat.le_refl _, Nat.le_refl _⟩ rfl (c_X11_licenceAt hnx  (fun r29 h29 => ?_))
  refine aw_lconst0 dX11_goesOver_32 ?_
  refine aw_stA (f := 13) (i := j) (v := 0) dX11_goesOver_33 hnx hX hL hA hb (un_13 hj) (by decide) (by show _ = 456 + 10 * (j) + 9; omega) (by omega) (by omega) (fun V33 hX hL hA => ?_)
  exact aw_return dX11_goesOver_34 rfl ⟨Nat.le_refl _, Nat.le_refl _⟩ (hQ _ hX hL hA)

theorem over_eq (A : St) {l j : Int} (t : Int) : closeS (u1 (u1 (u1 (u1 (u1 (u1 A 6 l (A 6 l + A 6 j)) 6 j 0) 9 l (A 9 l + A 9 j)) 9 j 0) 13 l (A 13 l + A 13 j)) 13 j 0) j 1 t = overS A l j t := by
  rw [u1_comm _ (f := 6) (g := 9) (by decide) j l, u1_comm _ (f := 9) (g := 13) (by decide) j l, u1_comm _ (f := 6) (g := 13) (by decide) j l]
  rfl
theorem ovr_10 (A : St) {l j : Int} (t : Int) (h : l ≠ j) : overS A l j t 10 l = A 10 l := by
  unfold overS closeS; rw [u1_at, if_neg (fun z => absurd z.1 (by decide)), u1_at, if_neg (fun z => h z.2)]; rfl

set_option maxHeartbeats 1000000 in
theorem c_X11_merge {Γ : GT} {S T U V A : St} {G : Gw} {nx d : Nat} {Q : QT} (hnx : 52 ≤ nx) {l j : Int} {c : Int} (hI : Inv c A) (hA : Ag A (V 0)) (hL : RgL V) (hM : 0 ≤ V 10 0 ∧ V 10 0 ≤ 10) (hl : inI l) (hj : inI j) (hN : ∀ r, r = rMerge A l j → r ≠ 0 → Q (some (vi r)) (hp Γ S T U V G) nx) (hQ : rMerge A l j = 0 → ∀ V2, KP V V2 → Ag (overS A l j (A 25 0)) (V2 0) → Q (some (vi (rem (overS A l j (A 25 0)) l))) (hp Γ S T U V2 G) nx) : AM Γ MX11_merge (d + 5, 0, 0) [rf Γ 43, vi l, vi j] (hp Γ S T U V G) nx Q := by
  refine am_of (by decide) (Nat.le_of_ble_eq_true rfl) (ls := [some (rf Γ 43), some _, some _, none]) rfl ?_
  have hR := hI.R
  have i1 := hI.i1
  have hz : 0 ≤ A 28 0 ∧ A 28 0 ≤ 60 := i1.2.2.1
  have hkS : nS A = (A 28 0).toNat := rfl
  have hkI : nIm A = (A 27 0).toNat := rfl
  have hkO : nOr A = (A 26 0).toNat := rfl
  have hb := hI.bd
  refine aw_aload_n dX11_merge_0 rfl ?_
  refine aw_iload_n dX11_merge_1 rfl ?_
  refine aw_callV (As := [_]) (ρ := (_, 0, 0)) (kn' := (0, 0)) cv_X11_248 dX11_merge_2 rfl rfl (hc43 hnx) rfl rfl (Nat.le_of_ble_eq_true rfl) (rmR _ _ _) ⟨Nat.le_refl _, Nat.le_refl _⟩ rfl (c_X11_isLicence hnx hI hA hL (by omega) (fun r2 h2 => ?_))
  rcases h2 with ⟨rfl, h2⟩ | ⟨rfl, h2⟩
  · skip
    refine aw_if_eq (tgt := 21) dX11_merge_5 rfl (by decide) (fun c => absurd c (by decide)) (fun _ => ?_)
    refine aw_aload_n dX11_merge_8 rfl ?_
    refine aw_iload_n dX11_merge_9 rfl ?_
    refine aw_callV (As := [_]) (ρ := (_, 0, 0)) (kn' := (0, 0)) cv_X11_248 dX11_merge_10 rfl rfl (hc43 hnx) rfl rfl (Nat.le_of_ble_eq_true rfl) (rmR _ _ _) ⟨Nat.le_refl _, Nat.le_refl _⟩ rfl (c_X11_isLicence hnx hI hA hL (by omega) (fun r10 h10 => ?_))
    rcases h10 with ⟨rfl, h10⟩ | ⟨rfl, h10⟩
    · skip
      refine aw_if_eq (tgt := 21) dX11_merge_13 rfl (by decide) (fun c => absurd c (by decide)) (fun _ => ?_)
      refine aw_iload_n dX11_merge_16 rfl ?_
      refine aw_iload_n dX11_merge_17 rfl ?_
      refine aw_icmp_ne (tgt := 23) dX11_merge_18 rfl (by omega) (fun c18 => ?_) (fun c18 => ?_)
      · skip
        have sl : 0 ≤ l ∧ l < A 28 0 := by omega
        have sj : 0 ≤ j ∧ j < A 28 0 := by omega
        have nlj : l ≠ j := by omega
        have l1 := hI.li sl
        have l2 := hI.li sj
        refine aw_aload_n dX11_merge_23 rfl ?_
        refine aw_iload_n dX11_merge_24 rfl ?_
        refine aw_callV (As := [_]) (ρ := (_, 0, 0)) (kn' := (0, 0)) cv_X11_199 dX11_merge_25 rfl rfl (hc43 hnx) rfl rfl (Nat.le_of_ble_eq_true rfl) (rmR _ _ _) ⟨Nat.le_refl _, Nat.le_refl _⟩ rfl (c_X11_isOpen hnx hI hA hL (by omega) (fun r25 h25 => ?_))
        rcases h25 with ⟨rfl, h25⟩ | ⟨rfl, h25⟩
        · skip
          refine aw_if_eq (tgt := 39) dX11_merge_28 rfl (by decide) (fun c => absurd c (by decide)) (fun _ => ?_)
          refine aw_aload_n dX11_merge_31 rfl ?_
          refine aw_iload_n dX11_merge_32 rfl ?_
          refine aw_callV (As := [_]) (ρ := (_, 0, 0)) (kn' := (0, 0)) cv_X11_199 dX11_merge_33 rfl rfl (hc43 hnx) rfl rfl (Nat.le_of_ble_eq_true rfl) (rmR _ _ _) ⟨Nat.le_refl _, Nat.le_refl _⟩ rfl (c_X11_isOpen hnx hI hA hL (by omega) (fun r33 h33 => ?_))
          rcases h33 with ⟨rfl, h33⟩ | ⟨rfl, h33⟩
          · skip
            refine aw_if_ne (tgt := 42) dX11_merge_36 rfl (by decide) (fun _ => ?_) (fun c => absurd c (by decide))
            refine aw_aload_n dX11_merge_42 rfl ?_
            refine aw_iload_n dX11_merge_43 rfl ?_
            refine aw_aload_n dX11_merge_44 rfl ?_
            refine aw_iload_n dX11_merge_45 rfl ?_
            refine aw_iconst dX11_merge_46 ?_
            refine aw_callV (As := [_, _]) (ρ := (_, 0, 0)) (kn' := (0, 0)) cv_X11_196 dX11_merge_47 rfl rfl (hc43 hnx) rfl rfl (Nat.le_of_ble_eq_true rfl) (rmR _ _ _) ⟨Nat.le_refl _, Nat.le_refl _⟩ rfl (c_X11_ofLicence_0 hnx hI hA hL (by omega) (fun r47 h47 => ?_))
            refine aw_aload_n dX11_merge_50 rfl ?_
            refine aw_iload_n dX11_merge_51 rfl ?_
            refine aw_iconst dX11_merge_52 ?_
            refine aw_callV (As := [_, _]) (ρ := (_, 0, 0)) (kn' := (0, 0)) cv_X11_196 dX11_merge_53 rfl rfl (hc43 hnx) rfl rfl (Nat.le_of_ble_eq_true rfl) (rmR _ _ _) ⟨Nat.le_refl _, Nat.le_refl _⟩ rfl (c_X11_ofLicence_1 hnx hI hA hL (by omega) (fun r53 h53 => ?_))
            refine aw_callV (As := [_, _, _]) (ρ := (_, 0, 0)) (kn' := (0, 0)) cv_X11_202 dX11_merge_56 rfl rfl (hc43 hnx) rfl rfl (Nat.le_of_ble_eq_true rfl) (rmR _ _ _) ⟨Nat.le_refl _, Nat.le_refl _⟩ rfl (c_X11_isOf hnx hI hA hL (by omega) (by omega) (fun r56 h56 => ?_))
            refine aw_istore_n (ls' := [some (rf Γ 43), some _, some _, some _]) dX11_merge_59 (by decide) rfl ?_
            refine aw_iload_n dX11_merge_60 rfl ?_
            refine aw_if_eq (tgt := 100) dX11_merge_61 rfl (by omega) (fun c61 => ?_) (fun c61 => ?_)
            · skip
              refine aw_iconst dX11_merge_100 ?_
              refine aw_istore_n (ls' := [some (rf Γ 43), some _, some _, some _]) dX11_merge_101 (by decide) rfl ?_
              refine aw_iload_n dX11_merge_102 rfl ?_
              refine aw_if_ne (tgt := 109) dX11_merge_103 rfl (by omega) (fun c103 => ?_) (fun c103 => ?_)
              · skip
                have acc : rMerge A l j = 0 := by simp only [rMerge, isL, isI, isO, isN]; (repeat' split) <;> omega
                refine aw_aload_n dX11_merge_109 rfl ?_
                refine aw_callV (As := []) (ρ := (_, 0, 0)) (kn' := (0, 0)) cv_X11_242 dX11_merge_110 rfl rfl (hc43 hnx) rfl rfl (Nat.le_of_ble_eq_true rfl) (rmR _ _ _) ⟨Nat.le_refl _, Nat.le_refl _⟩ rfl (c_X11_keepsPast hnx hL (by omega) (fun V110 hK hV110 => ?_))
                have hX : VX V110 V110 := VX.rfl
                replace hL := hK.2.1
                replace hA : Ag A (V110 0) := by rw [hV110]; exact hA
                refine aw_aload_n dX11_merge_113 rfl ?_
                refine aw_iload_n dX11_merge_114 rfl ?_
                refine aw_iload_n dX11_merge_115 rfl ?_
                refine aw_iconst dX11_merge_116 ?_
                refine aw_callV (As := [_, _, _]) (ρ := (_, 0, 0)) (kn' := (0, 0)) cv_X11_256 dX11_merge_117 rfl rfl (hc43 hnx) rfl rfl (Nat.le_of_ble_eq_true rfl) (rmR _ _ _) ⟨Nat.le_refl _, Nat.le_refl _⟩ rfl (c_X11_goesOver_2 hnx hA hb hL sl sj nlj ⟨hR 6 (by decide) l, hR 6 (by decide) j⟩ (fun V117 hX117 hL hA => ?_))
                replace hX := hX.trans hX117
                refine aw_aload_n dX11_merge_120 rfl ?_
                refine aw_iload_n dX11_merge_121 rfl ?_
                refine aw_iload_n dX11_merge_122 rfl ?_
                refine aw_iconst dX11_merge_123 ?_
                refine aw_callV (As := [_, _, _]) (ρ := (_, 0, 0)) (kn' := (0, 0)) cv_X11_256 dX11_merge_124 rfl rfl (hc43 hnx) rfl rfl (Nat.le_of_ble_eq_true rfl) (rmR _ _ _) ⟨Nat.le_refl _, Nat.le_refl _⟩ rfl (c_X11_goesOver_4 hnx hA hb hL sl sj nlj ⟨hR 9 (by decide) l, hR 9 (by decide) j⟩ (fun V124 hX124 hL hA => ?_))
                replace hX := hX.trans hX124
                refine aw_aload_n dX11_merge_127 rfl ?_
                refine aw_iload_n dX11_merge_128 rfl ?_
                refine aw_iload_n dX11_merge_129 rfl ?_
                refine aw_bipush dX11_merge_130 rfl ?_
                refine aw_callV (As := [_, _, _]) (ρ := (_, 0, 0)) (kn' := (0, 0)) cv_X11_256 dX11_merge_132 rfl rfl (hc43 hnx) rfl rfl (Nat.le_of_ble_eq_true rfl) (rmR _ _ _) ⟨Nat.le_refl _, Nat.le_refl _⟩ rfl (c_X11_goesOver_9 hnx hA hb hL sl sj nlj ⟨hR 13 (by decide) l, hR 13 (by decide) j⟩ (fun V132 hX132 hL hA => ?_))
                replace hX := hX.trans hX132
                refine aw_aload_n dX11_merge_135 rfl ?_
                refine aw_iload_n dX11_merge_136 rfl ?_
                refine aw_iconst dX11_merge_137 ?_
                refine aw_callV (As := [_, _]) (ρ := (_, 0, 0)) (kn' := (0, 0)) cv_X11_220 dX11_merge_138 rfl rfl (hc43 hnx) rfl rfl (Nat.le_of_ble_eq_true rfl) (rmR _ _ _) ⟨Nat.le_refl _, Nat.le_refl _⟩ rfl (c_X11_ends hnx hA hb hL sj (by omega) (fun V138 hX138 hL hA => ?_))
                replace hX := hX.trans hX138
                have eq := over_eq A (l := l) (j := j) (A 25 0)
                replace hA : Ag (overS A l j (A 25 0)) (V138 0) := by rw [← eq]; exact hA
                have q10 : inI (overS A l j (A 25 0) 10 l) := by rw [ovr_10 A _ nlj]; exact hR 10 (by decide) l
                refine aw_aload_n dX11_merge_141 rfl ?_
                refine aw_iload_n dX11_merge_142 rfl ?_
                refine aw_callV (As := [_]) (ρ := (_, 0, 0)) (kn' := (0, 0)) cv_X11_214 dX11_merge_143 rfl rfl (hc43 hnx) rfl rfl (Nat.le_of_ble_eq_true rfl) (rmR _ _ _) ⟨Nat.le_refl _, Nat.le_refl _⟩ rfl (c_X11_leftOf_m hnx hA hb hL sl q10 (fun r143 h143 => ?_))
                subst h143
                exact aw_ireturn dX11_merge_146 rfl rfl ⟨Nat.le_refl _, Nat.le_refl _⟩ (hQ acc _ (hK.vx hX hL) hA)
              · skip
                refine aw_bipush dX11_merge_106 rfl ?_
                exact aw_ireturn dX11_merge_108 rfl rfl ⟨Nat.le_refl _, Nat.le_refl _⟩ (hN _ (by simp only [rMerge, isL, isI, isO, isN]; (repeat' split) <;> omega) (by omega))
            · skip
              refine aw_aload_n dX11_merge_64 rfl ?_
              refine aw_iload_n dX11_merge_65 rfl ?_
              refine aw_iconst dX11_merge_66 ?_
              refine aw_callV (As := [_, _]) (ρ := (_, 0, 0)) (kn' := (0, 0)) cv_X11_196 dX11_merge_67 rfl rfl (hc43 hnx) rfl rfl (Nat.le_of_ble_eq_true rfl) (rmR _ _ _) ⟨Nat.le_refl _, Nat.le_refl _⟩ rfl (c_X11_ofLicence_3 hnx hI hA hL (by omega) (fun r67 h67 => ?_))
              refine aw_aload_n dX11_merge_70 rfl ?_
              refine aw_iload_n dX11_merge_71 rfl ?_
              refine aw_iconst dX11_merge_72 ?_
              refine aw_callV (As := [_, _]) (ρ := (_, 0, 0)) (kn' := (0, 0)) cv_X11_196 dX11_merge_73 rfl rfl (hc43 hnx) rfl rfl (Nat.le_of_ble_eq_true rfl) (rmR _ _ _) ⟨Nat.le_refl _, Nat.le_refl _⟩ rfl (c_X11_ofLicence_3 hnx hI hA hL (by omega) (fun r73 h73 => ?_))
              refine aw_icmp_ne (tgt := 100) dX11_merge_76 rfl (by omega) (fun c76 => ?_) (fun c76 => ?_)
              · skip
                refine aw_iconst dX11_merge_100 ?_
                refine aw_istore_n (ls' := [some (rf Γ 43), some _, some _, some _]) dX11_merge_101 (by decide) rfl ?_
                refine aw_iload_n dX11_merge_102 rfl ?_
                refine aw_if_ne (tgt := 109) dX11_merge_103 rfl (by omega) (fun c103 => ?_) (fun c103 => ?_)
                · skip
                  have acc : rMerge A l j = 0 := by simp only [rMerge, isL, isI, isO, isN]; (repeat' split) <;> omega
                  refine aw_aload_n dX11_merge_109 rfl ?_
                  refine aw_callV (As := []) (ρ := (_, 0, 0)) (kn' := (0, 0)) cv_X11_242 dX11_merge_110 rfl rfl (hc43 hnx) rfl rfl (Nat.le_of_ble_eq_true rfl) (rmR _ _ _) ⟨Nat.le_refl _, Nat.le_refl _⟩ rfl (c_X11_keepsPast hnx hL (by omega) (fun V110 hK hV110 => ?_))
                  have hX : VX V110 V110 := VX.rfl
                  replace hL := hK.2.1
                  replace hA : Ag A (V110 0) := by rw [hV110]; exact hA
                  refine aw_aload_n dX11_merge_113 rfl ?_
                  refine aw_iload_n dX11_merge_114 rfl ?_
                  refine aw_iload_n dX11_merge_115 rfl ?_
                  refine aw_iconst dX11_merge_116 ?_
                  refine aw_callV (As := [_, _, _]) (ρ := (_, 0, 0)) (kn' := (0, 0)) cv_X11_256 dX11_merge_117 rfl rfl (hc43 hnx) rfl rfl (Nat.le_of_ble_eq_true rfl) (rmR _ _ _) ⟨Nat.le_refl _, Nat.le_refl _⟩ rfl (c_X11_goesOver_2 hnx hA hb hL sl sj nlj ⟨hR 6 (by decide) l, hR 6 (by decide) j⟩ (fun V117 hX117 hL hA => ?_))
                  replace hX := hX.trans hX117
                  refine aw_aload_n dX11_merge_120 rfl ?_
                  refine aw_iload_n dX11_merge_121 rfl ?_
                  refine aw_iload_n dX11_merge_122 rfl ?_
                  refine aw_iconst dX11_merge_123 ?_
                  refine aw_callV (As := [_, _, _]) (ρ := (_, 0, 0)) (kn' := (0, 0)) cv_X11_256 dX11_merge_124 rfl rfl (hc43 hnx) rfl rfl (Nat.le_of_ble_eq_true rfl) (rmR _ _ _) ⟨Nat.le_refl _, Nat.le_refl _⟩ rfl (c_X11_goesOver_4 hnx hA hb hL sl sj nlj ⟨hR 9 (by decide) l, hR 9 (by decide) j⟩ (fun V124 hX124 hL hA => ?_))
                  replace hX := hX.trans hX124
                  refine aw_aload_n dX11_merge_127 rfl ?_
                  refine aw_iload_n dX11_merge_128 rfl ?_
                  refine aw_iload_n dX11_merge_129 rfl ?_
                  refine aw_bipush dX11_merge_130 rfl ?_
                  refine aw_callV (As := [_, _, _]) (ρ := (_, 0, 0)) (kn' := (0, 0)) cv_X11_256 dX11_merge_132 rfl rfl (hc43 hnx) rfl rfl (Nat.le_of_ble_eq_true rfl) (rmR _ _ _) ⟨Nat.le_refl _, Nat.le_refl _⟩ rfl (c_X11_goesOver_9 hnx hA hb hL sl sj nlj ⟨hR 13 (by decide) l, hR 13 (by decide) j⟩ (fun V132 hX132 hL hA => ?_))
                  replace hX := hX.trans hX132
                  refine aw_aload_n dX11_merge_135 rfl ?_
                  refine aw_iload_n dX11_merge_136 rfl ?_
                  refine aw_iconst dX11_merge_137 ?_
                  refine aw_callV (As := [_, _]) (ρ := (_, 0, 0)) (kn' := (0, 0)) cv_X11_220 dX11_merge_138 rfl rfl (hc43 hnx) rfl rfl (Nat.le_of_ble_eq_true rfl) (rmR _ _ _) ⟨Nat.le_refl _, Nat.le_refl _⟩ rfl (c_X11_ends hnx hA hb hL sj (by omega) (fun V138 hX138 hL hA => ?_))
                  replace hX := hX.trans hX138
                  have eq := over_eq A (l := l) (j := j) (A 25 0)
                  replace hA : Ag (overS A l j (A 25 0)) (V138 0) := by rw [← eq]; exact hA
                  have q10 : inI (overS A l j (A 25 0) 10 l) := by rw [ovr_10 A _ nlj]; exact hR 10 (by decide) l
                  refine aw_aload_n dX11_merge_141 rfl ?_
                  refine aw_iload_n dX11_merge_142 rfl ?_
                  refine aw_callV (As := [_]) (ρ := (_, 0, 0)) (kn' := (0, 0)) cv_X11_214 dX11_merge_143 rfl rfl (hc43 hnx) rfl rfl (Nat.le_of_ble_eq_true rfl) (rmR _ _ _) ⟨Nat.le_refl _, Nat.le_refl _⟩ rfl (c_X11_leftOf_m hnx hA hb hL sl q10 (fun r143 h143 => ?_))
                  subst h143
                  exact aw_ireturn dX11_merge_146 rfl rfl ⟨Nat.le_refl _, Nat.le_refl _⟩ (hQ acc _ (hK.vx hX hL) hA)
                · skip
                  refine aw_bipush dX11_merge_106 rfl ?_
                  exact aw_ireturn dX11_merge_108 rfl rfl ⟨Nat.le_refl _, Nat.le_refl _⟩ (hN _ (by simp only [rMerge, isL, isI, isO, isN]; (repeat' split) <;> omega) (by omega))
              · skip
                refine aw_aload_n dX11_merge_79 rfl ?_
                refine aw_iload_n dX11_merge_80 rfl ?_
                refine aw_bipush dX11_merge_81 rfl ?_
                refine aw_callV (As := [_, _]) (ρ := (_, 0, 0)) (kn' := (0, 0)) cv_X11_196 dX11_merge_83 rfl rfl (hc43 hnx) rfl rfl (Nat.le_of_ble_eq_true rfl) (rmR _ _ _) ⟨Nat.le_refl _, Nat.le_refl _⟩ rfl (c_X11_ofLicence_6 hnx hI hA hL (by omega) (fun r83 h83 => ?_))
                refine aw_aload_n dX11_merge_86 rfl ?_
                refine aw_iload_n dX11_merge_87 rfl ?_
                refine aw_bipush dX11_merge_88 rfl ?_
                refine aw_callV (As := [_, _]) (ρ := (_, 0, 0)) (kn' := (0, 0)) cv_X11_196 dX11_merge_90 rfl rfl (hc43 hnx) rfl rfl (Nat.le_of_ble_eq_true rfl) (rmR _ _ _) ⟨Nat.le_refl _, Nat.le_refl _⟩ rfl (c_X11_ofLicence_6 hnx hI hA hL (by omega) (fun r90 h90 => ?_))
                refine aw_icmp_ne (tgt := 100) dX11_merge_93 rfl (by omega) (fun c93 => ?_) (fun c93 => ?_)
                · skip
                  refine aw_iconst dX11_merge_100 ?_
                  refine aw_istore_n (ls' := [some (rf Γ 43), some _, some _, some _]) dX11_merge_101 (by decide) rfl ?_
                  refine aw_iload_n dX11_merge_102 rfl ?_
                  refine aw_if_ne (tgt := 109) dX11_merge_103 rfl (by omega) (fun c103 => ?_) (fun c103 => ?_)
                  · skip
                    have acc : rMerge A l j = 0 := by simp only [rMerge, isL, isI, isO, isN]; (repeat' split) <;> omega
                    refine aw_aload_n dX11_merge_109 rfl ?_
                    refine aw_callV (As := []) (ρ := (_, 0, 0)) (kn' := (0, 0)) cv_X11_242 dX11_merge_110 rfl rfl (hc43 hnx) rfl rfl (Nat.le_of_ble_eq_true rfl) (rmR _ _ _) ⟨Nat.le_refl _, Nat.le_refl _⟩ rfl (c_X11_keepsPast hnx hL (by omega) (fun V110 hK hV110 => ?_))
                    have hX : VX V110 V110 := VX.rfl
                    replace hL := hK.2.1
                    replace hA : Ag A (V110 0) := by rw [hV110]; exact hA
                    refine aw_aload_n dX11_merge_113 rfl ?_
                    refine aw_iload_n dX11_merge_114 rfl ?_
                    refine aw_iload_n dX11_merge_115 rfl ?_
                    refine aw_iconst dX11_merge_116 ?_
                    refine aw_callV (As := [_, _, _]) (ρ := (_, 0, 0)) (kn' := (0, 0)) cv_X11_256 dX11_merge_117 rfl rfl (hc43 hnx) rfl rfl (Nat.le_of_ble_eq_true rfl) (rmR _ _ _) ⟨Nat.le_refl _, Nat.le_refl _⟩ rfl (c_X11_goesOver_2 hnx hA hb hL sl sj nlj ⟨hR 6 (by decide) l, hR 6 (by decide) j⟩ (fun V117 hX117 hL hA => ?_))
                    replace hX := hX.trans hX117
                    refine aw_aload_n dX11_merge_120 rfl ?_
                    refine aw_iload_n dX11_merge_121 rfl ?_
                    refine aw_iload_n dX11_merge_122 rfl ?_
                    refine aw_iconst dX11_merge_123 ?_
                    refine aw_callV (As := [_, _, _]) (ρ := (_, 0, 0)) (kn' := (0, 0)) cv_X11_256 dX11_merge_124 rfl rfl (hc43 hnx) rfl rfl (Nat.le_of_ble_eq_true rfl) (rmR _ _ _) ⟨Nat.le_refl _, Nat.le_refl _⟩ rfl (c_X11_goesOver_4 hnx hA hb hL sl sj nlj ⟨hR 9 (by decide) l, hR 9 (by decide) j⟩ (fun V124 hX124 hL hA => ?_))
                    replace hX := hX.trans hX124
                    refine aw_aload_n dX11_merge_127 rfl ?_
                    refine aw_iload_n dX11_merge_128 rfl ?_
                    refine aw_iload_n dX11_merge_129 rfl ?_
                    refine aw_bipush dX11_merge_130 rfl ?_
                    refine aw_callV (As := [_, _, _]) (ρ := (_, 0, 0)) (kn' := (0, 0)) cv_X11_256 dX11_merge_132 rfl rfl (hc43 hnx) rfl rfl (Nat.le_of_ble_eq_true rfl) (rmR _ _ _) ⟨Nat.le_refl _, Nat.le_refl _⟩ rfl (c_X11_goesOver_9 hnx hA hb hL sl sj nlj ⟨hR 13 (by decide) l, hR 13 (by decide) j⟩ (fun V132 hX132 hL hA => ?_))
                    replace hX := hX.trans hX132
                    refine aw_aload_n dX11_merge_135 rfl ?_
                    refine aw_iload_n dX11_merge_136 rfl ?_
                    refine aw_iconst dX11_merge_137 ?_
                    refine aw_callV (As := [_, _]) (ρ := (_, 0, 0)) (kn' := (0, 0)) cv_X11_220 dX11_merge_138 rfl rfl (hc43 hnx) rfl rfl (Nat.le_of_ble_eq_true rfl) (rmR _ _ _) ⟨Nat.le_refl _, Nat.le_refl _⟩ rfl (c_X11_ends hnx hA hb hL sj (by omega) (fun V138 hX138 hL hA => ?_))
                    replace hX := hX.trans hX138
                    have eq := over_eq A (l := l) (j := j) (A 25 0)
                    replace hA : Ag (overS A l j (A 25 0)) (V138 0) := by rw [← eq]; exact hA
                    have q10 : inI (overS A l j (A 25 0) 10 l) := by rw [ovr_10 A _ nlj]; exact hR 10 (by decide) l
                    refine aw_aload_n dX11_merge_141 rfl ?_
                    refine aw_iload_n dX11_merge_142 rfl ?_
                    refine aw_callV (As := [_]) (ρ := (_, 0, 0)) (kn' := (0, 0)) cv_X11_214 dX11_merge_143 rfl rfl (hc43 hnx) rfl rfl (Nat.le_of_ble_eq_true rfl) (rmR _ _ _) ⟨Nat.le_refl _, Nat.le_refl _⟩ rfl (c_X11_leftOf_m hnx hA hb hL sl q10 (fun r143 h143 => ?_))
                    subst h143
                    exact aw_ireturn dX11_merge_146 rfl rfl ⟨Nat.le_refl _, Nat.le_refl _⟩ (hQ acc _ (hK.vx hX hL) hA)
                  · skip
                    refine aw_bipush dX11_merge_106 rfl ?_
                    exact aw_ireturn dX11_merge_108 rfl rfl ⟨Nat.le_refl _, Nat.le_refl _⟩ (hN _ (by simp only [rMerge, isL, isI, isO, isN]; (repeat' split) <;> omega) (by omega))
                · skip
                  refine aw_iconst dX11_merge_96 ?_
                  refine aw_goto (tgt := 101) dX11_merge_97 rfl ?_
                  refine aw_istore_n (ls' := [some (rf Γ 43), some _, some _, some _]) dX11_merge_101 (by decide) rfl ?_
                  refine aw_iload_n dX11_merge_102 rfl ?_
                  refine aw_if_ne (tgt := 109) dX11_merge_103 rfl (by omega) (fun c103 => ?_) (fun c103 => ?_)
                  · skip
                    have acc : rMerge A l j = 0 := by simp only [rMerge, isL, isI, isO, isN]; (repeat' split) <;> omega
                    refine aw_aload_n dX11_merge_109 rfl ?_
                    refine aw_callV (As := []) (ρ := (_, 0, 0)) (kn' := (0, 0)) cv_X11_242 dX11_merge_110 rfl rfl (hc43 hnx) rfl rfl (Nat.le_of_ble_eq_true rfl) (rmR _ _ _) ⟨Nat.le_refl _, Nat.le_refl _⟩ rfl (c_X11_keepsPast hnx hL (by omega) (fun V110 hK hV110 => ?_))
                    have hX : VX V110 V110 := VX.rfl
                    replace hL := hK.2.1
                    replace hA : Ag A (V110 0) := by rw [hV110]; exact hA
                    refine aw_aload_n dX11_merge_113 rfl ?_
                    refine aw_iload_n dX11_merge_114 rfl ?_
                    refine aw_iload_n dX11_merge_115 rfl ?_
                    refine aw_iconst dX11_merge_116 ?_
                    refine aw_callV (As := [_, _, _]) (ρ := (_, 0, 0)) (kn' := (0, 0)) cv_X11_256 dX11_merge_117 rfl rfl (hc43 hnx) rfl rfl (Nat.le_of_ble_eq_true rfl) (rmR _ _ _) ⟨Nat.le_refl _, Nat.le_refl _⟩ rfl (c_X11_goesOver_2 hnx hA hb hL sl sj nlj ⟨hR 6 (by decide) l, hR 6 (by decide) j⟩ (fun V117 hX117 hL hA => ?_))
                    replace hX := hX.trans hX117
                    refine aw_aload_n dX11_merge_120 rfl ?_
                    refine aw_iload_n dX11_merge_121 rfl ?_
                    refine aw_iload_n dX11_merge_122 rfl ?_
                    refine aw_iconst dX11_merge_123 ?_
                    refine aw_callV (As := [_, _, _]) (ρ := (_, 0, 0)) (kn' := (0, 0)) cv_X11_256 dX11_merge_124 rfl rfl (hc43 hnx) rfl rfl (Nat.le_of_ble_eq_true rfl) (rmR _ _ _) ⟨Nat.le_refl _, Nat.le_refl _⟩ rfl (c_X11_goesOver_4 hnx hA hb hL sl sj nlj ⟨hR 9 (by decide) l, hR 9 (by decide) j⟩ (fun V124 hX124 hL hA => ?_))
                    replace hX := hX.trans hX124
                    refine aw_aload_n dX11_merge_127 rfl ?_
                    refine aw_iload_n dX11_merge_128 rfl ?_
                    refine aw_iload_n dX11_merge_129 rfl ?_
                    refine aw_bipush dX11_merge_130 rfl ?_
                    refine aw_callV (As := [_, _, _]) (ρ := (_, 0, 0)) (kn' := (0, 0)) cv_X11_256 dX11_merge_132 rfl rfl (hc43 hnx) rfl rfl (Nat.le_of_ble_eq_true rfl) (rmR _ _ _) ⟨Nat.le_refl _, Nat.le_refl _⟩ rfl (c_X11_goesOver_9 hnx hA hb hL sl sj nlj ⟨hR 13 (by decide) l, hR 13 (by decide) j⟩ (fun V132 hX132 hL hA => ?_))
                    replace hX := hX.trans hX132
                    refine aw_aload_n dX11_merge_135 rfl ?_
                    refine aw_iload_n dX11_merge_136 rfl ?_
                    refine aw_iconst dX11_merge_137 ?_
                    refine aw_callV (As := [_, _]) (ρ := (_, 0, 0)) (kn' := (0, 0)) cv_X11_220 dX11_merge_138 rfl rfl (hc43 hnx) rfl rfl (Nat.le_of_ble_eq_true rfl) (rmR _ _ _) ⟨Nat.le_refl _, Nat.le_refl _⟩ rfl (c_X11_ends hnx hA hb hL sj (by omega) (fun V138 hX138 hL hA => ?_))
                    replace hX := hX.trans hX138
                    have eq := over_eq A (l := l) (j := j) (A 25 0)
                    replace hA : Ag (overS A l j (A 25 0)) (V138 0) := by rw [← eq]; exact hA
                    have q10 : inI (overS A l j (A 25 0) 10 l) := by rw [ovr_10 A _ nlj]; exact hR 10 (by decide) l
                    refine aw_aload_n dX11_merge_141 rfl ?_
                    refine aw_iload_n dX11_merge_142 rfl ?_
                    refine aw_callV (As := [_]) (ρ := (_, 0, 0)) (kn' := (0, 0)) cv_X11_214 dX11_merge_143 rfl rfl (hc43 hnx) rfl rfl (Nat.le_of_ble_eq_true rfl) (rmR _ _ _) ⟨Nat.le_refl _, Nat.le_refl _⟩ rfl (c_X11_leftOf_m hnx hA hb hL sl q10 (fun r143 h143 => ?_))
                    subst h143
                    exact aw_ireturn dX11_merge_146 rfl rfl ⟨Nat.le_refl _, Nat.le_refl _⟩ (hQ acc _ (hK.vx hX hL) hA)
                  · skip
                    refine aw_bipush dX11_merge_106 rfl ?_
                    exact aw_ireturn dX11_merge_108 rfl rfl ⟨Nat.le_refl _, Nat.le_refl _⟩ (hN _ (by simp only [rMerge, isL, isI, isO, isN]; (repeat' split) <;> omega) (by omega))
          · skip
            refine aw_if_ne (tgt := 42) dX11_merge_36 rfl (by decide) (fun c => absurd c (by decide)) (fun _ => ?_)
            refine aw_bipush dX11_merge_39 rfl ?_
            exact aw_ireturn dX11_merge_41 rfl rfl ⟨Nat.le_refl _, Nat.le_refl _⟩ (hN _ (by simp only [rMerge, isL, isI, isO, isN]; (repeat' split) <;> omega) (by omega))
        · skip
          refine aw_if_eq (tgt := 39) dX11_merge_28 rfl (by decide) (fun _ => ?_) (fun c => absurd c (by decide))
          refine aw_bipush dX11_merge_39 rfl ?_
          exact aw_ireturn dX11_merge_41 rfl rfl ⟨Nat.le_refl _, Nat.le_refl _⟩ (hN _ (by simp only [rMerge, isL, isI, isO, isN]; (repeat' split) <;> omega) (by omega))
      · skip
        refine aw_iconst dX11_merge_21 ?_
        exact aw_ireturn dX11_merge_22 rfl rfl ⟨Nat.le_refl _, Nat.le_refl _⟩ (hN _ (by simp only [rMerge, isL, isI, isO, isN]; (repeat' split) <;> omega) (by omega))
    · skip
      refine aw_if_eq (tgt := 21) dX11_merge_13 rfl (by decide) (fun _ => ?_) (fun c => absurd c (by decide))
      refine aw_iconst dX11_merge_21 ?_
      exact aw_ireturn dX11_merge_22 rfl rfl ⟨Nat.le_refl _, Nat.le_refl _⟩ (hN _ (by simp only [rMerge, isL, isI, isO, isN]; (repeat' split) <;> omega) (by omega))
  · skip
    refine aw_if_eq (tgt := 21) dX11_merge_5 rfl (by decide) (fun _ => ?_) (fun c => absurd c (by decide))
    refine aw_iconst dX11_merge_21 ?_
    exact aw_ireturn dX11_merge_22 rfl rfl ⟨Nat.le_refl _, Nat.le_refl _⟩ (hN _ (by simp only [rMerge, isL, isI, isO, isN]; (repeat' split) <;> omega) (by omega))


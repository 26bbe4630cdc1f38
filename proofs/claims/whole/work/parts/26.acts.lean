/-! what a state becomes -/
section AWT
variable {Γ : GT} {M : MD} {R : Room} {Φ : PH} {kn : Nat × Nat} {pc : Nat} {ls : List (Option Value)} {st : List Value} {h : Nat → AC} {nx : Nat}
theorem aw_sv {a b : Int} (e : a = b) (k : AW Γ M R Φ kn pc ls (vi a :: st) h nx) : AW Γ M R Φ kn pc ls (vi b :: st) h nx := e ▸ k
end AWT
def lastD (S : St) : Int := min (S 25 0 + S 0 2 - 1) (S 25 0 / 360 * 360 + 360 - 1)
def gr1 (S : St) (i o n : Int) : St := if S 15 (4 * i + o) = 1 then u1 S 17 (4 * i + o) (S 17 (4 * i + o) - n) else addS S o 3 (-n)
def gr2 (S S1 : St) (i o n : Int) : St := u1 (addS (u1 S1 18 (4 * i + o) (S 18 (4 * i + o) + n)) o 4 n) 24 0 (S 24 0 + n)
def grS (S : St) (i o n : Int) : St := issS (gr2 S (gr1 S i o n) i o n) i o n (S 25 0) (lastD S) (-1)
def us1 (S : St) (l n : Int) : St := u1 (u1 S 9 l (S 9 l + n)) 13 l (S 13 l + n * (S 25 0 - S 7 l))
def us2 (S S1 : St) (l n : Int) : St := u1 (addS (u1 (u1 (u1 S1 20 (4 * S 4 l + S 5 l) (S 20 (4 * S 4 l + S 5 l) + n)) 21 (S 4 l * 12 + S 25 0 % 360 / 30) (S 21 (S 4 l * 12 + S 25 0 % 360 / 30) + n)) 22 (S 5 l * 12 + S 25 0 % 360 / 30) (S 22 (S 5 l * 12 + S 25 0 % 360 / 30) + n)) (S 5 l) 5 n) 24 1 (S 24 1 + n)
def useS (S : St) (l n : Int) : St := us2 S (cuS (us1 S l n) l (S 25 0)) l n
def cip (S : St) (l h : Int) : St := addS (closeS S l h (S 25 0)) (S 5 l) 3 (rem S l)
def cipS (S : St) (l h : Int) : St := if S 7 l / 90 = S 25 0 / 90 then cip S l h else addS (cip S l h) (S 5 l) 7 (rem S l)
theorem cu_at (S : St) (l t : Int) (f : Nat) (j : Int) (h1 : f ≠ 10) (h2 : f ≠ 11) : cuS S l t f j = S f j := by
  unfold cuS closeS; split
  · rw [u1_at, if_neg (by omega), u1_at, if_neg (by omega)]
  · rfl
theorem add_at (S : St) (o w n : Int) (f : Nat) (j : Int) : addS S o w n f j = if f = 14 ∧ j = o * 8 + w then S 14 (o * 8 + w) + n else S f j := u1_at _ _ _ _ _ _
theorem close_at (S : St) (l h t : Int) (f : Nat) (j : Int) (h1 : f ≠ 10) (h2 : f ≠ 11) : closeS S l h t f j = S f j := by
  unfold closeS; rw [u1_at, if_neg (by omega), u1_at, if_neg (by omega)]
theorem add_in {S S0 : St} {o w n : Int} (e : S 14 (o * 8 + w) = S0 14 (o * 8 + w)) (h : inI (S0 14 (o * 8 + w) + n)) : inI (S 14 (o * 8 + w) + n) := by rw [e]; exact h

set_option maxHeartbeats 1000000 in
theorem c_X7_grant {Γ : GT} {S T U V : St} {G : Gw} {nx d : Nat} {Q : QT} (hnx : 52 ≤ nx) {i j n : Int} {c : Int} (hI : Inv c S) (hi : 0 ≤ i ∧ i < S 27 0)(hj : 0 ≤ j ∧ j < S 26 0) (hn : 0 ≤ n ∧ n ≤ 99999) (h60 : S 28 0 < 60) (hQ : ∀ r, r = S 28 0 → Rg (grS S i j n) → Q (some (vi r)) (hp Γ (grS S i j n) T U V G) nx) : AM Γ MX7_grant (d + 1, 0, 0) [rf Γ 9, vi i, vi j, vi n] (hp Γ S T U V G) nx Q := by
  refine am_of (by decide) (Nat.le_of_ble_eq_true rfl) (ls := [some (rf Γ 9), some _, some _, some _, none, none, none]) rfl ?_
  have hR := hI.R
  have i1 := hI.i1
  have hz : 0 ≤ S 28 0 ∧ S 28 0 ≤ 60 := i1.2.2.1
  have hkS : nS S = (S 28 0).toNat := rfl
  have hkI : nIm S = (S 27 0).toNat := rfl
  have hkO : nOr S = (S 26 0).toNat := rfl
  have pr := hI.pr hi hj
  have fg := hI.fg hj
  have i9 := hI.i9.1
  have r24 := hR 24 (by decide) 0
  have t2 := hI.tm (hI.pos7 hi)
  have hR0 := hR
  have f3 := hR 14 (by decide) (j * 8 + 3)
  refine aw_iload_n dX7_grant_0 rfl ?_
  refine aw_iload_n dX7_grant_1 rfl ?_
  refine aw_callSN (As := [_, _]) (ρ := (_, 0, 0)) (kn' := (0, 0)) cs_X7_123 dX7_grant_2 rfl rfl (Nat.le_of_ble_eq_true rfl) (rmR _ _ _) ⟨Nat.le_refl _, Nat.le_refl _⟩ rfl (c_X10_pairOf hnx  (fun r2 h2 => ?_))
  refine aw_istore (ls' := [some (rf Γ 9), some _, some _, some _, some _, none, none]) dX7_grant_5 (by decide) rfl ?_
  subst h2
  refine aw_aload_n dX7_grant_7 rfl ?_
  refine aw_getf fg_X7_28 dX7_grant_8 (hc9 hnx) rfl ?_
  refine aw_iload dX7_grant_11 rfl ?_
  refine aw_callV (As := [_]) (ρ := (_, 0, 0)) (kn' := (0, 0)) cv_X7_148 dX7_grant_13 rfl rfl (hc25 hnx) rfl rfl (Nat.le_of_ble_eq_true rfl) (rmR _ _ _) ⟨Nat.le_refl _, Nat.le_refl _⟩ rfl (c_X3_isTraditional hnx hR (by omega) (fun r13 h13 => ?_))
  rcases h13 with ⟨rfl, h13⟩ | ⟨rfl, h13⟩
  · skip
    refine aw_if_eq (tgt := 36) dX7_grant_16 rfl (by decide) (fun c => absurd c (by decide)) (fun _ => ?_)
    rw [grS, gr1, if_pos h13] at hQ
    refine aw_aload_n dX7_grant_19 rfl ?_
    refine aw_getf fg_X7_28 dX7_grant_20 (hc9 hnx) rfl ?_
    refine aw_getf fg_X7_145 dX7_grant_23 (hc25 hnx) rfl ?_
    refine aw_iload dX7_grant_26 rfl ?_
    refine aw_dup2_11 dX7_grant_28 rfl rfl ?_
    refine aw_ialdr dX7_grant_29 (hc29 hnx) (by omega) (by decide) (hR 17 (by decide)) (fun q29 => ?_)
    refine aw_iload_n dX7_grant_30 rfl ?_
    refine aw_isub dX7_grant_31 ?_
    refine aw_iastS dX7_grant_32 (hc29 hnx) (by omega) (by decide) hR (by omega) (fun _ => hu29) (fun hR => ?_)
    refine aw_goto (tgt := 47) dX7_grant_33 rfl ?_
    refine aw_aload_n dX7_grant_47 rfl ?_
    refine aw_getf fg_X7_28 dX7_grant_48 (hc9 hnx) rfl ?_
    refine aw_getf fg_X7_135 dX7_grant_51 (hc25 hnx) rfl ?_
    refine aw_iload dX7_grant_54 rfl ?_
    refine aw_dup2_11 dX7_grant_56 rfl rfl ?_
    refine aw_ialdr dX7_grant_57 (hc30 hnx) (by omega) (by decide) (hR 18 (by decide)) (fun q57 => ?_)
    refine aw_sv (a := S 18 (4 * i + j)) (rfl) ?_
    refine aw_iload_n dX7_grant_58 rfl ?_
    refine aw_iadd dX7_grant_59 ?_
    refine aw_iastS dX7_grant_60 (hc30 hnx) (by omega) (by decide) hR (by omega) (fun _ => hu30) (fun hR => ?_)
    refine aw_aload_n dX7_grant_61 rfl ?_
    refine aw_getf fg_X7_28 dX7_grant_62 (hc9 hnx) rfl ?_
    refine aw_iload_n dX7_grant_65 rfl ?_
    refine aw_iconst dX7_grant_66 ?_
    refine aw_iload_n dX7_grant_67 rfl ?_
    refine aw_callV (As := [_, _, _]) (ρ := (_, 0, 0)) (kn' := (0, 0)) cv_X7_115 dX7_grant_68 rfl rfl (hc25 hnx) rfl rfl (Nat.le_of_ble_eq_true rfl) (rmR _ _ _) ⟨Nat.le_refl _, Nat.le_refl _⟩ rfl (c_X3_add hnx hR (by omega) (add_in (S0 := S) (by first | rfl | (show addS S j 3 (-n) 14 (j * 8 + 4) = _; rw [add_at, if_neg (by omega)])) (by omega)) (fun hR => ?_))
    refine aw_aload_n dX7_grant_71 rfl ?_
    refine aw_getf fg_X7_43 dX7_grant_72 (hc9 hnx) rfl ?_
    refine aw_iconst dX7_grant_75 ?_
    refine aw_dup2_11 dX7_grant_76 rfl rfl ?_
    refine aw_ialdr dX7_grant_77 (hc37 hnx) (by omega) (by decide) (hR 24 (by decide)) (fun q77 => ?_)
    refine aw_sv (a := S 24 0) (rfl) ?_
    refine aw_iload_n dX7_grant_78 rfl ?_
    refine aw_iadd dX7_grant_79 ?_
    refine aw_iastS dX7_grant_80 (hc37 hnx) (by omega) (by decide) hR (by omega) (fun _ => hu37) (fun hR => ?_)
    refine aw_aload_n dX7_grant_81 rfl ?_
    refine aw_getf fg_X7_66 dX7_grant_82 (hc9 hnx) rfl ?_
    refine aw_sv (a := S 25 0) (rfl) ?_
    refine aw_sipush dX7_grant_85 rfl ?_
    refine aw_idiv dX7_grant_88 (by omega) (by omega) ?_
    refine aw_sipush dX7_grant_89 rfl ?_
    refine aw_imul dX7_grant_92 ?_
    refine aw_sipush dX7_grant_93 rfl ?_
    refine aw_iadd dX7_grant_96 ?_
    refine aw_iconst dX7_grant_97 ?_
    refine aw_isub dX7_grant_98 ?_
    refine aw_nmI (fun x5_99 hx5_99 => ?_)
    refine aw_istore (ls' := [some (rf Γ 9), some _, some _, some _, some _, some _, none]) dX7_grant_99 (by decide) rfl ?_
    refine aw_aload_n dX7_grant_101 rfl ?_
    refine aw_getf fg_X7_66 dX7_grant_102 (hc9 hnx) rfl ?_
    refine aw_sv (a := S 25 0) (rfl) ?_
    refine aw_aload_n dX7_grant_105 rfl ?_
    refine aw_getf fg_X7_12 dX7_grant_106 (hc9 hnx) rfl ?_
    refine aw_getf fg_X7_132 dX7_grant_109 (hc10 hnx) rfl ?_
    refine aw_iconst dX7_grant_112 ?_
    refine aw_ialdr dX7_grant_113 (hc11 hnx) (by omega) (by decide) (hR 0 (by decide)) (fun q113 => ?_)
    refine aw_sv (a := S 0 2) (rfl) ?_
    refine aw_iadd dX7_grant_114 ?_
    refine aw_iconst dX7_grant_115 ?_
    refine aw_isub dX7_grant_116 ?_
    refine aw_iload dX7_grant_117 rfl ?_
    refine aw_mmin qm_X7_200 dX7_grant_119 (by omega) (rmN13 _ _ _ (Nat.le_of_ble_eq_true rfl)) ⟨Nat.le_refl _, Nat.le_refl _⟩ (fun r119 h119 => ?_)
    refine aw_istore (ls' := [some (rf Γ 9), some _, some _, some _, some _, some _, some _]) dX7_grant_122 (by decide) rfl ?_
    have eL : r119 = lastD S := by unfold lastD; omega
    subst eL
    refine aw_aload_n dX7_grant_124 rfl ?_
    refine aw_getf fg_X7_21 dX7_grant_125 (hc9 hnx) rfl ?_
    refine aw_iload_n dX7_grant_128 rfl ?_
    refine aw_iload_n dX7_grant_129 rfl ?_
    refine aw_iload_n dX7_grant_130 rfl ?_
    refine aw_aload_n dX7_grant_131 rfl ?_
    refine aw_getf fg_X7_66 dX7_grant_132 (hc9 hnx) rfl ?_
    refine aw_sv (a := S 25 0) (rfl) ?_
    refine aw_iload dX7_grant_135 rfl ?_
    refine aw_iconst dX7_grant_137 ?_
    refine aw_callV (As := [_, _, _, _, _, _]) (ρ := (_, 0, 0)) (kn' := (0, 0)) cv_X7_205 dX7_grant_138 rfl rfl (hc14 hnx) rfl rfl (Nat.le_of_ble_eq_true rfl) (rmR _ _ _) ⟨Nat.le_refl _, Nat.le_refl _⟩ rfl (c_X1_issue hnx hR (show 0 ≤ S 28 0 ∧ S 28 0 < 60 by omega) ⟨by omega, by omega, by omega, by omega, by unfold lastD; omega, by omega⟩ (fun r138 h138 hR => ?_))
    exact aw_ireturn dX7_grant_141 rfl rfl ⟨Nat.le_refl _, Nat.le_refl _⟩ (hQ _ h138 hR)
  · skip
    refine aw_if_eq (tgt := 36) dX7_grant_16 rfl (by decide) (fun _ => ?_) (fun c => absurd c (by decide))
    rw [grS, gr1, if_neg h13] at hQ
    refine aw_aload_n dX7_grant_36 rfl ?_
    refine aw_getf fg_X7_28 dX7_grant_37 (hc9 hnx) rfl ?_
    refine aw_iload_n dX7_grant_40 rfl ?_
    refine aw_iconst dX7_grant_41 ?_
    refine aw_iload_n dX7_grant_42 rfl ?_
    refine aw_ineg dX7_grant_43 ?_
    refine aw_callV (As := [_, _, _]) (ρ := (_, 0, 0)) (kn' := (0, 0)) cv_X7_115 dX7_grant_44 rfl rfl (hc25 hnx) rfl rfl (Nat.le_of_ble_eq_true rfl) (rmR _ _ _) ⟨Nat.le_refl _, Nat.le_refl _⟩ rfl (c_X3_add hnx hR (by omega) (by omega) (fun hR => ?_))
    refine aw_aload_n dX7_grant_47 rfl ?_
    refine aw_getf fg_X7_28 dX7_grant_48 (hc9 hnx) rfl ?_
    refine aw_getf fg_X7_135 dX7_grant_51 (hc25 hnx) rfl ?_
    refine aw_iload dX7_grant_54 rfl ?_
    refine aw_dup2_11 dX7_grant_56 rfl rfl ?_
    refine aw_ialdr dX7_grant_57 (hc30 hnx) (by omega) (by decide) (hR 18 (by decide)) (fun q57 => ?_)
    refine aw_sv (a := S 18 (4 * i + j)) (rfl) ?_
    refine aw_iload_n dX7_grant_58 rfl ?_
    refine aw_iadd dX7_grant_59 ?_
    refine aw_iastS dX7_grant_60 (hc30 hnx) (by omega) (by decide) hR (by omega) (fun _ => hu30) (fun hR => ?_)
    refine aw_aload_n dX7_grant_61 rfl ?_
    refine aw_getf fg_X7_28 dX7_grant_62 (hc9 hnx) rfl ?_
    refine aw_iload_n dX7_grant_65 rfl ?_
    refine aw_iconst dX7_grant_66 ?_
    refine aw_iload_n dX7_grant_67 rfl ?_
    refine aw_callV (As := [_, _, _]) (ρ := (_, 0, 0)) (kn' := (0, 0)) cv_X7_115 dX7_grant_68 rfl rfl (hc25 hnx) rfl rfl (Nat.le_of_ble_eq_true rfl) (rmR _ _ _) ⟨Nat.le_refl _, Nat.le_refl _⟩ rfl (c_X3_add hnx hR (by omega) (add_in (S0 := S) (by first | rfl | (show addS S j 3 (-n) 14 (j * 8 + 4) = _; rw [add_at, if_neg (by omega)])) (by omega)) (fun hR => ?_))
    refine aw_aload_n dX7_grant_71 rfl ?_
    refine aw_getf fg_X7_43 dX7_grant_72 (hc9 hnx) rfl ?_
    refine aw_iconst dX7_grant_75 ?_
    refine aw_dup2_11 dX7_grant_76 rfl rfl ?_
    refine aw_ialdr dX7_grant_77 (hc37 hnx) (by omega) (by decide) (hR 24 (by decide)) (fun q77 => ?_)
    refine aw_sv (a := S 24 0) (rfl) ?_
    refine aw_iload_n dX7_grant_78 rfl ?_
    refine aw_iadd dX7_grant_79 ?_
    refine aw_iastS dX7_grant_80 (hc37 hnx) (by omega) (by decide) hR (by omega) (fun _ => hu37) (fun hR => ?_)
    refine aw_aload_n dX7_grant_81 rfl ?_
    refine aw_getf fg_X7_66 dX7_grant_82 (hc9 hnx) rfl ?_
    refine aw_sv (a := S 25 0) (rfl) ?_
    refine aw_sipush dX7_grant_85 rfl ?_
    refine aw_idiv dX7_grant_88 (by omega) (by omega) ?_
    refine aw_sipush dX7_grant_89 rfl ?_
    refine aw_imul dX7_grant_92 ?_
    refine aw_sipush dX7_grant_93 rfl ?_
    refine aw_iadd dX7_grant_96 ?_
    refine aw_iconst dX7_grant_97 ?_
    refine aw_isub dX7_grant_98 ?_
    refine aw_nmI (fun x5_99 hx5_99 => ?_)
    refine aw_istore (ls' := [some (rf Γ 9), some _, some _, some _, some _, some _, none]) dX7_grant_99 (by decide) rfl ?_
    refine aw_aload_n dX7_grant_101 rfl ?_
    refine aw_getf fg_X7_66 dX7_grant_102 (hc9 hnx) rfl ?_
    refine aw_sv (a := S 25 0) (rfl) ?_
    refine aw_aload_n dX7_grant_105 rfl ?_
    refine aw_getf fg_X7_12 dX7_grant_106 (hc9 hnx) rfl ?_
    refine aw_getf fg_X7_132 dX7_grant_109 (hc10 hnx) rfl ?_
    refine aw_iconst dX7_grant_112 ?_
    refine aw_ialdr dX7_grant_113 (hc11 hnx) (by omega) (by decide) (hR 0 (by decide)) (fun q113 => ?_)
    refine aw_sv (a := S 0 2) (rfl) ?_
    refine aw_iadd dX7_grant_114 ?_
    refine aw_iconst dX7_grant_115 ?_
    refine aw_isub dX7_grant_116 ?_
    refine aw_iload dX7_grant_117 rfl ?_
    refine aw_mmin qm_X7_200 dX7_grant_119 (by omega) (rmN13 _ _ _ (Nat.le_of_ble_eq_true rfl)) ⟨Nat.le_refl _, Nat.le_refl _⟩ (fun r119 h119 => ?_)
    refine aw_istore (ls' := [some (rf Γ 9), some _, some _, some _, some _, some _, some _]) dX7_grant_122 (by decide) rfl ?_
    have eL : r119 = lastD S := by unfold lastD; omega
    subst eL
    refine aw_aload_n dX7_grant_124 rfl ?_
    refine aw_getf fg_X7_21 dX7_grant_125 (hc9 hnx) rfl ?_
    refine aw_iload_n dX7_grant_128 rfl ?_
    refine aw_iload_n dX7_grant_129 rfl ?_
    refine aw_iload_n dX7_grant_130 rfl ?_
    refine aw_aload_n dX7_grant_131 rfl ?_
    refine aw_getf fg_X7_66 dX7_grant_132 (hc9 hnx) rfl ?_
    refine aw_sv (a := S 25 0) (rfl) ?_
    refine aw_iload dX7_grant_135 rfl ?_
    refine aw_iconst dX7_grant_137 ?_
    refine aw_callV (As := [_, _, _, _, _, _]) (ρ := (_, 0, 0)) (kn' := (0, 0)) cv_X7_205 dX7_grant_138 rfl rfl (hc14 hnx) rfl rfl (Nat.le_of_ble_eq_true rfl) (rmR _ _ _) ⟨Nat.le_refl _, Nat.le_refl _⟩ rfl (c_X1_issue hnx hR (show 0 ≤ S 28 0 ∧ S 28 0 < 60 by omega) ⟨by omega, by omega, by omega, by omega, by unfold lastD; omega, by omega⟩ (fun r138 h138 hR => ?_))
    exact aw_ireturn dX7_grant_141 rfl rfl ⟨Nat.le_refl _, Nat.le_refl _⟩ (hQ _ h138 hR)

set_option maxHeartbeats 1000000 in
theorem c_X7_importBy {Γ : GT} {S T U V : St} {G : Gw} {nx d : Nat} {Q : QT} (hnx : 52 ≤ nx) {l n : Int} {c : Int} (hI : Inv c S) (hl : 0 ≤ l ∧ l < S 28 0) (ho : S 10 l = 0) (hn : 0 ≤ n ∧ n ≤ S 6 l - S 9 l) (hQ : Rg (useS S l n) → Q none (hp Γ (useS S l n) T U V G) nx) : AM Γ MX7_importBy (d + 3, 0, 0) [rf Γ 9, vi l, vi n] (hp Γ S T U V G) nx Q := by
  refine am_of (by decide) (Nat.le_of_ble_eq_true rfl) (ls := [some (rf Γ 9), some _, some _, none, none, none]) rfl ?_
  have hR := hI.R
  have i1 := hI.i1
  have hz : 0 ≤ S 28 0 ∧ S 28 0 ≤ 60 := i1.2.2.1
  have hkS : nS S = (S 28 0).toNat := rfl
  have hkI : nIm S = (S 27 0).toNat := rfl
  have hkO : nOr S = (S 26 0).toNat := rfl
  have li := hI.li hl
  have lo := hI.lio hl ho
  have am := hI.am hl
  have mn := mul_rg (a := n) (b := S 25 0 - S 7 l) (A := 5999940) (B := 89) (by omega) (by omega)
  have mm : n * (S 25 0 - S 7 l) ≤ n * 89 := Int.mul_le_mul_of_nonneg_left (by omega) (by omega)
  have fg := hI.fg li.2.1
  have y1 := (hI.yr (k := 4 * S 4 l + S 5 l) (by omega)).1 (by omega)
  have y2 := (hI.yr (k := S 4 l * 12 + S 25 0 % 360 / 30) (by omega)).2.1 (by omega)
  have y3 := (hI.yr (k := S 5 l * 12 + S 25 0 % 360 / 30) (by omega)).2.2 (by omega)
  have i9 := hI.i9.2.1
  have cc := hI.cc
  refine aw_aload_n dX7_importBy_0 rfl ?_
  refine aw_getf fg_X7_21 dX7_importBy_1 (hc9 hnx) rfl ?_
  refine aw_getf fg_X7_209 dX7_importBy_4 (hc14 hnx) rfl ?_
  refine aw_iload_n dX7_importBy_7 rfl ?_
  refine aw_ialdr dX7_importBy_8 (hc15 hnx) (by omega) (by decide) (hR 4 (by decide)) (fun q8 => ?_)
  refine aw_nmI (fun x3_9 hx3_9 => ?_)
  refine aw_istore_n (ls' := [some (rf Γ 9), some _, some _, some _, none, none]) dX7_importBy_9 (by decide) rfl ?_
  subst hx3_9
  refine aw_aload_n dX7_importBy_10 rfl ?_
  refine aw_getf fg_X7_21 dX7_importBy_11 (hc9 hnx) rfl ?_
  refine aw_getf fg_X7_212 dX7_importBy_14 (hc14 hnx) rfl ?_
  refine aw_iload_n dX7_importBy_17 rfl ?_
  refine aw_ialdr dX7_importBy_18 (hc16 hnx) (by omega) (by decide) (hR 5 (by decide)) (fun q18 => ?_)
  refine aw_nmI (fun x4_19 hx4_19 => ?_)
  refine aw_istore (ls' := [some (rf Γ 9), some _, some _, some _, some _, none]) dX7_importBy_19 (by decide) rfl ?_
  subst hx4_19
  refine aw_aload_n dX7_importBy_21 rfl ?_
  refine aw_getf fg_X7_66 dX7_importBy_22 (hc9 hnx) rfl ?_
  refine aw_sipush dX7_importBy_25 rfl ?_
  refine aw_irem dX7_importBy_28 (by omega) (by omega) ?_
  refine aw_bipush dX7_importBy_29 rfl ?_
  refine aw_idiv dX7_importBy_31 (by omega) (by omega) ?_
  refine aw_nmI (fun x5_32 hx5_32 => ?_)
  refine aw_istore (ls' := [some (rf Γ 9), some _, some _, some _, some _, some _]) dX7_importBy_32 (by decide) rfl ?_
  subst hx5_32
  refine aw_aload_n dX7_importBy_34 rfl ?_
  refine aw_getf fg_X7_21 dX7_importBy_35 (hc9 hnx) rfl ?_
  refine aw_getf fg_X7_215 dX7_importBy_38 (hc14 hnx) rfl ?_
  refine aw_iload_n dX7_importBy_41 rfl ?_
  refine aw_dup2_11 dX7_importBy_42 rfl rfl ?_
  refine aw_ialdr dX7_importBy_43 (hc20 hnx) (by omega) (by decide) (hR 9 (by decide)) (fun q43 => ?_)
  refine aw_iload_n dX7_importBy_44 rfl ?_
  refine aw_iadd dX7_importBy_45 ?_
  refine aw_iastS dX7_importBy_46 (hc20 hnx) (by omega) (by decide) hR (by omega) (fun _ => hu20) (fun hR => ?_)
  refine aw_aload_n dX7_importBy_47 rfl ?_
  refine aw_getf fg_X7_21 dX7_importBy_48 (hc9 hnx) rfl ?_
  refine aw_getf fg_X7_218 dX7_importBy_51 (hc14 hnx) rfl ?_
  refine aw_iload_n dX7_importBy_54 rfl ?_
  refine aw_dup2_11 dX7_importBy_55 rfl rfl ?_
  refine aw_ialdr dX7_importBy_56 (hc24 hnx) (by omega) (by decide) (hR 13 (by decide)) (fun q56 => ?_)
  refine aw_sv (a := S 13 l) (rfl) ?_
  refine aw_iload_n dX7_importBy_57 rfl ?_
  refine aw_aload_n dX7_importBy_58 rfl ?_
  refine aw_getf fg_X7_66 dX7_importBy_59 (hc9 hnx) rfl ?_
  refine aw_sv (a := S 25 0) (rfl) ?_
  refine aw_aload_n dX7_importBy_62 rfl ?_
  refine aw_getf fg_X7_21 dX7_importBy_63 (hc9 hnx) rfl ?_
  refine aw_getf fg_X7_189 dX7_importBy_66 (hc14 hnx) rfl ?_
  refine aw_iload_n dX7_importBy_69 rfl ?_
  refine aw_ialdr dX7_importBy_70 (hc18 hnx) (by omega) (by decide) (hR 7 (by decide)) (fun q70 => ?_)
  refine aw_sv (a := S 7 l) (rfl) ?_
  refine aw_isub dX7_importBy_71 ?_
  refine aw_imul dX7_importBy_72 ?_
  refine aw_iadd dX7_importBy_73 ?_
  refine aw_iastS dX7_importBy_74 (hc24 hnx) (by omega) (by decide) hR (by omega) (fun _ => hu24) (fun hR => ?_)
  refine aw_aload_n dX7_importBy_75 rfl ?_
  refine aw_getf fg_X7_21 dX7_importBy_76 (hc9 hnx) rfl ?_
  refine aw_iload_n dX7_importBy_79 rfl ?_
  refine aw_aload_n dX7_importBy_80 rfl ?_
  refine aw_getf fg_X7_66 dX7_importBy_81 (hc9 hnx) rfl ?_
  refine aw_sv (a := S 25 0) (rfl) ?_
  refine aw_callV (As := [_, _]) (ρ := (_, 0, 0)) (kn' := (0, 0)) cv_X7_221 dX7_importBy_84 rfl rfl (hc14 hnx) rfl rfl (Nat.le_of_ble_eq_true rfl) (rmR _ _ _) ⟨Nat.le_refl _, Nat.le_refl _⟩ rfl (c_X1_closeIfUsedUp hnx hR (by omega) (by omega) (show inI (rem (us1 S l n) l) by rw [rem, show us1 S l n 10 l = S 10 l from rfl, if_pos ho, show us1 S l n 6 l = S 6 l from rfl, show us1 S l n 9 l = S 9 l + n by simp [us1, u1_at]]; omega) (fun hR => ?_))
  refine aw_aload_n dX7_importBy_87 rfl ?_
  refine aw_getf fg_X7_35 dX7_importBy_88 (hc9 hnx) rfl ?_
  refine aw_getf fg_X7_161 dX7_importBy_91 (hc32 hnx) rfl ?_
  refine aw_iload_n dX7_importBy_94 rfl ?_
  refine aw_iload dX7_importBy_95 rfl ?_
  refine aw_callSN (As := [_, _]) (ρ := (_, 0, 0)) (kn' := (0, 0)) cs_X7_123 dX7_importBy_97 rfl rfl (Nat.le_of_ble_eq_true rfl) (rmR _ _ _) ⟨Nat.le_refl _, Nat.le_refl _⟩ rfl (c_X10_pairOf hnx  (fun r97 h97 => ?_))
  subst h97
  refine aw_dup2_11 dX7_importBy_100 rfl rfl ?_
  refine aw_ialdr dX7_importBy_101 (hc33 hnx) (by omega) (by decide) (hR 20 (by decide)) (fun q101 => ?_)
  refine aw_sv (a := S 20 (4 * S 4 l + S 5 l)) ((cu_at (us1 S l n) l (S 25 0) 20 _ (by decide) (by decide)).symm) ?_
  refine aw_iload_n dX7_importBy_102 rfl ?_
  refine aw_iadd dX7_importBy_103 ?_
  refine aw_iastS dX7_importBy_104 (hc33 hnx) (by omega) (by decide) hR (by omega) (fun _ => hu33) (fun hR => ?_)
  refine aw_aload_n dX7_importBy_105 rfl ?_
  refine aw_getf fg_X7_35 dX7_importBy_106 (hc9 hnx) rfl ?_
  refine aw_getf fg_X7_224 dX7_importBy_109 (hc32 hnx) rfl ?_
  refine aw_iload_n dX7_importBy_112 rfl ?_
  refine aw_bipush dX7_importBy_113 rfl ?_
  refine aw_imul dX7_importBy_115 ?_
  refine aw_iload dX7_importBy_116 rfl ?_
  refine aw_iadd dX7_importBy_118 ?_
  refine aw_dup2_11 dX7_importBy_119 rfl rfl ?_
  refine aw_ialdr dX7_importBy_120 (hc34 hnx) (by omega) (by decide) (hR 21 (by decide)) (fun q120 => ?_)
  refine aw_sv (a := S 21 (S 4 l * 12 + S 25 0 % 360 / 30)) ((cu_at (us1 S l n) l (S 25 0) 21 _ (by decide) (by decide)).symm) ?_
  refine aw_iload_n dX7_importBy_121 rfl ?_
  refine aw_iadd dX7_importBy_122 ?_
  refine aw_iastS dX7_importBy_123 (hc34 hnx) (by omega) (by decide) hR (by omega) (fun _ => hu34) (fun hR => ?_)
  refine aw_aload_n dX7_importBy_124 rfl ?_
  refine aw_getf fg_X7_35 dX7_importBy_125 (hc9 hnx) rfl ?_
  refine aw_getf fg_X7_227 dX7_importBy_128 (hc32 hnx) rfl ?_
  refine aw_iload dX7_importBy_131 rfl ?_
  refine aw_bipush dX7_importBy_133 rfl ?_
  refine aw_imul dX7_importBy_135 ?_
  refine aw_iload dX7_importBy_136 rfl ?_
  refine aw_iadd dX7_importBy_138 ?_
  refine aw_dup2_11 dX7_importBy_139 rfl rfl ?_
  refine aw_ialdr dX7_importBy_140 (hc35 hnx) (by omega) (by decide) (hR 22 (by decide)) (fun q140 => ?_)
  refine aw_sv (a := S 22 (S 5 l * 12 + S 25 0 % 360 / 30)) ((cu_at (us1 S l n) l (S 25 0) 22 _ (by decide) (by decide)).symm) ?_
  refine aw_iload_n dX7_importBy_141 rfl ?_
  refine aw_iadd dX7_importBy_142 ?_
  refine aw_iastS dX7_importBy_143 (hc35 hnx) (by omega) (by decide) hR (by omega) (fun _ => hu35) (fun hR => ?_)
  refine aw_aload_n dX7_importBy_144 rfl ?_
  refine aw_getf fg_X7_28 dX7_importBy_145 (hc9 hnx) rfl ?_
  refine aw_iload dX7_importBy_148 rfl ?_
  refine aw_iconst dX7_importBy_150 ?_
  refine aw_iload_n dX7_importBy_151 rfl ?_
  refine aw_callV (As := [_, _, _]) (ρ := (_, 0, 0)) (kn' := (0, 0)) cv_X7_115 dX7_importBy_152 rfl rfl (hc25 hnx) rfl rfl (Nat.le_of_ble_eq_true rfl) (rmR _ _ _) ⟨Nat.le_refl _, Nat.le_refl _⟩ rfl (c_X3_add hnx hR (by omega) (add_in (S0 := S) (cu_at (us1 S l n) l (S 25 0) 14 _ (by decide) (by decide)) (by omega)) (fun hR => ?_))
  refine aw_aload_n dX7_importBy_155 rfl ?_
  refine aw_getf fg_X7_43 dX7_importBy_156 (hc9 hnx) rfl ?_
  refine aw_iconst dX7_importBy_159 ?_
  refine aw_dup2_11 dX7_importBy_160 rfl rfl ?_
  refine aw_ialdr dX7_importBy_161 (hc37 hnx) (by omega) (by decide) (hR 24 (by decide)) (fun q161 => ?_)
  refine aw_sv (a := S 24 1) ((cu_at (us1 S l n) l (S 25 0) 24 _ (by decide) (by decide)).symm) ?_
  refine aw_iload_n dX7_importBy_162 rfl ?_
  refine aw_iadd dX7_importBy_163 ?_
  refine aw_iastS dX7_importBy_164 (hc37 hnx) (by omega) (by decide) hR (by omega) (fun _ => hu37) (fun hR => ?_)
  exact aw_return dX7_importBy_165 rfl ⟨Nat.le_refl _, Nat.le_refl _⟩ (hQ hR)

set_option maxHeartbeats 1000000 in
theorem c_X7_closeIntoPool {Γ : GT} {S T U V : St} {G : Gw} {nx d : Nat} {Q : QT} (hnx : 52 ≤ nx) {l h : Int} (hR : Rg S) (hl : 0 ≤ l ∧ l < 60) (hh : inI h) (h5 : 0 ≤ S 5 l ∧ S 5 l < 4) (h7 : 0 ≤ S 7 l) (h25 : 0 ≤ S 25 0) (hm : inI (rem S l)) (hb3 : inI (S 14 (S 5 l * 8 + 3) + rem S l)) (hb7 : inI (S 14 (S 5 l * 8 + 7) + rem S l)) (hQ : ∀ r, r = rem S l → Rg (cipS S l h) → Q (some (vi r)) (hp Γ (cipS S l h) T U V G) nx) : AM Γ MX7_closeIntoPool (d + 2, 0, 0) [rf Γ 9, vi l, vi h] (hp Γ S T U V G) nx Q := by
  refine am_of (by decide) (Nat.le_of_ble_eq_true rfl) (ls := [some (rf Γ 9), some _, some _, none, none]) rfl ?_
  have r25 := hR 25 (by decide) 0
  refine aw_aload_n dX7_closeIntoPool_0 rfl ?_
  refine aw_getf fg_X7_21 dX7_closeIntoPool_1 (hc9 hnx) rfl ?_
  refine aw_iload_n dX7_closeIntoPool_4 rfl ?_
  refine aw_callV (As := [_]) (ρ := (_, 0, 0)) (kn' := (0, 0)) cv_X7_232 dX7_closeIntoPool_5 rfl rfl (hc14 hnx) rfl rfl (Nat.le_of_ble_eq_true rfl) (rmR _ _ _) ⟨Nat.le_refl _, Nat.le_refl _⟩ rfl (c_X1_remains hnx hR (by omega) (fun r5 h5 => ?_))
  refine aw_istore_n (ls' := [some (rf Γ 9), some _, some _, some _, none]) dX7_closeIntoPool_8 (by decide) rfl ?_
  have h5r := ‹r5 = rem S l›
  subst h5r
  refine aw_aload_n dX7_closeIntoPool_9 rfl ?_
  refine aw_getf fg_X7_21 dX7_closeIntoPool_10 (hc9 hnx) rfl ?_
  refine aw_getf fg_X7_212 dX7_closeIntoPool_13 (hc14 hnx) rfl ?_
  refine aw_iload_n dX7_closeIntoPool_16 rfl ?_
  refine aw_ialdr dX7_closeIntoPool_17 (hc16 hnx) (by omega) (by decide) (hR 5 (by decide)) (fun q17 => ?_)
  refine aw_nmI (fun x4_18 hx4_18 => ?_)
  refine aw_istore (ls' := [some (rf Γ 9), some _, some _, some _, some _]) dX7_closeIntoPool_18 (by decide) rfl ?_
  subst hx4_18
  refine aw_aload_n dX7_closeIntoPool_20 rfl ?_
  refine aw_getf fg_X7_21 dX7_closeIntoPool_21 (hc9 hnx) rfl ?_
  refine aw_iload_n dX7_closeIntoPool_24 rfl ?_
  refine aw_iload_n dX7_closeIntoPool_25 rfl ?_
  refine aw_aload_n dX7_closeIntoPool_26 rfl ?_
  refine aw_getf fg_X7_66 dX7_closeIntoPool_27 (hc9 hnx) rfl ?_
  refine aw_callV (As := [_, _, _]) (ρ := (_, 0, 0)) (kn' := (0, 0)) cv_X7_235 dX7_closeIntoPool_30 rfl rfl (hc14 hnx) rfl rfl (Nat.le_of_ble_eq_true rfl) (rmR _ _ _) ⟨Nat.le_refl _, Nat.le_refl _⟩ rfl (c_X1_close hnx hR (by omega) (by omega) (fun hR => ?_))
  refine aw_aload_n dX7_closeIntoPool_33 rfl ?_
  refine aw_getf fg_X7_28 dX7_closeIntoPool_34 (hc9 hnx) rfl ?_
  refine aw_iload dX7_closeIntoPool_37 rfl ?_
  refine aw_iconst dX7_closeIntoPool_39 ?_
  refine aw_iload_n dX7_closeIntoPool_40 rfl ?_
  refine aw_callV (As := [_, _, _]) (ρ := (_, 0, 0)) (kn' := (0, 0)) cv_X7_115 dX7_closeIntoPool_41 rfl rfl (hc25 hnx) rfl rfl (Nat.le_of_ble_eq_true rfl) (rmR _ _ _) ⟨Nat.le_refl _, Nat.le_refl _⟩ rfl (c_X3_add hnx hR (by omega) (add_in (S0 := S) (close_at S l h (S 25 0) 14 _ (by decide) (by decide)) hb3) (fun hR => ?_))
  refine aw_aload_n dX7_closeIntoPool_44 rfl ?_
  refine aw_iload_n dX7_closeIntoPool_45 rfl ?_
  refine aw_callV (As := [_]) (ρ := (_, 0, 0)) (kn' := (0, 0)) cv_X7_238 dX7_closeIntoPool_46 rfl rfl (hc9 hnx) rfl rfl (Nat.le_of_ble_eq_true rfl) (rmR _ _ _) ⟨Nat.le_refl _, Nat.le_refl _⟩ rfl (c_X7_isOfThisPeriod hnx hR hl (show 0 ≤ S 7 l from h7) (show 0 ≤ S 25 0 from h25) (fun r46 h46 => ?_))
  rcases h46 with ⟨rfl, h46⟩ | ⟨rfl, h46⟩
  · skip
    first | change S 7 l / 90 = S 25 0 / 90 at h46 | change ¬ S 7 l / 90 = S 25 0 / 90 at h46
    refine aw_if_ne (tgt := 64) dX7_closeIntoPool_49 rfl (by decide) (fun _ => ?_) (fun c => absurd c (by decide))
    first | rw [cipS, if_pos h46] at hQ | rw [cipS, if_neg h46] at hQ
    refine aw_iload_n dX7_closeIntoPool_64 rfl ?_
    exact aw_ireturn dX7_closeIntoPool_65 rfl rfl ⟨Nat.le_refl _, Nat.le_refl _⟩ (hQ _ rfl hR)
  · skip
    first | change S 7 l / 90 = S 25 0 / 90 at h46 | change ¬ S 7 l / 90 = S 25 0 / 90 at h46
    refine aw_if_ne (tgt := 64) dX7_closeIntoPool_49 rfl (by decide) (fun c => absurd c (by decide)) (fun _ => ?_)
    refine aw_aload_n dX7_closeIntoPool_52 rfl ?_
    refine aw_getf fg_X7_28 dX7_closeIntoPool_53 (hc9 hnx) rfl ?_
    refine aw_iload dX7_closeIntoPool_56 rfl ?_
    refine aw_bipush dX7_closeIntoPool_58 rfl ?_
    refine aw_iload_n dX7_closeIntoPool_60 rfl ?_
    refine aw_callV (As := [_, _, _]) (ρ := (_, 0, 0)) (kn' := (0, 0)) cv_X7_115 dX7_closeIntoPool_61 rfl rfl (hc25 hnx) rfl rfl (Nat.le_of_ble_eq_true rfl) (rmR _ _ _) ⟨Nat.le_refl _, Nat.le_refl _⟩ rfl (c_X3_add hnx hR (by omega) (add_in (S0 := S) (show cip S l h 14 (S 5 l * 8 + 7) = _ by rw [cip, add_at, if_neg (by omega), close_at S l h (S 25 0) 14 _ (by decide) (by decide)]) hb7) (fun hR => ?_))
    first | rw [cipS, if_pos h46] at hQ | rw [cipS, if_neg h46] at hQ
    refine aw_iload_n dX7_closeIntoPool_64 rfl ?_
    exact aw_ireturn dX7_closeIntoPool_65 rfl rfl ⟨Nat.le_refl _, Nat.le_refl _⟩ (hQ _ rfl hR)


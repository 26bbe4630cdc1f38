/-! acts of the class -/
abbrev RW (U : St) (nx : Nat) : Prop := (0 ≤ U 16 0 ∧ U 16 0 < 10) ∧ (0 ≤ U 17 0 ∧ U 17 0 ≤ 10) ∧ ((U 3 (U 16 0) < 0 ∧ ∃ g : Nat, nx = g * 29 + 52) ∨ ∃ j : Nat, U 3 (U 16 0) = ((j * 29 + 52 : Nat) : Int) ∧ j * 29 + 81 ≤ nx)
def rUse (S : St) (l n : Int) : Int := if ¬ (isL S l ∧ isN n) then -1 else if ¬ S 10 l = 0 then -2 else if rem S l < n then -3 else 0
def rGive (S : St) (l : Int) : Int := if ¬ isL S l then -1 else if ¬ S 10 l = 0 then -2 else 0
def rHand (S : St) (l i n : Int) : Int := if ¬ (isL S l ∧ isI S i ∧ isN n ∧ ¬ S 4 l = i) then -1 else if 60 ≤ S 28 0 then -2 else if ¬ S 10 l = 0 then -3 else if rem S l < n then -4 else 0
def rMerge (S : St) (l j : Int) : Int := if ¬ (isL S l ∧ isL S j ∧ ¬ l = j) then -1 else if ¬ (S 10 l = 0 ∧ S 10 j = 0) then -2 else if ¬ (S 4 l = S 4 j ∧ S 5 l = S 5 j ∧ S 7 l = S 7 j ∧ S 8 l = S 8 j) then -3 else 0
def rLend (S : St) (i m o n : Int) : Int := if ¬ ((isI S i ∧ isO S o) ∧ isI S m ∧ isN n ∧ ¬ i = m) then -1 else if ¬ (S 15 (4 * i + o) = 1 ∧ S 15 (4 * m + o) = 1) then -2 else if S 17 (4 * i + o) < n then -3 else 0
def rDays (S : St) (n : Int) : Int := if ¬ (0 < S 26 0 ∧ 1 ≤ n ∧ n ≤ 90) then -1 else if 3600 < S 25 0 + n then -2 else 0
def rWiden (S : St) (o q : Int) : Int := if ¬ (isO S o ∧ 0 ≤ q ∧ q ≤ 99999) then -1 else if S 1 o = q then -2 else 0
def tL (w : Int) : Int := ([0, 1, 1, 0, 0, 1] : List Int).getD w.toNat 0
def tM (w : Int) : Int := ([100, 99999, 90, 100, 2000, 3] : List Int).getD w.toNat 0
theorem tLM_in {w : Int} (h : 0 ≤ w ∧ w ≤ 5) : (0 ≤ tL w ∧ tL w ≤ 1) ∧ 3 ≤ tM w ∧ tM w ≤ 99999 := by
  rcases (show w = 0 ∨ w = 1 ∨ w = 2 ∨ w = 3 ∨ w = 4 ∨ w = 5 by omega) with rfl | rfl | rfl | rfl | rfl | rfl <;> decide
def rSet (S : St) (w n : Int) : Int := if ¬ (0 < S 26 0 ∧ (0 ≤ w ∧ w ≤ 5) ∧ tL w ≤ n ∧ n ≤ tM w) then -1 else if S 0 w = n then -2 else 0
def lendS (S : St) (f t n : Int) : St := u1 (u1 S 17 f (S 17 f - n)) 17 t (S 17 t + n)
def daysS (S : St) : Nat → St
  | 0 => S
  | k + 1 => dayS (daysS S k)
def daysN (S : St) : Nat → Int
  | 0 => 0
  | k + 1 => daysN S k + lapN (daysS S k)
theorem dyB_f (S : St) (f : Nat) (h1 : f ≠ 2) (h2 : f ≠ 20) (h3 : f ≠ 21) (h4 : f ≠ 22) (h5 : f ≠ 10) (h6 : f ≠ 11) (h7 : f ≠ 14) (h8 : f ≠ 24) (h9 : f ≠ 25) : dyB S f = S f := by
  rw [dyB_ne S h1 h2 h3 h4]
  funext j
  show u0 (lapA S (nS S)) 25 _ f j = _
  rw [u0_at, if_neg h9, lap_ne S h5 h6 h7 h8]

set_option maxHeartbeats 1000000 in
theorem c_X10_use {Γ : GT} {S T U V : St} {G : Gw} {nx d : Nat} {Q : QT} (hnx : 52 ≤ nx) {l n : Int} {c : Int} (hI : Inv c S) (hl : inI l) (hn : inI n) (hW : RW U nx) (hN : ∀ r, r = rUse S l n → r ≠ 0 → Q (some (vi r)) (hp Γ S T U V G) nx) (hQ : rUse S l n = 0 → ∀ U2 G2 nx2, 52 ≤ nx2 → Rem U U2 G G2 S nx nx2 → Rg (useS S l n) → Q (some (vi (rem (useS S l n) l))) (hp Γ (useS S l n) T U2 V G2) nx2) : AM Γ MX10_use (d + 5, 29, 1248) [rf Γ 0, vi l, vi n] (hp Γ S T U V G) nx Q := by
  refine am_of (by decide) (Nat.le_of_ble_eq_true rfl) (ls := [some (rf Γ 0), some _, some _]) rfl ?_
  have hR := hI.R
  have i1 := hI.i1
  have hz : 0 ≤ S 28 0 ∧ S 28 0 ≤ 60 := i1.2.2.1
  have hkS : nS S = (S 28 0).toNat := rfl
  have hkI : nIm S = (S 27 0).toNat := rfl
  have hkO : nOr S = (S 26 0).toNat := rfl
  refine aw_aload_n dX10_use_0 rfl ?_
  refine aw_getf fg_X10_26 dX10_use_1 (hc0 hnx) rfl ?_
  refine aw_getf fg_X10_106 dX10_use_4 (hc9 hnx) rfl ?_
  refine aw_iload_n dX10_use_7 rfl ?_
  refine aw_callV (As := [_]) (ρ := (_, 0, 0)) (kn' := (0, 0)) cv_X10_110 dX10_use_8 rfl rfl (hc14 hnx) rfl rfl (Nat.le_of_ble_eq_true rfl) (rmR _ _ _) ⟨Nat.le_of_ble_eq_true rfl, Nat.le_of_ble_eq_true rfl⟩ rfl (c_X1_has hnx hR (by omega) (fun r8 h8 => ?_))
  rcases h8 with ⟨rfl, h8⟩ | ⟨rfl, h8⟩
  · skip
    refine aw_if_eq (tgt := 21) dX10_use_11 rfl (by decide) (fun c => absurd c (by decide)) (fun _ => ?_)
    refine aw_iload_n dX10_use_14 rfl ?_
    refine aw_callS (As := [_]) (ρ := (_, 0, 0)) (kn' := (0, 0)) cs_X10_91 dX10_use_15 rfl rfl (Nat.le_of_ble_eq_true rfl) (rmR _ _ _) ⟨Nat.le_of_ble_eq_true rfl, Nat.le_of_ble_eq_true rfl⟩ rfl (c_X10_isAmount hnx (by omega) (fun r15 h15 => ?_))
    rcases h15 with ⟨rfl, h15⟩ | ⟨rfl, h15⟩
    · skip
      refine aw_if_ne (tgt := 23) dX10_use_18 rfl (by decide) (fun _ => ?_) (fun c => absurd c (by decide))
      refine aw_aload_n dX10_use_23 rfl ?_
      refine aw_getf fg_X10_26 dX10_use_24 (hc0 hnx) rfl ?_
      refine aw_getf fg_X10_106 dX10_use_27 (hc9 hnx) rfl ?_
      refine aw_iload_n dX10_use_30 rfl ?_
      refine aw_callV (As := [_]) (ρ := (_, 0, 0)) (kn' := (0, 0)) cv_X10_115 dX10_use_31 rfl rfl (hc14 hnx) rfl rfl (Nat.le_of_ble_eq_true rfl) (rmR _ _ _) ⟨Nat.le_of_ble_eq_true rfl, Nat.le_of_ble_eq_true rfl⟩ rfl (c_X1_isOpen hnx hR (by omega) (fun r31 h31 => ?_))
      rcases h31 with ⟨rfl, h31⟩ | ⟨rfl, h31⟩
      · skip
        refine aw_if_ne (tgt := 40) dX10_use_34 rfl (by decide) (fun _ => ?_) (fun c => absurd c (by decide))
        refine aw_aload_n dX10_use_40 rfl ?_
        refine aw_getf fg_X10_26 dX10_use_41 (hc0 hnx) rfl ?_
        refine aw_getf fg_X10_106 dX10_use_44 (hc9 hnx) rfl ?_
        refine aw_iload_n dX10_use_47 rfl ?_
        refine aw_callV (As := [_]) (ρ := (_, 0, 0)) (kn' := (0, 0)) cv_X10_118 dX10_use_48 rfl rfl (hc14 hnx) rfl rfl (Nat.le_of_ble_eq_true rfl) (rmR _ _ _) ⟨Nat.le_of_ble_eq_true rfl, Nat.le_of_ble_eq_true rfl⟩ rfl (c_X1_remains hnx hR (by omega) (fun r48 h48 => ?_))
        have rm := hI.rem (l := l) (by omega)
        have am := hI.am (l := l) (by omega)
        refine aw_iload_n dX10_use_51 rfl ?_
        refine aw_icmp_ge (tgt := 58) dX10_use_52 rfl (by omega) (fun c52 => ?_) (fun c52 => ?_)
        · skip
          have acc : rUse S l n = 0 := by simp only [rUse, isL, isI, isO, isN]; (repeat' split) <;> omega
          refine aw_aload_n dX10_use_58 rfl ?_
          refine aw_getf fg_X10_33 dX10_use_59 (hc0 hnx) rfl ?_
          refine aw_aload_n dX10_use_62 rfl ?_
          refine aw_getf fg_X10_26 dX10_use_63 (hc0 hnx) rfl ?_
          refine aw_callV (As := [_]) (ρ := (_, 29, 1248)) (kn' := (29, 1248)) cv_X10_99 dX10_use_66 rfl rfl (hc38 hnx) rfl rfl (Nat.le_of_ble_eq_true rfl) (rmR _ _ _) ⟨Nat.le_of_ble_eq_true rfl, Nat.le_of_ble_eq_true rfl⟩ rfl (c_X0_remember hnx hz hW.1 hW.2.1 hW.2.2 (fun U2 G2 nx2 hnx hRem => ?_))
          have ro : rem S l = S 6 l - S 9 l := by unfold rem; rw [if_pos h31]
          refine aw_aload_n dX10_use_69 rfl ?_
          refine aw_getf fg_X10_26 dX10_use_70 (hc0 hnx) rfl ?_
          refine aw_iload_n dX10_use_73 rfl ?_
          refine aw_iload_n dX10_use_74 rfl ?_
          refine aw_callV (As := [_, _]) (ρ := (_, 0, 0)) (kn' := (29, 1248)) cv_X10_121 dX10_use_75 rfl rfl (hc9 hnx) rfl rfl (Nat.le_of_ble_eq_true rfl) (rmR _ _ _) ⟨Nat.le_of_ble_eq_true rfl, Nat.le_of_ble_eq_true rfl⟩ rfl (c_X7_importBy hnx hI (by omega) h31 (by omega) (fun hR => ?_))
          refine aw_aload_n dX10_use_78 rfl ?_
          refine aw_getf fg_X10_26 dX10_use_79 (hc0 hnx) rfl ?_
          refine aw_getf fg_X10_106 dX10_use_82 (hc9 hnx) rfl ?_
          refine aw_iload_n dX10_use_85 rfl ?_
          refine aw_callV (As := [_]) (ρ := (_, 0, 0)) (kn' := (29, 1248)) cv_X10_118 dX10_use_86 rfl rfl (hc14 hnx) rfl rfl (Nat.le_of_ble_eq_true rfl) (rmR _ _ _) ⟨Nat.le_of_ble_eq_true rfl, Nat.le_of_ble_eq_true rfl⟩ rfl (c_X1_remains hnx hR (by omega) (fun r86 h86 => ?_))
          subst h86
          exact aw_ireturn dX10_use_89 rfl rfl ⟨Nat.le_of_ble_eq_true rfl, Nat.le_of_ble_eq_true rfl⟩ (hQ acc _ _ _ hnx hRem hR)
        · skip
          refine aw_bipush dX10_use_55 rfl ?_
          exact aw_ireturn dX10_use_57 rfl rfl ⟨Nat.le_of_ble_eq_true rfl, Nat.le_of_ble_eq_true rfl⟩ (hN _ (by simp only [rUse, isL, isI, isO, isN]; (repeat' split) <;> omega) (by omega))
      · skip
        refine aw_if_ne (tgt := 40) dX10_use_34 rfl (by decide) (fun c => absurd c (by decide)) (fun _ => ?_)
        refine aw_bipush dX10_use_37 rfl ?_
        exact aw_ireturn dX10_use_39 rfl rfl ⟨Nat.le_of_ble_eq_true rfl, Nat.le_of_ble_eq_true rfl⟩ (hN _ (by simp only [rUse, isL, isI, isO, isN]; (repeat' split) <;> omega) (by omega))
    · skip
      refine aw_if_ne (tgt := 23) dX10_use_18 rfl (by decide) (fun c => absurd c (by decide)) (fun _ => ?_)
      refine aw_iconst dX10_use_21 ?_
      exact aw_ireturn dX10_use_22 rfl rfl ⟨Nat.le_of_ble_eq_true rfl, Nat.le_of_ble_eq_true rfl⟩ (hN _ (by simp only [rUse, isL, isI, isO, isN]; (repeat' split) <;> omega) (by omega))
  · skip
    refine aw_if_eq (tgt := 21) dX10_use_11 rfl (by decide) (fun _ => ?_) (fun c => absurd c (by decide))
    refine aw_iconst dX10_use_21 ?_
    exact aw_ireturn dX10_use_22 rfl rfl ⟨Nat.le_of_ble_eq_true rfl, Nat.le_of_ble_eq_true rfl⟩ (hN _ (by simp only [rUse, isL, isI, isO, isN]; (repeat' split) <;> omega) (by omega))

set_option maxHeartbeats 1000000 in
theorem c_X10_giveBack {Γ : GT} {S T U V : St} {G : Gw} {nx d : Nat} {Q : QT} (hnx : 52 ≤ nx) {l : Int} {c : Int} (hI : Inv c S) (hl : inI l) (hW : RW U nx) (hN : ∀ r, r = rGive S l → r ≠ 0 → Q (some (vi r)) (hp Γ S T U V G) nx) (hQ : rGive S l = 0 → ∀ U2 G2 nx2, 52 ≤ nx2 → Rem U U2 G G2 S nx nx2 → Rg (giveS S l 2) → Q (some (vi (rem S l))) (hp Γ (giveS S l 2) T U2 V G2) nx2) : AM Γ MX10_giveBack (d + 5, 29, 1248) [rf Γ 0, vi l] (hp Γ S T U V G) nx Q := by
  refine am_of (by decide) (Nat.le_of_ble_eq_true rfl) (ls := [some (rf Γ 0), some _, none]) rfl ?_
  have hR := hI.R
  have i1 := hI.i1
  have hz : 0 ≤ S 28 0 ∧ S 28 0 ≤ 60 := i1.2.2.1
  have hkS : nS S = (S 28 0).toNat := rfl
  have hkI : nIm S = (S 27 0).toNat := rfl
  have hkO : nOr S = (S 26 0).toNat := rfl
  refine aw_aload_n dX10_giveBack_0 rfl ?_
  refine aw_getf fg_X10_26 dX10_giveBack_1 (hc0 hnx) rfl ?_
  refine aw_getf fg_X10_106 dX10_giveBack_4 (hc9 hnx) rfl ?_
  refine aw_iload_n dX10_giveBack_7 rfl ?_
  refine aw_callV (As := [_]) (ρ := (_, 0, 0)) (kn' := (0, 0)) cv_X10_110 dX10_giveBack_8 rfl rfl (hc14 hnx) rfl rfl (Nat.le_of_ble_eq_true rfl) (rmR _ _ _) ⟨Nat.le_of_ble_eq_true rfl, Nat.le_of_ble_eq_true rfl⟩ rfl (c_X1_has hnx hR (by omega) (fun r8 h8 => ?_))
  rcases h8 with ⟨rfl, h8⟩ | ⟨rfl, h8⟩
  · skip
    refine aw_if_ne (tgt := 16) dX10_giveBack_11 rfl (by decide) (fun _ => ?_) (fun c => absurd c (by decide))
    refine aw_aload_n dX10_giveBack_16 rfl ?_
    refine aw_getf fg_X10_26 dX10_giveBack_17 (hc0 hnx) rfl ?_
    refine aw_getf fg_X10_106 dX10_giveBack_20 (hc9 hnx) rfl ?_
    refine aw_iload_n dX10_giveBack_23 rfl ?_
    refine aw_callV (As := [_]) (ρ := (_, 0, 0)) (kn' := (0, 0)) cv_X10_115 dX10_giveBack_24 rfl rfl (hc14 hnx) rfl rfl (Nat.le_of_ble_eq_true rfl) (rmR _ _ _) ⟨Nat.le_of_ble_eq_true rfl, Nat.le_of_ble_eq_true rfl⟩ rfl (c_X1_isOpen hnx hR (by omega) (fun r24 h24 => ?_))
    rcases h24 with ⟨rfl, h24⟩ | ⟨rfl, h24⟩
    · skip
      refine aw_if_ne (tgt := 33) dX10_giveBack_27 rfl (by decide) (fun _ => ?_) (fun c => absurd c (by decide))
      have acc : rGive S l = 0 := by simp only [rGive, isL, isI, isO, isN]; (repeat' split) <;> omega
      refine aw_aload_n dX10_giveBack_33 rfl ?_
      refine aw_getf fg_X10_33 dX10_giveBack_34 (hc0 hnx) rfl ?_
      refine aw_aload_n dX10_giveBack_37 rfl ?_
      refine aw_getf fg_X10_26 dX10_giveBack_38 (hc0 hnx) rfl ?_
      refine aw_callV (As := [_]) (ρ := (_, 29, 1248)) (kn' := (29, 1248)) cv_X10_99 dX10_giveBack_41 rfl rfl (hc38 hnx) rfl rfl (Nat.le_of_ble_eq_true rfl) (rmR _ _ _) ⟨Nat.le_of_ble_eq_true rfl, Nat.le_of_ble_eq_true rfl⟩ rfl (c_X0_remember hnx hz hW.1 hW.2.1 hW.2.2 (fun U2 G2 nx2 hnx hRem => ?_))
      have li := hI.li (l := l) (by omega)
      have fg := hI.fg li.2.1
      have rm := hI.rem (l := l) (by omega)
      have rm1 := hI.rem1 (l := l) (by omega)
      have rs := hI.rems
      have am := hI.am (l := l) (by omega)
      have lf := hI.lfs li.2.1 (nIm S) (Nat.le_refl _)
      have i9 := hI.i9
      unfold inv9 at i9
      have r24 := hR 24 (by decide) 2
      refine aw_aload_n dX10_giveBack_44 rfl ?_
      refine aw_getf fg_X10_26 dX10_giveBack_45 (hc0 hnx) rfl ?_
      refine aw_iload_n dX10_giveBack_48 rfl ?_
      refine aw_iconst dX10_giveBack_49 ?_
      refine aw_callV (As := [_, _]) (ρ := (_, 0, 0)) (kn' := (29, 1248)) cv_X10_125 dX10_giveBack_50 rfl rfl (hc9 hnx) rfl rfl (Nat.le_of_ble_eq_true rfl) (rmR _ _ _) ⟨Nat.le_of_ble_eq_true rfl, Nat.le_of_ble_eq_true rfl⟩ rfl (c_X7_closeIntoPool hnx hR (by omega) (by omega) (by omega) (by omega) (by omega) (by omega) (by omega) (by omega) (fun r50 h50 hR => ?_))
      subst h50
      refine aw_istore_n (ls' := [some (rf Γ 0), some _, some _]) dX10_giveBack_53 (by decide) rfl ?_
      refine aw_aload_n dX10_giveBack_54 rfl ?_
      refine aw_getf fg_X10_26 dX10_giveBack_55 (hc0 hnx) rfl ?_
      refine aw_getf fg_X10_129 dX10_giveBack_58 (hc9 hnx) rfl ?_
      refine aw_iconst dX10_giveBack_61 ?_
      refine aw_dup2_11 dX10_giveBack_62 rfl rfl ?_
      refine aw_ialdr dX10_giveBack_63 (hc37 hnx) (by omega) (by decide) (hR 24 (by decide)) (fun q63 => ?_)
      refine aw_sv (a := S 24 2) ((by rw [cip_at]; simp)) ?_
      refine aw_iload_n dX10_giveBack_64 rfl ?_
      refine aw_iadd dX10_giveBack_65 ?_
      refine aw_iastS dX10_giveBack_66 (hc37 hnx) (by omega) (by decide) hR (by omega) (fun _ => hu37) (fun hR => ?_)
      refine aw_iload_n dX10_giveBack_67 rfl ?_
      exact aw_ireturn dX10_giveBack_68 rfl rfl ⟨Nat.le_of_ble_eq_true rfl, Nat.le_of_ble_eq_true rfl⟩ (hQ acc _ _ _ hnx hRem hR)
    · skip
      refine aw_if_ne (tgt := 33) dX10_giveBack_27 rfl (by decide) (fun c => absurd c (by decide)) (fun _ => ?_)
      refine aw_bipush dX10_giveBack_30 rfl ?_
      exact aw_ireturn dX10_giveBack_32 rfl rfl ⟨Nat.le_of_ble_eq_true rfl, Nat.le_of_ble_eq_true rfl⟩ (hN _ (by simp only [rGive, isL, isI, isO, isN]; (repeat' split) <;> omega) (by omega))
  · skip
    refine aw_if_ne (tgt := 16) dX10_giveBack_11 rfl (by decide) (fun c => absurd c (by decide)) (fun _ => ?_)
    refine aw_iconst dX10_giveBack_14 ?_
    exact aw_ireturn dX10_giveBack_15 rfl rfl ⟨Nat.le_of_ble_eq_true rfl, Nat.le_of_ble_eq_true rfl⟩ (hN _ (by simp only [rGive, isL, isI, isO, isN]; (repeat' split) <;> omega) (by omega))

set_option maxHeartbeats 1000000 in
theorem c_X10_widen {Γ : GT} {S T U V : St} {G : Gw} {nx d : Nat} {Q : QT} (hnx : 52 ≤ nx) {j q : Int} {c : Int} (hI : Inv c S) (hj : inI j) (hq : inI q) (hW : RW U nx) (hN : ∀ r, r = rWiden S j q → r ≠ 0 → Q (some (vi r)) (hp Γ S T U V G) nx) (hQ : rWiden S j q = 0 → ∀ U2 G2 nx2, 52 ≤ nx2 → Rem U U2 G G2 S nx nx2 → Rg (u1 S 1 j q) → Q (some (vi (S 1 j))) (hp Γ (u1 S 1 j q) T U2 V G2) nx2) : AM Γ MX10_widen (d + 5, 29, 1248) [rf Γ 0, vi j, vi q] (hp Γ S T U V G) nx Q := by
  refine am_of (by decide) (Nat.le_of_ble_eq_true rfl) (ls := [some (rf Γ 0), some _, some _, none]) rfl ?_
  have hR := hI.R
  have i1 := hI.i1
  have hz : 0 ≤ S 28 0 ∧ S 28 0 ≤ 60 := i1.2.2.1
  have hkS : nS S = (S 28 0).toNat := rfl
  have hkI : nIm S = (S 27 0).toNat := rfl
  have hkO : nOr S = (S 26 0).toNat := rfl
  refine aw_aload_n dX10_widen_0 rfl ?_
  refine aw_getf fg_X10_26 dX10_widen_1 (hc0 hnx) rfl ?_
  refine aw_iload_n dX10_widen_4 rfl ?_
  refine aw_callV (As := [_]) (ρ := (_, 0, 0)) (kn' := (0, 0)) cv_X10_191 dX10_widen_5 rfl rfl (hc9 hnx) rfl rfl (Nat.le_of_ble_eq_true rfl) (rmR _ _ _) ⟨Nat.le_of_ble_eq_true rfl, Nat.le_of_ble_eq_true rfl⟩ rfl (c_X7_hasOrigin hnx hR (by omega) (fun r5 h5 => ?_))
  rcases h5 with ⟨rfl, h5⟩ | ⟨rfl, h5⟩
  · skip
    refine aw_if_eq (tgt := 21) dX10_widen_8 rfl (by decide) (fun c => absurd c (by decide)) (fun _ => ?_)
    refine aw_iload_n dX10_widen_11 rfl ?_
    refine aw_if_lt (tgt := 21) dX10_widen_12 rfl (by omega) (fun c12 => ?_) (fun c12 => ?_)
    · skip
      refine aw_iconst dX10_widen_21 ?_
      exact aw_ireturn dX10_widen_22 rfl rfl ⟨Nat.le_of_ble_eq_true rfl, Nat.le_of_ble_eq_true rfl⟩ (hN _ (by simp only [rWiden, isL, isI, isO, isN]; (repeat' split) <;> omega) (by omega))
    · skip
      refine aw_iload_n dX10_widen_15 rfl ?_
      refine aw_ldc dX10_widen_16 qk_X10_194 ?_
      refine aw_st (st' := vi 99999 :: _) rfl ?_
      refine aw_icmp_le (tgt := 23) dX10_widen_18 rfl (by omega) (fun c18 => ?_) (fun c18 => ?_)
      · skip
        refine aw_aload_n dX10_widen_23 rfl ?_
        refine aw_getf fg_X10_26 dX10_widen_24 (hc0 hnx) rfl ?_
        refine aw_getf fg_X10_81 dX10_widen_27 (hc9 hnx) rfl ?_
        refine aw_getf fg_X10_195 dX10_widen_30 (hc10 hnx) rfl ?_
        refine aw_iload_n dX10_widen_33 rfl ?_
        refine aw_ialdr dX10_widen_34 (hc12 hnx) (by omega) (by decide) (hR 1 (by decide)) (fun q34 => ?_)
        refine aw_nmI (fun x3_35 hx3_35 => ?_)
        refine aw_istore_n (ls' := [some (rf Γ 0), some _, some _, some _]) dX10_widen_35 (by decide) rfl ?_
        subst hx3_35
        refine aw_iload_n dX10_widen_36 rfl ?_
        refine aw_iload_n dX10_widen_37 rfl ?_
        refine aw_icmp_ne (tgt := 44) dX10_widen_38 rfl (by omega) (fun c38 => ?_) (fun c38 => ?_)
        · skip
          have acc : rWiden S j q = 0 := by simp only [rWiden, isL, isI, isO, isN]; (repeat' split) <;> omega
          refine aw_aload_n dX10_widen_44 rfl ?_
          refine aw_getf fg_X10_33 dX10_widen_45 (hc0 hnx) rfl ?_
          refine aw_aload_n dX10_widen_48 rfl ?_
          refine aw_getf fg_X10_26 dX10_widen_49 (hc0 hnx) rfl ?_
          refine aw_callV (As := [_]) (ρ := (_, 29, 1248)) (kn' := (29, 1248)) cv_X10_99 dX10_widen_52 rfl rfl (hc38 hnx) rfl rfl (Nat.le_of_ble_eq_true rfl) (rmR _ _ _) ⟨Nat.le_of_ble_eq_true rfl, Nat.le_of_ble_eq_true rfl⟩ rfl (c_X0_remember hnx hz hW.1 hW.2.1 hW.2.2 (fun U2 G2 nx2 hnx hRem => ?_))
          refine aw_aload_n dX10_widen_55 rfl ?_
          refine aw_getf fg_X10_26 dX10_widen_56 (hc0 hnx) rfl ?_
          refine aw_getf fg_X10_81 dX10_widen_59 (hc9 hnx) rfl ?_
          refine aw_getf fg_X10_195 dX10_widen_62 (hc10 hnx) rfl ?_
          refine aw_iload_n dX10_widen_65 rfl ?_
          refine aw_iload_n dX10_widen_66 rfl ?_
          refine aw_iastS dX10_widen_67 (hc12 hnx) (by omega) (by decide) hR (by omega) (fun _ => hu12) (fun hR => ?_)
          refine aw_iload_n dX10_widen_68 rfl ?_
          exact aw_ireturn dX10_widen_69 rfl rfl ⟨Nat.le_of_ble_eq_true rfl, Nat.le_of_ble_eq_true rfl⟩ (hQ acc _ _ _ hnx hRem hR)
        · skip
          refine aw_bipush dX10_widen_41 rfl ?_
          exact aw_ireturn dX10_widen_43 rfl rfl ⟨Nat.le_of_ble_eq_true rfl, Nat.le_of_ble_eq_true rfl⟩ (hN _ (by simp only [rWiden, isL, isI, isO, isN]; (repeat' split) <;> omega) (by omega))
      · skip
        refine aw_iconst dX10_widen_21 ?_
        exact aw_ireturn dX10_widen_22 rfl rfl ⟨Nat.le_of_ble_eq_true rfl, Nat.le_of_ble_eq_true rfl⟩ (hN _ (by simp only [rWiden, isL, isI, isO, isN]; (repeat' split) <;> omega) (by omega))
  · skip
    refine aw_if_eq (tgt := 21) dX10_widen_8 rfl (by decide) (fun _ => ?_) (fun c => absurd c (by decide))
    refine aw_iconst dX10_widen_21 ?_
    exact aw_ireturn dX10_widen_22 rfl rfl ⟨Nat.le_of_ble_eq_true rfl, Nat.le_of_ble_eq_true rfl⟩ (hN _ (by simp only [rWiden, isL, isI, isO, isN]; (repeat' split) <;> omega) (by omega))

set_option maxHeartbeats 1000000 in
theorem c_X10_set {Γ : GT} {S T U V : St} {G : Gw} {nx d : Nat} {Q : QT} (hnx : 52 ≤ nx) {w n : Int} {c : Int} (hI : Inv c S) (hw : inI w) (hn : inI n) (hW : RW U nx) (hN : ∀ r, r = rSet S w n → r ≠ 0 → Q (some (vi r)) (hp Γ S T U V G) nx) (hQ : rSet S w n = 0 → ∀ U2 G2 nx2, 52 ≤ nx2 → Rem U U2 G G2 S nx nx2 → Rg (u1 S 0 w n) → Q (some (vi (S 0 w))) (hp Γ (u1 S 0 w n) T U2 V G2) nx2) : AM Γ MX10_set (d + 5, 29, 1248) [rf Γ 0, vi w, vi n] (hp Γ S T U V G) nx Q := by
  refine am_of (by decide) (Nat.le_of_ble_eq_true rfl) (ls := [some (rf Γ 0), some _, some _, none]) rfl ?_
  have hR := hI.R
  have i1 := hI.i1
  have hz : 0 ≤ S 28 0 ∧ S 28 0 ≤ 60 := i1.2.2.1
  have hkS : nS S = (S 28 0).toNat := rfl
  have hkI : nIm S = (S 27 0).toNat := rfl
  have hkO : nOr S = (S 26 0).toNat := rfl
  refine aw_aload_n dX10_set_0 rfl ?_
  refine aw_getf fg_X10_26 dX10_set_1 (hc0 hnx) rfl ?_
  refine aw_callV (As := []) (ρ := (_, 0, 0)) (kn' := (0, 0)) cv_X10_181 dX10_set_4 rfl rfl (hc9 hnx) rfl rfl (Nat.le_of_ble_eq_true rfl) (rmR _ _ _) ⟨Nat.le_of_ble_eq_true rfl, Nat.le_of_ble_eq_true rfl⟩ rfl (c_X7_hasScheme hnx hR (fun r4 h4 => ?_))
  rcases h4 with ⟨rfl, h4⟩ | ⟨rfl, h4⟩
  · skip
    refine aw_if_eq (tgt := 35) dX10_set_7 rfl (by decide) (fun c => absurd c (by decide)) (fun _ => ?_)
    refine aw_iload_n dX10_set_10 rfl ?_
    refine aw_callS (As := [_]) (ρ := (_, 0, 0)) (kn' := (0, 0)) cs_X10_198 dX10_set_11 rfl rfl (Nat.le_of_ble_eq_true rfl) (rmR _ _ _) ⟨Nat.le_of_ble_eq_true rfl, Nat.le_of_ble_eq_true rfl⟩ rfl (c_X10_isTold hnx (by omega) (fun r11 h11 => ?_))
    rcases h11 with ⟨rfl, h11⟩ | ⟨rfl, h11⟩
    · skip
      refine aw_if_eq (tgt := 35) dX10_set_14 rfl (by decide) (fun c => absurd c (by decide)) (fun _ => ?_)
      have tl := tLM_in (w := w) (by omega)
      refine aw_iload_n dX10_set_17 rfl ?_
      refine aw_sT (i := 0) gz0 (Or.inl qf_X10_201) dX10_set_18 ?_
      refine aw_iload_n dX10_set_21 rfl ?_
      refine aw_tald0 gt0 (by omega) (by decide) rfl dX10_set_22 ?_
      refine aw_st (st' := vi (tL w) :: _) rfl ?_
      refine aw_icmp_lt (tgt := 35) dX10_set_23 rfl (by omega) (fun c23 => ?_) (fun c23 => ?_)
      · skip
        refine aw_iconst dX10_set_35 ?_
        exact aw_ireturn dX10_set_36 rfl rfl ⟨Nat.le_of_ble_eq_true rfl, Nat.le_of_ble_eq_true rfl⟩ (hN _ (by simp only [rSet, isL, isI, isO, isN]; (repeat' split) <;> omega) (by omega))
      · skip
        refine aw_iload_n dX10_set_26 rfl ?_
        refine aw_sT (i := 1) gz1 (Or.inl qf_X10_204) dX10_set_27 ?_
        refine aw_iload_n dX10_set_30 rfl ?_
        refine aw_tald0 gt1 (by omega) (by decide) rfl dX10_set_31 ?_
        refine aw_st (st' := vi (tM w) :: _) rfl ?_
        refine aw_icmp_le (tgt := 37) dX10_set_32 rfl (by omega) (fun c32 => ?_) (fun c32 => ?_)
        · skip
          refine aw_aload_n dX10_set_37 rfl ?_
          refine aw_getf fg_X10_26 dX10_set_38 (hc0 hnx) rfl ?_
          refine aw_getf fg_X10_81 dX10_set_41 (hc9 hnx) rfl ?_
          refine aw_getf fg_X10_207 dX10_set_44 (hc10 hnx) rfl ?_
          refine aw_iload_n dX10_set_47 rfl ?_
          refine aw_ialdr dX10_set_48 (hc11 hnx) (by omega) (by decide) (hR 0 (by decide)) (fun q48 => ?_)
          refine aw_nmI (fun x3_49 hx3_49 => ?_)
          refine aw_istore_n (ls' := [some (rf Γ 0), some _, some _, some _]) dX10_set_49 (by decide) rfl ?_
          subst hx3_49
          refine aw_iload_n dX10_set_50 rfl ?_
          refine aw_iload_n dX10_set_51 rfl ?_
          refine aw_icmp_ne (tgt := 58) dX10_set_52 rfl (by omega) (fun c52 => ?_) (fun c52 => ?_)
          · skip
            have acc : rSet S w n = 0 := by simp only [rSet, isL, isI, isO, isN]; (repeat' split) <;> omega
            refine aw_aload_n dX10_set_58 rfl ?_
            refine aw_getf fg_X10_33 dX10_set_59 (hc0 hnx) rfl ?_
            refine aw_aload_n dX10_set_62 rfl ?_
            refine aw_getf fg_X10_26 dX10_set_63 (hc0 hnx) rfl ?_
            refine aw_callV (As := [_]) (ρ := (_, 29, 1248)) (kn' := (29, 1248)) cv_X10_99 dX10_set_66 rfl rfl (hc38 hnx) rfl rfl (Nat.le_of_ble_eq_true rfl) (rmR _ _ _) ⟨Nat.le_of_ble_eq_true rfl, Nat.le_of_ble_eq_true rfl⟩ rfl (c_X0_remember hnx hz hW.1 hW.2.1 hW.2.2 (fun U2 G2 nx2 hnx hRem => ?_))
            refine aw_aload_n dX10_set_69 rfl ?_
            refine aw_getf fg_X10_26 dX10_set_70 (hc0 hnx) rfl ?_
            refine aw_getf fg_X10_81 dX10_set_73 (hc9 hnx) rfl ?_
            refine aw_getf fg_X10_207 dX10_set_76 (hc10 hnx) rfl ?_
            refine aw_iload_n dX10_set_79 rfl ?_
            refine aw_iload_n dX10_set_80 rfl ?_
            refine aw_iastS dX10_set_81 (hc11 hnx) (by omega) (by decide) hR (by omega) (fun _ => hu11) (fun hR => ?_)
            refine aw_iload_n dX10_set_82 rfl ?_
            exact aw_ireturn dX10_set_83 rfl rfl ⟨Nat.le_of_ble_eq_true rfl, Nat.le_of_ble_eq_true rfl⟩ (hQ acc _ _ _ hnx hRem hR)
          · skip
            refine aw_bipush dX10_set_55 rfl ?_
            exact aw_ireturn dX10_set_57 rfl rfl ⟨Nat.le_of_ble_eq_true rfl, Nat.le_of_ble_eq_true rfl⟩ (hN _ (by simp only [rSet, isL, isI, isO, isN]; (repeat' split) <;> omega) (by omega))
        · skip
          refine aw_iconst dX10_set_35 ?_
          exact aw_ireturn dX10_set_36 rfl rfl ⟨Nat.le_of_ble_eq_true rfl, Nat.le_of_ble_eq_true rfl⟩ (hN _ (by simp only [rSet, isL, isI, isO, isN]; (repeat' split) <;> omega) (by omega))
    · skip
      refine aw_if_eq (tgt := 35) dX10_set_14 rfl (by decide) (fun _ => ?_) (fun c => absurd c (by decide))
      refine aw_iconst dX10_set_35 ?_
      exact aw_ireturn dX10_set_36 rfl rfl ⟨Nat.le_of_ble_eq_true rfl, Nat.le_of_ble_eq_true rfl⟩ (hN _ (by simp only [rSet, isL, isI, isO, isN]; (repeat' split) <;> omega) (by omega))
  · skip
    refine aw_if_eq (tgt := 35) dX10_set_7 rfl (by decide) (fun _ => ?_) (fun c => absurd c (by decide))
    refine aw_iconst dX10_set_35 ?_
    exact aw_ireturn dX10_set_36 rfl rfl ⟨Nat.le_of_ble_eq_true rfl, Nat.le_of_ble_eq_true rfl⟩ (hN _ (by simp only [rSet, isL, isI, isO, isN]; (repeat' split) <;> omega) (by omega))

set_option maxHeartbeats 1000000 in
theorem c_X10_lend {Γ : GT} {S T U V : St} {G : Gw} {nx d : Nat} {Q : QT} (hnx : 52 ≤ nx) {i m j n : Int} {c : Int} (hI : Inv c S) (hi : inI i) (hm : inI m) (hj : inI j) (hn : inI n) (hW : RW U nx) (hN : ∀ r, r = rLend S i m j n → r ≠ 0 → Q (some (vi r)) (hp Γ S T U V G) nx) (hQ : rLend S i m j n = 0 → ∀ U2 G2 nx2, 52 ≤ nx2 → Rem U U2 G G2 S nx nx2 → Rg (lendS S (4 * i + j) (4 * m + j) n) → Q (some (vi (S 17 (4 * i + j) - n))) (hp Γ (lendS S (4 * i + j) (4 * m + j) n) T U2 V G2) nx2) : AM Γ MX10_lend (d + 5, 29, 1248) [rf Γ 0, vi i, vi m, vi j, vi n] (hp Γ S T U V G) nx Q := by
  refine am_of (by decide) (Nat.le_of_ble_eq_true rfl) (ls := [some (rf Γ 0), some _, some _, some _, some _, none, none, none]) rfl ?_
  have hR := hI.R
  have i1 := hI.i1
  have hz : 0 ≤ S 28 0 ∧ S 28 0 ≤ 60 := i1.2.2.1
  have hkS : nS S = (S 28 0).toNat := rfl
  have hkI : nIm S = (S 27 0).toNat := rfl
  have hkO : nOr S = (S 26 0).toNat := rfl
  refine aw_aload_n dX10_lend_0 rfl ?_
  refine aw_getf fg_X10_26 dX10_lend_1 (hc0 hnx) rfl ?_
  refine aw_iload_n dX10_lend_4 rfl ?_
  refine aw_iload_n dX10_lend_5 rfl ?_
  refine aw_callV (As := [_, _]) (ρ := (_, 0, 0)) (kn' := (0, 0)) cv_X10_87 dX10_lend_6 rfl rfl (hc9 hnx) rfl rfl (Nat.le_of_ble_eq_true rfl) (rmR _ _ _) ⟨Nat.le_of_ble_eq_true rfl, Nat.le_of_ble_eq_true rfl⟩ rfl (c_X7_hasPair hnx hR (by omega) (fun r6 h6 => ?_))
  rcases h6 with ⟨rfl, h6⟩ | ⟨rfl, h6⟩
  · skip
    refine aw_if_eq (tgt := 36) dX10_lend_9 rfl (by decide) (fun c => absurd c (by decide)) (fun _ => ?_)
    refine aw_aload_n dX10_lend_12 rfl ?_
    refine aw_getf fg_X10_26 dX10_lend_13 (hc0 hnx) rfl ?_
    refine aw_iload_n dX10_lend_16 rfl ?_
    refine aw_callV (As := [_]) (ρ := (_, 0, 0)) (kn' := (0, 0)) cv_X10_133 dX10_lend_17 rfl rfl (hc9 hnx) rfl rfl (Nat.le_of_ble_eq_true rfl) (rmR _ _ _) ⟨Nat.le_of_ble_eq_true rfl, Nat.le_of_ble_eq_true rfl⟩ rfl (c_X7_hasImporter hnx hR (by omega) (fun r17 h17 => ?_))
    rcases h17 with ⟨rfl, h17⟩ | ⟨rfl, h17⟩
    · skip
      refine aw_if_eq (tgt := 36) dX10_lend_20 rfl (by decide) (fun c => absurd c (by decide)) (fun _ => ?_)
      refine aw_iload dX10_lend_23 rfl ?_
      refine aw_callS (As := [_]) (ρ := (_, 0, 0)) (kn' := (0, 0)) cs_X10_91 dX10_lend_25 rfl rfl (Nat.le_of_ble_eq_true rfl) (rmR _ _ _) ⟨Nat.le_of_ble_eq_true rfl, Nat.le_of_ble_eq_true rfl⟩ rfl (c_X10_isAmount hnx (by omega) (fun r25 h25 => ?_))
      rcases h25 with ⟨rfl, h25⟩ | ⟨rfl, h25⟩
      · skip
        refine aw_if_eq (tgt := 36) dX10_lend_28 rfl (by decide) (fun c => absurd c (by decide)) (fun _ => ?_)
        refine aw_iload_n dX10_lend_31 rfl ?_
        refine aw_iload_n dX10_lend_32 rfl ?_
        refine aw_icmp_ne (tgt := 38) dX10_lend_33 rfl (by omega) (fun c33 => ?_) (fun c33 => ?_)
        · skip
          refine aw_aload_n dX10_lend_38 rfl ?_
          refine aw_getf fg_X10_26 dX10_lend_39 (hc0 hnx) rfl ?_
          refine aw_getf fg_X10_156 dX10_lend_42 (hc9 hnx) rfl ?_
          refine aw_astore (ls' := [some (rf Γ 0), some _, some _, some _, some _, some (rf Γ 25), none, none]) dX10_lend_45 (by decide) rfl ?_
          refine aw_iload_n dX10_lend_47 rfl ?_
          refine aw_iload_n dX10_lend_48 rfl ?_
          refine aw_callS (As := [_, _]) (ρ := (_, 0, 0)) (kn' := (0, 0)) cs_X10_160 dX10_lend_49 rfl rfl (Nat.le_of_ble_eq_true rfl) (rmR _ _ _) ⟨Nat.le_of_ble_eq_true rfl, Nat.le_of_ble_eq_true rfl⟩ rfl (c_X10_pairOf hnx  (fun r49 h49 => ?_))
          refine aw_istore (ls' := [some (rf Γ 0), some _, some _, some _, some _, some (rf Γ 25), some _, none]) dX10_lend_52 (by decide) rfl ?_
          subst h49
          refine aw_iload_n dX10_lend_54 rfl ?_
          refine aw_iload_n dX10_lend_55 rfl ?_
          refine aw_callS (As := [_, _]) (ρ := (_, 0, 0)) (kn' := (0, 0)) cs_X10_160 dX10_lend_56 rfl rfl (Nat.le_of_ble_eq_true rfl) (rmR _ _ _) ⟨Nat.le_of_ble_eq_true rfl, Nat.le_of_ble_eq_true rfl⟩ rfl (c_X10_pairOf hnx  (fun r56 h56 => ?_))
          refine aw_istore (ls' := [some (rf Γ 0), some _, some _, some _, some _, some (rf Γ 25), some _, some _]) dX10_lend_59 (by decide) rfl ?_
          subst h56
          refine aw_aload dX10_lend_61 rfl ?_
          refine aw_iload dX10_lend_63 rfl ?_
          refine aw_callV (As := [_]) (ρ := (_, 0, 0)) (kn' := (0, 0)) cv_X10_163 dX10_lend_65 rfl rfl (hc25 hnx) rfl rfl (Nat.le_of_ble_eq_true rfl) (rmR _ _ _) ⟨Nat.le_of_ble_eq_true rfl, Nat.le_of_ble_eq_true rfl⟩ rfl (c_X3_isTraditional hnx hR (by omega) (fun r65 h65 => ?_))
          rcases h65 with ⟨rfl, h65⟩ | ⟨rfl, h65⟩
          · skip
            refine aw_if_eq (tgt := 81) dX10_lend_68 rfl (by decide) (fun c => absurd c (by decide)) (fun _ => ?_)
            refine aw_aload dX10_lend_71 rfl ?_
            refine aw_iload dX10_lend_73 rfl ?_
            refine aw_callV (As := [_]) (ρ := (_, 0, 0)) (kn' := (0, 0)) cv_X10_163 dX10_lend_75 rfl rfl (hc25 hnx) rfl rfl (Nat.le_of_ble_eq_true rfl) (rmR _ _ _) ⟨Nat.le_of_ble_eq_true rfl, Nat.le_of_ble_eq_true rfl⟩ rfl (c_X3_isTraditional hnx hR (by omega) (fun r75 h75 => ?_))
            rcases h75 with ⟨rfl, h75⟩ | ⟨rfl, h75⟩
            · skip
              refine aw_if_ne (tgt := 84) dX10_lend_78 rfl (by decide) (fun _ => ?_) (fun c => absurd c (by decide))
              refine aw_aload dX10_lend_84 rfl ?_
              refine aw_getf fg_X10_168 dX10_lend_86 (hc25 hnx) rfl ?_
              refine aw_iload dX10_lend_89 rfl ?_
              refine aw_ialdr dX10_lend_91 (hc29 hnx) (by omega) (by decide) (hR 17 (by decide)) (fun q91 => ?_)
              have pr := hI.pr (i := i) (o := j) (by omega) (by omega)
              have pm := hI.pr (i := m) (o := j) (by omega) (by omega)
              have fg := hI.fg (o := j) (by omega)
              have lf := hI.lfs (o := j) (by omega) (nIm S) (Nat.le_refl _)
              have lm : S 17 (4 * m + j) ≤ lefts S j (nIm S) := by have h1 := sm_one (f := fun i => S 17 (4 * i + j)) (nIm S) (fun k hk => (hI.pr (i := k) (o := j) (by omega) (by omega)).2.2.1) m.toNat (by omega); have h1 : S 17 (4 * ((m.toNat : Nat) : Int) + j) ≤ lefts S j (nIm S) := h1; rw [show ((m.toNat : Nat) : Int) = m by omega] at h1; exact h1
              have rs := hI.rems
              refine aw_iload dX10_lend_92 rfl ?_
              refine aw_icmp_ge (tgt := 100) dX10_lend_94 rfl (by omega) (fun c94 => ?_) (fun c94 => ?_)
              · skip
                have acc : rLend S i m j n = 0 := by simp only [rLend, isL, isI, isO, isN]; (repeat' split) <;> omega
                refine aw_aload_n dX10_lend_100 rfl ?_
                refine aw_getf fg_X10_33 dX10_lend_101 (hc0 hnx) rfl ?_
                refine aw_aload_n dX10_lend_104 rfl ?_
                refine aw_getf fg_X10_26 dX10_lend_105 (hc0 hnx) rfl ?_
                refine aw_callV (As := [_]) (ρ := (_, 29, 1248)) (kn' := (29, 1248)) cv_X10_99 dX10_lend_108 rfl rfl (hc38 hnx) rfl rfl (Nat.le_of_ble_eq_true rfl) (rmR _ _ _) ⟨Nat.le_of_ble_eq_true rfl, Nat.le_of_ble_eq_true rfl⟩ rfl (c_X0_remember hnx hz hW.1 hW.2.1 hW.2.2 (fun U2 G2 nx2 hnx hRem => ?_))
                refine aw_aload dX10_lend_111 rfl ?_
                refine aw_getf fg_X10_168 dX10_lend_113 (hc25 hnx) rfl ?_
                refine aw_iload dX10_lend_116 rfl ?_
                refine aw_dup2_11 dX10_lend_118 rfl rfl ?_
                refine aw_ialdr dX10_lend_119 (hc29 hnx) (by omega) (by decide) (hR 17 (by decide)) (fun q119 => ?_)
                refine aw_iload dX10_lend_120 rfl ?_
                refine aw_isub dX10_lend_122 ?_
                refine aw_iastS dX10_lend_123 (hc29 hnx) (by omega) (by decide) hR (by omega) (fun _ => hu29) (fun hR => ?_)
                refine aw_aload dX10_lend_124 rfl ?_
                refine aw_getf fg_X10_168 dX10_lend_126 (hc25 hnx) rfl ?_
                refine aw_iload dX10_lend_129 rfl ?_
                refine aw_dup2_11 dX10_lend_131 rfl rfl ?_
                refine aw_ialdr dX10_lend_132 (hc29 hnx) (by omega) (by decide) (hR 17 (by decide)) (fun q132 => ?_)
                refine aw_sv (a := S 17 (4 * m + j)) ((by rw [u1_at, if_neg (by omega)])) ?_
                refine aw_iload dX10_lend_133 rfl ?_
                refine aw_iadd dX10_lend_135 ?_
                refine aw_iastS dX10_lend_136 (hc29 hnx) (by omega) (by decide) hR (by omega) (fun _ => hu29) (fun hR => ?_)
                refine aw_aload dX10_lend_137 rfl ?_
                refine aw_getf fg_X10_168 dX10_lend_139 (hc25 hnx) rfl ?_
                refine aw_iload dX10_lend_142 rfl ?_
                refine aw_ialdr dX10_lend_144 (hc29 hnx) (by omega) (by decide) (hR 17 (by decide)) (fun q144 => ?_)
                refine aw_sv (a := S 17 (4 * i + j) - n) ((by rw [u1_at, if_neg (by omega), u1_at, if_pos ⟨rfl, rfl⟩])) ?_
                exact aw_ireturn dX10_lend_145 rfl rfl ⟨Nat.le_of_ble_eq_true rfl, Nat.le_of_ble_eq_true rfl⟩ (hQ acc _ _ _ hnx hRem hR)
              · skip
                refine aw_bipush dX10_lend_97 rfl ?_
                exact aw_ireturn dX10_lend_99 rfl rfl ⟨Nat.le_of_ble_eq_true rfl, Nat.le_of_ble_eq_true rfl⟩ (hN _ (by simp only [rLend, isL, isI, isO, isN]; (repeat' split) <;> omega) (by omega))
            · skip
              refine aw_if_ne (tgt := 84) dX10_lend_78 rfl (by decide) (fun c => absurd c (by decide)) (fun _ => ?_)
              refine aw_bipush dX10_lend_81 rfl ?_
              exact aw_ireturn dX10_lend_83 rfl rfl ⟨Nat.le_of_ble_eq_true rfl, Nat.le_of_ble_eq_true rfl⟩ (hN _ (by simp only [rLend, isL, isI, isO, isN]; (repeat' split) <;> omega) (by omega))
          · skip
            refine aw_if_eq (tgt := 81) dX10_lend_68 rfl (by decide) (fun _ => ?_) (fun c => absurd c (by decide))
            refine aw_bipush dX10_lend_81 rfl ?_
            exact aw_ireturn dX10_lend_83 rfl rfl ⟨Nat.le_of_ble_eq_true rfl, Nat.le_of_ble_eq_true rfl⟩ (hN _ (by simp only [rLend, isL, isI, isO, isN]; (repeat' split) <;> omega) (by omega))
        · skip
          refine aw_iconst dX10_lend_36 ?_
          exact aw_ireturn dX10_lend_37 rfl rfl ⟨Nat.le_of_ble_eq_true rfl, Nat.le_of_ble_eq_true rfl⟩ (hN _ (by simp only [rLend, isL, isI, isO, isN]; (repeat' split) <;> omega) (by omega))
      · skip
        refine aw_if_eq (tgt := 36) dX10_lend_28 rfl (by decide) (fun _ => ?_) (fun c => absurd c (by decide))
        refine aw_iconst dX10_lend_36 ?_
        exact aw_ireturn dX10_lend_37 rfl rfl ⟨Nat.le_of_ble_eq_true rfl, Nat.le_of_ble_eq_true rfl⟩ (hN _ (by simp only [rLend, isL, isI, isO, isN]; (repeat' split) <;> omega) (by omega))
    · skip
      refine aw_if_eq (tgt := 36) dX10_lend_20 rfl (by decide) (fun _ => ?_) (fun c => absurd c (by decide))
      refine aw_iconst dX10_lend_36 ?_
      exact aw_ireturn dX10_lend_37 rfl rfl ⟨Nat.le_of_ble_eq_true rfl, Nat.le_of_ble_eq_true rfl⟩ (hN _ (by simp only [rLend, isL, isI, isO, isN]; (repeat' split) <;> omega) (by omega))
  · skip
    refine aw_if_eq (tgt := 36) dX10_lend_9 rfl (by decide) (fun _ => ?_) (fun c => absurd c (by decide))
    refine aw_iconst dX10_lend_36 ?_
    exact aw_ireturn dX10_lend_37 rfl rfl ⟨Nat.le_of_ble_eq_true rfl, Nat.le_of_ble_eq_true rfl⟩ (hN _ (by simp only [rLend, isL, isI, isO, isN]; (repeat' split) <;> omega) (by omega))

set_option maxHeartbeats 1000000 in
theorem c_X10_merge {Γ : GT} {S T U V : St} {G : Gw} {nx d : Nat} {Q : QT} (hnx : 52 ≤ nx) {l j : Int} {c : Int} (hI : Inv c S) (hl : inI l) (hj : inI j) (hW : RW U nx) (hN : ∀ r, r = rMerge S l j → r ≠ 0 → Q (some (vi r)) (hp Γ S T U V G) nx) (hQ : rMerge S l j = 0 → ∀ U2 G2 nx2, 52 ≤ nx2 → Rem U U2 G G2 S nx nx2 → Rg (overS S l j (S 25 0)) → Q (some (vi (rem (overS S l j (S 25 0)) l))) (hp Γ (overS S l j (S 25 0)) T U2 V G2) nx2) : AM Γ MX10_merge (d + 5, 29, 1248) [rf Γ 0, vi l, vi j] (hp Γ S T U V G) nx Q := by
  refine am_of (by decide) (Nat.le_of_ble_eq_true rfl) (ls := [some (rf Γ 0), some _, some _, none]) rfl ?_
  have hR := hI.R
  have i1 := hI.i1
  have hz : 0 ≤ S 28 0 ∧ S 28 0 ≤ 60 := i1.2.2.1
  have hkS : nS S = (S 28 0).toNat := rfl
  have hkI : nIm S = (S 27 0).toNat := rfl
  have hkO : nOr S = (S 26 0).toNat := rfl
  refine aw_aload_n dX10_merge_0 rfl ?_
  refine aw_getf fg_X10_26 dX10_merge_1 (hc0 hnx) rfl ?_
  refine aw_getf fg_X10_106 dX10_merge_4 (hc9 hnx) rfl ?_
  refine aw_astore_n (ls' := [some (rf Γ 0), some _, some _, some (rf Γ 14)]) dX10_merge_7 (by decide) rfl ?_
  refine aw_aload_n dX10_merge_8 rfl ?_
  refine aw_iload_n dX10_merge_9 rfl ?_
  refine aw_callV (As := [_]) (ρ := (_, 0, 0)) (kn' := (0, 0)) cv_X10_110 dX10_merge_10 rfl rfl (hc14 hnx) rfl rfl (Nat.le_of_ble_eq_true rfl) (rmR _ _ _) ⟨Nat.le_of_ble_eq_true rfl, Nat.le_of_ble_eq_true rfl⟩ rfl (c_X1_has hnx hR (by omega) (fun r10 h10 => ?_))
  rcases h10 with ⟨rfl, h10⟩ | ⟨rfl, h10⟩
  · skip
    refine aw_if_eq (tgt := 29) dX10_merge_13 rfl (by decide) (fun c => absurd c (by decide)) (fun _ => ?_)
    refine aw_aload_n dX10_merge_16 rfl ?_
    refine aw_iload_n dX10_merge_17 rfl ?_
    refine aw_callV (As := [_]) (ρ := (_, 0, 0)) (kn' := (0, 0)) cv_X10_110 dX10_merge_18 rfl rfl (hc14 hnx) rfl rfl (Nat.le_of_ble_eq_true rfl) (rmR _ _ _) ⟨Nat.le_of_ble_eq_true rfl, Nat.le_of_ble_eq_true rfl⟩ rfl (c_X1_has hnx hR (by omega) (fun r18 h18 => ?_))
    rcases h18 with ⟨rfl, h18⟩ | ⟨rfl, h18⟩
    · skip
      refine aw_if_eq (tgt := 29) dX10_merge_21 rfl (by decide) (fun c => absurd c (by decide)) (fun _ => ?_)
      refine aw_iload_n dX10_merge_24 rfl ?_
      refine aw_iload_n dX10_merge_25 rfl ?_
      refine aw_icmp_ne (tgt := 31) dX10_merge_26 rfl (by omega) (fun c26 => ?_) (fun c26 => ?_)
      · skip
        refine aw_aload_n dX10_merge_31 rfl ?_
        refine aw_iload_n dX10_merge_32 rfl ?_
        refine aw_callV (As := [_]) (ρ := (_, 0, 0)) (kn' := (0, 0)) cv_X10_115 dX10_merge_33 rfl rfl (hc14 hnx) rfl rfl (Nat.le_of_ble_eq_true rfl) (rmR _ _ _) ⟨Nat.le_of_ble_eq_true rfl, Nat.le_of_ble_eq_true rfl⟩ rfl (c_X1_isOpen hnx hR (by omega) (fun r33 h33 => ?_))
        rcases h33 with ⟨rfl, h33⟩ | ⟨rfl, h33⟩
        · skip
          refine aw_if_eq (tgt := 47) dX10_merge_36 rfl (by decide) (fun c => absurd c (by decide)) (fun _ => ?_)
          refine aw_aload_n dX10_merge_39 rfl ?_
          refine aw_iload_n dX10_merge_40 rfl ?_
          refine aw_callV (As := [_]) (ρ := (_, 0, 0)) (kn' := (0, 0)) cv_X10_115 dX10_merge_41 rfl rfl (hc14 hnx) rfl rfl (Nat.le_of_ble_eq_true rfl) (rmR _ _ _) ⟨Nat.le_of_ble_eq_true rfl, Nat.le_of_ble_eq_true rfl⟩ rfl (c_X1_isOpen hnx hR (by omega) (fun r41 h41 => ?_))
          rcases h41 with ⟨rfl, h41⟩ | ⟨rfl, h41⟩
          · skip
            refine aw_if_ne (tgt := 50) dX10_merge_44 rfl (by decide) (fun _ => ?_) (fun c => absurd c (by decide))
            refine aw_aload_n dX10_merge_50 rfl ?_
            refine aw_iload_n dX10_merge_51 rfl ?_
            refine aw_iload_n dX10_merge_52 rfl ?_
            refine aw_callV (As := [_, _]) (ρ := (_, 0, 0)) (kn' := (0, 0)) cv_X10_149 dX10_merge_53 rfl rfl (hc14 hnx) rfl rfl (Nat.le_of_ble_eq_true rfl) (rmR _ _ _) ⟨Nat.le_of_ble_eq_true rfl, Nat.le_of_ble_eq_true rfl⟩ rfl (c_X1_areAlike hnx hR (by omega) (fun r53 h53 => ?_))
            rcases h53 with ⟨rfl, h53⟩ | ⟨rfl, h53⟩
            · skip
              refine aw_if_ne (tgt := 62) dX10_merge_56 rfl (by decide) (fun _ => ?_) (fun c => absurd c (by decide))
              have acc : rMerge S l j = 0 := by simp only [rMerge, isL, isI, isO, isN]; (repeat' split) <;> omega
              refine aw_aload_n dX10_merge_62 rfl ?_
              refine aw_getf fg_X10_33 dX10_merge_63 (hc0 hnx) rfl ?_
              refine aw_aload_n dX10_merge_66 rfl ?_
              refine aw_getf fg_X10_26 dX10_merge_67 (hc0 hnx) rfl ?_
              refine aw_callV (As := [_]) (ρ := (_, 29, 1248)) (kn' := (29, 1248)) cv_X10_99 dX10_merge_70 rfl rfl (hc38 hnx) rfl rfl (Nat.le_of_ble_eq_true rfl) (rmR _ _ _) ⟨Nat.le_of_ble_eq_true rfl, Nat.le_of_ble_eq_true rfl⟩ rfl (c_X0_remember hnx hz hW.1 hW.2.1 hW.2.2 (fun U2 G2 nx2 hnx hRem => ?_))
              have l1 := hI.li (l := l) (by omega)
              have l2 := hI.li (l := j) (by omega)
              have a1 := hI.am (l := l) (by omega)
              have a2 := hI.am (l := j) (by omega)
              refine aw_aload_n dX10_merge_73 rfl ?_
              refine aw_iload_n dX10_merge_74 rfl ?_
              refine aw_iload_n dX10_merge_75 rfl ?_
              refine aw_aload_n dX10_merge_76 rfl ?_
              refine aw_getf fg_X10_26 dX10_merge_77 (hc0 hnx) rfl ?_
              refine aw_getf fg_X10_142 dX10_merge_80 (hc9 hnx) rfl ?_
              refine aw_callV (As := [_, _, _]) (ρ := (_, 0, 0)) (kn' := (29, 1248)) cv_X10_152 dX10_merge_83 rfl rfl (hc14 hnx) rfl rfl (Nat.le_of_ble_eq_true rfl) (rmR _ _ _) ⟨Nat.le_of_ble_eq_true rfl, Nat.le_of_ble_eq_true rfl⟩ rfl (c_X1_takeOver hnx hR (by omega) (by omega) (by omega) (by omega) (by omega) (by omega) (fun hR => ?_))
              refine aw_aload_n dX10_merge_86 rfl ?_
              refine aw_iload_n dX10_merge_87 rfl ?_
              refine aw_callV (As := [_]) (ρ := (_, 0, 0)) (kn' := (29, 1248)) cv_X10_118 dX10_merge_88 rfl rfl (hc14 hnx) rfl rfl (Nat.le_of_ble_eq_true rfl) (rmR _ _ _) ⟨Nat.le_of_ble_eq_true rfl, Nat.le_of_ble_eq_true rfl⟩ rfl (c_X1_remains hnx hR (by omega) (fun r88 h88 => ?_))
              subst h88
              exact aw_ireturn dX10_merge_91 rfl rfl ⟨Nat.le_of_ble_eq_true rfl, Nat.le_of_ble_eq_true rfl⟩ (hQ acc _ _ _ hnx hRem hR)
            · skip
              refine aw_if_ne (tgt := 62) dX10_merge_56 rfl (by decide) (fun c => absurd c (by decide)) (fun _ => ?_)
              refine aw_bipush dX10_merge_59 rfl ?_
              exact aw_ireturn dX10_merge_61 rfl rfl ⟨Nat.le_of_ble_eq_true rfl, Nat.le_of_ble_eq_true rfl⟩ (hN _ (by simp only [rMerge, isL, isI, isO, isN]; (repeat' split) <;> omega) (by omega))
          · skip
            refine aw_if_ne (tgt := 50) dX10_merge_44 rfl (by decide) (fun c => absurd c (by decide)) (fun _ => ?_)
            refine aw_bipush dX10_merge_47 rfl ?_
            exact aw_ireturn dX10_merge_49 rfl rfl ⟨Nat.le_of_ble_eq_true rfl, Nat.le_of_ble_eq_true rfl⟩ (hN _ (by simp only [rMerge, isL, isI, isO, isN]; (repeat' split) <;> omega) (by omega))
        · skip
          refine aw_if_eq (tgt := 47) dX10_merge_36 rfl (by decide) (fun _ => ?_) (fun c => absurd c (by decide))
          refine aw_bipush dX10_merge_47 rfl ?_
          exact aw_ireturn dX10_merge_49 rfl rfl ⟨Nat.le_of_ble_eq_true rfl, Nat.le_of_ble_eq_true rfl⟩ (hN _ (by simp only [rMerge, isL, isI, isO, isN]; (repeat' split) <;> omega) (by omega))
      · skip
        refine aw_iconst dX10_merge_29 ?_
        exact aw_ireturn dX10_merge_30 rfl rfl ⟨Nat.le_of_ble_eq_true rfl, Nat.le_of_ble_eq_true rfl⟩ (hN _ (by simp only [rMerge, isL, isI, isO, isN]; (repeat' split) <;> omega) (by omega))
    · skip
      refine aw_if_eq (tgt := 29) dX10_merge_21 rfl (by decide) (fun _ => ?_) (fun c => absurd c (by decide))
      refine aw_iconst dX10_merge_29 ?_
      exact aw_ireturn dX10_merge_30 rfl rfl ⟨Nat.le_of_ble_eq_true rfl, Nat.le_of_ble_eq_true rfl⟩ (hN _ (by simp only [rMerge, isL, isI, isO, isN]; (repeat' split) <;> omega) (by omega))
  · skip
    refine aw_if_eq (tgt := 29) dX10_merge_13 rfl (by decide) (fun _ => ?_) (fun c => absurd c (by decide))
    refine aw_iconst dX10_merge_29 ?_
    exact aw_ireturn dX10_merge_30 rfl rfl ⟨Nat.le_of_ble_eq_true rfl, Nat.le_of_ble_eq_true rfl⟩ (hN _ (by simp only [rMerge, isL, isI, isO, isN]; (repeat' split) <;> omega) (by omega))

set_option maxHeartbeats 1000000 in
theorem c_X10_hand {Γ : GT} {S T U V : St} {G : Gw} {nx d : Nat} {Q : QT} (hnx : 52 ≤ nx) {l i n : Int} {c : Int} (hI : Inv c S) (hl : inI l) (hi : inI i) (hn : inI n) (hW : RW U nx) (hN : ∀ r, r = rHand S l i n → r ≠ 0 → Q (some (vi r)) (hp Γ S T U V G) nx) (hQ : rHand S l i n = 0 → ∀ U2 G2 nx2, 52 ≤ nx2 → Rem U U2 G G2 S nx nx2 → Rg (handS S l i n (S 25 0)) → Q (some (vi (S 28 0))) (hp Γ (handS S l i n (S 25 0)) T U2 V G2) nx2) : AM Γ MX10_hand (d + 5, 29, 1248) [rf Γ 0, vi l, vi i, vi n] (hp Γ S T U V G) nx Q := by
  refine am_of (by decide) (Nat.le_of_ble_eq_true rfl) (ls := [some (rf Γ 0), some _, some _, some _, none]) rfl ?_
  have hR := hI.R
  have i1 := hI.i1
  have hz : 0 ≤ S 28 0 ∧ S 28 0 ≤ 60 := i1.2.2.1
  have hkS : nS S = (S 28 0).toNat := rfl
  have hkI : nIm S = (S 27 0).toNat := rfl
  have hkO : nOr S = (S 26 0).toNat := rfl
  refine aw_aload_n dX10_hand_0 rfl ?_
  refine aw_getf fg_X10_26 dX10_hand_1 (hc0 hnx) rfl ?_
  refine aw_getf fg_X10_106 dX10_hand_4 (hc9 hnx) rfl ?_
  refine aw_astore (ls' := [some (rf Γ 0), some _, some _, some _, some (rf Γ 14)]) dX10_hand_7 (by decide) rfl ?_
  refine aw_aload dX10_hand_9 rfl ?_
  refine aw_iload_n dX10_hand_11 rfl ?_
  refine aw_callV (As := [_]) (ρ := (_, 0, 0)) (kn' := (0, 0)) cv_X10_110 dX10_hand_12 rfl rfl (hc14 hnx) rfl rfl (Nat.le_of_ble_eq_true rfl) (rmR _ _ _) ⟨Nat.le_of_ble_eq_true rfl, Nat.le_of_ble_eq_true rfl⟩ rfl (c_X1_has hnx hR (by omega) (fun r12 h12 => ?_))
  rcases h12 with ⟨rfl, h12⟩ | ⟨rfl, h12⟩
  · skip
    refine aw_if_eq (tgt := 47) dX10_hand_15 rfl (by decide) (fun c => absurd c (by decide)) (fun _ => ?_)
    refine aw_aload_n dX10_hand_18 rfl ?_
    refine aw_getf fg_X10_26 dX10_hand_19 (hc0 hnx) rfl ?_
    refine aw_iload_n dX10_hand_22 rfl ?_
    refine aw_callV (As := [_]) (ρ := (_, 0, 0)) (kn' := (0, 0)) cv_X10_133 dX10_hand_23 rfl rfl (hc9 hnx) rfl rfl (Nat.le_of_ble_eq_true rfl) (rmR _ _ _) ⟨Nat.le_of_ble_eq_true rfl, Nat.le_of_ble_eq_true rfl⟩ rfl (c_X7_hasImporter hnx hR (by omega) (fun r23 h23 => ?_))
    rcases h23 with ⟨rfl, h23⟩ | ⟨rfl, h23⟩
    · skip
      refine aw_if_eq (tgt := 47) dX10_hand_26 rfl (by decide) (fun c => absurd c (by decide)) (fun _ => ?_)
      refine aw_iload_n dX10_hand_29 rfl ?_
      refine aw_callS (As := [_]) (ρ := (_, 0, 0)) (kn' := (0, 0)) cs_X10_91 dX10_hand_30 rfl rfl (Nat.le_of_ble_eq_true rfl) (rmR _ _ _) ⟨Nat.le_of_ble_eq_true rfl, Nat.le_of_ble_eq_true rfl⟩ rfl (c_X10_isAmount hnx (by omega) (fun r30 h30 => ?_))
      rcases h30 with ⟨rfl, h30⟩ | ⟨rfl, h30⟩
      · skip
        refine aw_if_eq (tgt := 47) dX10_hand_33 rfl (by decide) (fun c => absurd c (by decide)) (fun _ => ?_)
        refine aw_aload dX10_hand_36 rfl ?_
        refine aw_getf fg_X10_136 dX10_hand_38 (hc14 hnx) rfl ?_
        refine aw_iload_n dX10_hand_41 rfl ?_
        refine aw_ialdr dX10_hand_42 (hc15 hnx) (by omega) (by decide) (hR 4 (by decide)) (fun q42 => ?_)
        refine aw_iload_n dX10_hand_43 rfl ?_
        refine aw_icmp_ne (tgt := 49) dX10_hand_44 rfl (by omega) (fun c44 => ?_) (fun c44 => ?_)
        · skip
          refine aw_aload dX10_hand_49 rfl ?_
          refine aw_getf fg_X10_139 dX10_hand_51 (hc14 hnx) rfl ?_
          refine aw_bipush dX10_hand_54 rfl ?_
          refine aw_icmp_lt (tgt := 62) dX10_hand_56 rfl (by omega) (fun c56 => ?_) (fun c56 => ?_)
          · skip
            refine aw_aload dX10_hand_62 rfl ?_
            refine aw_iload_n dX10_hand_64 rfl ?_
            refine aw_callV (As := [_]) (ρ := (_, 0, 0)) (kn' := (0, 0)) cv_X10_115 dX10_hand_65 rfl rfl (hc14 hnx) rfl rfl (Nat.le_of_ble_eq_true rfl) (rmR _ _ _) ⟨Nat.le_of_ble_eq_true rfl, Nat.le_of_ble_eq_true rfl⟩ rfl (c_X1_isOpen hnx hR (by omega) (fun r65 h65 => ?_))
            rcases h65 with ⟨rfl, h65⟩ | ⟨rfl, h65⟩
            · skip
              refine aw_if_ne (tgt := 74) dX10_hand_68 rfl (by decide) (fun _ => ?_) (fun c => absurd c (by decide))
              refine aw_aload dX10_hand_74 rfl ?_
              refine aw_iload_n dX10_hand_76 rfl ?_
              refine aw_callV (As := [_]) (ρ := (_, 0, 0)) (kn' := (0, 0)) cv_X10_118 dX10_hand_77 rfl rfl (hc14 hnx) rfl rfl (Nat.le_of_ble_eq_true rfl) (rmR _ _ _) ⟨Nat.le_of_ble_eq_true rfl, Nat.le_of_ble_eq_true rfl⟩ rfl (c_X1_remains hnx hR (by omega) (fun r77 h77 => ?_))
              have rm := hI.rem (l := l) (by omega)
              have am := hI.am (l := l) (by omega)
              have l1 := hI.li (l := l) (by omega)
              refine aw_iload_n dX10_hand_80 rfl ?_
              refine aw_icmp_ge (tgt := 87) dX10_hand_81 rfl (by omega) (fun c81 => ?_) (fun c81 => ?_)
              · skip
                have acc : rHand S l i n = 0 := by simp only [rHand, isL, isI, isO, isN]; (repeat' split) <;> omega
                refine aw_aload_n dX10_hand_87 rfl ?_
                refine aw_getf fg_X10_33 dX10_hand_88 (hc0 hnx) rfl ?_
                refine aw_aload_n dX10_hand_91 rfl ?_
                refine aw_getf fg_X10_26 dX10_hand_92 (hc0 hnx) rfl ?_
                refine aw_callV (As := [_]) (ρ := (_, 29, 1248)) (kn' := (29, 1248)) cv_X10_99 dX10_hand_95 rfl rfl (hc38 hnx) rfl rfl (Nat.le_of_ble_eq_true rfl) (rmR _ _ _) ⟨Nat.le_of_ble_eq_true rfl, Nat.le_of_ble_eq_true rfl⟩ rfl (c_X0_remember hnx hz hW.1 hW.2.1 hW.2.2 (fun U2 G2 nx2 hnx hRem => ?_))
                have ro : rem S l = S 6 l - S 9 l := by unfold rem; rw [if_pos h65]
                refine aw_aload dX10_hand_98 rfl ?_
                refine aw_iload_n dX10_hand_100 rfl ?_
                refine aw_iload_n dX10_hand_101 rfl ?_
                refine aw_iload_n dX10_hand_102 rfl ?_
                refine aw_aload_n dX10_hand_103 rfl ?_
                refine aw_getf fg_X10_26 dX10_hand_104 (hc0 hnx) rfl ?_
                refine aw_getf fg_X10_142 dX10_hand_107 (hc9 hnx) rfl ?_
                refine aw_callV (As := [_, _, _, _]) (ρ := (_, 0, 0)) (kn' := (29, 1248)) cv_X10_145 dX10_hand_110 rfl rfl (hc14 hnx) rfl rfl (Nat.le_of_ble_eq_true rfl) (rmR _ _ _) ⟨Nat.le_of_ble_eq_true rfl, Nat.le_of_ble_eq_true rfl⟩ rfl (c_X1_handOn hnx hR (by omega) (by omega) (by omega) (by omega) (fun r110 h110 hR => ?_))
                subst h110
                exact aw_ireturn dX10_hand_113 rfl rfl ⟨Nat.le_of_ble_eq_true rfl, Nat.le_of_ble_eq_true rfl⟩ (hQ acc _ _ _ hnx hRem hR)
              · skip
                refine aw_bipush dX10_hand_84 rfl ?_
                exact aw_ireturn dX10_hand_86 rfl rfl ⟨Nat.le_of_ble_eq_true rfl, Nat.le_of_ble_eq_true rfl⟩ (hN _ (by simp only [rHand, isL, isI, isO, isN]; (repeat' split) <;> omega) (by omega))
            · skip
              refine aw_if_ne (tgt := 74) dX10_hand_68 rfl (by decide) (fun c => absurd c (by decide)) (fun _ => ?_)
              refine aw_bipush dX10_hand_71 rfl ?_
              exact aw_ireturn dX10_hand_73 rfl rfl ⟨Nat.le_of_ble_eq_true rfl, Nat.le_of_ble_eq_true rfl⟩ (hN _ (by simp only [rHand, isL, isI, isO, isN]; (repeat' split) <;> omega) (by omega))
          · skip
            refine aw_bipush dX10_hand_59 rfl ?_
            exact aw_ireturn dX10_hand_61 rfl rfl ⟨Nat.le_of_ble_eq_true rfl, Nat.le_of_ble_eq_true rfl⟩ (hN _ (by simp only [rHand, isL, isI, isO, isN]; (repeat' split) <;> omega) (by omega))
        · skip
          refine aw_iconst dX10_hand_47 ?_
          exact aw_ireturn dX10_hand_48 rfl rfl ⟨Nat.le_of_ble_eq_true rfl, Nat.le_of_ble_eq_true rfl⟩ (hN _ (by simp only [rHand, isL, isI, isO, isN]; (repeat' split) <;> omega) (by omega))
      · skip
        refine aw_if_eq (tgt := 47) dX10_hand_33 rfl (by decide) (fun _ => ?_) (fun c => absurd c (by decide))
        refine aw_iconst dX10_hand_47 ?_
        exact aw_ireturn dX10_hand_48 rfl rfl ⟨Nat.le_of_ble_eq_true rfl, Nat.le_of_ble_eq_true rfl⟩ (hN _ (by simp only [rHand, isL, isI, isO, isN]; (repeat' split) <;> omega) (by omega))
    · skip
      refine aw_if_eq (tgt := 47) dX10_hand_26 rfl (by decide) (fun _ => ?_) (fun c => absurd c (by decide))
      refine aw_iconst dX10_hand_47 ?_
      exact aw_ireturn dX10_hand_48 rfl rfl ⟨Nat.le_of_ble_eq_true rfl, Nat.le_of_ble_eq_true rfl⟩ (hN _ (by simp only [rHand, isL, isI, isO, isN]; (repeat' split) <;> omega) (by omega))
  · skip
    refine aw_if_eq (tgt := 47) dX10_hand_15 rfl (by decide) (fun _ => ?_) (fun c => absurd c (by decide))
    refine aw_iconst dX10_hand_47 ?_
    exact aw_ireturn dX10_hand_48 rfl rfl ⟨Nat.le_of_ble_eq_true rfl, Nat.le_of_ble_eq_true rfl⟩ (hN _ (by simp only [rHand, isL, isI, isO, isN]; (repeat' split) <;> omega) (by omega))

def rApply (S : St) (i o n : Int) : Int := if aWould S i o n < 0 then aWould S i o n else 0
theorem offer_60 {S : St} {i o n q w : Int} (h : 0 ≤ offer S i o n q w) : w < 60 := by
  unfold offer at h; split at h <;> omega

set_option maxHeartbeats 1000000 in
theorem c_X10_apply {Γ : GT} {S T U V : St} {G : Gw} {nx d : Nat} {Q : QT} (hnx : 52 ≤ nx) {i j n : Int} {c : Int} (hI : Inv c S) (hi : inI i) (hj : inI j) (hn : inI n) (hW : RW U nx) (hN : ∀ r, r = rApply S i j n → r ≠ 0 → Q (some (vi r)) (hp Γ S T U V G) nx) (hQ : rApply S i j n = 0 → ∀ U2 G2 nx2, 52 ≤ nx2 → Rem U U2 G G2 S nx nx2 → Rg (grS S i j (aWould S i j n)) → Q (some (vi (S 28 0))) (hp Γ (grS S i j (aWould S i j n)) T U2 V G2) nx2) : AM Γ MX10_apply (d + 6, 29, 1248) [rf Γ 0, vi i, vi j, vi n] (hp Γ S T U V G) nx Q := by
  refine am_of (by decide) (Nat.le_of_ble_eq_true rfl) (ls := [some (rf Γ 0), some _, some _, some _, none]) rfl ?_
  have hR := hI.R
  have i1 := hI.i1
  have hz : 0 ≤ S 28 0 ∧ S 28 0 ≤ 60 := i1.2.2.1
  have hkS : nS S = (S 28 0).toNat := rfl
  have hkI : nIm S = (S 27 0).toNat := rfl
  have hkO : nOr S = (S 26 0).toNat := rfl
  refine aw_aload_n dX10_apply_0 rfl ?_
  refine aw_getf fg_X10_26 dX10_apply_1 (hc0 hnx) rfl ?_
  refine aw_iload_n dX10_apply_4 rfl ?_
  refine aw_iload_n dX10_apply_5 rfl ?_
  refine aw_callV (As := [_, _]) (ρ := (_, 0, 0)) (kn' := (0, 0)) cv_X10_87 dX10_apply_6 rfl rfl (hc9 hnx) rfl rfl (Nat.le_of_ble_eq_true rfl) (rmR _ _ _) ⟨Nat.le_of_ble_eq_true rfl, Nat.le_of_ble_eq_true rfl⟩ rfl (c_X7_hasPair hnx hR (by omega) (fun r6 h6 => ?_))
  rcases h6 with ⟨rfl, h6⟩ | ⟨rfl, h6⟩
  · skip
    refine aw_if_eq (tgt := 19) dX10_apply_9 rfl (by decide) (fun c => absurd c (by decide)) (fun _ => ?_)
    refine aw_iload_n dX10_apply_12 rfl ?_
    refine aw_callS (As := [_]) (ρ := (_, 0, 0)) (kn' := (0, 0)) cs_X10_91 dX10_apply_13 rfl rfl (Nat.le_of_ble_eq_true rfl) (rmR _ _ _) ⟨Nat.le_of_ble_eq_true rfl, Nat.le_of_ble_eq_true rfl⟩ rfl (c_X10_isAmount hnx (by omega) (fun r13 h13 => ?_))
    rcases h13 with ⟨rfl, h13⟩ | ⟨rfl, h13⟩
    · skip
      refine aw_if_ne (tgt := 21) dX10_apply_16 rfl (by decide) (fun _ => ?_) (fun c => absurd c (by decide))
      refine aw_aload_n dX10_apply_21 rfl ?_
      refine aw_getf fg_X10_26 dX10_apply_22 (hc0 hnx) rfl ?_
      refine aw_iload_n dX10_apply_25 rfl ?_
      refine aw_iload_n dX10_apply_26 rfl ?_
      refine aw_iload_n dX10_apply_27 rfl ?_
      refine aw_callV (As := [_, _, _]) (ρ := (_, 0, 0)) (kn' := (0, 0)) cv_X10_95 dX10_apply_28 rfl rfl (hc9 hnx) rfl rfl (Nat.le_of_ble_eq_true rfl) (rmR _ _ _) ⟨Nat.le_of_ble_eq_true rfl, Nat.le_of_ble_eq_true rfl⟩ rfl (c_X7_offerNow hnx hI (by omega) (by omega) (by omega) (fun r28 h28 => ?_))
      refine aw_istore (ls' := [some (rf Γ 0), some _, some _, some _, some _]) dX10_apply_31 (by decide) rfl ?_
      have ew : aWould S i j n = r28 := by unfold aWould; rw [if_pos (by simp only [isI, isO, isN]; omega)]; omega
      have of := offer_in S i j n (S 14 (j * 8 + 3)) (S 28 0) (by omega) (hI.pr (i := i) (o := j) (by omega) (by omega)).2.2.1
      refine aw_iload dX10_apply_33 rfl ?_
      refine aw_if_ge (tgt := 41) dX10_apply_35 rfl (by omega) (fun c35 => ?_) (fun c35 => ?_)
      · skip
        have acc : rApply S i j n = 0 := by simp only [rApply, isL, isI, isO, isN]; (repeat' split) <;> omega
        have hq60 := offer_60 (S := S) (i := i) (o := j) (n := n) (q := S 14 (j * 8 + 3)) (w := S 28 0) (by omega)
        refine aw_aload_n dX10_apply_41 rfl ?_
        refine aw_getf fg_X10_33 dX10_apply_42 (hc0 hnx) rfl ?_
        refine aw_aload_n dX10_apply_45 rfl ?_
        refine aw_getf fg_X10_26 dX10_apply_46 (hc0 hnx) rfl ?_
        refine aw_callV (As := [_]) (ρ := (_, 29, 1248)) (kn' := (29, 1248)) cv_X10_99 dX10_apply_49 rfl rfl (hc38 hnx) rfl rfl (Nat.le_of_ble_eq_true rfl) (rmR _ _ _) ⟨Nat.le_of_ble_eq_true rfl, Nat.le_of_ble_eq_true rfl⟩ rfl (c_X0_remember hnx hz hW.1 hW.2.1 hW.2.2 (fun U2 G2 nx2 hnx hRem => ?_))
        rw [ew] at hQ
        refine aw_aload_n dX10_apply_52 rfl ?_
        refine aw_getf fg_X10_26 dX10_apply_53 (hc0 hnx) rfl ?_
        refine aw_iload_n dX10_apply_56 rfl ?_
        refine aw_iload_n dX10_apply_57 rfl ?_
        refine aw_iload dX10_apply_58 rfl ?_
        refine aw_callV (As := [_, _, _]) (ρ := (_, 0, 0)) (kn' := (29, 1248)) cv_X10_103 dX10_apply_60 rfl rfl (hc9 hnx) rfl rfl (Nat.le_of_ble_eq_true rfl) (rmR _ _ _) ⟨Nat.le_of_ble_eq_true rfl, Nat.le_of_ble_eq_true rfl⟩ rfl (c_X7_grant hnx hI (by omega) (by omega) (by omega) (by omega) (fun r60 h60 hR => ?_))
        subst h60
        exact aw_ireturn dX10_apply_63 rfl rfl ⟨Nat.le_of_ble_eq_true rfl, Nat.le_of_ble_eq_true rfl⟩ (hQ acc _ _ _ hnx hRem hR)
      · skip
        refine aw_iload dX10_apply_38 rfl ?_
        exact aw_ireturn dX10_apply_40 rfl rfl ⟨Nat.le_of_ble_eq_true rfl, Nat.le_of_ble_eq_true rfl⟩ (hN _ (by simp only [rApply, isL, isI, isO, isN]; (repeat' split) <;> omega) (by omega))
    · skip
      refine aw_if_ne (tgt := 21) dX10_apply_16 rfl (by decide) (fun c => absurd c (by decide)) (fun _ => ?_)
      have aw1 : aWould S i j n = -1 := by unfold aWould; rw [if_neg (by simp only [isI, isO, isN]; omega)]
      refine aw_iconst dX10_apply_19 ?_
      exact aw_ireturn dX10_apply_20 rfl rfl ⟨Nat.le_of_ble_eq_true rfl, Nat.le_of_ble_eq_true rfl⟩ (hN _ (by simp only [rApply, isL, isI, isO, isN]; (repeat' split) <;> omega) (by omega))
  · skip
    refine aw_if_eq (tgt := 19) dX10_apply_9 rfl (by decide) (fun _ => ?_) (fun c => absurd c (by decide))
    have aw1 : aWould S i j n = -1 := by unfold aWould; rw [if_neg (by simp only [isI, isO, isN]; omega)]
    refine aw_iconst dX10_apply_19 ?_
    exact aw_ireturn dX10_apply_20 rfl rfl ⟨Nat.le_of_ble_eq_true rfl, Nat.le_of_ble_eq_true rfl⟩ (hN _ (by simp only [rApply, isL, isI, isO, isN]; (repeat' split) <;> omega) (by omega))


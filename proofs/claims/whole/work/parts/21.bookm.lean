/-! what the acts make of a state -/
def closeS (S : St) (l h t : Int) : St := u1 (u1 S 10 l h) 11 l t
def cuS (S : St) (l t : Int) : St := if rem S l = 0 then closeS S l 1 t else S
def issS (S : St) (i o n t last g : Int) : St := u1 (u1 (u1 (u1 (u1 (u1 (u1 (u1 (u1 (u1 (u0 S 28 (S 28 0 + 1)) 4 (S 28 0) i) 5 (S 28 0) o) 6 (S 28 0) n) 7 (S 28 0) t) 8 (S 28 0) last) 12 (S 28 0) g) 9 (S 28 0) 0) 10 (S 28 0) 0) 11 (S 28 0) (-1)) 13 (S 28 0) 0
def handS (S : St) (l i n t : Int) : St := cuS (u1 (issS S i (S 5 l) n (S 7 l) (S 8 l) l) 6 l (S 6 l - n)) l t
def overS (S : St) (l j t : Int) : St := closeS (u1 (u1 (u1 (u1 (u1 (u1 S 6 l (S 6 l + S 6 j)) 9 l (S 9 l + S 9 j)) 13 l (S 13 l + S 13 j)) 6 j 0) 9 j 0) 13 j 0) j 1 t
/-- the part that was used of what has ended -/
def rateD (S : St) (i : Int) (n : Nat) : UInt64 := if 0 < allN S i n then FP.ddiv (FP.i2d (I (takN S i n))) (FP.i2d (I (allN S i n))) else 13830554455654793216

theorem rem_in {S : St} (hR : Rg S) (l : Int) : -4294967295 ≤ rem S l ∧ rem S l ≤ 4294967295 := by
  have h1 := hR 6 (by decide) l; have h2 := hR 9 (by decide) l
  unfold rem; split <;> omega

set_option maxHeartbeats 1000000 in
theorem c_X1_close {Γ : GT} {S T U V : St} {G : Gw} {nx d : Nat} {Q : QT} (hnx : 52 ≤ nx) {l h t : Int} (hR : Rg S) (hl : 0 ≤ l ∧ l < 60) (ht : inI h ∧ inI t) (hQ : Rg (closeS S l h t) → Q none (hp Γ (closeS S l h t) T U V G) nx) : AM Γ MX1_close (d, 0, 0) [rf Γ 14, vi l, vi h, vi t] (hp Γ S T U V G) nx Q := by
  refine am_of (by decide) (Nat.le_of_ble_eq_true rfl) (ls := [some (rf Γ 14), some _, some _, some _]) rfl ?_
  refine aw_aload_n dX1_close_0 rfl ?_
  refine aw_getf fg_X1_30 dX1_close_1 (hc14 hnx) rfl ?_
  refine aw_iload_n dX1_close_4 rfl ?_
  refine aw_iload_n dX1_close_5 rfl ?_
  refine aw_iastS dX1_close_6 (hc21 hnx) (by omega) (by decide) hR (by omega) (fun _ => hu21) (fun hR => ?_)
  refine aw_aload_n dX1_close_7 rfl ?_
  refine aw_getf fg_X1_33 dX1_close_8 (hc14 hnx) rfl ?_
  refine aw_iload_n dX1_close_11 rfl ?_
  refine aw_iload_n dX1_close_12 rfl ?_
  refine aw_iastS dX1_close_13 (hc22 hnx) (by omega) (by decide) hR (by omega) (fun _ => hu22) (fun hR => ?_)
  exact aw_return dX1_close_14 rfl ⟨Nat.le_refl _, Nat.le_refl _⟩ (hQ hR)

set_option maxHeartbeats 1000000 in
theorem c_X1_closeIfUsedUp {Γ : GT} {S T U V : St} {G : Gw} {nx d : Nat} {Q : QT} (hnx : 52 ≤ nx) {l t : Int} (hR : Rg S) (hl : 0 ≤ l ∧ l < 60) (ht : inI t) (hm : inI (rem S l)) (hQ : Rg (cuS S l t) → Q none (hp Γ (cuS S l t) T U V G) nx) : AM Γ MX1_closeIfUsedUp (d + 2, 0, 0) [rf Γ 14, vi l, vi t] (hp Γ S T U V G) nx Q := by
  refine am_of (by decide) (Nat.le_of_ble_eq_true rfl) (ls := [some (rf Γ 14), some _, some _]) rfl ?_
  refine aw_aload_n dX1_closeIfUsedUp_0 rfl ?_
  refine aw_iload_n dX1_closeIfUsedUp_1 rfl ?_
  refine aw_callV (As := [_]) (ρ := (_, 0, 0)) (kn' := (0, 0)) cv_X1_60 dX1_closeIfUsedUp_2 rfl rfl (hc14 hnx) rfl rfl (Nat.le_of_ble_eq_true rfl) (rmR _ _ _) ⟨Nat.le_refl _, Nat.le_refl _⟩ rfl (c_X1_remains hnx hR (by omega) (fun r2 h2 => ?_))
  refine aw_if_ne (tgt := 15) dX1_closeIfUsedUp_5 rfl (by omega) (fun c5 => ?_) (fun c5 => ?_)
  · skip
    first | rw [cuS, if_pos (c := rem S l = 0) (by omega)] at hQ | rw [cuS, if_neg (c := rem S l = 0) (by omega)] at hQ
    exact aw_return dX1_closeIfUsedUp_15 rfl ⟨Nat.le_refl _, Nat.le_refl _⟩ (hQ hR)
  · skip
    refine aw_aload_n dX1_closeIfUsedUp_8 rfl ?_
    refine aw_iload_n dX1_closeIfUsedUp_9 rfl ?_
    refine aw_iconst dX1_closeIfUsedUp_10 ?_
    refine aw_iload_n dX1_closeIfUsedUp_11 rfl ?_
    refine aw_callV (As := [_, _, _]) (ρ := (_, 0, 0)) (kn' := (0, 0)) cv_X1_64 dX1_closeIfUsedUp_12 rfl rfl (hc14 hnx) rfl rfl (Nat.le_of_ble_eq_true rfl) (rmR _ _ _) ⟨Nat.le_refl _, Nat.le_refl _⟩ rfl (c_X1_close hnx hR (by omega) (by omega) (fun hR => ?_))
    first | rw [cuS, if_pos (c := rem S l = 0) (by omega)] at hQ | rw [cuS, if_neg (c := rem S l = 0) (by omega)] at hQ
    exact aw_return dX1_closeIfUsedUp_15 rfl ⟨Nat.le_refl _, Nat.le_refl _⟩ (hQ hR)

set_option maxHeartbeats 1000000 in
theorem c_X1_issue {Γ : GT} {S T U V : St} {G : Gw} {nx d : Nat} {Q : QT} (hnx : 52 ≤ nx) {i j n t x g : Int} (hR : Rg S) (hz : 0 ≤ S 28 0 ∧ S 28 0 < 60) (hi : inI i ∧ inI j ∧ inI n ∧ inI t ∧ inI x ∧ inI g) (hQ : ∀ r, r = S 28 0 → Rg (issS S i j n t x g) → Q (some (vi r)) (hp Γ (issS S i j n t x g) T U V G) nx) : AM Γ MX1_issue (d, 0, 0) [rf Γ 14, vi i, vi j, vi n, vi t, vi x, vi g] (hp Γ S T U V G) nx Q := by
  refine am_of (by decide) (Nat.le_of_ble_eq_true rfl) (ls := [some (rf Γ 14), some _, some _, some _, some _, some _, some _, none]) rfl ?_
  refine aw_aload_n dX1_issue_0 rfl ?_
  refine aw_getf fg_X1_42 dX1_issue_1 (hc14 hnx) rfl ?_
  refine aw_bipush dX1_issue_4 rfl ?_
  refine aw_icmp_lt (tgt := 11) dX1_issue_6 rfl (by omega) (fun c6 => ?_) (fun c6 => ?_)
  · skip
    refine aw_aload_n dX1_issue_11 rfl ?_
    refine aw_getf fg_X1_42 dX1_issue_12 (hc14 hnx) rfl ?_
    refine aw_nmI (fun x7_15 hx7_15 => ?_)
    refine aw_istore (ls' := [some (rf Γ 14), some _, some _, some _, some _, some _, some _, some _]) dX1_issue_15 (by decide) rfl ?_
    subst hx7_15
    refine aw_aload_n dX1_issue_17 rfl ?_
    refine aw_dup dX1_issue_18 rfl ?_
    refine aw_getf fg_X1_42 dX1_issue_19 (hc14 hnx) rfl ?_
    refine aw_iconst dX1_issue_22 ?_
    refine aw_iadd dX1_issue_23 ?_
    refine aw_putS fp_X1_42 dX1_issue_24 (hc14 hnx) (Nat.le_of_ble_eq_true rfl) hR (by omega) hu14_28 (fun hR => ?_)
    refine aw_aload_n dX1_issue_27 rfl ?_
    refine aw_getf fg_X1_9 dX1_issue_28 (hc14 hnx) rfl ?_
    refine aw_iload dX1_issue_31 rfl ?_
    refine aw_iload_n dX1_issue_33 rfl ?_
    refine aw_iastS dX1_issue_34 (hc15 hnx) (by omega) (by decide) hR (by omega) (fun _ => hu15) (fun hR => ?_)
    refine aw_aload_n dX1_issue_35 rfl ?_
    refine aw_getf fg_X1_15 dX1_issue_36 (hc14 hnx) rfl ?_
    refine aw_iload dX1_issue_39 rfl ?_
    refine aw_iload_n dX1_issue_41 rfl ?_
    refine aw_iastS dX1_issue_42 (hc16 hnx) (by omega) (by decide) hR (by omega) (fun _ => hu16) (fun hR => ?_)
    refine aw_aload_n dX1_issue_43 rfl ?_
    refine aw_getf fg_X1_18 dX1_issue_44 (hc14 hnx) rfl ?_
    refine aw_iload dX1_issue_47 rfl ?_
    refine aw_iload_n dX1_issue_49 rfl ?_
    refine aw_iastS dX1_issue_50 (hc17 hnx) (by omega) (by decide) hR (by omega) (fun _ => hu17) (fun hR => ?_)
    refine aw_aload_n dX1_issue_51 rfl ?_
    refine aw_getf fg_X1_21 dX1_issue_52 (hc14 hnx) rfl ?_
    refine aw_iload dX1_issue_55 rfl ?_
    refine aw_iload dX1_issue_57 rfl ?_
    refine aw_iastS dX1_issue_59 (hc18 hnx) (by omega) (by decide) hR (by omega) (fun _ => hu18) (fun hR => ?_)
    refine aw_aload_n dX1_issue_60 rfl ?_
    refine aw_getf fg_X1_24 dX1_issue_61 (hc14 hnx) rfl ?_
    refine aw_iload dX1_issue_64 rfl ?_
    refine aw_iload dX1_issue_66 rfl ?_
    refine aw_iastS dX1_issue_68 (hc19 hnx) (by omega) (by decide) hR (by omega) (fun _ => hu19) (fun hR => ?_)
    refine aw_aload_n dX1_issue_69 rfl ?_
    refine aw_getf fg_X1_36 dX1_issue_70 (hc14 hnx) rfl ?_
    refine aw_iload dX1_issue_73 rfl ?_
    refine aw_iload dX1_issue_75 rfl ?_
    refine aw_iastS dX1_issue_77 (hc23 hnx) (by omega) (by decide) hR (by omega) (fun _ => hu23) (fun hR => ?_)
    refine aw_aload_n dX1_issue_78 rfl ?_
    refine aw_getf fg_X1_27 dX1_issue_79 (hc14 hnx) rfl ?_
    refine aw_iload dX1_issue_82 rfl ?_
    refine aw_iconst dX1_issue_84 ?_
    refine aw_iastS dX1_issue_85 (hc20 hnx) (by omega) (by decide) hR (by omega) (fun _ => hu20) (fun hR => ?_)
    refine aw_aload_n dX1_issue_86 rfl ?_
    refine aw_getf fg_X1_30 dX1_issue_87 (hc14 hnx) rfl ?_
    refine aw_iload dX1_issue_90 rfl ?_
    refine aw_iconst dX1_issue_92 ?_
    refine aw_iastS dX1_issue_93 (hc21 hnx) (by omega) (by decide) hR (by omega) (fun _ => hu21) (fun hR => ?_)
    refine aw_aload_n dX1_issue_94 rfl ?_
    refine aw_getf fg_X1_33 dX1_issue_95 (hc14 hnx) rfl ?_
    refine aw_iload dX1_issue_98 rfl ?_
    refine aw_iconst dX1_issue_100 ?_
    refine aw_iastS dX1_issue_101 (hc22 hnx) (by omega) (by decide) hR (by omega) (fun _ => hu22) (fun hR => ?_)
    refine aw_aload_n dX1_issue_102 rfl ?_
    refine aw_getf fg_X1_39 dX1_issue_103 (hc14 hnx) rfl ?_
    refine aw_iload dX1_issue_106 rfl ?_
    refine aw_iconst dX1_issue_108 ?_
    refine aw_iastS dX1_issue_109 (hc24 hnx) (by omega) (by decide) hR (by omega) (fun _ => hu24) (fun hR => ?_)
    refine aw_iload dX1_issue_110 rfl ?_
    exact aw_ireturn dX1_issue_112 rfl rfl ⟨Nat.le_refl _, Nat.le_refl _⟩ (hQ _ rfl hR)
  · skip
    exact absurd c6 (by omega)

set_option maxHeartbeats 1000000 in
theorem c_X1_handOn {Γ : GT} {S T U V : St} {G : Gw} {nx d : Nat} {Q : QT} (hnx : 52 ≤ nx) {l i n t : Int} (hR : Rg S) (hz : 0 ≤ S 28 0 ∧ S 28 0 < 60) (hl : 0 ≤ l ∧ l < S 28 0) (hi : inI i ∧ inI n ∧ inI t ∧ inI (S 6 l - n)) (hm : inI (S 6 l - n - S 9 l)) (hQ : ∀ r, r = S 28 0 → Rg (handS S l i n t) → Q (some (vi r)) (hp Γ (handS S l i n t) T U V G) nx) : AM Γ MX1_handOn (d + 3, 0, 0) [rf Γ 14, vi l, vi i, vi n, vi t] (hp Γ S T U V G) nx Q := by
  refine am_of (by decide) (Nat.le_of_ble_eq_true rfl) (ls := [some (rf Γ 14), some _, some _, some _, some _, none]) rfl ?_
  refine aw_aload_n dX1_handOn_0 rfl ?_
  refine aw_iload_n dX1_handOn_1 rfl ?_
  refine aw_aload_n dX1_handOn_2 rfl ?_
  refine aw_getf fg_X1_15 dX1_handOn_3 (hc14 hnx) rfl ?_
  refine aw_iload_n dX1_handOn_6 rfl ?_
  refine aw_ialdr dX1_handOn_7 (hc16 hnx) (by omega) (by decide) (hR 5 (by decide)) (fun q7 => ?_)
  refine aw_iload_n dX1_handOn_8 rfl ?_
  refine aw_aload_n dX1_handOn_9 rfl ?_
  refine aw_getf fg_X1_21 dX1_handOn_10 (hc14 hnx) rfl ?_
  refine aw_iload_n dX1_handOn_13 rfl ?_
  refine aw_ialdr dX1_handOn_14 (hc18 hnx) (by omega) (by decide) (hR 7 (by decide)) (fun q14 => ?_)
  refine aw_aload_n dX1_handOn_15 rfl ?_
  refine aw_getf fg_X1_24 dX1_handOn_16 (hc14 hnx) rfl ?_
  refine aw_iload_n dX1_handOn_19 rfl ?_
  refine aw_ialdr dX1_handOn_20 (hc19 hnx) (by omega) (by decide) (hR 8 (by decide)) (fun q20 => ?_)
  refine aw_iload_n dX1_handOn_21 rfl ?_
  refine aw_callV (As := [_, _, _, _, _, _]) (ρ := (_, 0, 0)) (kn' := (0, 0)) cv_X1_68 dX1_handOn_22 rfl rfl (hc14 hnx) rfl rfl (Nat.le_of_ble_eq_true rfl) (rmR _ _ _) ⟨Nat.le_refl _, Nat.le_refl _⟩ rfl (c_X1_issue hnx hR (by omega) (by omega) (fun r22 h22 hR => ?_))
  refine aw_istore (ls' := [some (rf Γ 14), some _, some _, some _, some _, some _]) dX1_handOn_25 (by decide) rfl ?_
  refine aw_aload_n dX1_handOn_27 rfl ?_
  refine aw_getf fg_X1_18 dX1_handOn_28 (hc14 hnx) rfl ?_
  refine aw_iload_n dX1_handOn_31 rfl ?_
  refine aw_dup2_11 dX1_handOn_32 rfl rfl ?_
  have e6 : issS S i (S 5 l) n (S 7 l) (S 8 l) l 6 l = S 6 l := by simp only [issS, u1_at, u0_at]; simp; intro h; omega
  refine aw_ialdr dX1_handOn_33 (hc17 hnx) (by omega) (by decide) (hR 6 (by decide)) (fun q33 => ?_)
  refine aw_iload_n dX1_handOn_34 rfl ?_
  refine aw_isub dX1_handOn_35 ?_
  rw [e6]
  refine aw_iastS dX1_handOn_36 (hc17 hnx) (by omega) (by decide) hR (by omega) (fun _ => hu17) (fun hR => ?_)
  refine aw_aload_n dX1_handOn_37 rfl ?_
  refine aw_iload_n dX1_handOn_38 rfl ?_
  refine aw_iload dX1_handOn_39 rfl ?_
  have hm2 : inI (rem (u1 (issS S i (S 5 l) n (S 7 l) (S 8 l) l) 6 l (S 6 l - n)) l) := by
    have e9 : u1 (issS S i (S 5 l) n (S 7 l) (S 8 l) l) 6 l (S 6 l - n) 9 l = S 9 l := by simp only [issS, u1_at, u0_at]; simp; intro h; omega
    have e66 : u1 (issS S i (S 5 l) n (S 7 l) (S 8 l) l) 6 l (S 6 l - n) 6 l = S 6 l - n := by simp [u1_at]
    unfold rem; rw [e9, e66]; split <;> omega
  refine aw_callV (As := [_, _]) (ρ := (_, 0, 0)) (kn' := (0, 0)) cv_X1_72 dX1_handOn_41 rfl rfl (hc14 hnx) rfl rfl (Nat.le_of_ble_eq_true rfl) (rmR _ _ _) ⟨Nat.le_refl _, Nat.le_refl _⟩ rfl (c_X1_closeIfUsedUp hnx hR (by omega) (by omega) hm2 (fun hR => ?_))
  refine aw_iload dX1_handOn_44 rfl ?_
  exact aw_ireturn dX1_handOn_46 rfl rfl ⟨Nat.le_refl _, Nat.le_refl _⟩ (hQ _ (by omega) hR)

set_option maxHeartbeats 1000000 in
theorem c_X1_takeOver {Γ : GT} {S T U V : St} {G : Gw} {nx d : Nat} {Q : QT} (hnx : 52 ≤ nx) {l j t : Int} (hR : Rg S) (hl : (0 ≤ l ∧ l < 60) ∧ 0 ≤ j ∧ j < 60) (hlj : l ≠ j) (ht : inI t) (h1 : inI (S 6 l + S 6 j)) (h2 : inI (S 9 l + S 9 j)) (h3 : inI (S 13 l + S 13 j)) (hQ : Rg (overS S l j t) → Q none (hp Γ (overS S l j t) T U V G) nx) : AM Γ MX1_takeOver (d + 1, 0, 0) [rf Γ 14, vi l, vi j, vi t] (hp Γ S T U V G) nx Q := by
  refine am_of (by decide) (Nat.le_of_ble_eq_true rfl) (ls := [some (rf Γ 14), some _, some _, some _]) rfl ?_
  have hR0 := hR
  refine aw_aload_n dX1_takeOver_0 rfl ?_
  refine aw_getf fg_X1_18 dX1_takeOver_1 (hc14 hnx) rfl ?_
  refine aw_iload_n dX1_takeOver_4 rfl ?_
  refine aw_dup2_11 dX1_takeOver_5 rfl rfl ?_
  refine aw_ialdr dX1_takeOver_6 (hc17 hnx) (by omega) (by decide) (hR 6 (by decide)) (fun q6 => ?_)
  refine aw_aload_n dX1_takeOver_7 rfl ?_
  refine aw_getf fg_X1_18 dX1_takeOver_8 (hc14 hnx) rfl ?_
  refine aw_iload_n dX1_takeOver_11 rfl ?_
  refine aw_ialdr dX1_takeOver_12 (hc17 hnx) (by omega) (by decide) (hR 6 (by decide)) (fun q12 => ?_)
  refine aw_iadd dX1_takeOver_13 ?_
  refine aw_iastS dX1_takeOver_14 (hc17 hnx) (by omega) (by decide) hR (by omega) (fun _ => hu17) (fun hR => ?_)
  refine aw_aload_n dX1_takeOver_15 rfl ?_
  refine aw_getf fg_X1_27 dX1_takeOver_16 (hc14 hnx) rfl ?_
  refine aw_iload_n dX1_takeOver_19 rfl ?_
  refine aw_dup2_11 dX1_takeOver_20 rfl rfl ?_
  refine aw_ialdr dX1_takeOver_21 (hc20 hnx) (by omega) (by decide) (hR 9 (by decide)) (fun q21 => ?_)
  refine aw_st (st' := vi (S 9 l) :: _) rfl ?_
  refine aw_aload_n dX1_takeOver_22 rfl ?_
  refine aw_getf fg_X1_27 dX1_takeOver_23 (hc14 hnx) rfl ?_
  refine aw_iload_n dX1_takeOver_26 rfl ?_
  refine aw_ialdr dX1_takeOver_27 (hc20 hnx) (by omega) (by decide) (hR 9 (by decide)) (fun q27 => ?_)
  refine aw_st (st' := vi (S 9 j) :: _) rfl ?_
  refine aw_iadd dX1_takeOver_28 ?_
  refine aw_iastS dX1_takeOver_29 (hc20 hnx) (by omega) (by decide) hR (by omega) (fun _ => hu20) (fun hR => ?_)
  refine aw_aload_n dX1_takeOver_30 rfl ?_
  refine aw_getf fg_X1_39 dX1_takeOver_31 (hc14 hnx) rfl ?_
  refine aw_iload_n dX1_takeOver_34 rfl ?_
  refine aw_dup2_11 dX1_takeOver_35 rfl rfl ?_
  refine aw_ialdr dX1_takeOver_36 (hc24 hnx) (by omega) (by decide) (hR 13 (by decide)) (fun q36 => ?_)
  refine aw_st (st' := vi (S 13 l) :: _) rfl ?_
  refine aw_aload_n dX1_takeOver_37 rfl ?_
  refine aw_getf fg_X1_39 dX1_takeOver_38 (hc14 hnx) rfl ?_
  refine aw_iload_n dX1_takeOver_41 rfl ?_
  refine aw_ialdr dX1_takeOver_42 (hc24 hnx) (by omega) (by decide) (hR 13 (by decide)) (fun q42 => ?_)
  refine aw_st (st' := vi (S 13 j) :: _) rfl ?_
  refine aw_iadd dX1_takeOver_43 ?_
  refine aw_iastS dX1_takeOver_44 (hc24 hnx) (by omega) (by decide) hR (by omega) (fun _ => hu24) (fun hR => ?_)
  refine aw_aload_n dX1_takeOver_45 rfl ?_
  refine aw_getf fg_X1_18 dX1_takeOver_46 (hc14 hnx) rfl ?_
  refine aw_iload_n dX1_takeOver_49 rfl ?_
  refine aw_iconst dX1_takeOver_50 ?_
  refine aw_iastS dX1_takeOver_51 (hc17 hnx) (by omega) (by decide) hR (by omega) (fun _ => hu17) (fun hR => ?_)
  refine aw_aload_n dX1_takeOver_52 rfl ?_
  refine aw_getf fg_X1_27 dX1_takeOver_53 (hc14 hnx) rfl ?_
  refine aw_iload_n dX1_takeOver_56 rfl ?_
  refine aw_iconst dX1_takeOver_57 ?_
  refine aw_iastS dX1_takeOver_58 (hc20 hnx) (by omega) (by decide) hR (by omega) (fun _ => hu20) (fun hR => ?_)
  refine aw_aload_n dX1_takeOver_59 rfl ?_
  refine aw_getf fg_X1_39 dX1_takeOver_60 (hc14 hnx) rfl ?_
  refine aw_iload_n dX1_takeOver_63 rfl ?_
  refine aw_iconst dX1_takeOver_64 ?_
  refine aw_iastS dX1_takeOver_65 (hc24 hnx) (by omega) (by decide) hR (by omega) (fun _ => hu24) (fun hR => ?_)
  refine aw_aload_n dX1_takeOver_66 rfl ?_
  refine aw_iload_n dX1_takeOver_67 rfl ?_
  refine aw_iconst dX1_takeOver_68 ?_
  refine aw_iload_n dX1_takeOver_69 rfl ?_
  refine aw_callV (As := [_, _, _]) (ρ := (_, 0, 0)) (kn' := (0, 0)) cv_X1_64 dX1_takeOver_70 rfl rfl (hc14 hnx) rfl rfl (Nat.le_of_ble_eq_true rfl) (rmR _ _ _) ⟨Nat.le_refl _, Nat.le_refl _⟩ rfl (c_X1_close hnx hR (by omega) (by omega) (fun hR => ?_))
  exact aw_return dX1_takeOver_73 rfl ⟨Nat.le_refl _, Nat.le_refl _⟩ (hQ hR)


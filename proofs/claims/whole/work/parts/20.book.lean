theorem earI_in {S : St} (hR : Rg S) (i : Int) : ∀ n : Nat, inI (earI S i n)
  | 0 => by rw [earI]; exact ⟨by omega, by omega⟩
  | n + 1 => by have := earI_in hR i n; have := hR 8 (by decide) n; rw [earI]; split <;> omega
theorem lonI_in {S : St} (i t : Int) (ht : 0 ≤ t ∧ t ≤ 3600) (hI : ∀ l : Int, 0 ≤ l → l < S 28 0 → 0 ≤ S 7 l ∧ S 7 l ≤ 3600) : ∀ n : Nat, (n : Int) ≤ S 28 0 → -3600 ≤ lonI S i t n ∧ lonI S i t n ≤ 3601
  | 0, _ => by simp [lonI]
  | n + 1, h => by have := lonI_in i t ht hI n (by omega); have := hI n (by omega) (by omega); rw [lonI]; split <;> omega
set_option maxHeartbeats 1000000 in
theorem c_X1_has {Γ : GT} {S T U V : St} {G : Gw} {nx d : Nat} {Q : QT} (hnx : 52 ≤ nx) {l : Int} (hR : Rg S) (hl : inI l) (hQ : ∀ r, (r = 1 ∧ (0 ≤ l ∧ l < S 28 0) ∨ r = 0 ∧ ¬ (0 ≤ l ∧ l < S 28 0)) → Q (some (vi r)) (hp Γ S T U V G) nx) : AM Γ MX1_has (d, 0, 0) [rf Γ 14, vi l] (hp Γ S T U V G) nx Q := by
  refine am_of (by decide) (Nat.le_of_ble_eq_true rfl) (ls := [some (rf Γ 14), some _]) rfl ?_
  have r0 := hR 28 (by decide) 0
  refine aw_iload_n dX1_has_0 rfl ?_
  refine aw_if_lt (tgt := 16) dX1_has_1 rfl (by omega) (fun c1 => ?_) (fun c1 => ?_)
  · skip
    refine aw_iconst dX1_has_16 ?_
    exact aw_zreturn dX1_has_17 rfl (by omega) ⟨Nat.le_refl _, Nat.le_refl _⟩ (hQ _ (by omega))
  · skip
    refine aw_iload_n dX1_has_4 rfl ?_
    refine aw_aload_n dX1_has_5 rfl ?_
    refine aw_getf fg_X1_42 dX1_has_6 (hc14 hnx) rfl ?_
    refine aw_icmp_ge (tgt := 16) dX1_has_9 rfl (by omega) (fun c9 => ?_) (fun c9 => ?_)
    · skip
      refine aw_iconst dX1_has_16 ?_
      exact aw_zreturn dX1_has_17 rfl (by omega) ⟨Nat.le_refl _, Nat.le_refl _⟩ (hQ _ (by omega))
    · skip
      refine aw_iconst dX1_has_12 ?_
      refine aw_goto (tgt := 17) dX1_has_13 rfl ?_
      exact aw_zreturn dX1_has_17 rfl (by omega) ⟨Nat.le_refl _, Nat.le_refl _⟩ (hQ _ (by omega))

set_option maxHeartbeats 1000000 in
theorem c_X1_isOpen {Γ : GT} {S T U V : St} {G : Gw} {nx d : Nat} {Q : QT} (hnx : 52 ≤ nx) {l : Int} (hR : Rg S) (hl : 0 ≤ l ∧ l < 60) (hQ : ∀ r, (r = 1 ∧ (S 10 l = 0) ∨ r = 0 ∧ ¬ (S 10 l = 0)) → Q (some (vi r)) (hp Γ S T U V G) nx) : AM Γ MX1_isOpen (d, 0, 0) [rf Γ 14, vi l] (hp Γ S T U V G) nx Q := by
  refine am_of (by decide) (Nat.le_of_ble_eq_true rfl) (ls := [some (rf Γ 14), some _]) rfl ?_
  refine aw_aload_n dX1_isOpen_0 rfl ?_
  refine aw_getf fg_X1_30 dX1_isOpen_1 (hc14 hnx) rfl ?_
  refine aw_iload_n dX1_isOpen_4 rfl ?_
  refine aw_ialdr dX1_isOpen_5 (hc21 hnx) (by omega) (by decide) (hR 10 (by decide)) (fun q5 => ?_)
  refine aw_if_ne (tgt := 13) dX1_isOpen_6 rfl (by omega) (fun c6 => ?_) (fun c6 => ?_)
  · skip
    refine aw_iconst dX1_isOpen_13 ?_
    exact aw_zreturn dX1_isOpen_14 rfl (by omega) ⟨Nat.le_refl _, Nat.le_refl _⟩ (hQ _ (by omega))
  · skip
    refine aw_iconst dX1_isOpen_9 ?_
    refine aw_goto (tgt := 14) dX1_isOpen_10 rfl ?_
    exact aw_zreturn dX1_isOpen_14 rfl (by omega) ⟨Nat.le_refl _, Nat.le_refl _⟩ (hQ _ (by omega))

set_option maxHeartbeats 1000000 in
theorem c_X1_isFor {Γ : GT} {S T U V : St} {G : Gw} {nx d : Nat} {Q : QT} (hnx : 52 ≤ nx) {l i j : Int} (hR : Rg S) (hl : 0 ≤ l ∧ l < 60) (hij : inI i ∧ inI j) (hQ : ∀ r, (r = 1 ∧ (S 4 l = i ∧ S 5 l = j) ∨ r = 0 ∧ ¬ (S 4 l = i ∧ S 5 l = j)) → Q (some (vi r)) (hp Γ S T U V G) nx) : AM Γ MX1_isFor (d, 0, 0) [rf Γ 14, vi l, vi i, vi j] (hp Γ S T U V G) nx Q := by
  refine am_of (by decide) (Nat.le_of_ble_eq_true rfl) (ls := [some (rf Γ 14), some _, some _, some _]) rfl ?_
  refine aw_aload_n dX1_isFor_0 rfl ?_
  refine aw_getf fg_X1_9 dX1_isFor_1 (hc14 hnx) rfl ?_
  refine aw_iload_n dX1_isFor_4 rfl ?_
  refine aw_ialdr dX1_isFor_5 (hc15 hnx) (by omega) (by decide) (hR 4 (by decide)) (fun q5 => ?_)
  refine aw_iload_n dX1_isFor_6 rfl ?_
  refine aw_icmp_ne (tgt := 24) dX1_isFor_7 rfl (by omega) (fun c7 => ?_) (fun c7 => ?_)
  · skip
    refine aw_iconst dX1_isFor_24 ?_
    exact aw_zreturn dX1_isFor_25 rfl (by omega) ⟨Nat.le_refl _, Nat.le_refl _⟩ (hQ _ (by omega))
  · skip
    refine aw_aload_n dX1_isFor_10 rfl ?_
    refine aw_getf fg_X1_15 dX1_isFor_11 (hc14 hnx) rfl ?_
    refine aw_iload_n dX1_isFor_14 rfl ?_
    refine aw_ialdr dX1_isFor_15 (hc16 hnx) (by omega) (by decide) (hR 5 (by decide)) (fun q15 => ?_)
    refine aw_iload_n dX1_isFor_16 rfl ?_
    refine aw_icmp_ne (tgt := 24) dX1_isFor_17 rfl (by omega) (fun c17 => ?_) (fun c17 => ?_)
    · skip
      refine aw_iconst dX1_isFor_24 ?_
      exact aw_zreturn dX1_isFor_25 rfl (by omega) ⟨Nat.le_refl _, Nat.le_refl _⟩ (hQ _ (by omega))
    · skip
      refine aw_iconst dX1_isFor_20 ?_
      refine aw_goto (tgt := 25) dX1_isFor_21 rfl ?_
      exact aw_zreturn dX1_isFor_25 rfl (by omega) ⟨Nat.le_refl _, Nat.le_refl _⟩ (hQ _ (by omega))

set_option maxHeartbeats 1000000 in
theorem c_X1_remains {Γ : GT} {S T U V : St} {G : Gw} {nx d : Nat} {Q : QT} (hnx : 52 ≤ nx) {l : Int} (hR : Rg S) (hl : 0 ≤ l ∧ l < 60) (hQ : ∀ r, r = rem S l → Q (some (vi r)) (hp Γ S T U V G) nx) : AM Γ MX1_remains (d + 1, 0, 0) [rf Γ 14, vi l] (hp Γ S T U V G) nx Q := by
  refine am_of (by decide) (Nat.le_of_ble_eq_true rfl) (ls := [some (rf Γ 14), some _]) rfl ?_
  refine aw_aload_n dX1_remains_0 rfl ?_
  refine aw_iload_n dX1_remains_1 rfl ?_
  refine aw_callV (As := [_]) (ρ := (_, 0, 0)) (kn' := (0, 0)) cv_X1_52 dX1_remains_2 rfl rfl (hc14 hnx) rfl rfl (Nat.le_of_ble_eq_true rfl) (rmR _ _ _) ⟨Nat.le_refl _, Nat.le_refl _⟩ rfl (c_X1_isOpen hnx hR (by omega) (fun r2 h2 => ?_))
  rcases h2 with ⟨rfl, h2⟩ | ⟨rfl, h2⟩
  · skip
    refine aw_if_eq (tgt := 24) dX1_remains_5 rfl (by decide) (fun c => absurd c (by decide)) (fun _ => ?_)
    refine aw_aload_n dX1_remains_8 rfl ?_
    refine aw_getf fg_X1_18 dX1_remains_9 (hc14 hnx) rfl ?_
    refine aw_iload_n dX1_remains_12 rfl ?_
    refine aw_ialdr dX1_remains_13 (hc17 hnx) (by omega) (by decide) (hR 6 (by decide)) (fun q13 => ?_)
    refine aw_aload_n dX1_remains_14 rfl ?_
    refine aw_getf fg_X1_27 dX1_remains_15 (hc14 hnx) rfl ?_
    refine aw_iload_n dX1_remains_18 rfl ?_
    refine aw_ialdr dX1_remains_19 (hc20 hnx) (by omega) (by decide) (hR 9 (by decide)) (fun q19 => ?_)
    refine aw_isub dX1_remains_20 ?_
    refine aw_goto (tgt := 25) dX1_remains_21 rfl ?_
    exact aw_ireturn dX1_remains_25 rfl rfl ⟨Nat.le_refl _, Nat.le_refl _⟩ (hQ _ (by simp only [rem]; split <;> omega))
  · skip
    refine aw_if_eq (tgt := 24) dX1_remains_5 rfl (by decide) (fun _ => ?_) (fun c => absurd c (by decide))
    refine aw_iconst dX1_remains_24 ?_
    exact aw_ireturn dX1_remains_25 rfl rfl ⟨Nat.le_refl _, Nat.le_refl _⟩ (hQ _ (by simp only [rem]; split <;> omega))

set_option maxHeartbeats 1000000 in
theorem c_X1_areAlike {Γ : GT} {S T U V : St} {G : Gw} {nx d : Nat} {Q : QT} (hnx : 52 ≤ nx) {l j : Int} (hR : Rg S) (hl : (0 ≤ l ∧ l < 60) ∧ 0 ≤ j ∧ j < 60) (hQ : ∀ r, (r = 1 ∧ (S 4 l = S 4 j ∧ S 5 l = S 5 j ∧ S 7 l = S 7 j ∧ S 8 l = S 8 j) ∨ r = 0 ∧ ¬ (S 4 l = S 4 j ∧ S 5 l = S 5 j ∧ S 7 l = S 7 j ∧ S 8 l = S 8 j)) → Q (some (vi r)) (hp Γ S T U V G) nx) : AM Γ MX1_areAlike (d + 1, 0, 0) [rf Γ 14, vi l, vi j] (hp Γ S T U V G) nx Q := by
  refine am_of (by decide) (Nat.le_of_ble_eq_true rfl) (ls := [some (rf Γ 14), some _, some _]) rfl ?_
  refine aw_aload_n dX1_areAlike_0 rfl ?_
  refine aw_iload_n dX1_areAlike_1 rfl ?_
  refine aw_aload_n dX1_areAlike_2 rfl ?_
  refine aw_getf fg_X1_9 dX1_areAlike_3 (hc14 hnx) rfl ?_
  refine aw_iload_n dX1_areAlike_6 rfl ?_
  refine aw_ialdr dX1_areAlike_7 (hc15 hnx) (by omega) (by decide) (hR 4 (by decide)) (fun q7 => ?_)
  refine aw_aload_n dX1_areAlike_8 rfl ?_
  refine aw_getf fg_X1_15 dX1_areAlike_9 (hc14 hnx) rfl ?_
  refine aw_iload_n dX1_areAlike_12 rfl ?_
  refine aw_ialdr dX1_areAlike_13 (hc16 hnx) (by omega) (by decide) (hR 5 (by decide)) (fun q13 => ?_)
  refine aw_callV (As := [_, _, _]) (ρ := (_, 0, 0)) (kn' := (0, 0)) cv_X1_56 dX1_areAlike_14 rfl rfl (hc14 hnx) rfl rfl (Nat.le_of_ble_eq_true rfl) (rmR _ _ _) ⟨Nat.le_refl _, Nat.le_refl _⟩ rfl (c_X1_isFor hnx hR (by omega) (by omega) (fun r14 h14 => ?_))
  rcases h14 with ⟨rfl, h14⟩ | ⟨rfl, h14⟩
  · skip
    refine aw_if_eq (tgt := 54) dX1_areAlike_17 rfl (by decide) (fun c => absurd c (by decide)) (fun _ => ?_)
    refine aw_aload_n dX1_areAlike_20 rfl ?_
    refine aw_getf fg_X1_21 dX1_areAlike_21 (hc14 hnx) rfl ?_
    refine aw_iload_n dX1_areAlike_24 rfl ?_
    refine aw_ialdr dX1_areAlike_25 (hc18 hnx) (by omega) (by decide) (hR 7 (by decide)) (fun q25 => ?_)
    refine aw_aload_n dX1_areAlike_26 rfl ?_
    refine aw_getf fg_X1_21 dX1_areAlike_27 (hc14 hnx) rfl ?_
    refine aw_iload_n dX1_areAlike_30 rfl ?_
    refine aw_ialdr dX1_areAlike_31 (hc18 hnx) (by omega) (by decide) (hR 7 (by decide)) (fun q31 => ?_)
    refine aw_icmp_ne (tgt := 54) dX1_areAlike_32 rfl (by omega) (fun c32 => ?_) (fun c32 => ?_)
    · skip
      refine aw_iconst dX1_areAlike_54 ?_
      exact aw_zreturn dX1_areAlike_55 rfl (by omega) ⟨Nat.le_refl _, Nat.le_refl _⟩ (hQ _ (by omega))
    · skip
      refine aw_aload_n dX1_areAlike_35 rfl ?_
      refine aw_getf fg_X1_24 dX1_areAlike_36 (hc14 hnx) rfl ?_
      refine aw_iload_n dX1_areAlike_39 rfl ?_
      refine aw_ialdr dX1_areAlike_40 (hc19 hnx) (by omega) (by decide) (hR 8 (by decide)) (fun q40 => ?_)
      refine aw_aload_n dX1_areAlike_41 rfl ?_
      refine aw_getf fg_X1_24 dX1_areAlike_42 (hc14 hnx) rfl ?_
      refine aw_iload_n dX1_areAlike_45 rfl ?_
      refine aw_ialdr dX1_areAlike_46 (hc19 hnx) (by omega) (by decide) (hR 8 (by decide)) (fun q46 => ?_)
      refine aw_icmp_ne (tgt := 54) dX1_areAlike_47 rfl (by omega) (fun c47 => ?_) (fun c47 => ?_)
      · skip
        refine aw_iconst dX1_areAlike_54 ?_
        exact aw_zreturn dX1_areAlike_55 rfl (by omega) ⟨Nat.le_refl _, Nat.le_refl _⟩ (hQ _ (by omega))
      · skip
        refine aw_iconst dX1_areAlike_50 ?_
        refine aw_goto (tgt := 55) dX1_areAlike_51 rfl ?_
        exact aw_zreturn dX1_areAlike_55 rfl (by omega) ⟨Nat.le_refl _, Nat.le_refl _⟩ (hQ _ (by omega))
  · skip
    refine aw_if_eq (tgt := 54) dX1_areAlike_17 rfl (by decide) (fun _ => ?_) (fun c => absurd c (by decide))
    refine aw_iconst dX1_areAlike_54 ?_
    exact aw_zreturn dX1_areAlike_55 rfl (by omega) ⟨Nat.le_refl _, Nat.le_refl _⟩ (hQ _ (by omega))

set_option maxHeartbeats 1000000 in
theorem c_X1_wasOpenAfter {Γ : GT} {S T U V : St} {G : Gw} {nx d : Nat} {Q : QT} (hnx : 52 ≤ nx) {l j : Int} (hR : Rg S) (hl : 0 ≤ l ∧ l < 60) (hj : inI j) (hQ : ∀ r, (r = 1 ∧ (S 7 l ≤ j ∧ (S 10 l = 0 ∨ j < S 11 l)) ∨ r = 0 ∧ ¬ (S 7 l ≤ j ∧ (S 10 l = 0 ∨ j < S 11 l))) → Q (some (vi r)) (hp Γ S T U V G) nx) : AM Γ MX1_wasOpenAfter (d + 1, 0, 0) [rf Γ 14, vi l, vi j] (hp Γ S T U V G) nx Q := by
  refine am_of (by decide) (Nat.le_of_ble_eq_true rfl) (ls := [some (rf Γ 14), some _, some _]) rfl ?_
  refine aw_aload_n dX1_wasOpenAfter_0 rfl ?_
  refine aw_getf fg_X1_21 dX1_wasOpenAfter_1 (hc14 hnx) rfl ?_
  refine aw_iload_n dX1_wasOpenAfter_4 rfl ?_
  refine aw_ialdr dX1_wasOpenAfter_5 (hc18 hnx) (by omega) (by decide) (hR 7 (by decide)) (fun q5 => ?_)
  refine aw_iload_n dX1_wasOpenAfter_6 rfl ?_
  refine aw_icmp_gt (tgt := 32) dX1_wasOpenAfter_7 rfl (by omega) (fun c7 => ?_) (fun c7 => ?_)
  · skip
    refine aw_iconst dX1_wasOpenAfter_32 ?_
    exact aw_zreturn dX1_wasOpenAfter_33 rfl (by omega) ⟨Nat.le_refl _, Nat.le_refl _⟩ (hQ _ (by omega))
  · skip
    refine aw_aload_n dX1_wasOpenAfter_10 rfl ?_
    refine aw_iload_n dX1_wasOpenAfter_11 rfl ?_
    refine aw_callV (As := [_]) (ρ := (_, 0, 0)) (kn' := (0, 0)) cv_X1_52 dX1_wasOpenAfter_12 rfl rfl (hc14 hnx) rfl rfl (Nat.le_of_ble_eq_true rfl) (rmR _ _ _) ⟨Nat.le_refl _, Nat.le_refl _⟩ rfl (c_X1_isOpen hnx hR (by omega) (fun r12 h12 => ?_))
    rcases h12 with ⟨rfl, h12⟩ | ⟨rfl, h12⟩
    · skip
      refine aw_if_ne (tgt := 28) dX1_wasOpenAfter_15 rfl (by decide) (fun _ => ?_) (fun c => absurd c (by decide))
      refine aw_iconst dX1_wasOpenAfter_28 ?_
      refine aw_goto (tgt := 33) dX1_wasOpenAfter_29 rfl ?_
      exact aw_zreturn dX1_wasOpenAfter_33 rfl (by omega) ⟨Nat.le_refl _, Nat.le_refl _⟩ (hQ _ (by omega))
    · skip
      refine aw_if_ne (tgt := 28) dX1_wasOpenAfter_15 rfl (by decide) (fun c => absurd c (by decide)) (fun _ => ?_)
      refine aw_aload_n dX1_wasOpenAfter_18 rfl ?_
      refine aw_getf fg_X1_33 dX1_wasOpenAfter_19 (hc14 hnx) rfl ?_
      refine aw_iload_n dX1_wasOpenAfter_22 rfl ?_
      refine aw_ialdr dX1_wasOpenAfter_23 (hc22 hnx) (by omega) (by decide) (hR 11 (by decide)) (fun q23 => ?_)
      refine aw_iload_n dX1_wasOpenAfter_24 rfl ?_
      refine aw_icmp_le (tgt := 32) dX1_wasOpenAfter_25 rfl (by omega) (fun c25 => ?_) (fun c25 => ?_)
      · skip
        refine aw_iconst dX1_wasOpenAfter_32 ?_
        exact aw_zreturn dX1_wasOpenAfter_33 rfl (by omega) ⟨Nat.le_refl _, Nat.le_refl _⟩ (hQ _ (by omega))
      · skip
        refine aw_iconst dX1_wasOpenAfter_28 ?_
        refine aw_goto (tgt := 33) dX1_wasOpenAfter_29 rfl ?_
        exact aw_zreturn dX1_wasOpenAfter_33 rfl (by omega) ⟨Nat.le_refl _, Nat.le_refl _⟩ (hQ _ (by omega))

set_option maxHeartbeats 1000000 in
theorem c_X1_openOnes {Γ : GT} {S T U V : St} {G : Gw} {nx d : Nat} {Q : QT} (hnx : 52 ≤ nx) (hR : Rg S) (hz : 0 ≤ S 28 0 ∧ S 28 0 ≤ 60) (hQ : ∀ r, r = openN S (nS S) → Q (some (vi r)) (hp Γ S T U V G) nx) : AM Γ MX1_openOnes (d + 1, 0, 0) [rf Γ 14] (hp Γ S T U V G) nx Q := by
  refine am_of (by decide) (Nat.le_of_ble_eq_true rfl) (ls := [some (rf Γ 14), none, none]) rfl ?_
  have r0 := hR 28 (by decide) 0
  have hk0 : nS S = (S 28 0).toNat := rfl
  refine aw_iconst dX1_openOnes_0 ?_
  refine aw_istore_n (ls' := [some (rf Γ 14), some _, none]) dX1_openOnes_1 (by decide) rfl ?_
  refine aw_iconst dX1_openOnes_2 ?_
  refine aw_istore_n (ls' := [some (rf Γ 14), some _, some _]) dX1_openOnes_3 (by decide) rfl ?_
  refine loopN (nS S) (P := fun k => ∀ (x : Int) , x = openN S k →  AW Γ MX1_openOnes _ _ (0, 0) 4 [some (rf Γ 14), some (vi x), some (vi (k : Int))] [] (hp Γ S T U V G) nx) (fun k hk ih => ?_) 0 (Nat.zero_le _) _ rfl 
  intro x i4_0
  refine aw_iload_n dX1_openOnes_4 rfl ?_
  refine aw_aload_n dX1_openOnes_5 rfl ?_
  refine aw_getf fg_X1_42 dX1_openOnes_6 (hc14 hnx) rfl ?_
  refine aw_icmp_ge (tgt := 34) dX1_openOnes_9 rfl (by omega) (fun c9 => ?_) (fun c9 => ?_)
  · skip
    obtain rfl : k = nS S := by omega
    refine aw_iload_n dX1_openOnes_34 rfl ?_
    exact aw_ireturn dX1_openOnes_35 rfl rfl ⟨Nat.le_refl _, Nat.le_refl _⟩ (hQ _ (by omega))
  · skip
    refine aw_iload_n dX1_openOnes_12 rfl ?_
    refine aw_aload_n dX1_openOnes_13 rfl ?_
    refine aw_iload_n dX1_openOnes_14 rfl ?_
    refine aw_callV (As := [_]) (ρ := (_, 0, 0)) (kn' := (0, 0)) cv_X1_52 dX1_openOnes_15 rfl rfl (hc14 hnx) rfl rfl (Nat.le_of_ble_eq_true rfl) (rmR _ _ _) ⟨Nat.le_refl _, Nat.le_refl _⟩ rfl (c_X1_isOpen hnx hR (by omega) (fun r15 h15 => ?_))
    rcases h15 with ⟨rfl, h15⟩ | ⟨rfl, h15⟩
    · skip
      refine aw_if_eq (tgt := 25) dX1_openOnes_18 rfl (by decide) (fun c => absurd c (by decide)) (fun _ => ?_)
      refine aw_iconst dX1_openOnes_21 ?_
      refine aw_goto (tgt := 26) dX1_openOnes_22 rfl ?_
      refine aw_iadd dX1_openOnes_26 ?_
      refine aw_nmI (fun x1_27 hx1_27 => ?_)
      refine aw_istore_n (ls' := [some (rf Γ 14), some _, some _]) dX1_openOnes_27 (by decide) rfl ?_
      refine aw_iinc (ls' := [some (rf Γ 14), some _, some _]) dX1_openOnes_28 rfl (by decide) rfl ?_
      refine aw_goto (tgt := 4) dX1_openOnes_31 rfl ?_
      exact ih (by omega) x1_27  (by simp only [sm, openN] at i4_0 ⊢; split <;> omega)
    · skip
      refine aw_if_eq (tgt := 25) dX1_openOnes_18 rfl (by decide) (fun _ => ?_) (fun c => absurd c (by decide))
      refine aw_iconst dX1_openOnes_25 ?_
      refine aw_iadd dX1_openOnes_26 ?_
      refine aw_nmI (fun x1_27 hx1_27 => ?_)
      refine aw_istore_n (ls' := [some (rf Γ 14), some _, some _]) dX1_openOnes_27 (by decide) rfl ?_
      refine aw_iinc (ls' := [some (rf Γ 14), some _, some _]) dX1_openOnes_28 rfl (by decide) rfl ?_
      refine aw_goto (tgt := 4) dX1_openOnes_31 rfl ?_
      exact ih (by omega) x1_27  (by simp only [sm, openN] at i4_0 ⊢; split <;> omega)

set_option maxHeartbeats 1000000 in
theorem c_X1_openAhead {Γ : GT} {S T U V : St} {G : Gw} {nx d : Nat} {Q : QT} (hnx : 52 ≤ nx) {l : Int} (hR : Rg S) (hl : 0 ≤ l ∧ l < 60) (hz : 0 ≤ S 28 0 ∧ S 28 0 ≤ 60) (hQ : ∀ r, r = aheadN S l (nS S) → Q (some (vi r)) (hp Γ S T U V G) nx) : AM Γ MX1_openAhead (d + 1, 0, 0) [rf Γ 14, vi l] (hp Γ S T U V G) nx Q := by
  refine am_of (by decide) (Nat.le_of_ble_eq_true rfl) (ls := [some (rf Γ 14), some _, none, none, none]) rfl ?_
  have r0 := hR 28 (by decide) 0
  have hk0 : nS S = (S 28 0).toNat := rfl
  refine aw_iconst dX1_openAhead_0 ?_
  refine aw_istore_n (ls' := [some (rf Γ 14), some _, some _, none, none]) dX1_openAhead_1 (by decide) rfl ?_
  refine aw_iconst dX1_openAhead_2 ?_
  refine aw_istore_n (ls' := [some (rf Γ 14), some _, some _, some _, none]) dX1_openAhead_3 (by decide) rfl ?_
  refine loopN (nS S) (P := fun k => ∀ (x : Int) , x = aheadN S l k →  AW Γ MX1_openAhead _ _ (0, 0) 4 [some (rf Γ 14), some (vi l), some (vi x), some (vi (k : Int)), none] [] (hp Γ S T U V G) nx) (fun k hk ih => ?_) 0 (Nat.zero_le _) _ rfl 
  intro x i4_0
  refine aw_iload_n dX1_openAhead_4 rfl ?_
  refine aw_aload_n dX1_openAhead_5 rfl ?_
  refine aw_getf fg_X1_42 dX1_openAhead_6 (hc14 hnx) rfl ?_
  refine aw_icmp_ge (tgt := 81) dX1_openAhead_9 rfl (by omega) (fun c9 => ?_) (fun c9 => ?_)
  · skip
    obtain rfl : k = nS S := by omega
    refine aw_iload_n dX1_openAhead_81 rfl ?_
    exact aw_ireturn dX1_openAhead_82 rfl rfl ⟨Nat.le_refl _, Nat.le_refl _⟩ (hQ _ (by omega))
  · skip
    refine aw_aload_n dX1_openAhead_12 rfl ?_
    refine aw_getf fg_X1_24 dX1_openAhead_13 (hc14 hnx) rfl ?_
    refine aw_iload_n dX1_openAhead_16 rfl ?_
    refine aw_ialdr dX1_openAhead_17 (hc19 hnx) (by omega) (by decide) (hR 8 (by decide)) (fun q17 => ?_)
    refine aw_aload_n dX1_openAhead_18 rfl ?_
    refine aw_getf fg_X1_24 dX1_openAhead_19 (hc14 hnx) rfl ?_
    refine aw_iload_n dX1_openAhead_22 rfl ?_
    refine aw_ialdr dX1_openAhead_23 (hc19 hnx) (by omega) (by decide) (hR 8 (by decide)) (fun q23 => ?_)
    refine aw_icmp_lt (tgt := 47) dX1_openAhead_24 rfl (by omega) (fun c24 => ?_) (fun c24 => ?_)
    · skip
      refine aw_iconst dX1_openAhead_47 ?_
      refine aw_goto (tgt := 52) dX1_openAhead_48 rfl ?_
      refine aw_istore (ls' := [some (rf Γ 14), some _, some _, some _, some _]) dX1_openAhead_52 (by decide) rfl ?_
      refine aw_iload_n dX1_openAhead_54 rfl ?_
      refine aw_aload_n dX1_openAhead_55 rfl ?_
      refine aw_iload_n dX1_openAhead_56 rfl ?_
      refine aw_callV (As := [_]) (ρ := (_, 0, 0)) (kn' := (0, 0)) cv_X1_52 dX1_openAhead_57 rfl rfl (hc14 hnx) rfl rfl (Nat.le_of_ble_eq_true rfl) (rmR _ _ _) ⟨Nat.le_refl _, Nat.le_refl _⟩ rfl (c_X1_isOpen hnx hR (by omega) (fun r57 h57 => ?_))
      rcases h57 with ⟨rfl, h57⟩ | ⟨rfl, h57⟩
      · skip
        refine aw_if_eq (tgt := 72) dX1_openAhead_60 rfl (by decide) (fun c => absurd c (by decide)) (fun _ => ?_)
        refine aw_iload dX1_openAhead_63 rfl ?_
        refine aw_if_eq (tgt := 72) dX1_openAhead_65 rfl (by omega) (fun c65 => ?_) (fun c65 => ?_)
        · skip
          refine aw_iconst dX1_openAhead_72 ?_
          refine aw_iadd dX1_openAhead_73 ?_
          refine aw_nmI (fun x2_74 hx2_74 => ?_)
          refine aw_istore_n (ls' := [some (rf Γ 14), some _, some _, some _, some _]) dX1_openAhead_74 (by decide) rfl ?_
          refine aw_iinc (ls' := [some (rf Γ 14), some _, some _, some _, some _]) dX1_openAhead_75 rfl (by decide) rfl ?_
          refine aw_goto (tgt := 4) dX1_openAhead_78 rfl ?_
          refine aw_fg [true, true, true, true, false] (ls' := [some (rf Γ 14), some _, some _, some _, none]) rfl ?_
          exact ih (by omega) x2_74  (by simp only [sm, aheadN] at i4_0 ⊢; split <;> omega)
        · skip
          refine aw_iconst dX1_openAhead_68 ?_
          refine aw_goto (tgt := 73) dX1_openAhead_69 rfl ?_
          refine aw_iadd dX1_openAhead_73 ?_
          refine aw_nmI (fun x2_74 hx2_74 => ?_)
          refine aw_istore_n (ls' := [some (rf Γ 14), some _, some _, some _, some _]) dX1_openAhead_74 (by decide) rfl ?_
          refine aw_iinc (ls' := [some (rf Γ 14), some _, some _, some _, some _]) dX1_openAhead_75 rfl (by decide) rfl ?_
          refine aw_goto (tgt := 4) dX1_openAhead_78 rfl ?_
          refine aw_fg [true, true, true, true, false] (ls' := [some (rf Γ 14), some _, some _, some _, none]) rfl ?_
          exact ih (by omega) x2_74  (by simp only [sm, aheadN] at i4_0 ⊢; split <;> omega)
      · skip
        refine aw_if_eq (tgt := 72) dX1_openAhead_60 rfl (by decide) (fun _ => ?_) (fun c => absurd c (by decide))
        refine aw_iconst dX1_openAhead_72 ?_
        refine aw_iadd dX1_openAhead_73 ?_
        refine aw_nmI (fun x2_74 hx2_74 => ?_)
        refine aw_istore_n (ls' := [some (rf Γ 14), some _, some _, some _, some _]) dX1_openAhead_74 (by decide) rfl ?_
        refine aw_iinc (ls' := [some (rf Γ 14), some _, some _, some _, some _]) dX1_openAhead_75 rfl (by decide) rfl ?_
        refine aw_goto (tgt := 4) dX1_openAhead_78 rfl ?_
        refine aw_fg [true, true, true, true, false] (ls' := [some (rf Γ 14), some _, some _, some _, none]) rfl ?_
        exact ih (by omega) x2_74  (by simp only [sm, aheadN] at i4_0 ⊢; split <;> omega)
    · skip
      refine aw_aload_n dX1_openAhead_27 rfl ?_
      refine aw_getf fg_X1_24 dX1_openAhead_28 (hc14 hnx) rfl ?_
      refine aw_iload_n dX1_openAhead_31 rfl ?_
      refine aw_ialdr dX1_openAhead_32 (hc19 hnx) (by omega) (by decide) (hR 8 (by decide)) (fun q32 => ?_)
      refine aw_aload_n dX1_openAhead_33 rfl ?_
      refine aw_getf fg_X1_24 dX1_openAhead_34 (hc14 hnx) rfl ?_
      refine aw_iload_n dX1_openAhead_37 rfl ?_
      refine aw_ialdr dX1_openAhead_38 (hc19 hnx) (by omega) (by decide) (hR 8 (by decide)) (fun q38 => ?_)
      refine aw_icmp_ne (tgt := 51) dX1_openAhead_39 rfl (by omega) (fun c39 => ?_) (fun c39 => ?_)
      · skip
        refine aw_iconst dX1_openAhead_51 ?_
        refine aw_istore (ls' := [some (rf Γ 14), some _, some _, some _, some _]) dX1_openAhead_52 (by decide) rfl ?_
        refine aw_iload_n dX1_openAhead_54 rfl ?_
        refine aw_aload_n dX1_openAhead_55 rfl ?_
        refine aw_iload_n dX1_openAhead_56 rfl ?_
        refine aw_callV (As := [_]) (ρ := (_, 0, 0)) (kn' := (0, 0)) cv_X1_52 dX1_openAhead_57 rfl rfl (hc14 hnx) rfl rfl (Nat.le_of_ble_eq_true rfl) (rmR _ _ _) ⟨Nat.le_refl _, Nat.le_refl _⟩ rfl (c_X1_isOpen hnx hR (by omega) (fun r57 h57 => ?_))
        rcases h57 with ⟨rfl, h57⟩ | ⟨rfl, h57⟩
        · skip
          refine aw_if_eq (tgt := 72) dX1_openAhead_60 rfl (by decide) (fun c => absurd c (by decide)) (fun _ => ?_)
          refine aw_iload dX1_openAhead_63 rfl ?_
          refine aw_if_eq (tgt := 72) dX1_openAhead_65 rfl (by omega) (fun c65 => ?_) (fun c65 => ?_)
          · skip
            refine aw_iconst dX1_openAhead_72 ?_
            refine aw_iadd dX1_openAhead_73 ?_
            refine aw_nmI (fun x2_74 hx2_74 => ?_)
            refine aw_istore_n (ls' := [some (rf Γ 14), some _, some _, some _, some _]) dX1_openAhead_74 (by decide) rfl ?_
            refine aw_iinc (ls' := [some (rf Γ 14), some _, some _, some _, some _]) dX1_openAhead_75 rfl (by decide) rfl ?_
            refine aw_goto (tgt := 4) dX1_openAhead_78 rfl ?_
            refine aw_fg [true, true, true, true, false] (ls' := [some (rf Γ 14), some _, some _, some _, none]) rfl ?_
            exact ih (by omega) x2_74  (by simp only [sm, aheadN] at i4_0 ⊢; split <;> omega)
          · skip
            refine aw_iconst dX1_openAhead_68 ?_
            refine aw_goto (tgt := 73) dX1_openAhead_69 rfl ?_
            refine aw_iadd dX1_openAhead_73 ?_
            refine aw_nmI (fun x2_74 hx2_74 => ?_)
            refine aw_istore_n (ls' := [some (rf Γ 14), some _, some _, some _, some _]) dX1_openAhead_74 (by decide) rfl ?_
            refine aw_iinc (ls' := [some (rf Γ 14), some _, some _, some _, some _]) dX1_openAhead_75 rfl (by decide) rfl ?_
            refine aw_goto (tgt := 4) dX1_openAhead_78 rfl ?_
            refine aw_fg [true, true, true, true, false] (ls' := [some (rf Γ 14), some _, some _, some _, none]) rfl ?_
            exact ih (by omega) x2_74  (by simp only [sm, aheadN] at i4_0 ⊢; split <;> omega)
        · skip
          refine aw_if_eq (tgt := 72) dX1_openAhead_60 rfl (by decide) (fun _ => ?_) (fun c => absurd c (by decide))
          refine aw_iconst dX1_openAhead_72 ?_
          refine aw_iadd dX1_openAhead_73 ?_
          refine aw_nmI (fun x2_74 hx2_74 => ?_)
          refine aw_istore_n (ls' := [some (rf Γ 14), some _, some _, some _, some _]) dX1_openAhead_74 (by decide) rfl ?_
          refine aw_iinc (ls' := [some (rf Γ 14), some _, some _, some _, some _]) dX1_openAhead_75 rfl (by decide) rfl ?_
          refine aw_goto (tgt := 4) dX1_openAhead_78 rfl ?_
          refine aw_fg [true, true, true, true, false] (ls' := [some (rf Γ 14), some _, some _, some _, none]) rfl ?_
          exact ih (by omega) x2_74  (by simp only [sm, aheadN] at i4_0 ⊢; split <;> omega)
      · skip
        refine aw_iload_n dX1_openAhead_42 rfl ?_
        refine aw_iload_n dX1_openAhead_43 rfl ?_
        refine aw_icmp_ge (tgt := 51) dX1_openAhead_44 rfl (by omega) (fun c44 => ?_) (fun c44 => ?_)
        · skip
          refine aw_iconst dX1_openAhead_51 ?_
          refine aw_istore (ls' := [some (rf Γ 14), some _, some _, some _, some _]) dX1_openAhead_52 (by decide) rfl ?_
          refine aw_iload_n dX1_openAhead_54 rfl ?_
          refine aw_aload_n dX1_openAhead_55 rfl ?_
          refine aw_iload_n dX1_openAhead_56 rfl ?_
          refine aw_callV (As := [_]) (ρ := (_, 0, 0)) (kn' := (0, 0)) cv_X1_52 dX1_openAhead_57 rfl rfl (hc14 hnx) rfl rfl (Nat.le_of_ble_eq_true rfl) (rmR _ _ _) ⟨Nat.le_refl _, Nat.le_refl _⟩ rfl (c_X1_isOpen hnx hR (by omega) (fun r57 h57 => ?_))
          rcases h57 with ⟨rfl, h57⟩ | ⟨rfl, h57⟩
          · skip
            refine aw_if_eq (tgt := 72) dX1_openAhead_60 rfl (by decide) (fun c => absurd c (by decide)) (fun _ => ?_)
            refine aw_iload dX1_openAhead_63 rfl ?_
            refine aw_if_eq (tgt := 72) dX1_openAhead_65 rfl (by omega) (fun c65 => ?_) (fun c65 => ?_)
            · skip
              refine aw_iconst dX1_openAhead_72 ?_
              refine aw_iadd dX1_openAhead_73 ?_
              refine aw_nmI (fun x2_74 hx2_74 => ?_)
              refine aw_istore_n (ls' := [some (rf Γ 14), some _, some _, some _, some _]) dX1_openAhead_74 (by decide) rfl ?_
              refine aw_iinc (ls' := [some (rf Γ 14), some _, some _, some _, some _]) dX1_openAhead_75 rfl (by decide) rfl ?_
              refine aw_goto (tgt := 4) dX1_openAhead_78 rfl ?_
              refine aw_fg [true, true, true, true, false] (ls' := [some (rf Γ 14), some _, some _, some _, none]) rfl ?_
              exact ih (by omega) x2_74  (by simp only [sm, aheadN] at i4_0 ⊢; split <;> omega)
            · skip
              refine aw_iconst dX1_openAhead_68 ?_
              refine aw_goto (tgt := 73) dX1_openAhead_69 rfl ?_
              refine aw_iadd dX1_openAhead_73 ?_
              refine aw_nmI (fun x2_74 hx2_74 => ?_)
              refine aw_istore_n (ls' := [some (rf Γ 14), some _, some _, some _, some _]) dX1_openAhead_74 (by decide) rfl ?_
              refine aw_iinc (ls' := [some (rf Γ 14), some _, some _, some _, some _]) dX1_openAhead_75 rfl (by decide) rfl ?_
              refine aw_goto (tgt := 4) dX1_openAhead_78 rfl ?_
              refine aw_fg [true, true, true, true, false] (ls' := [some (rf Γ 14), some _, some _, some _, none]) rfl ?_
              exact ih (by omega) x2_74  (by simp only [sm, aheadN] at i4_0 ⊢; split <;> omega)
          · skip
            refine aw_if_eq (tgt := 72) dX1_openAhead_60 rfl (by decide) (fun _ => ?_) (fun c => absurd c (by decide))
            refine aw_iconst dX1_openAhead_72 ?_
            refine aw_iadd dX1_openAhead_73 ?_
            refine aw_nmI (fun x2_74 hx2_74 => ?_)
            refine aw_istore_n (ls' := [some (rf Γ 14), some _, some _, some _, some _]) dX1_openAhead_74 (by decide) rfl ?_
            refine aw_iinc (ls' := [some (rf Γ 14), some _, some _, some _, some _]) dX1_openAhead_75 rfl (by decide) rfl ?_
            refine aw_goto (tgt := 4) dX1_openAhead_78 rfl ?_
            refine aw_fg [true, true, true, true, false] (ls' := [some (rf Γ 14), some _, some _, some _, none]) rfl ?_
            exact ih (by omega) x2_74  (by simp only [sm, aheadN] at i4_0 ⊢; split <;> omega)
        · skip
          refine aw_iconst dX1_openAhead_47 ?_
          refine aw_goto (tgt := 52) dX1_openAhead_48 rfl ?_
          refine aw_istore (ls' := [some (rf Γ 14), some _, some _, some _, some _]) dX1_openAhead_52 (by decide) rfl ?_
          refine aw_iload_n dX1_openAhead_54 rfl ?_
          refine aw_aload_n dX1_openAhead_55 rfl ?_
          refine aw_iload_n dX1_openAhead_56 rfl ?_
          refine aw_callV (As := [_]) (ρ := (_, 0, 0)) (kn' := (0, 0)) cv_X1_52 dX1_openAhead_57 rfl rfl (hc14 hnx) rfl rfl (Nat.le_of_ble_eq_true rfl) (rmR _ _ _) ⟨Nat.le_refl _, Nat.le_refl _⟩ rfl (c_X1_isOpen hnx hR (by omega) (fun r57 h57 => ?_))
          rcases h57 with ⟨rfl, h57⟩ | ⟨rfl, h57⟩
          · skip
            refine aw_if_eq (tgt := 72) dX1_openAhead_60 rfl (by decide) (fun c => absurd c (by decide)) (fun _ => ?_)
            refine aw_iload dX1_openAhead_63 rfl ?_
            refine aw_if_eq (tgt := 72) dX1_openAhead_65 rfl (by omega) (fun c65 => ?_) (fun c65 => ?_)
            · skip
              refine aw_iconst dX1_openAhead_72 ?_
              refine aw_iadd dX1_openAhead_73 ?_
              refine aw_nmI (fun x2_74 hx2_74 => ?_)
              refine aw_istore_n (ls' := [some (rf Γ 14), some _, some _, some _, some _]) dX1_openAhead_74 (by decide) rfl ?_
              refine aw_iinc (ls' := [some (rf Γ 14), some _, some _, some _, some _]) dX1_openAhead_75 rfl (by decide) rfl ?_
              refine aw_goto (tgt := 4) dX1_openAhead_78 rfl ?_
              refine aw_fg [true, true, true, true, false] (ls' := [some (rf Γ 14), some _, some _, some _, none]) rfl ?_
              exact ih (by omega) x2_74  (by simp only [sm, aheadN] at i4_0 ⊢; split <;> omega)
            · skip
              refine aw_iconst dX1_openAhead_68 ?_
              refine aw_goto (tgt := 73) dX1_openAhead_69 rfl ?_
              refine aw_iadd dX1_openAhead_73 ?_
              refine aw_nmI (fun x2_74 hx2_74 => ?_)
              refine aw_istore_n (ls' := [some (rf Γ 14), some _, some _, some _, some _]) dX1_openAhead_74 (by decide) rfl ?_
              refine aw_iinc (ls' := [some (rf Γ 14), some _, some _, some _, some _]) dX1_openAhead_75 rfl (by decide) rfl ?_
              refine aw_goto (tgt := 4) dX1_openAhead_78 rfl ?_
              refine aw_fg [true, true, true, true, false] (ls' := [some (rf Γ 14), some _, some _, some _, none]) rfl ?_
              exact ih (by omega) x2_74  (by simp only [sm, aheadN] at i4_0 ⊢; split <;> omega)
          · skip
            refine aw_if_eq (tgt := 72) dX1_openAhead_60 rfl (by decide) (fun _ => ?_) (fun c => absurd c (by decide))
            refine aw_iconst dX1_openAhead_72 ?_
            refine aw_iadd dX1_openAhead_73 ?_
            refine aw_nmI (fun x2_74 hx2_74 => ?_)
            refine aw_istore_n (ls' := [some (rf Γ 14), some _, some _, some _, some _]) dX1_openAhead_74 (by decide) rfl ?_
            refine aw_iinc (ls' := [some (rf Γ 14), some _, some _, some _, some _]) dX1_openAhead_75 rfl (by decide) rfl ?_
            refine aw_goto (tgt := 4) dX1_openAhead_78 rfl ?_
            refine aw_fg [true, true, true, true, false] (ls' := [some (rf Γ 14), some _, some _, some _, none]) rfl ?_
            exact ih (by omega) x2_74  (by simp only [sm, aheadN] at i4_0 ⊢; split <;> omega)

set_option maxHeartbeats 1000000 in
theorem c_X1_endedLast {Γ : GT} {S T U V : St} {G : Gw} {nx d : Nat} {Q : QT} (hnx : 52 ≤ nx) {i j : Int} (hR : Rg S) (hij : inI i ∧ inI j) (hz : 0 ≤ S 28 0 ∧ S 28 0 ≤ 60) (hQ : ∀ r, r = endL S i j (nS S) → Q (some (vi r)) (hp Γ S T U V G) nx) : AM Γ MX1_endedLast (d + 1, 0, 0) [rf Γ 14, vi i, vi j] (hp Γ S T U V G) nx Q := by
  refine am_of (by decide) (Nat.le_of_ble_eq_true rfl) (ls := [some (rf Γ 14), some _, some _, none, none]) rfl ?_
  have r0 := hR 28 (by decide) 0
  have hk0 : nS S = (S 28 0).toNat := rfl
  refine aw_iconst dX1_endedLast_0 ?_
  refine aw_istore_n (ls' := [some (rf Γ 14), some _, some _, some _, none]) dX1_endedLast_1 (by decide) rfl ?_
  refine aw_iconst dX1_endedLast_2 ?_
  refine aw_istore (ls' := [some (rf Γ 14), some _, some _, some _, some _]) dX1_endedLast_3 (by decide) rfl ?_
  refine loopN (nS S) (P := fun k => ∀ (x : Int) , x = endL S i j k →  AW Γ MX1_endedLast _ _ (0, 0) 5 [some (rf Γ 14), some (vi i), some (vi j), some (vi x), some (vi (k : Int))] [] (hp Γ S T U V G) nx) (fun k hk ih => ?_) 0 (Nat.zero_le _) _ rfl 
  intro x i5_0
  refine aw_iload dX1_endedLast_5 rfl ?_
  refine aw_aload_n dX1_endedLast_7 rfl ?_
  refine aw_getf fg_X1_42 dX1_endedLast_8 (hc14 hnx) rfl ?_
  refine aw_icmp_ge (tgt := 64) dX1_endedLast_11 rfl (by omega) (fun c11 => ?_) (fun c11 => ?_)
  · skip
    obtain rfl : k = nS S := by omega
    refine aw_iload_n dX1_endedLast_64 rfl ?_
    exact aw_ireturn dX1_endedLast_65 rfl rfl ⟨Nat.le_refl _, Nat.le_refl _⟩ (hQ _ (by omega))
  · skip
    have he := endL_in S i j k
    refine aw_aload_n dX1_endedLast_14 rfl ?_
    refine aw_iload dX1_endedLast_15 rfl ?_
    refine aw_callV (As := [_]) (ρ := (_, 0, 0)) (kn' := (0, 0)) cv_X1_52 dX1_endedLast_17 rfl rfl (hc14 hnx) rfl rfl (Nat.le_of_ble_eq_true rfl) (rmR _ _ _) ⟨Nat.le_refl _, Nat.le_refl _⟩ rfl (c_X1_isOpen hnx hR (by omega) (fun r17 h17 => ?_))
    rcases h17 with ⟨rfl, h17⟩ | ⟨rfl, h17⟩
    · skip
      refine aw_if_ne (tgt := 58) dX1_endedLast_20 rfl (by decide) (fun _ => ?_) (fun c => absurd c (by decide))
      refine aw_iinc (ls' := [some (rf Γ 14), some _, some _, some _, some _]) dX1_endedLast_58 rfl (by decide) rfl ?_
      refine aw_goto (tgt := 5) dX1_endedLast_61 rfl ?_
      exact ih (by omega) x  (by subst i5_0; simp only [endL]; split <;> omega)
    · skip
      refine aw_if_ne (tgt := 58) dX1_endedLast_20 rfl (by decide) (fun c => absurd c (by decide)) (fun _ => ?_)
      refine aw_aload_n dX1_endedLast_23 rfl ?_
      refine aw_iload dX1_endedLast_24 rfl ?_
      refine aw_iload_n dX1_endedLast_26 rfl ?_
      refine aw_iload_n dX1_endedLast_27 rfl ?_
      refine aw_callV (As := [_, _, _]) (ρ := (_, 0, 0)) (kn' := (0, 0)) cv_X1_56 dX1_endedLast_28 rfl rfl (hc14 hnx) rfl rfl (Nat.le_of_ble_eq_true rfl) (rmR _ _ _) ⟨Nat.le_refl _, Nat.le_refl _⟩ rfl (c_X1_isFor hnx hR (by omega) (by omega) (fun r28 h28 => ?_))
      rcases h28 with ⟨rfl, h28⟩ | ⟨rfl, h28⟩
      · skip
        refine aw_if_eq (tgt := 58) dX1_endedLast_31 rfl (by decide) (fun c => absurd c (by decide)) (fun _ => ?_)
        refine aw_iload_n dX1_endedLast_34 rfl ?_
        refine aw_iconst dX1_endedLast_35 ?_
        refine aw_icmp_eq (tgt := 55) dX1_endedLast_36 rfl (by omega) (fun c36 => ?_) (fun c36 => ?_)
        · skip
          refine aw_iload dX1_endedLast_55 rfl ?_
          refine aw_istore_n (ls' := [some (rf Γ 14), some _, some _, some _, some _]) dX1_endedLast_57 (by decide) rfl ?_
          refine aw_iinc (ls' := [some (rf Γ 14), some _, some _, some _, some _]) dX1_endedLast_58 rfl (by decide) rfl ?_
          refine aw_goto (tgt := 5) dX1_endedLast_61 rfl ?_
          exact ih (by omega) (k : Int)  (by subst i5_0; simp only [endL]; split <;> omega)
        · skip
          refine aw_aload_n dX1_endedLast_39 rfl ?_
          refine aw_getf fg_X1_33 dX1_endedLast_40 (hc14 hnx) rfl ?_
          refine aw_iload dX1_endedLast_43 rfl ?_
          refine aw_ialdr dX1_endedLast_45 (hc22 hnx) (by omega) (by decide) (hR 11 (by decide)) (fun q45 => ?_)
          refine aw_aload_n dX1_endedLast_46 rfl ?_
          refine aw_getf fg_X1_33 dX1_endedLast_47 (hc14 hnx) rfl ?_
          refine aw_iload_n dX1_endedLast_50 rfl ?_
          refine aw_ialdr dX1_endedLast_51 (hc22 hnx) (by omega) (by decide) (hR 11 (by decide)) (fun q51 => ?_)
          refine aw_icmp_lt (tgt := 58) dX1_endedLast_52 rfl (by omega) (fun c52 => ?_) (fun c52 => ?_)
          · skip
            refine aw_iinc (ls' := [some (rf Γ 14), some _, some _, some _, some _]) dX1_endedLast_58 rfl (by decide) rfl ?_
            refine aw_goto (tgt := 5) dX1_endedLast_61 rfl ?_
            exact ih (by omega) x  (by subst i5_0; simp only [endL]; split <;> omega)
          · skip
            refine aw_iload dX1_endedLast_55 rfl ?_
            refine aw_istore_n (ls' := [some (rf Γ 14), some _, some _, some _, some _]) dX1_endedLast_57 (by decide) rfl ?_
            refine aw_iinc (ls' := [some (rf Γ 14), some _, some _, some _, some _]) dX1_endedLast_58 rfl (by decide) rfl ?_
            refine aw_goto (tgt := 5) dX1_endedLast_61 rfl ?_
            exact ih (by omega) (k : Int)  (by subst i5_0; simp only [endL]; split <;> omega)
      · skip
        refine aw_if_eq (tgt := 58) dX1_endedLast_31 rfl (by decide) (fun _ => ?_) (fun c => absurd c (by decide))
        refine aw_iinc (ls' := [some (rf Γ 14), some _, some _, some _, some _]) dX1_endedLast_58 rfl (by decide) rfl ?_
        refine aw_goto (tgt := 5) dX1_endedLast_61 rfl ?_
        exact ih (by omega) x  (by subst i5_0; simp only [endL]; split <;> omega)

set_option maxHeartbeats 1000000 in
theorem c_X1_usedBy {Γ : GT} {S T U V : St} {G : Gw} {nx d : Nat} {Q : QT} (hnx : 52 ≤ nx) {i j : Int} (hR : Rg S) (hij : inI i ∧ inI j) (hz : 0 ≤ S 28 0 ∧ S 28 0 ≤ 60) (hQ : ∀ r, r = ofN S 9 i j (nS S) → Q (some (vi r)) (hp Γ S T U V G) nx) : AM Γ MX1_usedBy (d + 1, 0, 0) [rf Γ 14, vi i, vi j] (hp Γ S T U V G) nx Q := by
  refine am_of (by decide) (Nat.le_of_ble_eq_true rfl) (ls := [some (rf Γ 14), some _, some _, none, none]) rfl ?_
  have r0 := hR 28 (by decide) 0
  have hk0 : nS S = (S 28 0).toNat := rfl
  refine aw_iconst dX1_usedBy_0 ?_
  refine aw_istore_n (ls' := [some (rf Γ 14), some _, some _, some _, none]) dX1_usedBy_1 (by decide) rfl ?_
  refine aw_iconst dX1_usedBy_2 ?_
  refine aw_istore (ls' := [some (rf Γ 14), some _, some _, some _, some _]) dX1_usedBy_3 (by decide) rfl ?_
  refine loopN (nS S) (P := fun k => ∀ (x : Int) , x = ofN S 9 i j k →  AW Γ MX1_usedBy _ _ (0, 0) 5 [some (rf Γ 14), some (vi i), some (vi j), some (vi x), some (vi (k : Int))] [] (hp Γ S T U V G) nx) (fun k hk ih => ?_) 0 (Nat.zero_le _) _ rfl 
  intro x i5_0
  refine aw_iload dX1_usedBy_5 rfl ?_
  refine aw_aload_n dX1_usedBy_7 rfl ?_
  refine aw_getf fg_X1_42 dX1_usedBy_8 (hc14 hnx) rfl ?_
  refine aw_icmp_ge (tgt := 45) dX1_usedBy_11 rfl (by omega) (fun c11 => ?_) (fun c11 => ?_)
  · skip
    obtain rfl : k = nS S := by omega
    refine aw_iload_n dX1_usedBy_45 rfl ?_
    exact aw_ireturn dX1_usedBy_46 rfl rfl ⟨Nat.le_refl _, Nat.le_refl _⟩ (hQ _ (by omega))
  · skip
    refine aw_iload_n dX1_usedBy_14 rfl ?_
    refine aw_aload_n dX1_usedBy_15 rfl ?_
    refine aw_iload dX1_usedBy_16 rfl ?_
    refine aw_iload_n dX1_usedBy_18 rfl ?_
    refine aw_iload_n dX1_usedBy_19 rfl ?_
    refine aw_callV (As := [_, _, _]) (ρ := (_, 0, 0)) (kn' := (0, 0)) cv_X1_56 dX1_usedBy_20 rfl rfl (hc14 hnx) rfl rfl (Nat.le_of_ble_eq_true rfl) (rmR _ _ _) ⟨Nat.le_refl _, Nat.le_refl _⟩ rfl (c_X1_isFor hnx hR (by omega) (by omega) (fun r20 h20 => ?_))
    rcases h20 with ⟨rfl, h20⟩ | ⟨rfl, h20⟩
    · skip
      refine aw_if_eq (tgt := 36) dX1_usedBy_23 rfl (by decide) (fun c => absurd c (by decide)) (fun _ => ?_)
      refine aw_aload_n dX1_usedBy_26 rfl ?_
      refine aw_getf fg_X1_27 dX1_usedBy_27 (hc14 hnx) rfl ?_
      refine aw_iload dX1_usedBy_30 rfl ?_
      refine aw_ialdr dX1_usedBy_32 (hc20 hnx) (by omega) (by decide) (hR 9 (by decide)) (fun q32 => ?_)
      refine aw_goto (tgt := 37) dX1_usedBy_33 rfl ?_
      refine aw_iadd dX1_usedBy_37 ?_
      refine aw_nmI (fun x3_38 hx3_38 => ?_)
      refine aw_istore_n (ls' := [some (rf Γ 14), some _, some _, some _, some _]) dX1_usedBy_38 (by decide) rfl ?_
      refine aw_iinc (ls' := [some (rf Γ 14), some _, some _, some _, some _]) dX1_usedBy_39 rfl (by decide) rfl ?_
      refine aw_goto (tgt := 5) dX1_usedBy_42 rfl ?_
      exact ih (by omega) x3_38  (by simp only [sm, ofN] at i5_0 ⊢; split <;> omega)
    · skip
      refine aw_if_eq (tgt := 36) dX1_usedBy_23 rfl (by decide) (fun _ => ?_) (fun c => absurd c (by decide))
      refine aw_iconst dX1_usedBy_36 ?_
      refine aw_iadd dX1_usedBy_37 ?_
      refine aw_nmI (fun x3_38 hx3_38 => ?_)
      refine aw_istore_n (ls' := [some (rf Γ 14), some _, some _, some _, some _]) dX1_usedBy_38 (by decide) rfl ?_
      refine aw_iinc (ls' := [some (rf Γ 14), some _, some _, some _, some _]) dX1_usedBy_39 rfl (by decide) rfl ?_
      refine aw_goto (tgt := 5) dX1_usedBy_42 rfl ?_
      exact ih (by omega) x3_38  (by simp only [sm, ofN] at i5_0 ⊢; split <;> omega)

set_option maxHeartbeats 1000000 in
theorem c_X1_waitedBy {Γ : GT} {S T U V : St} {G : Gw} {nx d : Nat} {Q : QT} (hnx : 52 ≤ nx) {i j : Int} (hR : Rg S) (hij : inI i ∧ inI j) (hz : 0 ≤ S 28 0 ∧ S 28 0 ≤ 60) (hQ : ∀ r, r = ofN S 13 i j (nS S) → Q (some (vi r)) (hp Γ S T U V G) nx) : AM Γ MX1_waitedBy (d + 1, 0, 0) [rf Γ 14, vi i, vi j] (hp Γ S T U V G) nx Q := by
  refine am_of (by decide) (Nat.le_of_ble_eq_true rfl) (ls := [some (rf Γ 14), some _, some _, none, none]) rfl ?_
  have r0 := hR 28 (by decide) 0
  have hk0 : nS S = (S 28 0).toNat := rfl
  refine aw_iconst dX1_waitedBy_0 ?_
  refine aw_istore_n (ls' := [some (rf Γ 14), some _, some _, some _, none]) dX1_waitedBy_1 (by decide) rfl ?_
  refine aw_iconst dX1_waitedBy_2 ?_
  refine aw_istore (ls' := [some (rf Γ 14), some _, some _, some _, some _]) dX1_waitedBy_3 (by decide) rfl ?_
  refine loopN (nS S) (P := fun k => ∀ (x : Int) , x = ofN S 13 i j k →  AW Γ MX1_waitedBy _ _ (0, 0) 5 [some (rf Γ 14), some (vi i), some (vi j), some (vi x), some (vi (k : Int))] [] (hp Γ S T U V G) nx) (fun k hk ih => ?_) 0 (Nat.zero_le _) _ rfl 
  intro x i5_0
  refine aw_iload dX1_waitedBy_5 rfl ?_
  refine aw_aload_n dX1_waitedBy_7 rfl ?_
  refine aw_getf fg_X1_42 dX1_waitedBy_8 (hc14 hnx) rfl ?_
  refine aw_icmp_ge (tgt := 45) dX1_waitedBy_11 rfl (by omega) (fun c11 => ?_) (fun c11 => ?_)
  · skip
    obtain rfl : k = nS S := by omega
    refine aw_iload_n dX1_waitedBy_45 rfl ?_
    exact aw_ireturn dX1_waitedBy_46 rfl rfl ⟨Nat.le_refl _, Nat.le_refl _⟩ (hQ _ (by omega))
  · skip
    refine aw_iload_n dX1_waitedBy_14 rfl ?_
    refine aw_aload_n dX1_waitedBy_15 rfl ?_
    refine aw_iload dX1_waitedBy_16 rfl ?_
    refine aw_iload_n dX1_waitedBy_18 rfl ?_
    refine aw_iload_n dX1_waitedBy_19 rfl ?_
    refine aw_callV (As := [_, _, _]) (ρ := (_, 0, 0)) (kn' := (0, 0)) cv_X1_56 dX1_waitedBy_20 rfl rfl (hc14 hnx) rfl rfl (Nat.le_of_ble_eq_true rfl) (rmR _ _ _) ⟨Nat.le_refl _, Nat.le_refl _⟩ rfl (c_X1_isFor hnx hR (by omega) (by omega) (fun r20 h20 => ?_))
    rcases h20 with ⟨rfl, h20⟩ | ⟨rfl, h20⟩
    · skip
      refine aw_if_eq (tgt := 36) dX1_waitedBy_23 rfl (by decide) (fun c => absurd c (by decide)) (fun _ => ?_)
      refine aw_aload_n dX1_waitedBy_26 rfl ?_
      refine aw_getf fg_X1_39 dX1_waitedBy_27 (hc14 hnx) rfl ?_
      refine aw_iload dX1_waitedBy_30 rfl ?_
      refine aw_ialdr dX1_waitedBy_32 (hc24 hnx) (by omega) (by decide) (hR 13 (by decide)) (fun q32 => ?_)
      refine aw_goto (tgt := 37) dX1_waitedBy_33 rfl ?_
      refine aw_iadd dX1_waitedBy_37 ?_
      refine aw_nmI (fun x3_38 hx3_38 => ?_)
      refine aw_istore_n (ls' := [some (rf Γ 14), some _, some _, some _, some _]) dX1_waitedBy_38 (by decide) rfl ?_
      refine aw_iinc (ls' := [some (rf Γ 14), some _, some _, some _, some _]) dX1_waitedBy_39 rfl (by decide) rfl ?_
      refine aw_goto (tgt := 5) dX1_waitedBy_42 rfl ?_
      exact ih (by omega) x3_38  (by simp only [sm, ofN] at i5_0 ⊢; split <;> omega)
    · skip
      refine aw_if_eq (tgt := 36) dX1_waitedBy_23 rfl (by decide) (fun _ => ?_) (fun c => absurd c (by decide))
      refine aw_iconst dX1_waitedBy_36 ?_
      refine aw_iadd dX1_waitedBy_37 ?_
      refine aw_nmI (fun x3_38 hx3_38 => ?_)
      refine aw_istore_n (ls' := [some (rf Γ 14), some _, some _, some _, some _]) dX1_waitedBy_38 (by decide) rfl ?_
      refine aw_iinc (ls' := [some (rf Γ 14), some _, some _, some _, some _]) dX1_waitedBy_39 rfl (by decide) rfl ?_
      refine aw_goto (tgt := 5) dX1_waitedBy_42 rfl ?_
      exact ih (by omega) x3_38  (by simp only [sm, ofN] at i5_0 ⊢; split <;> omega)

set_option maxHeartbeats 1000000 in
theorem c_X1_openOnesOf {Γ : GT} {S T U V : St} {G : Gw} {nx d : Nat} {Q : QT} (hnx : 52 ≤ nx) {i : Int} (hR : Rg S) (hij : inI i) (hz : 0 ≤ S 28 0 ∧ S 28 0 ≤ 60) (hQ : ∀ r, r = openI S i (nS S) → Q (some (vi r)) (hp Γ S T U V G) nx) : AM Γ MX1_openOnesOf (d + 1, 0, 0) [rf Γ 14, vi i] (hp Γ S T U V G) nx Q := by
  refine am_of (by decide) (Nat.le_of_ble_eq_true rfl) (ls := [some (rf Γ 14), some _, none, none]) rfl ?_
  have r0 := hR 28 (by decide) 0
  have hk0 : nS S = (S 28 0).toNat := rfl
  refine aw_iconst dX1_openOnesOf_0 ?_
  refine aw_istore_n (ls' := [some (rf Γ 14), some _, some _, none]) dX1_openOnesOf_1 (by decide) rfl ?_
  refine aw_iconst dX1_openOnesOf_2 ?_
  refine aw_istore_n (ls' := [some (rf Γ 14), some _, some _, some _]) dX1_openOnesOf_3 (by decide) rfl ?_
  refine loopN (nS S) (P := fun k => ∀ (x : Int) , x = openI S i k →  AW Γ MX1_openOnesOf _ _ (0, 0) 4 [some (rf Γ 14), some (vi i), some (vi x), some (vi (k : Int))] [] (hp Γ S T U V G) nx) (fun k hk ih => ?_) 0 (Nat.zero_le _) _ rfl 
  intro x i4_0
  refine aw_iload_n dX1_openOnesOf_4 rfl ?_
  refine aw_aload_n dX1_openOnesOf_5 rfl ?_
  refine aw_getf fg_X1_42 dX1_openOnesOf_6 (hc14 hnx) rfl ?_
  refine aw_icmp_ge (tgt := 44) dX1_openOnesOf_9 rfl (by omega) (fun c9 => ?_) (fun c9 => ?_)
  · skip
    obtain rfl : k = nS S := by omega
    refine aw_iload_n dX1_openOnesOf_44 rfl ?_
    exact aw_ireturn dX1_openOnesOf_45 rfl rfl ⟨Nat.le_refl _, Nat.le_refl _⟩ (hQ _ (by omega))
  · skip
    refine aw_iload_n dX1_openOnesOf_12 rfl ?_
    refine aw_aload_n dX1_openOnesOf_13 rfl ?_
    refine aw_iload_n dX1_openOnesOf_14 rfl ?_
    refine aw_callV (As := [_]) (ρ := (_, 0, 0)) (kn' := (0, 0)) cv_X1_52 dX1_openOnesOf_15 rfl rfl (hc14 hnx) rfl rfl (Nat.le_of_ble_eq_true rfl) (rmR _ _ _) ⟨Nat.le_refl _, Nat.le_refl _⟩ rfl (c_X1_isOpen hnx hR (by omega) (fun r15 h15 => ?_))
    rcases h15 with ⟨rfl, h15⟩ | ⟨rfl, h15⟩
    · skip
      refine aw_if_eq (tgt := 35) dX1_openOnesOf_18 rfl (by decide) (fun c => absurd c (by decide)) (fun _ => ?_)
      refine aw_aload_n dX1_openOnesOf_21 rfl ?_
      refine aw_getf fg_X1_9 dX1_openOnesOf_22 (hc14 hnx) rfl ?_
      refine aw_iload_n dX1_openOnesOf_25 rfl ?_
      refine aw_ialdr dX1_openOnesOf_26 (hc15 hnx) (by omega) (by decide) (hR 4 (by decide)) (fun q26 => ?_)
      refine aw_iload_n dX1_openOnesOf_27 rfl ?_
      refine aw_icmp_ne (tgt := 35) dX1_openOnesOf_28 rfl (by omega) (fun c28 => ?_) (fun c28 => ?_)
      · skip
        refine aw_iconst dX1_openOnesOf_35 ?_
        refine aw_iadd dX1_openOnesOf_36 ?_
        refine aw_nmI (fun x2_37 hx2_37 => ?_)
        refine aw_istore_n (ls' := [some (rf Γ 14), some _, some _, some _]) dX1_openOnesOf_37 (by decide) rfl ?_
        refine aw_iinc (ls' := [some (rf Γ 14), some _, some _, some _]) dX1_openOnesOf_38 rfl (by decide) rfl ?_
        refine aw_goto (tgt := 4) dX1_openOnesOf_41 rfl ?_
        exact ih (by omega) x2_37  (by simp only [sm, openI] at i4_0 ⊢; split <;> omega)
      · skip
        refine aw_iconst dX1_openOnesOf_31 ?_
        refine aw_goto (tgt := 36) dX1_openOnesOf_32 rfl ?_
        refine aw_iadd dX1_openOnesOf_36 ?_
        refine aw_nmI (fun x2_37 hx2_37 => ?_)
        refine aw_istore_n (ls' := [some (rf Γ 14), some _, some _, some _]) dX1_openOnesOf_37 (by decide) rfl ?_
        refine aw_iinc (ls' := [some (rf Γ 14), some _, some _, some _]) dX1_openOnesOf_38 rfl (by decide) rfl ?_
        refine aw_goto (tgt := 4) dX1_openOnesOf_41 rfl ?_
        exact ih (by omega) x2_37  (by simp only [sm, openI] at i4_0 ⊢; split <;> omega)
    · skip
      refine aw_if_eq (tgt := 35) dX1_openOnesOf_18 rfl (by decide) (fun _ => ?_) (fun c => absurd c (by decide))
      refine aw_iconst dX1_openOnesOf_35 ?_
      refine aw_iadd dX1_openOnesOf_36 ?_
      refine aw_nmI (fun x2_37 hx2_37 => ?_)
      refine aw_istore_n (ls' := [some (rf Γ 14), some _, some _, some _]) dX1_openOnesOf_37 (by decide) rfl ?_
      refine aw_iinc (ls' := [some (rf Γ 14), some _, some _, some _]) dX1_openOnesOf_38 rfl (by decide) rfl ?_
      refine aw_goto (tgt := 4) dX1_openOnesOf_41 rfl ?_
      exact ih (by omega) x2_37  (by simp only [sm, openI] at i4_0 ⊢; split <;> omega)

set_option maxHeartbeats 1000000 in
theorem c_X1_remainsOf {Γ : GT} {S T U V : St} {G : Gw} {nx d : Nat} {Q : QT} (hnx : 52 ≤ nx) {i : Int} (hR : Rg S) (hij : inI i) (hz : 0 ≤ S 28 0 ∧ S 28 0 ≤ 60) (hQ : ∀ r, r = remI S i (nS S) → Q (some (vi r)) (hp Γ S T U V G) nx) : AM Γ MX1_remainsOf (d + 2, 0, 0) [rf Γ 14, vi i] (hp Γ S T U V G) nx Q := by
  refine am_of (by decide) (Nat.le_of_ble_eq_true rfl) (ls := [some (rf Γ 14), some _, none, none]) rfl ?_
  have r0 := hR 28 (by decide) 0
  have hk0 : nS S = (S 28 0).toNat := rfl
  refine aw_iconst dX1_remainsOf_0 ?_
  refine aw_istore_n (ls' := [some (rf Γ 14), some _, some _, none]) dX1_remainsOf_1 (by decide) rfl ?_
  refine aw_iconst dX1_remainsOf_2 ?_
  refine aw_istore_n (ls' := [some (rf Γ 14), some _, some _, some _]) dX1_remainsOf_3 (by decide) rfl ?_
  refine loopN (nS S) (P := fun k => ∀ (x : Int) , x = remI S i k →  AW Γ MX1_remainsOf _ _ (0, 0) 4 [some (rf Γ 14), some (vi i), some (vi x), some (vi (k : Int))] [] (hp Γ S T U V G) nx) (fun k hk ih => ?_) 0 (Nat.zero_le _) _ rfl 
  intro x i4_0
  refine aw_iload_n dX1_remainsOf_4 rfl ?_
  refine aw_aload_n dX1_remainsOf_5 rfl ?_
  refine aw_getf fg_X1_42 dX1_remainsOf_6 (hc14 hnx) rfl ?_
  refine aw_icmp_ge (tgt := 40) dX1_remainsOf_9 rfl (by omega) (fun c9 => ?_) (fun c9 => ?_)
  · skip
    obtain rfl : k = nS S := by omega
    refine aw_iload_n dX1_remainsOf_40 rfl ?_
    exact aw_ireturn dX1_remainsOf_41 rfl rfl ⟨Nat.le_refl _, Nat.le_refl _⟩ (hQ _ (by omega))
  · skip
    refine aw_iload_n dX1_remainsOf_12 rfl ?_
    refine aw_aload_n dX1_remainsOf_13 rfl ?_
    refine aw_getf fg_X1_9 dX1_remainsOf_14 (hc14 hnx) rfl ?_
    refine aw_iload_n dX1_remainsOf_17 rfl ?_
    refine aw_ialdr dX1_remainsOf_18 (hc15 hnx) (by omega) (by decide) (hR 4 (by decide)) (fun q18 => ?_)
    refine aw_iload_n dX1_remainsOf_19 rfl ?_
    refine aw_icmp_ne (tgt := 31) dX1_remainsOf_20 rfl (by omega) (fun c20 => ?_) (fun c20 => ?_)
    · skip
      refine aw_iconst dX1_remainsOf_31 ?_
      refine aw_iadd dX1_remainsOf_32 ?_
      refine aw_nmI (fun x2_33 hx2_33 => ?_)
      refine aw_istore_n (ls' := [some (rf Γ 14), some _, some _, some _]) dX1_remainsOf_33 (by decide) rfl ?_
      refine aw_iinc (ls' := [some (rf Γ 14), some _, some _, some _]) dX1_remainsOf_34 rfl (by decide) rfl ?_
      refine aw_goto (tgt := 4) dX1_remainsOf_37 rfl ?_
      exact ih (by omega) x2_33  (by simp only [sm, remI] at i4_0 ⊢; split <;> omega)
    · skip
      refine aw_aload_n dX1_remainsOf_23 rfl ?_
      refine aw_iload_n dX1_remainsOf_24 rfl ?_
      refine aw_callV (As := [_]) (ρ := (_, 0, 0)) (kn' := (0, 0)) cv_X1_60 dX1_remainsOf_25 rfl rfl (hc14 hnx) rfl rfl (Nat.le_of_ble_eq_true rfl) (rmR _ _ _) ⟨Nat.le_refl _, Nat.le_refl _⟩ rfl (c_X1_remains hnx hR (by omega) (fun r25 h25 => ?_))
      refine aw_goto (tgt := 32) dX1_remainsOf_28 rfl ?_
      refine aw_iadd dX1_remainsOf_32 ?_
      refine aw_nmI (fun x2_33 hx2_33 => ?_)
      refine aw_istore_n (ls' := [some (rf Γ 14), some _, some _, some _]) dX1_remainsOf_33 (by decide) rfl ?_
      refine aw_iinc (ls' := [some (rf Γ 14), some _, some _, some _]) dX1_remainsOf_34 rfl (by decide) rfl ?_
      refine aw_goto (tgt := 4) dX1_remainsOf_37 rfl ?_
      exact ih (by omega) x2_33  (by simp only [sm, remI] at i4_0 ⊢; split <;> omega)

set_option maxHeartbeats 1000000 in
theorem c_X1_earliestLastDayOf {Γ : GT} {S T U V : St} {G : Gw} {nx d : Nat} {Q : QT} (hnx : 52 ≤ nx) {i : Int} (hR : Rg S) (hij : inI i) (hz : 0 ≤ S 28 0 ∧ S 28 0 ≤ 60) (hQ : ∀ r, r = earI S i (nS S) → Q (some (vi r)) (hp Γ S T U V G) nx) : AM Γ MX1_earliestLastDayOf (d + 1, 0, 0) [rf Γ 14, vi i] (hp Γ S T U V G) nx Q := by
  refine am_of (by decide) (Nat.le_of_ble_eq_true rfl) (ls := [some (rf Γ 14), some _, none, none]) rfl ?_
  have r0 := hR 28 (by decide) 0
  have hk0 : nS S = (S 28 0).toNat := rfl
  have hE := earI_in hR i
  refine aw_bipush dX1_earliestLastDayOf_0 rfl ?_
  refine aw_istore_n (ls' := [some (rf Γ 14), some _, some _, none]) dX1_earliestLastDayOf_2 (by decide) rfl ?_
  refine aw_iconst dX1_earliestLastDayOf_3 ?_
  refine aw_istore_n (ls' := [some (rf Γ 14), some _, some _, some _]) dX1_earliestLastDayOf_4 (by decide) rfl ?_
  refine loopN (nS S) (P := fun k => ∀ (x : Int) , x = earI S i k →  AW Γ MX1_earliestLastDayOf _ _ (0, 0) 5 [some (rf Γ 14), some (vi i), some (vi x), some (vi (k : Int))] [] (hp Γ S T U V G) nx) (fun k hk ih => ?_) 0 (Nat.zero_le _) _ rfl 
  intro x i5_0
  refine aw_iload_n dX1_earliestLastDayOf_5 rfl ?_
  refine aw_aload_n dX1_earliestLastDayOf_6 rfl ?_
  refine aw_getf fg_X1_42 dX1_earliestLastDayOf_7 (hc14 hnx) rfl ?_
  refine aw_icmp_ge (tgt := 58) dX1_earliestLastDayOf_10 rfl (by omega) (fun c10 => ?_) (fun c10 => ?_)
  · skip
    obtain rfl : k = nS S := by omega
    refine aw_iload_n dX1_earliestLastDayOf_58 rfl ?_
    exact aw_ireturn dX1_earliestLastDayOf_59 rfl rfl ⟨Nat.le_refl _, Nat.le_refl _⟩ (hQ _ (by omega))
  · skip
    have he := hE k
    refine aw_aload_n dX1_earliestLastDayOf_13 rfl ?_
    refine aw_iload_n dX1_earliestLastDayOf_14 rfl ?_
    refine aw_callV (As := [_]) (ρ := (_, 0, 0)) (kn' := (0, 0)) cv_X1_52 dX1_earliestLastDayOf_15 rfl rfl (hc14 hnx) rfl rfl (Nat.le_of_ble_eq_true rfl) (rmR _ _ _) ⟨Nat.le_refl _, Nat.le_refl _⟩ rfl (c_X1_isOpen hnx hR (by omega) (fun r15 h15 => ?_))
    rcases h15 with ⟨rfl, h15⟩ | ⟨rfl, h15⟩
    · skip
      refine aw_if_eq (tgt := 52) dX1_earliestLastDayOf_18 rfl (by decide) (fun c => absurd c (by decide)) (fun _ => ?_)
      refine aw_aload_n dX1_earliestLastDayOf_21 rfl ?_
      refine aw_getf fg_X1_9 dX1_earliestLastDayOf_22 (hc14 hnx) rfl ?_
      refine aw_iload_n dX1_earliestLastDayOf_25 rfl ?_
      refine aw_ialdr dX1_earliestLastDayOf_26 (hc15 hnx) (by omega) (by decide) (hR 4 (by decide)) (fun q26 => ?_)
      refine aw_iload_n dX1_earliestLastDayOf_27 rfl ?_
      refine aw_icmp_ne (tgt := 52) dX1_earliestLastDayOf_28 rfl (by omega) (fun c28 => ?_) (fun c28 => ?_)
      · skip
        refine aw_iinc (ls' := [some (rf Γ 14), some _, some _, some _]) dX1_earliestLastDayOf_52 rfl (by decide) rfl ?_
        refine aw_goto (tgt := 5) dX1_earliestLastDayOf_55 rfl ?_
        exact ih (by omega) x  (by subst i5_0; simp only [earI]; split <;> omega)
      · skip
        refine aw_iload_n dX1_earliestLastDayOf_31 rfl ?_
        refine aw_if_lt (tgt := 45) dX1_earliestLastDayOf_32 rfl (by omega) (fun c32 => ?_) (fun c32 => ?_)
        · skip
          refine aw_aload_n dX1_earliestLastDayOf_45 rfl ?_
          refine aw_getf fg_X1_24 dX1_earliestLastDayOf_46 (hc14 hnx) rfl ?_
          refine aw_iload_n dX1_earliestLastDayOf_49 rfl ?_
          refine aw_ialdr dX1_earliestLastDayOf_50 (hc19 hnx) (by omega) (by decide) (hR 8 (by decide)) (fun q50 => ?_)
          refine aw_nmI (fun x2_51 hx2_51 => ?_)
          refine aw_istore_n (ls' := [some (rf Γ 14), some _, some _, some _]) dX1_earliestLastDayOf_51 (by decide) rfl ?_
          refine aw_iinc (ls' := [some (rf Γ 14), some _, some _, some _]) dX1_earliestLastDayOf_52 rfl (by decide) rfl ?_
          refine aw_goto (tgt := 5) dX1_earliestLastDayOf_55 rfl ?_
          exact ih (by omega) x2_51  (by subst i5_0; simp only [earI]; split <;> omega)
        · skip
          refine aw_aload_n dX1_earliestLastDayOf_35 rfl ?_
          refine aw_getf fg_X1_24 dX1_earliestLastDayOf_36 (hc14 hnx) rfl ?_
          refine aw_iload_n dX1_earliestLastDayOf_39 rfl ?_
          refine aw_ialdr dX1_earliestLastDayOf_40 (hc19 hnx) (by omega) (by decide) (hR 8 (by decide)) (fun q40 => ?_)
          refine aw_iload_n dX1_earliestLastDayOf_41 rfl ?_
          refine aw_icmp_ge (tgt := 52) dX1_earliestLastDayOf_42 rfl (by omega) (fun c42 => ?_) (fun c42 => ?_)
          · skip
            refine aw_iinc (ls' := [some (rf Γ 14), some _, some _, some _]) dX1_earliestLastDayOf_52 rfl (by decide) rfl ?_
            refine aw_goto (tgt := 5) dX1_earliestLastDayOf_55 rfl ?_
            exact ih (by omega) x  (by subst i5_0; simp only [earI]; split <;> omega)
          · skip
            refine aw_aload_n dX1_earliestLastDayOf_45 rfl ?_
            refine aw_getf fg_X1_24 dX1_earliestLastDayOf_46 (hc14 hnx) rfl ?_
            refine aw_iload_n dX1_earliestLastDayOf_49 rfl ?_
            refine aw_ialdr dX1_earliestLastDayOf_50 (hc19 hnx) (by omega) (by decide) (hR 8 (by decide)) (fun q50 => ?_)
            refine aw_nmI (fun x2_51 hx2_51 => ?_)
            refine aw_istore_n (ls' := [some (rf Γ 14), some _, some _, some _]) dX1_earliestLastDayOf_51 (by decide) rfl ?_
            refine aw_iinc (ls' := [some (rf Γ 14), some _, some _, some _]) dX1_earliestLastDayOf_52 rfl (by decide) rfl ?_
            refine aw_goto (tgt := 5) dX1_earliestLastDayOf_55 rfl ?_
            exact ih (by omega) x2_51  (by subst i5_0; simp only [earI]; split <;> omega)
    · skip
      refine aw_if_eq (tgt := 52) dX1_earliestLastDayOf_18 rfl (by decide) (fun _ => ?_) (fun c => absurd c (by decide))
      refine aw_iinc (ls' := [some (rf Γ 14), some _, some _, some _]) dX1_earliestLastDayOf_52 rfl (by decide) rfl ?_
      refine aw_goto (tgt := 5) dX1_earliestLastDayOf_55 rfl ?_
      exact ih (by omega) x  (by subst i5_0; simp only [earI]; split <;> omega)

set_option maxHeartbeats 1000000 in
theorem c_X1_longestOpenOf {Γ : GT} {S T U V : St} {G : Gw} {nx d : Nat} {Q : QT} (hnx : 52 ≤ nx) {i t : Int} (hR : Rg S) (hij : inI i) (ht : 0 ≤ t ∧ t ≤ 3600) (hI : ∀ l : Int, 0 ≤ l → l < S 28 0 → 0 ≤ S 7 l ∧ S 7 l ≤ 3600) (hz : 0 ≤ S 28 0 ∧ S 28 0 ≤ 60) (hQ : ∀ r, r = lonI S i t (nS S) → Q (some (vi r)) (hp Γ S T U V G) nx) : AM Γ MX1_longestOpenOf (d + 1, 0, 0) [rf Γ 14, vi i, vi t] (hp Γ S T U V G) nx Q := by
  refine am_of (by decide) (Nat.le_of_ble_eq_true rfl) (ls := [some (rf Γ 14), some _, some _, none, none]) rfl ?_
  have r0 := hR 28 (by decide) 0
  have hk0 : nS S = (S 28 0).toNat := rfl
  have hE := lonI_in (S := S) i t ht hI
  refine aw_bipush dX1_longestOpenOf_0 rfl ?_
  refine aw_istore_n (ls' := [some (rf Γ 14), some _, some _, some _, none]) dX1_longestOpenOf_2 (by decide) rfl ?_
  refine aw_iconst dX1_longestOpenOf_3 ?_
  refine aw_istore (ls' := [some (rf Γ 14), some _, some _, some _, some _]) dX1_longestOpenOf_4 (by decide) rfl ?_
  refine loopN (nS S) (P := fun k => ∀ (x : Int) , x = lonI S i t k →  AW Γ MX1_longestOpenOf _ _ (0, 0) 6 [some (rf Γ 14), some (vi i), some (vi t), some (vi x), some (vi (k : Int))] [] (hp Γ S T U V G) nx) (fun k hk ih => ?_) 0 (Nat.zero_le _) _ rfl 
  intro x i6_0
  refine aw_iload dX1_longestOpenOf_6 rfl ?_
  refine aw_aload_n dX1_longestOpenOf_8 rfl ?_
  refine aw_getf fg_X1_42 dX1_longestOpenOf_9 (hc14 hnx) rfl ?_
  refine aw_icmp_ge (tgt := 57) dX1_longestOpenOf_12 rfl (by omega) (fun c12 => ?_) (fun c12 => ?_)
  · skip
    obtain rfl : k = nS S := by omega
    refine aw_iload_n dX1_longestOpenOf_57 rfl ?_
    exact aw_ireturn dX1_longestOpenOf_58 rfl rfl ⟨Nat.le_refl _, Nat.le_refl _⟩ (hQ _ (by omega))
  · skip
    have he := hE k (by omega)
    have hi := hI k (by omega) (by omega)
    refine aw_aload_n dX1_longestOpenOf_15 rfl ?_
    refine aw_iload dX1_longestOpenOf_16 rfl ?_
    refine aw_callV (As := [_]) (ρ := (_, 0, 0)) (kn' := (0, 0)) cv_X1_52 dX1_longestOpenOf_18 rfl rfl (hc14 hnx) rfl rfl (Nat.le_of_ble_eq_true rfl) (rmR _ _ _) ⟨Nat.le_refl _, Nat.le_refl _⟩ rfl (c_X1_isOpen hnx hR (by omega) (fun r18 h18 => ?_))
    rcases h18 with ⟨rfl, h18⟩ | ⟨rfl, h18⟩
    · skip
      refine aw_if_eq (tgt := 51) dX1_longestOpenOf_21 rfl (by decide) (fun c => absurd c (by decide)) (fun _ => ?_)
      refine aw_aload_n dX1_longestOpenOf_24 rfl ?_
      refine aw_getf fg_X1_9 dX1_longestOpenOf_25 (hc14 hnx) rfl ?_
      refine aw_iload dX1_longestOpenOf_28 rfl ?_
      refine aw_ialdr dX1_longestOpenOf_30 (hc15 hnx) (by omega) (by decide) (hR 4 (by decide)) (fun q30 => ?_)
      refine aw_iload_n dX1_longestOpenOf_31 rfl ?_
      refine aw_icmp_ne (tgt := 51) dX1_longestOpenOf_32 rfl (by omega) (fun c32 => ?_) (fun c32 => ?_)
      · skip
        refine aw_iinc (ls' := [some (rf Γ 14), some _, some _, some _, some _]) dX1_longestOpenOf_51 rfl (by decide) rfl ?_
        refine aw_goto (tgt := 6) dX1_longestOpenOf_54 rfl ?_
        exact ih (by omega) x  (by subst i6_0; simp only [lonI]; split <;> omega)
      · skip
        refine aw_iload_n dX1_longestOpenOf_35 rfl ?_
        refine aw_iload_n dX1_longestOpenOf_36 rfl ?_
        refine aw_aload_n dX1_longestOpenOf_37 rfl ?_
        refine aw_getf fg_X1_21 dX1_longestOpenOf_38 (hc14 hnx) rfl ?_
        refine aw_iload dX1_longestOpenOf_41 rfl ?_
        refine aw_ialdr dX1_longestOpenOf_43 (hc18 hnx) (by omega) (by decide) (hR 7 (by decide)) (fun q43 => ?_)
        refine aw_isub dX1_longestOpenOf_44 ?_
        refine aw_iconst dX1_longestOpenOf_45 ?_
        refine aw_iadd dX1_longestOpenOf_46 ?_
        refine aw_mmax qm_X1_78 dX1_longestOpenOf_47 (by omega) (rmN13 _ _ _ (Nat.le_of_ble_eq_true rfl)) ⟨Nat.le_refl _, Nat.le_refl _⟩ (fun r47 h47 => ?_)
        refine aw_istore_n (ls' := [some (rf Γ 14), some _, some _, some _, some _]) dX1_longestOpenOf_50 (by decide) rfl ?_
        refine aw_iinc (ls' := [some (rf Γ 14), some _, some _, some _, some _]) dX1_longestOpenOf_51 rfl (by decide) rfl ?_
        refine aw_goto (tgt := 6) dX1_longestOpenOf_54 rfl ?_
        exact ih (by omega) r47  (by subst i6_0; simp only [lonI]; split <;> omega)
    · skip
      refine aw_if_eq (tgt := 51) dX1_longestOpenOf_21 rfl (by decide) (fun _ => ?_) (fun c => absurd c (by decide))
      refine aw_iinc (ls' := [some (rf Γ 14), some _, some _, some _, some _]) dX1_longestOpenOf_51 rfl (by decide) rfl ?_
      refine aw_goto (tgt := 6) dX1_longestOpenOf_54 rfl ?_
      exact ih (by omega) x  (by subst i6_0; simp only [lonI]; split <;> omega)


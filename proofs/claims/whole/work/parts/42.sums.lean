/-! answers by sums over the licences -/
def sLap (S : St) (n : Int) (k : Nat) : Int := sm (fun l => if S 8 l < S 25 0 + n then rem S l else 0) k
def aLapses (S : St) (n : Int) : Int := if 0 < S 26 0 ∧ 1 ≤ n ∧ n ≤ 90 then sLap S n (nS S) else -1
def sStood (S : St) (o t : Int) (k : Nat) : Int := sm (fun l => if S 5 l = o ∧ (S 7 l ≤ t ∧ (S 10 l = 0 ∨ t < S 11 l)) then S 6 l else 0) k
def aStood (S : St) (o t : Int) : Int := if isO S o ∧ 0 ≤ t ∧ t < S 25 0 then sStood S o t (nS S) else -1
def sOwing (S : St) (i : Int) (k : Nat) : Int := sm (fun l => if S 10 l = 0 ∧ S 4 l = i then need S l else 0) k
def aOwing (S : St) (i : Int) : Int := if isI S i then sOwing S i (nS S) else -1

set_option maxHeartbeats 1000000 in
theorem c_X10_lapses {Γ : GT} {S T U V : St} {G : Gw} {nx d : Nat} {Q : QT} (hnx : 52 ≤ nx) {n : Int} {c : Int} (hI : Inv c S) (hn : inI n) (hQ : ∀ r, r = aLapses S n → Q (some (vi r)) (hp Γ S T U V G) nx) : AM Γ MX10_lapses (d + 2, 0, 0) [rf Γ 0, vi n] (hp Γ S T U V G) nx Q := by
  refine am_of (by decide) (Nat.le_of_ble_eq_true rfl) (ls := [some (rf Γ 0), some _, none, none, none]) rfl ?_
  have hR := hI.R
  have i1 := hI.i1
  have hz : 0 ≤ S 28 0 ∧ S 28 0 ≤ 60 := i1.2.2.1
  have hkS : nS S = (S 28 0).toNat := rfl
  have hkI : nIm S = (S 27 0).toNat := rfl
  have hkO : nOr S = (S 26 0).toNat := rfl
  refine aw_aload_n dX10_lapses_0 rfl ?_
  refine aw_getf fg_X10_26 dX10_lapses_1 (hc0 hnx) rfl ?_
  refine aw_callV (As := []) (ρ := (_, 0, 0)) (kn' := (0, 0)) cv_X10_181 dX10_lapses_4 rfl rfl (hc9 hnx) rfl rfl (Nat.le_of_ble_eq_true rfl) (rmR _ _ _) ⟨Nat.le_refl _, Nat.le_refl _⟩ rfl (c_X7_hasScheme hnx hR (fun r4 h4 => ?_))
  rcases h4 with ⟨rfl, h4⟩ | ⟨rfl, h4⟩
  · skip
    refine aw_if_eq (tgt := 17) dX10_lapses_7 rfl (by decide) (fun c => absurd c (by decide)) (fun _ => ?_)
    refine aw_iload_n dX10_lapses_10 rfl ?_
    refine aw_callS (As := [_]) (ρ := (_, 0, 0)) (kn' := (0, 0)) cs_X10_185 dX10_lapses_11 rfl rfl (Nat.le_of_ble_eq_true rfl) (rmR _ _ _) ⟨Nat.le_refl _, Nat.le_refl _⟩ rfl (c_X10_isDays hnx (by omega) (fun r11 h11 => ?_))
    rcases h11 with ⟨rfl, h11⟩ | ⟨rfl, h11⟩
    · skip
      refine aw_if_ne (tgt := 19) dX10_lapses_14 rfl (by decide) (fun _ => ?_) (fun c => absurd c (by decide))
      refine aw_aload_n dX10_lapses_19 rfl ?_
      refine aw_getf fg_X10_26 dX10_lapses_20 (hc0 hnx) rfl ?_
      refine aw_getf fg_X10_106 dX10_lapses_23 (hc9 hnx) rfl ?_
      refine aw_astore_n (ls' := [some (rf Γ 0), some _, some (rf Γ 14), none, none]) dX10_lapses_26 (by decide) rfl ?_
      refine aw_iconst dX10_lapses_27 ?_
      refine aw_istore_n (ls' := [some (rf Γ 0), some _, some (rf Γ 14), some _, none]) dX10_lapses_28 (by decide) rfl ?_
      refine aw_iconst dX10_lapses_29 ?_
      refine aw_istore (ls' := [some (rf Γ 0), some _, some (rf Γ 14), some _, some _]) dX10_lapses_30 (by decide) rfl ?_
      refine loopN (nS S) (P := fun k => ∀ (x : Int) , x = sLap S n k →  AW Γ MX10_lapses _ _ (0, 0) 32 [some (rf Γ 0), some (vi n), some (rf Γ 14), some (vi x), some (vi (k : Int))] [] (hp Γ S T U V G) nx) (fun k hk ih => ?_) 0 (Nat.zero_le _) _ rfl 
      intro x i32_0
      refine aw_iload dX10_lapses_32 rfl ?_
      refine aw_aload_n dX10_lapses_34 rfl ?_
      refine aw_getf fg_X10_139 dX10_lapses_35 (hc14 hnx) rfl ?_
      refine aw_icmp_ge (tgt := 75) dX10_lapses_38 rfl (by omega) (fun c38 => ?_) (fun c38 => ?_)
      · skip
        obtain rfl : k = nS S := by omega
        refine aw_iload_n dX10_lapses_75 rfl ?_
        exact aw_ireturn dX10_lapses_76 rfl rfl ⟨Nat.le_refl _, Nat.le_refl _⟩ (hQ _ (by unfold aLapses; rw [if_pos (by omega)]; exact i32_0))
      · skip
        refine aw_aload_n dX10_lapses_41 rfl ?_
        refine aw_getf fg_X10_258 dX10_lapses_42 (hc14 hnx) rfl ?_
        refine aw_iload dX10_lapses_45 rfl ?_
        refine aw_ialdr dX10_lapses_47 (hc19 hnx) (by omega) (by decide) (hR 8 (by decide)) (fun q47 => ?_)
        refine aw_aload_n dX10_lapses_48 rfl ?_
        refine aw_getf fg_X10_26 dX10_lapses_49 (hc0 hnx) rfl ?_
        refine aw_getf fg_X10_142 dX10_lapses_52 (hc9 hnx) rfl ?_
        refine aw_iload_n dX10_lapses_55 rfl ?_
        refine aw_iadd dX10_lapses_56 ?_
        refine aw_icmp_ge (tgt := 69) dX10_lapses_57 rfl (by omega) (fun c57 => ?_) (fun c57 => ?_)
        · skip
          refine aw_iinc (ls' := [some (rf Γ 0), some _, some (rf Γ 14), some _, some _]) dX10_lapses_69 rfl (by decide) rfl ?_
          refine aw_goto (tgt := 32) dX10_lapses_72 rfl ?_
          exact ih (by omega) x  (by simp only [sLap, sm] at i32_0 ⊢; (repeat' split) <;> omega)
        · skip
          refine aw_iload_n dX10_lapses_60 rfl ?_
          refine aw_aload_n dX10_lapses_61 rfl ?_
          refine aw_iload dX10_lapses_62 rfl ?_
          refine aw_callV (As := [_]) (ρ := (_, 0, 0)) (kn' := (0, 0)) cv_X10_118 dX10_lapses_64 rfl rfl (hc14 hnx) rfl rfl (Nat.le_of_ble_eq_true rfl) (rmR _ _ _) ⟨Nat.le_refl _, Nat.le_refl _⟩ rfl (c_X1_remains hnx hR (by omega) (fun r64 h64 => ?_))
          refine aw_iadd dX10_lapses_67 ?_
          refine aw_nmI (fun x3_68 hx3_68 => ?_)
          refine aw_istore_n (ls' := [some (rf Γ 0), some _, some (rf Γ 14), some _, some _]) dX10_lapses_68 (by decide) rfl ?_
          refine aw_iinc (ls' := [some (rf Γ 0), some _, some (rf Γ 14), some _, some _]) dX10_lapses_69 rfl (by decide) rfl ?_
          refine aw_goto (tgt := 32) dX10_lapses_72 rfl ?_
          exact ih (by omega) x3_68  (by simp only [sLap, sm] at i32_0 ⊢; (repeat' split) <;> omega)
    · skip
      refine aw_if_ne (tgt := 19) dX10_lapses_14 rfl (by decide) (fun c => absurd c (by decide)) (fun _ => ?_)
      refine aw_iconst dX10_lapses_17 ?_
      exact aw_ireturn dX10_lapses_18 rfl rfl ⟨Nat.le_refl _, Nat.le_refl _⟩ (hQ _ (by unfold aLapses; rw [if_neg (by omega)]))
  · skip
    refine aw_if_eq (tgt := 17) dX10_lapses_7 rfl (by decide) (fun _ => ?_) (fun c => absurd c (by decide))
    refine aw_iconst dX10_lapses_17 ?_
    exact aw_ireturn dX10_lapses_18 rfl rfl ⟨Nat.le_refl _, Nat.le_refl _⟩ (hQ _ (by unfold aLapses; rw [if_neg (by omega)]))

set_option maxHeartbeats 1000000 in
theorem c_X10_owing {Γ : GT} {S T U V : St} {G : Gw} {nx d : Nat} {Q : QT} (hnx : 52 ≤ nx) {i : Int} {c : Int} (hI : Inv c S) (hi : inI i) (hQ : ∀ r, r = aOwing S i → Q (some (vi r)) (hp Γ S T U V G) nx) : AM Γ MX10_owing (d + 2, 0, 0) [rf Γ 0, vi i] (hp Γ S T U V G) nx Q := by
  refine am_of (by decide) (Nat.le_of_ble_eq_true rfl) (ls := [some (rf Γ 0), some _, none, none]) rfl ?_
  have hR := hI.R
  have i1 := hI.i1
  have hz : 0 ≤ S 28 0 ∧ S 28 0 ≤ 60 := i1.2.2.1
  have hkS : nS S = (S 28 0).toNat := rfl
  have hkI : nIm S = (S 27 0).toNat := rfl
  have hkO : nOr S = (S 26 0).toNat := rfl
  refine aw_aload_n dX10_owing_0 rfl ?_
  refine aw_getf fg_X10_26 dX10_owing_1 (hc0 hnx) rfl ?_
  refine aw_iload_n dX10_owing_4 rfl ?_
  refine aw_callV (As := [_]) (ρ := (_, 0, 0)) (kn' := (0, 0)) cv_X10_133 dX10_owing_5 rfl rfl (hc9 hnx) rfl rfl (Nat.le_of_ble_eq_true rfl) (rmR _ _ _) ⟨Nat.le_refl _, Nat.le_refl _⟩ rfl (c_X7_hasImporter hnx hR (by omega) (fun r5 h5 => ?_))
  rcases h5 with ⟨rfl, h5⟩ | ⟨rfl, h5⟩
  · skip
    refine aw_if_ne (tgt := 13) dX10_owing_8 rfl (by decide) (fun _ => ?_) (fun c => absurd c (by decide))
    refine aw_iconst dX10_owing_13 ?_
    refine aw_istore_n (ls' := [some (rf Γ 0), some _, some _, none]) dX10_owing_14 (by decide) rfl ?_
    refine aw_iconst dX10_owing_15 ?_
    refine aw_istore_n (ls' := [some (rf Γ 0), some _, some _, some _]) dX10_owing_16 (by decide) rfl ?_
    refine loopN (nS S) (P := fun k => ∀ (x : Int) , x = sOwing S i k →  AW Γ MX10_owing _ _ (0, 0) 17 [some (rf Γ 0), some (vi i), some (vi x), some (vi (k : Int))] [] (hp Γ S T U V G) nx) (fun k hk ih => ?_) 0 (Nat.zero_le _) _ rfl 
    intro x i17_0
    refine aw_iload_n dX10_owing_17 rfl ?_
    refine aw_aload_n dX10_owing_18 rfl ?_
    refine aw_getf fg_X10_26 dX10_owing_19 (hc0 hnx) rfl ?_
    refine aw_getf fg_X10_106 dX10_owing_22 (hc9 hnx) rfl ?_
    refine aw_getf fg_X10_139 dX10_owing_25 (hc14 hnx) rfl ?_
    refine aw_icmp_ge (tgt := 78) dX10_owing_28 rfl (by omega) (fun c28 => ?_) (fun c28 => ?_)
    · skip
      obtain rfl : k = nS S := by omega
      refine aw_iload_n dX10_owing_78 rfl ?_
      exact aw_ireturn dX10_owing_79 rfl rfl ⟨Nat.le_refl _, Nat.le_refl _⟩ (hQ _ (by unfold aOwing; rw [if_pos (by simp only [isI]; omega)]; exact i17_0))
    · skip
      refine aw_aload_n dX10_owing_31 rfl ?_
      refine aw_getf fg_X10_26 dX10_owing_32 (hc0 hnx) rfl ?_
      refine aw_getf fg_X10_106 dX10_owing_35 (hc9 hnx) rfl ?_
      refine aw_iload_n dX10_owing_38 rfl ?_
      refine aw_callV (As := [_]) (ρ := (_, 0, 0)) (kn' := (0, 0)) cv_X10_115 dX10_owing_39 rfl rfl (hc14 hnx) rfl rfl (Nat.le_of_ble_eq_true rfl) (rmR _ _ _) ⟨Nat.le_refl _, Nat.le_refl _⟩ rfl (c_X1_isOpen hnx hR (by omega) (fun r39 h39 => ?_))
      rcases h39 with ⟨rfl, h39⟩ | ⟨rfl, h39⟩
      · skip
        refine aw_if_eq (tgt := 72) dX10_owing_42 rfl (by decide) (fun c => absurd c (by decide)) (fun _ => ?_)
        refine aw_aload_n dX10_owing_45 rfl ?_
        refine aw_getf fg_X10_26 dX10_owing_46 (hc0 hnx) rfl ?_
        refine aw_getf fg_X10_106 dX10_owing_49 (hc9 hnx) rfl ?_
        refine aw_getf fg_X10_136 dX10_owing_52 (hc14 hnx) rfl ?_
        refine aw_iload_n dX10_owing_55 rfl ?_
        refine aw_ialdr dX10_owing_56 (hc15 hnx) (by omega) (by decide) (hR 4 (by decide)) (fun q56 => ?_)
        refine aw_iload_n dX10_owing_57 rfl ?_
        refine aw_icmp_ne (tgt := 72) dX10_owing_58 rfl (by omega) (fun c58 => ?_) (fun c58 => ?_)
        · skip
          refine aw_iinc (ls' := [some (rf Γ 0), some _, some _, some _]) dX10_owing_72 rfl (by decide) rfl ?_
          refine aw_goto (tgt := 17) dX10_owing_75 rfl ?_
          exact ih (by omega) x  (by simp only [sOwing, sm] at i17_0 ⊢; (repeat' split) <;> omega)
        · skip
          refine aw_iload_n dX10_owing_61 rfl ?_
          refine aw_aload_n dX10_owing_62 rfl ?_
          refine aw_getf fg_X10_26 dX10_owing_63 (hc0 hnx) rfl ?_
          refine aw_iload_n dX10_owing_66 rfl ?_
          refine aw_callV (As := [_]) (ρ := (_, 0, 0)) (kn' := (0, 0)) cv_X10_359 dX10_owing_67 rfl rfl (hc9 hnx) rfl rfl (Nat.le_of_ble_eq_true rfl) (rmR _ _ _) ⟨Nat.le_refl _, Nat.le_refl _⟩ rfl (c_X7_neededFor hnx hI (by omega) (fun r67 h67 => ?_))
          refine aw_iadd dX10_owing_70 ?_
          refine aw_nmI (fun x2_71 hx2_71 => ?_)
          refine aw_istore_n (ls' := [some (rf Γ 0), some _, some _, some _]) dX10_owing_71 (by decide) rfl ?_
          refine aw_iinc (ls' := [some (rf Γ 0), some _, some _, some _]) dX10_owing_72 rfl (by decide) rfl ?_
          refine aw_goto (tgt := 17) dX10_owing_75 rfl ?_
          exact ih (by omega) x2_71  (by simp only [sOwing, sm] at i17_0 ⊢; (repeat' split) <;> omega)
      · skip
        refine aw_if_eq (tgt := 72) dX10_owing_42 rfl (by decide) (fun _ => ?_) (fun c => absurd c (by decide))
        refine aw_iinc (ls' := [some (rf Γ 0), some _, some _, some _]) dX10_owing_72 rfl (by decide) rfl ?_
        refine aw_goto (tgt := 17) dX10_owing_75 rfl ?_
        exact ih (by omega) x  (by simp only [sOwing, sm] at i17_0 ⊢; (repeat' split) <;> omega)
  · skip
    refine aw_if_ne (tgt := 13) dX10_owing_8 rfl (by decide) (fun c => absurd c (by decide)) (fun _ => ?_)
    refine aw_iconst dX10_owing_11 ?_
    exact aw_ireturn dX10_owing_12 rfl rfl ⟨Nat.le_refl _, Nat.le_refl _⟩ (hQ _ (by unfold aOwing; rw [if_neg (by simp only [isI]; omega)]))


/-! answers by sums over the licences -/
def sLap (S : St) (n : Int) (k : Nat) : Int := sm (fun l => if S 8 l < S 25 0 + n then rem S l else 0) k
def aLapses (S : St) (n : Int) : Int := if 0 < S 26 0 ∧ 1 ≤ n ∧ n ≤ 90 then sLap S n (nS S) else -1
def sStood (S : St) (o t : Int) (k : Nat) : Int := sm (fun l => if S 5 l = o ∧ (S 7 l ≤ t ∧ (S 10 l = 0 ∨ t < S 11 l)) then S 6 l else 0) k
def aStood (S : St) (o t : Int) : Int := if isO S o ∧ 0 ≤ t ∧ t < S 25 0 then sStood S o t (nS S) else -1
def sOwing (S : St) (i : Int) (k : Nat) : Int := sm (fun l => if S 10 l = 0 ∧ S 4 l = i then need S l else 0) k
def aOwing (S : St) (i : Int) : Int := if isI S i then sOwing S i (nS S) else -1
def aLicence (S : St) (l w : Int) : Int := if isL S l then (if w = 0 then S 4 l else if w = 1 then S 5 l else if w = 2 then S 6 l else if w = 3 then S 7 l else if w = 4 then S 9 l else if w = 5 then S 10 l else if w = 6 then S 8 l else if w = 7 then rem S l else -1) else -1
def aCarry (S : St) (o : Int) : Int := if isO S o then (if 270 ≤ S 25 0 % 360 then 0 else leftI S o) else -1
def aShareAt (S : St) (i o a : Int) : Int := if (isI S i ∧ isO S o) ∧ 0 ≤ a ∧ a ≤ 100 then shr S i o a (S 14 (o * 8 + 1)) else -1
def aLog (S : St) (i o w : Int) : Int := if isO S o ∧ (0 ≤ i ∧ i < S 29 0) ∧ 0 ≤ w ∧ w ≤ 4 then S 19 ((i * 4 + o) * 5 + w) else -1
def sLak (S : St) (i o : Int) (k : Nat) : Int := sm (fun l => if S 4 l = i ∧ S 5 l = o then rem S l else 0) k
def aLacks (S : St) (i o n : Int) : Int := if (isI S i ∧ isO S o) ∧ isN n then max 0 (n - sLak S i o (nS S)) else -1
def aHolds (S : St) (i w : Int) : Int := if isI S i then (if w = 0 then openI S i (nS S) else if w = 1 then remI S i (nS S) else if w = 2 then earI S i (nS S) else if w = 3 then lonI S i (S 25 0) (nS S) else -1) else -1
theorem Inv.lak {c : Int} {S : St} (h : Inv c S) (i o : Int) (n : Nat) (hn : n ≤ nS S) : 0 ≤ sLak S i o n ∧ sLak S i o n ≤ 5999940 := by
  have hz := h.i1.2.2.1
  have hr := h.rems
  have h0 : 0 ≤ sLak S i o n := sm_nonneg n (fun k hk => by
    have := h.rem (l := k) (by unfold nS at hn; omega)
    show 0 ≤ (if S 4 k = i ∧ S 5 k = o then Jvm.Pilot.@@N@@.rem S k else 0); split <;> omega)
  have h1 : sLak S i o n ≤ Jvm.Pilot.@@N@@.rems S n := sm_le n (fun k hk => by
    have := h.rem (l := k) (by unfold nS at hn; omega)
    show (if S 4 k = i ∧ S 5 k = o then Jvm.Pilot.@@N@@.rem S k else 0) ≤ Jvm.Pilot.@@N@@.rem S k; split <;> omega)
  have h2 : Jvm.Pilot.@@N@@.rems S n ≤ Jvm.Pilot.@@N@@.rems S (nS S) := sm_mono (nS S) hn (fun k hk => (h.rem (l := k) (by unfold nS at hk; omega)).1)
  exact ⟨h0, by omega⟩

set_option maxHeartbeats 1000000 in
theorem c_X10_lapses {Γ : GT} {S T U V : St} {G : Gw} {nx d : Nat} {Q : QT} (hnx : 52 ≤ nx) {n : Int} {c : Int} (hI : Inv c S) (hn : inI n) (hQ : ∀ r, r = aLapses S n → Q (some (vi r)) (hp Γ S T U V G) nx) : AM Γ MX10_lapses (d + 2, 0, 0) [rf Γ 0, vi n] (hp Γ S T U V G) nx Q := by
  refine am_of (by decide) (Nat.le_of_ble_eq_true rfl) (ls := [some (rf Γ 0), some _, none, none, none]) rfl ?_
  have hR := hI.R
  have i1 := hI.i1
  have hz : 0 ≤ S 28 0 ∧ S 28 0 ≤ 60 := i1.2.2.1
  have hkS : nS S = (S 28 0).toNat := rfl
  have hkI : nIm S = (S 27 0).toNat := rfl
  have hkO : nOr S = (S 26 0).toNat := rfl
  refine aw_aload_n dX10_lapses_0 rfl ?_
  refine aw_getf fg_X10_26 dX10_lapses_1 (hc0 hnx) rfl ?_
  refine aw_callV (As := []) (ρ := (_, 0, 0)) (kn' := (0, 0)) cv_X10_181 dX10_lapses_4 rfl rfl (hc9 hnx) rfl rfl (Nat.le_of_ble_eq_true rfl) (rmR _ _ _) ⟨Nat.le_refl _, Nat.le_refl _⟩ rfl (c_X7_hasScheme hnx hR (fun r4 h4 => ?_))
  rcases h4 with ⟨rfl, h4⟩ | ⟨rfl, h4⟩
  · skip
    refine aw_if_eq (tgt := 17) dX10_lapses_7 rfl (by decide) (fun c => absurd c (by decide)) (fun _ => ?_)
    refine aw_iload_n dX10_lapses_10 rfl ?_
    refine aw_callS (As := [_]) (ρ := (_, 0, 0)) (kn' := (0, 0)) cs_X10_185 dX10_lapses_11 rfl rfl (Nat.le_of_ble_eq_true rfl) (rmR _ _ _) ⟨Nat.le_refl _, Nat.le_refl _⟩ rfl (c_X10_isDays hnx (by omega) (fun r11 h11 => ?_))
    rcases h11 with ⟨rfl, h11⟩ | ⟨rfl, h11⟩
    · skip
      refine aw_if_ne (tgt := 19) dX10_lapses_14 rfl (by decide) (fun _ => ?_) (fun c => absurd c (by decide))
      refine aw_aload_n dX10_lapses_19 rfl ?_
      refine aw_getf fg_X10_26 dX10_lapses_20 (hc0 hnx) rfl ?_
      refine aw_getf fg_X10_106 dX10_lapses_23 (hc9 hnx) rfl ?_
      refine aw_astore_n (ls' := [some (rf Γ 0), some _, some (rf Γ 14), none, none]) dX10_lapses_26 (by decide) rfl ?_
      refine aw_iconst dX10_lapses_27 ?_
      refine aw_istore_n (ls' := [some (rf Γ 0), some _, some (rf Γ 14), some _, none]) dX10_lapses_28 (by decide) rfl ?_
      refine aw_iconst dX10_lapses_29 ?_
      refine aw_istore (ls' := [some (rf Γ 0), some _, some (rf Γ 14), some _, some _]) dX10_lapses_30 (by decide) rfl ?_
      refine loopN (nS S) (P := fun k => ∀ (x : Int) , x = sLap S n k →  AW Γ MX10_lapses _ _ (0, 0) 32 [some (rf Γ 0), some (vi n), some (rf Γ 14), some (vi x), some (vi (k : Int))] [] (hp Γ S T U V G) nx) (fun k hk ih => ?_) 0 (Nat.zero_le _) _ rfl 
      intro x i32_0
      refine aw_iload dX10_lapses_32 rfl ?_
      refine aw_aload_n dX10_lapses_34 rfl ?_
      refine aw_getf fg_X10_139 dX10_lapses_35 (hc14 hnx) rfl ?_
      refine aw_icmp_ge (tgt := 75) dX10_lapses_38 rfl (by omega) (fun c38 => ?_) (fun c38 => ?_)
      · skip
        obtain rfl : k = nS S := by omega
        refine aw_iload_n dX10_lapses_75 rfl ?_
        exact aw_ireturn dX10_lapses_76 rfl rfl ⟨Nat.le_refl _, Nat.le_refl _⟩ (hQ _ (by unfold aLapses; rw [if_pos (by omega)]; exact i32_0))
      · skip
        refine aw_aload_n dX10_lapses_41 rfl ?_
        refine aw_getf fg_X10_258 dX10_lapses_42 (hc14 hnx) rfl ?_
        refine aw_iload dX10_lapses_45 rfl ?_
        refine aw_ialdr dX10_lapses_47 (hc19 hnx) (by omega) (by decide) (hR 8 (by decide)) (fun q47 => ?_)
        refine aw_aload_n dX10_lapses_48 rfl ?_
        refine aw_getf fg_X10_26 dX10_lapses_49 (hc0 hnx) rfl ?_
        refine aw_getf fg_X10_142 dX10_lapses_52 (hc9 hnx) rfl ?_
        refine aw_iload_n dX10_lapses_55 rfl ?_
        refine aw_iadd dX10_lapses_56 ?_
        refine aw_icmp_ge (tgt := 69) dX10_lapses_57 rfl (by omega) (fun c57 => ?_) (fun c57 => ?_)
        · skip
          refine aw_iinc (ls' := [some (rf Γ 0), some _, some (rf Γ 14), some _, some _]) dX10_lapses_69 rfl (by decide) rfl ?_
          refine aw_goto (tgt := 32) dX10_lapses_72 rfl ?_
          exact ih (by omega) x  (by simp only [sLap, sm] at i32_0 ⊢; (repeat' split) <;> omega)
        · skip
          refine aw_iload_n dX10_lapses_60 rfl ?_
          refine aw_aload_n dX10_lapses_61 rfl ?_
          refine aw_iload dX10_lapses_62 rfl ?_
          refine aw_callV (As := [_]) (ρ := (_, 0, 0)) (kn' := (0, 0)) cv_X10_118 dX10_lapses_64 rfl rfl (hc14 hnx) rfl rfl (Nat.le_of_ble_eq_true rfl) (rmR _ _ _) ⟨Nat.le_refl _, Nat.le_refl _⟩ rfl (c_X1_remains hnx hR (by omega) (fun r64 h64 => ?_))
          refine aw_iadd dX10_lapses_67 ?_
          refine aw_nmI (fun x3_68 hx3_68 => ?_)
          refine aw_istore_n (ls' := [some (rf Γ 0), some _, some (rf Γ 14), some _, some _]) dX10_lapses_68 (by decide) rfl ?_
          refine aw_iinc (ls' := [some (rf Γ 0), some _, some (rf Γ 14), some _, some _]) dX10_lapses_69 rfl (by decide) rfl ?_
          refine aw_goto (tgt := 32) dX10_lapses_72 rfl ?_
          exact ih (by omega) x3_68  (by simp only [sLap, sm] at i32_0 ⊢; (repeat' split) <;> omega)
    · skip
      refine aw_if_ne (tgt := 19) dX10_lapses_14 rfl (by decide) (fun c => absurd c (by decide)) (fun _ => ?_)
      refine aw_iconst dX10_lapses_17 ?_
      exact aw_ireturn dX10_lapses_18 rfl rfl ⟨Nat.le_refl _, Nat.le_refl _⟩ (hQ _ (by unfold aLapses; rw [if_neg (by omega)]))
  · skip
    refine aw_if_eq (tgt := 17) dX10_lapses_7 rfl (by decide) (fun _ => ?_) (fun c => absurd c (by decide))
    refine aw_iconst dX10_lapses_17 ?_
    exact aw_ireturn dX10_lapses_18 rfl rfl ⟨Nat.le_refl _, Nat.le_refl _⟩ (hQ _ (by unfold aLapses; rw [if_neg (by omega)]))

set_option maxHeartbeats 1000000 in
theorem c_X10_owing {Γ : GT} {S T U V : St} {G : Gw} {nx d : Nat} {Q : QT} (hnx : 52 ≤ nx) {i : Int} {c : Int} (hI : Inv c S) (hi : inI i) (hQ : ∀ r, r = aOwing S i → Q (some (vi r)) (hp Γ S T U V G) nx) : AM Γ MX10_owing (d + 2, 0, 0) [rf Γ 0, vi i] (hp Γ S T U V G) nx Q := by
  refine am_of (by decide) (Nat.le_of_ble_eq_true rfl) (ls := [some (rf Γ 0), some _, none, none]) rfl ?_
  have hR := hI.R
  have i1 := hI.i1
  have hz : 0 ≤ S 28 0 ∧ S 28 0 ≤ 60 := i1.2.2.1
  have hkS : nS S = (S 28 0).toNat := rfl
  have hkI : nIm S = (S 27 0).toNat := rfl
  have hkO : nOr S = (S 26 0).toNat := rfl
  refine aw_aload_n dX10_owing_0 rfl ?_
  refine aw_getf fg_X10_26 dX10_owing_1 (hc0 hnx) rfl ?_
  refine aw_iload_n dX10_owing_4 rfl ?_
  refine aw_callV (As := [_]) (ρ := (_, 0, 0)) (kn' := (0, 0)) cv_X10_133 dX10_owing_5 rfl rfl (hc9 hnx) rfl rfl (Nat.le_of_ble_eq_true rfl) (rmR _ _ _) ⟨Nat.le_refl _, Nat.le_refl _⟩ rfl (c_X7_hasImporter hnx hR (by omega) (fun r5 h5 => ?_))
  rcases h5 with ⟨rfl, h5⟩ | ⟨rfl, h5⟩
  · skip
    refine aw_if_ne (tgt := 13) dX10_owing_8 rfl (by decide) (fun _ => ?_) (fun c => absurd c (by decide))
    refine aw_iconst dX10_owing_13 ?_
    refine aw_istore_n (ls' := [some (rf Γ 0), some _, some _, none]) dX10_owing_14 (by decide) rfl ?_
    refine aw_iconst dX10_owing_15 ?_
    refine aw_istore_n (ls' := [some (rf Γ 0), some _, some _, some _]) dX10_owing_16 (by decide) rfl ?_
    refine loopN (nS S) (P := fun k => ∀ (x : Int) , x = sOwing S i k →  AW Γ MX10_owing _ _ (0, 0) 17 [some (rf Γ 0), some (vi i), some (vi x), some (vi (k : Int))] [] (hp Γ S T U V G) nx) (fun k hk ih => ?_) 0 (Nat.zero_le _) _ rfl 
    intro x i17_0
    refine aw_iload_n dX10_owing_17 rfl ?_
    refine aw_aload_n dX10_owing_18 rfl ?_
    refine aw_getf fg_X10_26 dX10_owing_19 (hc0 hnx) rfl ?_
    refine aw_getf fg_X10_106 dX10_owing_22 (hc9 hnx) rfl ?_
    refine aw_getf fg_X10_139 dX10_owing_25 (hc14 hnx) rfl ?_
    refine aw_icmp_ge (tgt := 78) dX10_owing_28 rfl (by omega) (fun c28 => ?_) (fun c28 => ?_)
    · skip
      obtain rfl : k = nS S := by omega
      refine aw_iload_n dX10_owing_78 rfl ?_
      exact aw_ireturn dX10_owing_79 rfl rfl ⟨Nat.le_refl _, Nat.le_refl _⟩ (hQ _ (by unfold aOwing; rw [if_pos (by simp only [isI]; omega)]; exact i17_0))
    · skip
      refine aw_aload_n dX10_owing_31 rfl ?_
      refine aw_getf fg_X10_26 dX10_owing_32 (hc0 hnx) rfl ?_
      refine aw_getf fg_X10_106 dX10_owing_35 (hc9 hnx) rfl ?_
      refine aw_iload_n dX10_owing_38 rfl ?_
      refine aw_callV (As := [_]) (ρ := (_, 0, 0)) (kn' := (0, 0)) cv_X10_115 dX10_owing_39 rfl rfl (hc14 hnx) rfl rfl (Nat.le_of_ble_eq_true rfl) (rmR _ _ _) ⟨Nat.le_refl _, Nat.le_refl _⟩ rfl (c_X1_isOpen hnx hR (by omega) (fun r39 h39 => ?_))
      rcases h39 with ⟨rfl, h39⟩ | ⟨rfl, h39⟩
      · skip
        refine aw_if_eq (tgt := 72) dX10_owing_42 rfl (by decide) (fun c => absurd c (by decide)) (fun _ => ?_)
        refine aw_aload_n dX10_owing_45 rfl ?_
        refine aw_getf fg_X10_26 dX10_owing_46 (hc0 hnx) rfl ?_
        refine aw_getf fg_X10_106 dX10_owing_49 (hc9 hnx) rfl ?_
        refine aw_getf fg_X10_136 dX10_owing_52 (hc14 hnx) rfl ?_
        refine aw_iload_n dX10_owing_55 rfl ?_
        refine aw_ialdr dX10_owing_56 (hc15 hnx) (by omega) (by decide) (hR 4 (by decide)) (fun q56 => ?_)
        refine aw_iload_n dX10_owing_57 rfl ?_
        refine aw_icmp_ne (tgt := 72) dX10_owing_58 rfl (by omega) (fun c58 => ?_) (fun c58 => ?_)
        · skip
          refine aw_iinc (ls' := [some (rf Γ 0), some _, some _, some _]) dX10_owing_72 rfl (by decide) rfl ?_
          refine aw_goto (tgt := 17) dX10_owing_75 rfl ?_
          exact ih (by omega) x  (by simp only [sOwing, sm] at i17_0 ⊢; (repeat' split) <;> omega)
        · skip
          refine aw_iload_n dX10_owing_61 rfl ?_
          refine aw_aload_n dX10_owing_62 rfl ?_
          refine aw_getf fg_X10_26 dX10_owing_63 (hc0 hnx) rfl ?_
          refine aw_iload_n dX10_owing_66 rfl ?_
          refine aw_callV (As := [_]) (ρ := (_, 0, 0)) (kn' := (0, 0)) cv_X10_359 dX10_owing_67 rfl rfl (hc9 hnx) rfl rfl (Nat.le_of_ble_eq_true rfl) (rmR _ _ _) ⟨Nat.le_refl _, Nat.le_refl _⟩ rfl (c_X7_neededFor hnx hI (by omega) (fun r67 h67 => ?_))
          refine aw_iadd dX10_owing_70 ?_
          refine aw_nmI (fun x2_71 hx2_71 => ?_)
          refine aw_istore_n (ls' := [some (rf Γ 0), some _, some _, some _]) dX10_owing_71 (by decide) rfl ?_
          refine aw_iinc (ls' := [some (rf Γ 0), some _, some _, some _]) dX10_owing_72 rfl (by decide) rfl ?_
          refine aw_goto (tgt := 17) dX10_owing_75 rfl ?_
          exact ih (by omega) x2_71  (by simp only [sOwing, sm] at i17_0 ⊢; (repeat' split) <;> omega)
      · skip
        refine aw_if_eq (tgt := 72) dX10_owing_42 rfl (by decide) (fun _ => ?_) (fun c => absurd c (by decide))
        refine aw_iinc (ls' := [some (rf Γ 0), some _, some _, some _]) dX10_owing_72 rfl (by decide) rfl ?_
        refine aw_goto (tgt := 17) dX10_owing_75 rfl ?_
        exact ih (by omega) x  (by simp only [sOwing, sm] at i17_0 ⊢; (repeat' split) <;> omega)
  · skip
    refine aw_if_ne (tgt := 13) dX10_owing_8 rfl (by decide) (fun c => absurd c (by decide)) (fun _ => ?_)
    refine aw_iconst dX10_owing_11 ?_
    exact aw_ireturn dX10_owing_12 rfl rfl ⟨Nat.le_refl _, Nat.le_refl _⟩ (hQ _ (by unfold aOwing; rw [if_neg (by simp only [isI]; omega)]))

set_option maxHeartbeats 1000000 in
theorem c_X10_stood {Γ : GT} {S T U V : St} {G : Gw} {nx d : Nat} {Q : QT} (hnx : 52 ≤ nx) {j t : Int} {c : Int} (hI : Inv c S) (hj : inI j) (ht : inI t) (hQ : ∀ r, r = aStood S j t → Q (some (vi r)) (hp Γ S T U V G) nx) : AM Γ MX10_stood (d + 2, 0, 0) [rf Γ 0, vi j, vi t] (hp Γ S T U V G) nx Q := by
  refine am_of (by decide) (Nat.le_of_ble_eq_true rfl) (ls := [some (rf Γ 0), some _, some _, none, none, none]) rfl ?_
  have hR := hI.R
  have i1 := hI.i1
  have hz : 0 ≤ S 28 0 ∧ S 28 0 ≤ 60 := i1.2.2.1
  have hkS : nS S = (S 28 0).toNat := rfl
  have hkI : nIm S = (S 27 0).toNat := rfl
  have hkO : nOr S = (S 26 0).toNat := rfl
  refine aw_aload_n dX10_stood_0 rfl ?_
  refine aw_getf fg_X10_26 dX10_stood_1 (hc0 hnx) rfl ?_
  refine aw_iload_n dX10_stood_4 rfl ?_
  refine aw_callV (As := [_]) (ρ := (_, 0, 0)) (kn' := (0, 0)) cv_X10_191 dX10_stood_5 rfl rfl (hc9 hnx) rfl rfl (Nat.le_of_ble_eq_true rfl) (rmR _ _ _) ⟨Nat.le_refl _, Nat.le_refl _⟩ rfl (c_X7_hasOrigin hnx hR (by omega) (fun r5 h5 => ?_))
  rcases h5 with ⟨rfl, h5⟩ | ⟨rfl, h5⟩
  · skip
    refine aw_if_eq (tgt := 26) dX10_stood_8 rfl (by decide) (fun c => absurd c (by decide)) (fun _ => ?_)
    refine aw_iload_n dX10_stood_11 rfl ?_
    refine aw_if_lt (tgt := 26) dX10_stood_12 rfl (by omega) (fun c12 => ?_) (fun c12 => ?_)
    · skip
      refine aw_iconst dX10_stood_26 ?_
      exact aw_ireturn dX10_stood_27 rfl rfl ⟨Nat.le_refl _, Nat.le_refl _⟩ (hQ _ (by unfold aStood; rw [if_neg (by simp only [isO]; omega)]))
    · skip
      refine aw_iload_n dX10_stood_15 rfl ?_
      refine aw_aload_n dX10_stood_16 rfl ?_
      refine aw_getf fg_X10_26 dX10_stood_17 (hc0 hnx) rfl ?_
      refine aw_getf fg_X10_142 dX10_stood_20 (hc9 hnx) rfl ?_
      refine aw_icmp_lt (tgt := 28) dX10_stood_23 rfl (by omega) (fun c23 => ?_) (fun c23 => ?_)
      · skip
        refine aw_aload_n dX10_stood_28 rfl ?_
        refine aw_getf fg_X10_26 dX10_stood_29 (hc0 hnx) rfl ?_
        refine aw_getf fg_X10_106 dX10_stood_32 (hc9 hnx) rfl ?_
        refine aw_astore_n (ls' := [some (rf Γ 0), some _, some _, some (rf Γ 14), none, none]) dX10_stood_35 (by decide) rfl ?_
        refine aw_iconst dX10_stood_36 ?_
        refine aw_istore (ls' := [some (rf Γ 0), some _, some _, some (rf Γ 14), some _, none]) dX10_stood_37 (by decide) rfl ?_
        refine aw_iconst dX10_stood_39 ?_
        refine aw_istore (ls' := [some (rf Γ 0), some _, some _, some (rf Γ 14), some _, some _]) dX10_stood_40 (by decide) rfl ?_
        refine loopN (nS S) (P := fun k => ∀ (x : Int) , x = sStood S j t k →  AW Γ MX10_stood _ _ (0, 0) 42 [some (rf Γ 0), some (vi j), some (vi t), some (rf Γ 14), some (vi x), some (vi (k : Int))] [] (hp Γ S T U V G) nx) (fun k hk ih => ?_) 0 (Nat.zero_le _) _ rfl 
        intro x i42_0
        refine aw_iload dX10_stood_42 rfl ?_
        refine aw_aload_n dX10_stood_44 rfl ?_
        refine aw_getf fg_X10_139 dX10_stood_45 (hc14 hnx) rfl ?_
        refine aw_icmp_ge (tgt := 90) dX10_stood_48 rfl (by omega) (fun c48 => ?_) (fun c48 => ?_)
        · skip
          obtain rfl : k = nS S := by omega
          refine aw_iload dX10_stood_90 rfl ?_
          exact aw_ireturn dX10_stood_92 rfl rfl ⟨Nat.le_refl _, Nat.le_refl _⟩ (hQ _ (by unfold aStood; rw [if_pos (by simp only [isO]; omega)]; exact i42_0))
        · skip
          refine aw_aload_n dX10_stood_51 rfl ?_
          refine aw_getf fg_X10_243 dX10_stood_52 (hc14 hnx) rfl ?_
          refine aw_iload dX10_stood_55 rfl ?_
          refine aw_ialdr dX10_stood_57 (hc16 hnx) (by omega) (by decide) (hR 5 (by decide)) (fun q57 => ?_)
          refine aw_iload_n dX10_stood_58 rfl ?_
          refine aw_icmp_ne (tgt := 84) dX10_stood_59 rfl (by omega) (fun c59 => ?_) (fun c59 => ?_)
          · skip
            refine aw_iinc (ls' := [some (rf Γ 0), some _, some _, some (rf Γ 14), some _, some _]) dX10_stood_84 rfl (by decide) rfl ?_
            refine aw_goto (tgt := 42) dX10_stood_87 rfl ?_
            exact ih (by omega) x  (by simp only [sStood, sm] at i42_0 ⊢; (repeat' split) <;> omega)
          · skip
            refine aw_aload_n dX10_stood_62 rfl ?_
            refine aw_iload dX10_stood_63 rfl ?_
            refine aw_iload_n dX10_stood_65 rfl ?_
            refine aw_callV (As := [_, _]) (ρ := (_, 0, 0)) (kn' := (0, 0)) cv_X10_356 dX10_stood_66 rfl rfl (hc14 hnx) rfl rfl (Nat.le_of_ble_eq_true rfl) (rmR _ _ _) ⟨Nat.le_refl _, Nat.le_refl _⟩ rfl (c_X1_wasOpenAfter hnx hR (by omega) (by omega) (fun r66 h66 => ?_))
            rcases h66 with ⟨rfl, h66⟩ | ⟨rfl, h66⟩
            · skip
              refine aw_if_eq (tgt := 84) dX10_stood_69 rfl (by decide) (fun c => absurd c (by decide)) (fun _ => ?_)
              refine aw_iload dX10_stood_72 rfl ?_
              refine aw_aload_n dX10_stood_74 rfl ?_
              refine aw_getf fg_X10_246 dX10_stood_75 (hc14 hnx) rfl ?_
              refine aw_iload dX10_stood_78 rfl ?_
              refine aw_ialdr dX10_stood_80 (hc17 hnx) (by omega) (by decide) (hR 6 (by decide)) (fun q80 => ?_)
              refine aw_iadd dX10_stood_81 ?_
              refine aw_nmI (fun x4_82 hx4_82 => ?_)
              refine aw_istore (ls' := [some (rf Γ 0), some _, some _, some (rf Γ 14), some _, some _]) dX10_stood_82 (by decide) rfl ?_
              refine aw_iinc (ls' := [some (rf Γ 0), some _, some _, some (rf Γ 14), some _, some _]) dX10_stood_84 rfl (by decide) rfl ?_
              refine aw_goto (tgt := 42) dX10_stood_87 rfl ?_
              exact ih (by omega) x4_82  (by simp only [sStood, sm] at i42_0 ⊢; (repeat' split) <;> omega)
            · skip
              refine aw_if_eq (tgt := 84) dX10_stood_69 rfl (by decide) (fun _ => ?_) (fun c => absurd c (by decide))
              refine aw_iinc (ls' := [some (rf Γ 0), some _, some _, some (rf Γ 14), some _, some _]) dX10_stood_84 rfl (by decide) rfl ?_
              refine aw_goto (tgt := 42) dX10_stood_87 rfl ?_
              exact ih (by omega) x  (by simp only [sStood, sm] at i42_0 ⊢; (repeat' split) <;> omega)
      · skip
        refine aw_iconst dX10_stood_26 ?_
        exact aw_ireturn dX10_stood_27 rfl rfl ⟨Nat.le_refl _, Nat.le_refl _⟩ (hQ _ (by unfold aStood; rw [if_neg (by simp only [isO]; omega)]))
  · skip
    refine aw_if_eq (tgt := 26) dX10_stood_8 rfl (by decide) (fun _ => ?_) (fun c => absurd c (by decide))
    refine aw_iconst dX10_stood_26 ?_
    exact aw_ireturn dX10_stood_27 rfl rfl ⟨Nat.le_refl _, Nat.le_refl _⟩ (hQ _ (by unfold aStood; rw [if_neg (by simp only [isO]; omega)]))

set_option maxHeartbeats 1000000 in
theorem c_X10_licence {Γ : GT} {S T U V : St} {G : Gw} {nx d : Nat} {Q : QT} (hnx : 52 ≤ nx) {l w : Int} {c : Int} (hI : Inv c S) (hl : inI l) (hw : inI w) (hQ : ∀ r, r = aLicence S l w → Q (some (vi r)) (hp Γ S T U V G) nx) : AM Γ MX10_licence (d + 2, 0, 0) [rf Γ 0, vi l, vi w] (hp Γ S T U V G) nx Q := by
  refine am_of (by decide) (Nat.le_of_ble_eq_true rfl) (ls := [some (rf Γ 0), some _, some _, none]) rfl ?_
  have hR := hI.R
  have i1 := hI.i1
  have hz : 0 ≤ S 28 0 ∧ S 28 0 ≤ 60 := i1.2.2.1
  have hkS : nS S = (S 28 0).toNat := rfl
  have hkI : nIm S = (S 27 0).toNat := rfl
  have hkO : nOr S = (S 26 0).toNat := rfl
  refine aw_aload_n dX10_licence_0 rfl ?_
  refine aw_getf fg_X10_26 dX10_licence_1 (hc0 hnx) rfl ?_
  refine aw_getf fg_X10_106 dX10_licence_4 (hc9 hnx) rfl ?_
  refine aw_iload_n dX10_licence_7 rfl ?_
  refine aw_callV (As := [_]) (ρ := (_, 0, 0)) (kn' := (0, 0)) cv_X10_110 dX10_licence_8 rfl rfl (hc14 hnx) rfl rfl (Nat.le_of_ble_eq_true rfl) (rmR _ _ _) ⟨Nat.le_refl _, Nat.le_refl _⟩ rfl (c_X1_has hnx hR (by omega) (fun r8 h8 => ?_))
  rcases h8 with ⟨rfl, h8⟩ | ⟨rfl, h8⟩
  · skip
    refine aw_if_ne (tgt := 16) dX10_licence_11 rfl (by decide) (fun _ => ?_) (fun c => absurd c (by decide))
    refine aw_aload_n dX10_licence_16 rfl ?_
    refine aw_getf fg_X10_26 dX10_licence_17 (hc0 hnx) rfl ?_
    refine aw_getf fg_X10_106 dX10_licence_20 (hc9 hnx) rfl ?_
    refine aw_astore_n (ls' := [some (rf Γ 0), some _, some _, some (rf Γ 14)]) dX10_licence_23 (by decide) rfl ?_
    refine aw_iload_n dX10_licence_24 rfl ?_
    by_cases cs25 : 0 ≤ w ∧ w ≤ 7
    · obtain cc25 := (show w = 0 ∨ w = 1 ∨ w = 2 ∨ w = 3 ∨ w = 4 ∨ w = 5 ∨ w = 6 ∨ w = 7 by omega)
      rcases cc25 with cc25 | cc25 | cc25 | cc25 | cc25 | cc25 | cc25 | cc25
      · refine aw_tableIn (tgt := 72) dX10_licence_25 (by omega) (by omega) (by omega) (by rw [cc25]; rfl) rfl ?_
        refine aw_aload_n dX10_licence_72 rfl ?_
        refine aw_getf fg_X10_136 dX10_licence_73 (hc14 hnx) rfl ?_
        refine aw_iload_n dX10_licence_76 rfl ?_
        refine aw_ialdr dX10_licence_77 (hc15 hnx) (by omega) (by decide) (hR 4 (by decide)) (fun q77 => ?_)
        exact aw_ireturn dX10_licence_78 rfl rfl ⟨Nat.le_refl _, Nat.le_refl _⟩ (hQ _ (by simp only [aLicence, isL]; (repeat' split) <;> omega))
      · refine aw_tableIn (tgt := 79) dX10_licence_25 (by omega) (by omega) (by omega) (by rw [cc25]; rfl) rfl ?_
        refine aw_aload_n dX10_licence_79 rfl ?_
        refine aw_getf fg_X10_243 dX10_licence_80 (hc14 hnx) rfl ?_
        refine aw_iload_n dX10_licence_83 rfl ?_
        refine aw_ialdr dX10_licence_84 (hc16 hnx) (by omega) (by decide) (hR 5 (by decide)) (fun q84 => ?_)
        exact aw_ireturn dX10_licence_85 rfl rfl ⟨Nat.le_refl _, Nat.le_refl _⟩ (hQ _ (by simp only [aLicence, isL]; (repeat' split) <;> omega))
      · refine aw_tableIn (tgt := 86) dX10_licence_25 (by omega) (by omega) (by omega) (by rw [cc25]; rfl) rfl ?_
        refine aw_aload_n dX10_licence_86 rfl ?_
        refine aw_getf fg_X10_246 dX10_licence_87 (hc14 hnx) rfl ?_
        refine aw_iload_n dX10_licence_90 rfl ?_
        refine aw_ialdr dX10_licence_91 (hc17 hnx) (by omega) (by decide) (hR 6 (by decide)) (fun q91 => ?_)
        exact aw_ireturn dX10_licence_92 rfl rfl ⟨Nat.le_refl _, Nat.le_refl _⟩ (hQ _ (by simp only [aLicence, isL]; (repeat' split) <;> omega))
      · refine aw_tableIn (tgt := 93) dX10_licence_25 (by omega) (by omega) (by omega) (by rw [cc25]; rfl) rfl ?_
        refine aw_aload_n dX10_licence_93 rfl ?_
        refine aw_getf fg_X10_249 dX10_licence_94 (hc14 hnx) rfl ?_
        refine aw_iload_n dX10_licence_97 rfl ?_
        refine aw_ialdr dX10_licence_98 (hc18 hnx) (by omega) (by decide) (hR 7 (by decide)) (fun q98 => ?_)
        exact aw_ireturn dX10_licence_99 rfl rfl ⟨Nat.le_refl _, Nat.le_refl _⟩ (hQ _ (by simp only [aLicence, isL]; (repeat' split) <;> omega))
      · refine aw_tableIn (tgt := 100) dX10_licence_25 (by omega) (by omega) (by omega) (by rw [cc25]; rfl) rfl ?_
        refine aw_aload_n dX10_licence_100 rfl ?_
        refine aw_getf fg_X10_252 dX10_licence_101 (hc14 hnx) rfl ?_
        refine aw_iload_n dX10_licence_104 rfl ?_
        refine aw_ialdr dX10_licence_105 (hc20 hnx) (by omega) (by decide) (hR 9 (by decide)) (fun q105 => ?_)
        exact aw_ireturn dX10_licence_106 rfl rfl ⟨Nat.le_refl _, Nat.le_refl _⟩ (hQ _ (by simp only [aLicence, isL]; (repeat' split) <;> omega))
      · refine aw_tableIn (tgt := 107) dX10_licence_25 (by omega) (by omega) (by omega) (by rw [cc25]; rfl) rfl ?_
        refine aw_aload_n dX10_licence_107 rfl ?_
        refine aw_getf fg_X10_255 dX10_licence_108 (hc14 hnx) rfl ?_
        refine aw_iload_n dX10_licence_111 rfl ?_
        refine aw_ialdr dX10_licence_112 (hc21 hnx) (by omega) (by decide) (hR 10 (by decide)) (fun q112 => ?_)
        exact aw_ireturn dX10_licence_113 rfl rfl ⟨Nat.le_refl _, Nat.le_refl _⟩ (hQ _ (by simp only [aLicence, isL]; (repeat' split) <;> omega))
      · refine aw_tableIn (tgt := 114) dX10_licence_25 (by omega) (by omega) (by omega) (by rw [cc25]; rfl) rfl ?_
        refine aw_aload_n dX10_licence_114 rfl ?_
        refine aw_getf fg_X10_258 dX10_licence_115 (hc14 hnx) rfl ?_
        refine aw_iload_n dX10_licence_118 rfl ?_
        refine aw_ialdr dX10_licence_119 (hc19 hnx) (by omega) (by decide) (hR 8 (by decide)) (fun q119 => ?_)
        exact aw_ireturn dX10_licence_120 rfl rfl ⟨Nat.le_refl _, Nat.le_refl _⟩ (hQ _ (by simp only [aLicence, isL]; (repeat' split) <;> omega))
      · refine aw_tableIn (tgt := 121) dX10_licence_25 (by omega) (by omega) (by omega) (by rw [cc25]; rfl) rfl ?_
        refine aw_aload_n dX10_licence_121 rfl ?_
        refine aw_iload_n dX10_licence_122 rfl ?_
        refine aw_callV (As := [_]) (ρ := (_, 0, 0)) (kn' := (0, 0)) cv_X10_118 dX10_licence_123 rfl rfl (hc14 hnx) rfl rfl (Nat.le_of_ble_eq_true rfl) (rmR _ _ _) ⟨Nat.le_refl _, Nat.le_refl _⟩ rfl (c_X1_remains hnx hR (by omega) (fun r123 h123 => ?_))
        exact aw_ireturn dX10_licence_126 rfl rfl ⟨Nat.le_refl _, Nat.le_refl _⟩ (hQ _ (by simp only [aLicence, isL]; (repeat' split) <;> omega))
    · refine aw_tableOut (tgt := 127) dX10_licence_25 (by omega) (by omega) rfl ?_
      refine aw_iconst dX10_licence_127 ?_
      exact aw_ireturn dX10_licence_128 rfl rfl ⟨Nat.le_refl _, Nat.le_refl _⟩ (hQ _ (by simp only [aLicence, isL]; (repeat' split) <;> omega))
  · skip
    refine aw_if_ne (tgt := 16) dX10_licence_11 rfl (by decide) (fun c => absurd c (by decide)) (fun _ => ?_)
    refine aw_iconst dX10_licence_14 ?_
    exact aw_ireturn dX10_licence_15 rfl rfl ⟨Nat.le_refl _, Nat.le_refl _⟩ (hQ _ (by simp only [aLicence, isL]; (repeat' split) <;> omega))

set_option maxHeartbeats 1000000 in
theorem c_X10_carry {Γ : GT} {S T U V : St} {G : Gw} {nx d : Nat} {Q : QT} (hnx : 52 ≤ nx) {j : Int} {c : Int} (hI : Inv c S) (hj : inI j) (hQ : ∀ r, r = aCarry S j → Q (some (vi r)) (hp Γ S T U V G) nx) : AM Γ MX10_carry (d + 2, 0, 0) [rf Γ 0, vi j] (hp Γ S T U V G) nx Q := by
  refine am_of (by decide) (Nat.le_of_ble_eq_true rfl) (ls := [some (rf Γ 0), some _, none]) rfl ?_
  have hR := hI.R
  have i1 := hI.i1
  have hz : 0 ≤ S 28 0 ∧ S 28 0 ≤ 60 := i1.2.2.1
  have hkS : nS S = (S 28 0).toNat := rfl
  have hkI : nIm S = (S 27 0).toNat := rfl
  have hkO : nOr S = (S 26 0).toNat := rfl
  refine aw_aload_n dX10_carry_0 rfl ?_
  refine aw_getf fg_X10_26 dX10_carry_1 (hc0 hnx) rfl ?_
  refine aw_iload_n dX10_carry_4 rfl ?_
  refine aw_callV (As := [_]) (ρ := (_, 0, 0)) (kn' := (0, 0)) cv_X10_191 dX10_carry_5 rfl rfl (hc9 hnx) rfl rfl (Nat.le_of_ble_eq_true rfl) (rmR _ _ _) ⟨Nat.le_refl _, Nat.le_refl _⟩ rfl (c_X7_hasOrigin hnx hR (by omega) (fun r5 h5 => ?_))
  rcases h5 with ⟨rfl, h5⟩ | ⟨rfl, h5⟩
  · skip
    refine aw_if_ne (tgt := 13) dX10_carry_8 rfl (by decide) (fun _ => ?_) (fun c => absurd c (by decide))
    refine aw_aload_n dX10_carry_13 rfl ?_
    refine aw_getf fg_X10_26 dX10_carry_14 (hc0 hnx) rfl ?_
    refine aw_getf fg_X10_142 dX10_carry_17 (hc9 hnx) rfl ?_
    refine aw_sipush dX10_carry_20 rfl ?_
    refine aw_irem dX10_carry_23 (by omega) (by omega) ?_
    refine aw_sipush dX10_carry_24 rfl ?_
    refine aw_icmp_lt (tgt := 34) dX10_carry_27 rfl (by omega) (fun c27 => ?_) (fun c27 => ?_)
    · skip
      refine aw_iconst dX10_carry_34 ?_
      refine aw_istore_n (ls' := [some (rf Γ 0), some _, some _]) dX10_carry_35 (by decide) rfl ?_
      refine aw_iload_n dX10_carry_36 rfl ?_
      refine aw_if_eq (tgt := 44) dX10_carry_37 rfl (by omega) (fun c37 => ?_) (fun c37 => ?_)
      · skip
        refine aw_aload_n dX10_carry_44 rfl ?_
        refine aw_getf fg_X10_26 dX10_carry_45 (hc0 hnx) rfl ?_
        refine aw_iload_n dX10_carry_48 rfl ?_
        refine aw_callV (As := [_]) (ρ := (_, 0, 0)) (kn' := (0, 0)) cv_X10_290 dX10_carry_49 rfl rfl (hc9 hnx) rfl rfl (Nat.le_of_ble_eq_true rfl) (rmR _ _ _) ⟨Nat.le_refl _, Nat.le_refl _⟩ rfl (c_X7_leftIn hnx hI.z (by omega) (fun r49 h49 => ?_))
        exact aw_ireturn dX10_carry_52 rfl rfl ⟨Nat.le_refl _, Nat.le_refl _⟩ (hQ _ (by unfold aCarry; rw [if_pos (by simp only [isO]; omega)]; first | (exfalso; omega) | (rw [if_pos (by omega)]) | (rw [if_neg (by omega)]; exact h49)))
      · skip
        refine aw_iconst dX10_carry_40 ?_
        refine aw_goto (tgt := 52) dX10_carry_41 rfl ?_
        exact aw_ireturn dX10_carry_52 rfl rfl ⟨Nat.le_refl _, Nat.le_refl _⟩ (hQ _ (by unfold aCarry; rw [if_pos (by simp only [isO]; omega)]; first | (exfalso; omega) | (rw [if_pos (by omega)]) | (rw [if_neg (by omega)]; exact h49)))
    · skip
      refine aw_iconst dX10_carry_30 ?_
      refine aw_goto (tgt := 35) dX10_carry_31 rfl ?_
      refine aw_istore_n (ls' := [some (rf Γ 0), some _, some _]) dX10_carry_35 (by decide) rfl ?_
      refine aw_iload_n dX10_carry_36 rfl ?_
      refine aw_if_eq (tgt := 44) dX10_carry_37 rfl (by omega) (fun c37 => ?_) (fun c37 => ?_)
      · skip
        refine aw_aload_n dX10_carry_44 rfl ?_
        refine aw_getf fg_X10_26 dX10_carry_45 (hc0 hnx) rfl ?_
        refine aw_iload_n dX10_carry_48 rfl ?_
        refine aw_callV (As := [_]) (ρ := (_, 0, 0)) (kn' := (0, 0)) cv_X10_290 dX10_carry_49 rfl rfl (hc9 hnx) rfl rfl (Nat.le_of_ble_eq_true rfl) (rmR _ _ _) ⟨Nat.le_refl _, Nat.le_refl _⟩ rfl (c_X7_leftIn hnx hI.z (by omega) (fun r49 h49 => ?_))
        exact aw_ireturn dX10_carry_52 rfl rfl ⟨Nat.le_refl _, Nat.le_refl _⟩ (hQ _ (by unfold aCarry; rw [if_pos (by simp only [isO]; omega)]; first | (exfalso; omega) | (rw [if_pos (by omega)]) | (rw [if_neg (by omega)]; exact h49)))
      · skip
        refine aw_iconst dX10_carry_40 ?_
        refine aw_goto (tgt := 52) dX10_carry_41 rfl ?_
        exact aw_ireturn dX10_carry_52 rfl rfl ⟨Nat.le_refl _, Nat.le_refl _⟩ (hQ _ (by unfold aCarry; rw [if_pos (by simp only [isO]; omega)]; first | (exfalso; omega) | (rw [if_pos (by omega)]) | (rw [if_neg (by omega)]; exact h49)))
  · skip
    refine aw_if_ne (tgt := 13) dX10_carry_8 rfl (by decide) (fun c => absurd c (by decide)) (fun _ => ?_)
    refine aw_iconst dX10_carry_11 ?_
    exact aw_ireturn dX10_carry_12 rfl rfl ⟨Nat.le_refl _, Nat.le_refl _⟩ (hQ _ (by unfold aCarry; rw [if_neg (by simp only [isO]; omega)]))

set_option maxHeartbeats 1000000 in
theorem c_X10_shareAt {Γ : GT} {S T U V : St} {G : Gw} {nx d : Nat} {Q : QT} (hnx : 52 ≤ nx) {i j a : Int} {c : Int} (hI : Inv c S) (hi : inI i) (hj : inI j) (ha : inI a) (hQ : ∀ r, r = aShareAt S i j a → Q (some (vi r)) (hp Γ S T U V G) nx) : AM Γ MX10_shareAt (d + 3, 0, 0) [rf Γ 0, vi i, vi j, vi a] (hp Γ S T U V G) nx Q := by
  refine am_of (by decide) (Nat.le_of_ble_eq_true rfl) (ls := [some (rf Γ 0), some _, some _, some _]) rfl ?_
  have hR := hI.R
  have i1 := hI.i1
  have hz : 0 ≤ S 28 0 ∧ S 28 0 ≤ 60 := i1.2.2.1
  have hkS : nS S = (S 28 0).toNat := rfl
  have hkI : nIm S = (S 27 0).toNat := rfl
  have hkO : nOr S = (S 26 0).toNat := rfl
  refine aw_aload_n dX10_shareAt_0 rfl ?_
  refine aw_getf fg_X10_26 dX10_shareAt_1 (hc0 hnx) rfl ?_
  refine aw_iload_n dX10_shareAt_4 rfl ?_
  refine aw_iload_n dX10_shareAt_5 rfl ?_
  refine aw_callV (As := [_, _]) (ρ := (_, 0, 0)) (kn' := (0, 0)) cv_X10_87 dX10_shareAt_6 rfl rfl (hc9 hnx) rfl rfl (Nat.le_of_ble_eq_true rfl) (rmR _ _ _) ⟨Nat.le_refl _, Nat.le_refl _⟩ rfl (c_X7_hasPair hnx hR (by omega) (fun r6 h6 => ?_))
  rcases h6 with ⟨rfl, h6⟩ | ⟨rfl, h6⟩
  · skip
    refine aw_if_eq (tgt := 30) dX10_shareAt_9 rfl (by decide) (fun c => absurd c (by decide)) (fun _ => ?_)
    refine aw_iload_n dX10_shareAt_12 rfl ?_
    refine aw_sT (i := 0) gz0 (Or.inl qf_X10_201) dX10_shareAt_13 ?_
    refine aw_iconst dX10_shareAt_16 ?_
    refine aw_tald0 gt0 (by omega) (by decide) rfl dX10_shareAt_17 ?_
    refine aw_st (st' := vi 0 :: _) rfl ?_
    refine aw_icmp_lt (tgt := 30) dX10_shareAt_18 rfl (by omega) (fun c18 => ?_) (fun c18 => ?_)
    · skip
      refine aw_iconst dX10_shareAt_30 ?_
      exact aw_ireturn dX10_shareAt_31 rfl rfl ⟨Nat.le_refl _, Nat.le_refl _⟩ (hQ _ (by unfold aShareAt; rw [if_neg (by simp only [isI, isO]; omega)]))
    · skip
      refine aw_iload_n dX10_shareAt_21 rfl ?_
      refine aw_sT (i := 1) gz1 (Or.inl qf_X10_204) dX10_shareAt_22 ?_
      refine aw_iconst dX10_shareAt_25 ?_
      refine aw_tald0 gt1 (by omega) (by decide) rfl dX10_shareAt_26 ?_
      refine aw_st (st' := vi 100 :: _) rfl ?_
      refine aw_icmp_le (tgt := 32) dX10_shareAt_27 rfl (by omega) (fun c27 => ?_) (fun c27 => ?_)
      · skip
        refine aw_aload_n dX10_shareAt_32 rfl ?_
        refine aw_getf fg_X10_26 dX10_shareAt_33 (hc0 hnx) rfl ?_
        refine aw_iload_n dX10_shareAt_36 rfl ?_
        refine aw_iload_n dX10_shareAt_37 rfl ?_
        refine aw_iload_n dX10_shareAt_38 rfl ?_
        refine aw_aload_n dX10_shareAt_39 rfl ?_
        refine aw_getf fg_X10_26 dX10_shareAt_40 (hc0 hnx) rfl ?_
        refine aw_getf fg_X10_156 dX10_shareAt_43 (hc9 hnx) rfl ?_
        refine aw_iload_n dX10_shareAt_46 rfl ?_
        refine aw_iconst dX10_shareAt_47 ?_
        refine aw_callV (As := [_, _]) (ρ := (_, 0, 0)) (kn' := (0, 0)) cv_X10_217 dX10_shareAt_48 rfl rfl (hc25 hnx) rfl rfl (Nat.le_of_ble_eq_true rfl) (rmR _ _ _) ⟨Nat.le_refl _, Nat.le_refl _⟩ rfl (c_X3_figure hnx hR (by omega) (fun r48 h48 => ?_))
        subst h48
        have fg := (hI.fg (o := j) (by omega)).1
        refine aw_callV (As := [_, _, _, _]) (ρ := (_, 0, 0)) (kn' := (0, 0)) cv_X10_296 dX10_shareAt_51 rfl rfl (hc9 hnx) rfl rfl (Nat.le_of_ble_eq_true rfl) (rmR _ _ _) ⟨Nat.le_refl _, Nat.le_refl _⟩ rfl (c_X7_shareBy hnx hI.z (by omega) (by omega) ⟨by omega, fg⟩ (fun r51 h51 => ?_))
        exact aw_ireturn dX10_shareAt_54 rfl rfl ⟨Nat.le_refl _, Nat.le_refl _⟩ (hQ _ (by unfold aShareAt; rw [if_pos (by simp only [isI, isO]; omega)]; exact h51))
      · skip
        refine aw_iconst dX10_shareAt_30 ?_
        exact aw_ireturn dX10_shareAt_31 rfl rfl ⟨Nat.le_refl _, Nat.le_refl _⟩ (hQ _ (by unfold aShareAt; rw [if_neg (by simp only [isI, isO]; omega)]))
  · skip
    refine aw_if_eq (tgt := 30) dX10_shareAt_9 rfl (by decide) (fun _ => ?_) (fun c => absurd c (by decide))
    refine aw_iconst dX10_shareAt_30 ?_
    exact aw_ireturn dX10_shareAt_31 rfl rfl ⟨Nat.le_refl _, Nat.le_refl _⟩ (hQ _ (by unfold aShareAt; rw [if_neg (by simp only [isI, isO]; omega)]))

set_option maxHeartbeats 1000000 in
theorem c_X10_log {Γ : GT} {S T U V : St} {G : Gw} {nx d : Nat} {Q : QT} (hnx : 52 ≤ nx) {i j w : Int} {c : Int} (hI : Inv c S) (hi : inI i) (hj : inI j) (hw : inI w) (hQ : ∀ r, r = aLog S i j w → Q (some (vi r)) (hp Γ S T U V G) nx) : AM Γ MX10_log (d + 1, 0, 0) [rf Γ 0, vi i, vi j, vi w] (hp Γ S T U V G) nx Q := by
  refine am_of (by decide) (Nat.le_of_ble_eq_true rfl) (ls := [some (rf Γ 0), some _, some _, some _]) rfl ?_
  have hR := hI.R
  have i1 := hI.i1
  have hz : 0 ≤ S 28 0 ∧ S 28 0 ≤ 60 := i1.2.2.1
  have hkS : nS S = (S 28 0).toNat := rfl
  have hkI : nIm S = (S 27 0).toNat := rfl
  have hkO : nOr S = (S 26 0).toNat := rfl
  refine aw_aload_n dX10_log_0 rfl ?_
  refine aw_getf fg_X10_26 dX10_log_1 (hc0 hnx) rfl ?_
  refine aw_iload_n dX10_log_4 rfl ?_
  refine aw_callV (As := [_]) (ρ := (_, 0, 0)) (kn' := (0, 0)) cv_X10_191 dX10_log_5 rfl rfl (hc9 hnx) rfl rfl (Nat.le_of_ble_eq_true rfl) (rmR _ _ _) ⟨Nat.le_refl _, Nat.le_refl _⟩ rfl (c_X7_hasOrigin hnx hR (by omega) (fun r5 h5 => ?_))
  rcases h5 with ⟨rfl, h5⟩ | ⟨rfl, h5⟩
  · skip
    refine aw_if_eq (tgt := 38) dX10_log_8 rfl (by decide) (fun c => absurd c (by decide)) (fun _ => ?_)
    refine aw_iload_n dX10_log_11 rfl ?_
    refine aw_if_lt (tgt := 38) dX10_log_12 rfl (by omega) (fun c12 => ?_) (fun c12 => ?_)
    · skip
      refine aw_iconst dX10_log_38 ?_
      exact aw_ireturn dX10_log_39 rfl rfl ⟨Nat.le_refl _, Nat.le_refl _⟩ (hQ _ (by unfold aLog; rw [if_neg (by simp only [isO]; omega)]))
    · skip
      refine aw_iload_n dX10_log_15 rfl ?_
      refine aw_aload_n dX10_log_16 rfl ?_
      refine aw_getf fg_X10_26 dX10_log_17 (hc0 hnx) rfl ?_
      refine aw_getf fg_X10_156 dX10_log_20 (hc9 hnx) rfl ?_
      refine aw_getf fg_X10_310 dX10_log_23 (hc25 hnx) rfl ?_
      refine aw_icmp_ge (tgt := 38) dX10_log_26 rfl (by omega) (fun c26 => ?_) (fun c26 => ?_)
      · skip
        refine aw_iconst dX10_log_38 ?_
        exact aw_ireturn dX10_log_39 rfl rfl ⟨Nat.le_refl _, Nat.le_refl _⟩ (hQ _ (by unfold aLog; rw [if_neg (by simp only [isO]; omega)]))
      · skip
        refine aw_iload_n dX10_log_29 rfl ?_
        refine aw_if_lt (tgt := 38) dX10_log_30 rfl (by omega) (fun c30 => ?_) (fun c30 => ?_)
        · skip
          refine aw_iconst dX10_log_38 ?_
          exact aw_ireturn dX10_log_39 rfl rfl ⟨Nat.le_refl _, Nat.le_refl _⟩ (hQ _ (by unfold aLog; rw [if_neg (by simp only [isO]; omega)]))
        · skip
          refine aw_iload_n dX10_log_33 rfl ?_
          refine aw_iconst dX10_log_34 ?_
          refine aw_icmp_lt (tgt := 40) dX10_log_35 rfl (by omega) (fun c35 => ?_) (fun c35 => ?_)
          · skip
            refine aw_aload_n dX10_log_40 rfl ?_
            refine aw_getf fg_X10_26 dX10_log_41 (hc0 hnx) rfl ?_
            refine aw_getf fg_X10_156 dX10_log_44 (hc9 hnx) rfl ?_
            refine aw_getf fg_X10_313 dX10_log_47 (hc25 hnx) rfl ?_
            refine aw_iload_n dX10_log_50 rfl ?_
            refine aw_iload_n dX10_log_51 rfl ?_
            refine aw_iload_n dX10_log_52 rfl ?_
            refine aw_callS (As := [_, _, _]) (ρ := (_, 0, 0)) (kn' := (0, 0)) cs_X10_316 dX10_log_53 rfl rfl (Nat.le_of_ble_eq_true rfl) (rmR _ _ _) ⟨Nat.le_refl _, Nat.le_refl _⟩ rfl (c_X10_logPlace hnx  (fun r53 h53 => ?_))
            subst h53
            refine aw_ialdr dX10_log_56 (hc31 hnx) (by omega) (by decide) (hR 19 (by decide)) (fun q56 => ?_)
            exact aw_ireturn dX10_log_57 rfl rfl ⟨Nat.le_refl _, Nat.le_refl _⟩ (hQ _ (by unfold aLog; rw [if_pos (by simp only [isO]; omega)]))
          · skip
            refine aw_iconst dX10_log_38 ?_
            exact aw_ireturn dX10_log_39 rfl rfl ⟨Nat.le_refl _, Nat.le_refl _⟩ (hQ _ (by unfold aLog; rw [if_neg (by simp only [isO]; omega)]))
  · skip
    refine aw_if_eq (tgt := 38) dX10_log_8 rfl (by decide) (fun _ => ?_) (fun c => absurd c (by decide))
    refine aw_iconst dX10_log_38 ?_
    exact aw_ireturn dX10_log_39 rfl rfl ⟨Nat.le_refl _, Nat.le_refl _⟩ (hQ _ (by unfold aLog; rw [if_neg (by simp only [isO]; omega)]))

set_option maxHeartbeats 1000000 in
theorem c_X10_lacks {Γ : GT} {S T U V : St} {G : Gw} {nx d : Nat} {Q : QT} (hnx : 52 ≤ nx) {i j n : Int} {c : Int} (hI : Inv c S) (hi : inI i) (hj : inI j) (hn : inI n) (hQ : ∀ r, r = aLacks S i j n → Q (some (vi r)) (hp Γ S T U V G) nx) : AM Γ MX10_lacks (d + 2, 0, 0) [rf Γ 0, vi i, vi j, vi n] (hp Γ S T U V G) nx Q := by
  refine am_of (by decide) (Nat.le_of_ble_eq_true rfl) (ls := [some (rf Γ 0), some _, some _, some _, none, none, none]) rfl ?_
  have hR := hI.R
  have i1 := hI.i1
  have hz : 0 ≤ S 28 0 ∧ S 28 0 ≤ 60 := i1.2.2.1
  have hkS : nS S = (S 28 0).toNat := rfl
  have hkI : nIm S = (S 27 0).toNat := rfl
  have hkO : nOr S = (S 26 0).toNat := rfl
  refine aw_aload_n dX10_lacks_0 rfl ?_
  refine aw_getf fg_X10_26 dX10_lacks_1 (hc0 hnx) rfl ?_
  refine aw_iload_n dX10_lacks_4 rfl ?_
  refine aw_iload_n dX10_lacks_5 rfl ?_
  refine aw_callV (As := [_, _]) (ρ := (_, 0, 0)) (kn' := (0, 0)) cv_X10_87 dX10_lacks_6 rfl rfl (hc9 hnx) rfl rfl (Nat.le_of_ble_eq_true rfl) (rmR _ _ _) ⟨Nat.le_refl _, Nat.le_refl _⟩ rfl (c_X7_hasPair hnx hR (by omega) (fun r6 h6 => ?_))
  rcases h6 with ⟨rfl, h6⟩ | ⟨rfl, h6⟩
  · skip
    refine aw_if_eq (tgt := 19) dX10_lacks_9 rfl (by decide) (fun c => absurd c (by decide)) (fun _ => ?_)
    refine aw_iload_n dX10_lacks_12 rfl ?_
    refine aw_callS (As := [_]) (ρ := (_, 0, 0)) (kn' := (0, 0)) cs_X10_91 dX10_lacks_13 rfl rfl (Nat.le_of_ble_eq_true rfl) (rmR _ _ _) ⟨Nat.le_refl _, Nat.le_refl _⟩ rfl (c_X10_isAmount hnx (by omega) (fun r13 h13 => ?_))
    rcases h13 with ⟨rfl, h13⟩ | ⟨rfl, h13⟩
    · skip
      refine aw_if_ne (tgt := 21) dX10_lacks_16 rfl (by decide) (fun _ => ?_) (fun c => absurd c (by decide))
      refine aw_aload_n dX10_lacks_21 rfl ?_
      refine aw_getf fg_X10_26 dX10_lacks_22 (hc0 hnx) rfl ?_
      refine aw_getf fg_X10_106 dX10_lacks_25 (hc9 hnx) rfl ?_
      refine aw_astore (ls' := [some (rf Γ 0), some _, some _, some _, some (rf Γ 14), none, none]) dX10_lacks_28 (by decide) rfl ?_
      refine aw_iconst dX10_lacks_30 ?_
      refine aw_istore (ls' := [some (rf Γ 0), some _, some _, some _, some (rf Γ 14), some _, none]) dX10_lacks_31 (by decide) rfl ?_
      refine aw_iconst dX10_lacks_33 ?_
      refine aw_istore (ls' := [some (rf Γ 0), some _, some _, some _, some (rf Γ 14), some _, some _]) dX10_lacks_34 (by decide) rfl ?_
      refine loopN (nS S) (P := fun k => ∀ (x : Int) , x = sLak S i j k →  AW Γ MX10_lacks _ _ (0, 0) 36 [some (rf Γ 0), some (vi i), some (vi j), some (vi n), some (rf Γ 14), some (vi x), some (vi (k : Int))] [] (hp Γ S T U V G) nx) (fun k hk ih => ?_) 0 (Nat.zero_le _) _ rfl 
      intro x i36_0
      refine aw_iload dX10_lacks_36 rfl ?_
      refine aw_aload dX10_lacks_38 rfl ?_
      refine aw_getf fg_X10_139 dX10_lacks_40 (hc14 hnx) rfl ?_
      refine aw_icmp_ge (tgt := 76) dX10_lacks_43 rfl (by omega) (fun c43 => ?_) (fun c43 => ?_)
      · skip
        obtain rfl : k = nS S := by omega
        have lk := hI.lak i j (nS S) (Nat.le_refl _)
        refine aw_iconst dX10_lacks_76 ?_
        refine aw_iload_n dX10_lacks_77 rfl ?_
        refine aw_iload dX10_lacks_78 rfl ?_
        refine aw_isub dX10_lacks_80 ?_
        refine aw_mmax qm_X10_326 dX10_lacks_81 (by omega) (rmN13 _ _ _ (Nat.le_of_ble_eq_true rfl)) ⟨Nat.le_refl _, Nat.le_refl _⟩ (fun r81 h81 => ?_)
        exact aw_ireturn dX10_lacks_84 rfl rfl ⟨Nat.le_refl _, Nat.le_refl _⟩ (hQ _ (by unfold aLacks; rw [if_pos (by simp only [isI, isO, isN]; omega)]; omega))
      · skip
        refine aw_aload dX10_lacks_46 rfl ?_
        refine aw_iload dX10_lacks_48 rfl ?_
        refine aw_iload_n dX10_lacks_50 rfl ?_
        refine aw_iload_n dX10_lacks_51 rfl ?_
        refine aw_callV (As := [_, _, _]) (ρ := (_, 0, 0)) (kn' := (0, 0)) cv_X10_322 dX10_lacks_52 rfl rfl (hc14 hnx) rfl rfl (Nat.le_of_ble_eq_true rfl) (rmR _ _ _) ⟨Nat.le_refl _, Nat.le_refl _⟩ rfl (c_X1_isFor hnx hR (by omega) (by omega) (fun r52 h52 => ?_))
        rcases h52 with ⟨rfl, h52⟩ | ⟨rfl, h52⟩
        · skip
          refine aw_if_eq (tgt := 70) dX10_lacks_55 rfl (by decide) (fun c => absurd c (by decide)) (fun _ => ?_)
          refine aw_iload dX10_lacks_58 rfl ?_
          refine aw_aload dX10_lacks_60 rfl ?_
          refine aw_iload dX10_lacks_62 rfl ?_
          refine aw_callV (As := [_]) (ρ := (_, 0, 0)) (kn' := (0, 0)) cv_X10_118 dX10_lacks_64 rfl rfl (hc14 hnx) rfl rfl (Nat.le_of_ble_eq_true rfl) (rmR _ _ _) ⟨Nat.le_refl _, Nat.le_refl _⟩ rfl (c_X1_remains hnx hR (by omega) (fun r64 h64 => ?_))
          refine aw_iadd dX10_lacks_67 ?_
          refine aw_nmI (fun x5_68 hx5_68 => ?_)
          refine aw_istore (ls' := [some (rf Γ 0), some _, some _, some _, some (rf Γ 14), some _, some _]) dX10_lacks_68 (by decide) rfl ?_
          refine aw_iinc (ls' := [some (rf Γ 0), some _, some _, some _, some (rf Γ 14), some _, some _]) dX10_lacks_70 rfl (by decide) rfl ?_
          refine aw_goto (tgt := 36) dX10_lacks_73 rfl ?_
          exact ih (by omega) x5_68  (by simp only [sLak, sm] at i36_0 ⊢; (repeat' split) <;> omega)
        · skip
          refine aw_if_eq (tgt := 70) dX10_lacks_55 rfl (by decide) (fun _ => ?_) (fun c => absurd c (by decide))
          refine aw_iinc (ls' := [some (rf Γ 0), some _, some _, some _, some (rf Γ 14), some _, some _]) dX10_lacks_70 rfl (by decide) rfl ?_
          refine aw_goto (tgt := 36) dX10_lacks_73 rfl ?_
          exact ih (by omega) x  (by simp only [sLak, sm] at i36_0 ⊢; (repeat' split) <;> omega)
    · skip
      refine aw_if_ne (tgt := 21) dX10_lacks_16 rfl (by decide) (fun c => absurd c (by decide)) (fun _ => ?_)
      refine aw_iconst dX10_lacks_19 ?_
      exact aw_ireturn dX10_lacks_20 rfl rfl ⟨Nat.le_refl _, Nat.le_refl _⟩ (hQ _ (by unfold aLacks; rw [if_neg (by simp only [isI, isO, isN]; omega)]))
  · skip
    refine aw_if_eq (tgt := 19) dX10_lacks_9 rfl (by decide) (fun _ => ?_) (fun c => absurd c (by decide))
    refine aw_iconst dX10_lacks_19 ?_
    exact aw_ireturn dX10_lacks_20 rfl rfl ⟨Nat.le_refl _, Nat.le_refl _⟩ (hQ _ (by unfold aLacks; rw [if_neg (by simp only [isI, isO, isN]; omega)]))

set_option maxHeartbeats 1000000 in
theorem c_X10_holds {Γ : GT} {S T U V : St} {G : Gw} {nx d : Nat} {Q : QT} (hnx : 52 ≤ nx) {i w : Int} {c : Int} (hI : Inv c S) (hi : inI i) (hw : inI w) (hQ : ∀ r, r = aHolds S i w → Q (some (vi r)) (hp Γ S T U V G) nx) : AM Γ MX10_holds (d + 3, 0, 0) [rf Γ 0, vi i, vi w] (hp Γ S T U V G) nx Q := by
  refine am_of (by decide) (Nat.le_of_ble_eq_true rfl) (ls := [some (rf Γ 0), some _, some _]) rfl ?_
  have hR := hI.R
  have i1 := hI.i1
  have hz : 0 ≤ S 28 0 ∧ S 28 0 ≤ 60 := i1.2.2.1
  have hkS : nS S = (S 28 0).toNat := rfl
  have hkI : nIm S = (S 27 0).toNat := rfl
  have hkO : nOr S = (S 26 0).toNat := rfl
  refine aw_aload_n dX10_holds_0 rfl ?_
  refine aw_getf fg_X10_26 dX10_holds_1 (hc0 hnx) rfl ?_
  refine aw_iload_n dX10_holds_4 rfl ?_
  refine aw_callV (As := [_]) (ρ := (_, 0, 0)) (kn' := (0, 0)) cv_X10_133 dX10_holds_5 rfl rfl (hc9 hnx) rfl rfl (Nat.le_of_ble_eq_true rfl) (rmR _ _ _) ⟨Nat.le_refl _, Nat.le_refl _⟩ rfl (c_X7_hasImporter hnx hR (by omega) (fun r5 h5 => ?_))
  rcases h5 with ⟨rfl, h5⟩ | ⟨rfl, h5⟩
  · skip
    refine aw_if_ne (tgt := 13) dX10_holds_8 rfl (by decide) (fun _ => ?_) (fun c => absurd c (by decide))
    refine aw_iload_n dX10_holds_13 rfl ?_
    by_cases cs14 : 0 ≤ w ∧ w ≤ 3
    · obtain cc14 := (show w = 0 ∨ w = 1 ∨ w = 2 ∨ w = 3 by omega)
      rcases cc14 with cc14 | cc14 | cc14 | cc14
      · refine aw_tableIn (tgt := 44) dX10_holds_14 (by omega) (by omega) (by omega) (by rw [cc14]; rfl) rfl ?_
        refine aw_aload_n dX10_holds_44 rfl ?_
        refine aw_getf fg_X10_26 dX10_holds_45 (hc0 hnx) rfl ?_
        refine aw_getf fg_X10_106 dX10_holds_48 (hc9 hnx) rfl ?_
        refine aw_iload_n dX10_holds_51 rfl ?_
        refine aw_callV (As := [_]) (ρ := (_, 0, 0)) (kn' := (0, 0)) cv_X10_362 dX10_holds_52 rfl rfl (hc14 hnx) rfl rfl (Nat.le_of_ble_eq_true rfl) (rmR _ _ _) ⟨Nat.le_refl _, Nat.le_refl _⟩ rfl (c_X1_openOnesOf hnx hR (by omega) hz (fun r52 h52 => ?_))
        exact aw_ireturn dX10_holds_55 rfl rfl ⟨Nat.le_refl _, Nat.le_refl _⟩ (hQ _ (by simp only [aHolds, isI]; (repeat' split) <;> omega))
      · refine aw_tableIn (tgt := 56) dX10_holds_14 (by omega) (by omega) (by omega) (by rw [cc14]; rfl) rfl ?_
        refine aw_aload_n dX10_holds_56 rfl ?_
        refine aw_getf fg_X10_26 dX10_holds_57 (hc0 hnx) rfl ?_
        refine aw_getf fg_X10_106 dX10_holds_60 (hc9 hnx) rfl ?_
        refine aw_iload_n dX10_holds_63 rfl ?_
        refine aw_callV (As := [_]) (ρ := (_, 0, 0)) (kn' := (0, 0)) cv_X10_365 dX10_holds_64 rfl rfl (hc14 hnx) rfl rfl (Nat.le_of_ble_eq_true rfl) (rmR _ _ _) ⟨Nat.le_refl _, Nat.le_refl _⟩ rfl (c_X1_remainsOf hnx hR (by omega) hz (fun r64 h64 => ?_))
        exact aw_ireturn dX10_holds_67 rfl rfl ⟨Nat.le_refl _, Nat.le_refl _⟩ (hQ _ (by simp only [aHolds, isI]; (repeat' split) <;> omega))
      · refine aw_tableIn (tgt := 68) dX10_holds_14 (by omega) (by omega) (by omega) (by rw [cc14]; rfl) rfl ?_
        refine aw_aload_n dX10_holds_68 rfl ?_
        refine aw_getf fg_X10_26 dX10_holds_69 (hc0 hnx) rfl ?_
        refine aw_getf fg_X10_106 dX10_holds_72 (hc9 hnx) rfl ?_
        refine aw_iload_n dX10_holds_75 rfl ?_
        refine aw_callV (As := [_]) (ρ := (_, 0, 0)) (kn' := (0, 0)) cv_X10_368 dX10_holds_76 rfl rfl (hc14 hnx) rfl rfl (Nat.le_of_ble_eq_true rfl) (rmR _ _ _) ⟨Nat.le_refl _, Nat.le_refl _⟩ rfl (c_X1_earliestLastDayOf hnx hR (by omega) hz (fun r76 h76 => ?_))
        exact aw_ireturn dX10_holds_79 rfl rfl ⟨Nat.le_refl _, Nat.le_refl _⟩ (hQ _ (by simp only [aHolds, isI]; (repeat' split) <;> omega))
      · refine aw_tableIn (tgt := 80) dX10_holds_14 (by omega) (by omega) (by omega) (by rw [cc14]; rfl) rfl ?_
        refine aw_aload_n dX10_holds_80 rfl ?_
        refine aw_getf fg_X10_26 dX10_holds_81 (hc0 hnx) rfl ?_
        refine aw_getf fg_X10_106 dX10_holds_84 (hc9 hnx) rfl ?_
        refine aw_iload_n dX10_holds_87 rfl ?_
        refine aw_aload_n dX10_holds_88 rfl ?_
        refine aw_getf fg_X10_26 dX10_holds_89 (hc0 hnx) rfl ?_
        refine aw_getf fg_X10_142 dX10_holds_92 (hc9 hnx) rfl ?_
        refine aw_callV (As := [_, _]) (ρ := (_, 0, 0)) (kn' := (0, 0)) cv_X10_371 dX10_holds_95 rfl rfl (hc14 hnx) rfl rfl (Nat.le_of_ble_eq_true rfl) (rmR _ _ _) ⟨Nat.le_refl _, Nat.le_refl _⟩ rfl (c_X1_longestOpenOf hnx hR (by omega) (by omega) (fun l h0 h1 => by have := hI.li (l := l) ⟨h0, h1⟩; omega) hz (fun r95 h95 => ?_))
        exact aw_ireturn dX10_holds_98 rfl rfl ⟨Nat.le_refl _, Nat.le_refl _⟩ (hQ _ (by simp only [aHolds, isI]; (repeat' split) <;> omega))
    · refine aw_tableOut (tgt := 99) dX10_holds_14 (by omega) (by omega) rfl ?_
      refine aw_iconst dX10_holds_99 ?_
      exact aw_ireturn dX10_holds_100 rfl rfl ⟨Nat.le_refl _, Nat.le_refl _⟩ (hQ _ (by simp only [aHolds, isI]; (repeat' split) <;> omega))
  · skip
    refine aw_if_ne (tgt := 13) dX10_holds_8 rfl (by decide) (fun c => absurd c (by decide)) (fun _ => ?_)
    refine aw_iconst dX10_holds_11 ?_
    exact aw_ireturn dX10_holds_12 rfl rfl ⟨Nat.le_refl _, Nat.le_refl _⟩ (hQ _ (by simp only [aHolds, isI]; (repeat' split) <;> omega))


/-! the reference: searches -/
theorem Inv.cny1 {c : Int} {A : St} (h : Inv c A) {p : Int} (hp : 0 ≤ p ∧ p < 32) (hk : 0 < A 26 0) (e : A 0 5 ≤ b1 (0 < A 20 p) + b1 (0 < A 2 (p * 3 + 0)) + b1 (0 < A 2 (p * 3 + 1))) : 0 < Jvm.Pilot.@@N@@.cny A p := by
  have t := h.tm hk
  have h0 := h.ps (k := p * 3 + 0) (by omega); have h1 := h.ps (k := p * 3 + 1) (by omega); have h2 := (h.yr (k := p) (by omega)).1 (by omega)
  have z0 := b1_c (0 < A 20 p); have z1 := b1_c (0 < A 2 (p * 3 + 0)); have z2 := b1_c (0 < A 2 (p * 3 + 1))
  unfold Jvm.Pilot.@@N@@.cny
  rw [if_pos e]
  omega
theorem Inv.cnys1 {c : Int} {A : St} (h : Inv c A) {i o : Int} (hi : 0 ≤ i ∧ i < A 27 0) (ho : 0 ≤ o ∧ o < A 26 0) (e : 0 < Jvm.Pilot.@@N@@.cny A (4 * i + o)) : 0 < Jvm.Pilot.@@N@@.cnys A o (nIm A) := by
  have i1 := h.i1
  have h1 := sm_one (f := fun i => Jvm.Pilot.@@N@@.cny A (4 * i + o)) (nIm A) (fun k hk => (h.cny (p := 4 * (k : Int) + o) (by unfold nIm at hk; omega)).1) i.toNat (by unfold nIm; omega)
  have h2 : Jvm.Pilot.@@N@@.cny A (4 * ((i.toNat : Nat) : Int) + o) ≤ Jvm.Pilot.@@N@@.cnys A o (nIm A) := h1
  rw [show ((i.toNat : Nat) : Int) = i by omega] at h2
  omega
theorem rt_end {c : Int} {A : St} (h : Inv c A) {l : Int} (hl : 0 ≤ l ∧ l < A 28 0) : A 12 (rtW A l 60) = -1 := by
  have i1 := h.i1
  have q := h.rtW hl 60
  omega

set_option maxHeartbeats 1000000 in
theorem c_X11_next_ {Γ : GT} {S T U V A : St} {G : Gw} {nx d : Nat} {Q : QT} (hnx : 52 ≤ nx) {q : Int} {c : Int} (hI : Inv c A) (hA : Ag A (V 0)) (hL : RgL V) (hq : inI q) (hQ : ∀ r, r = aNext A q → Q (some (vi r)) (hp Γ S T U V G) nx) : AM Γ MX11_next_ (d + 4, 0, 0) [rf Γ 43, vi q] (hp Γ S T U V G) nx Q := by
  refine am_of (by decide) (Nat.le_of_ble_eq_true rfl) (ls := [some (rf Γ 43), some _, none]) rfl ?_
  have hR := hI.R
  have i1 := hI.i1
  have hz : 0 ≤ A 28 0 ∧ A 28 0 ≤ 60 := i1.2.2.1
  have hkS : nS A = (A 28 0).toNat := rfl
  have hkI : nIm A = (A 27 0).toNat := rfl
  have hkO : nOr A = (A 26 0).toNat := rfl
  refine aw_iload_n dX11_next__0 rfl ?_
  refine aw_iconst dX11_next__1 ?_
  refine aw_icmp_ge (tgt := 7) dX11_next__2 rfl (by omega) (fun c2 => ?_) (fun c2 => ?_)
  · skip
    refine aw_iconst dX11_next__7 ?_
    refine aw_istore_n (ls' := [some (rf Γ 43), some _, some _]) dX11_next__8 (by decide) rfl ?_
    refine loopN (nS A) (P := fun k => fs (nxP A q) k = -5 →  AW Γ MX11_next_ _ _ (0, 0) 9 [some (rf Γ 43), some (vi q), some (vi (k : Int))] [] (hp Γ S T U V G) nx) (fun k hk ih => ?_) 0 (Nat.zero_le _) rfl
    intro  i9_0
    refine aw_iload_n dX11_next__9 rfl ?_
    refine aw_aload_n dX11_next__10 rfl ?_
    refine aw_bipush dX11_next__11 rfl ?_
    refine aw_callV (As := [_]) (ρ := (_, 0, 0)) (kn' := (0, 0)) cv_X11_164 dX11_next__13 rfl rfl (hc43 hnx) rfl rfl (Nat.le_of_ble_eq_true rfl) (rmR _ _ _) ⟨Nat.le_refl _, Nat.le_refl _⟩ rfl (c_X11_many_8 hnx hI hA hL  (fun r13 h13 => ?_))
    subst h13
    refine aw_icmp_ge (tgt := 44) dX11_next__16 rfl (by omega) (fun c16 => ?_) (fun c16 => ?_)
    · skip
      obtain rfl : k = nS A := by omega
      refine aw_iload_n dX11_next__44 rfl ?_
      refine aw_iconst dX11_next__45 ?_
      refine aw_icmp_ne (tgt := 56) dX11_next__46 rfl (by omega) (fun c46 => ?_) (fun c46 => ?_)
      · skip
        refine aw_bipush dX11_next__56 rfl ?_
        exact aw_ireturn dX11_next__58 rfl rfl ⟨Nat.le_refl _, Nat.le_refl _⟩ (hQ _ (by unfold aNext; rw [if_neg (by omega)]; first | (rw [if_pos (by omega)]; exact h50) | (rw [if_neg (by omega)]; exact (fsA_none i9_0).symm)))
      · skip
        refine aw_aload_n dX11_next__49 rfl ?_
        refine aw_callV (As := []) (ρ := (_, 0, 0)) (kn' := (0, 0)) cv_X11_315 dX11_next__50 rfl rfl (hc43 hnx) rfl rfl (Nat.le_of_ble_eq_true rfl) (rmR _ _ _) ⟨Nat.le_refl _, Nat.le_refl _⟩ rfl (c_X11_openMany hnx hI hA hL (fun r50 h50 => ?_))
        refine aw_goto (tgt := 58) dX11_next__53 rfl ?_
        exact aw_ireturn dX11_next__58 rfl rfl ⟨Nat.le_refl _, Nat.le_refl _⟩ (hQ _ (by unfold aNext; rw [if_neg (by omega)]; first | (rw [if_pos (by omega)]; exact h50) | (rw [if_neg (by omega)]; exact (fsA_none i9_0).symm)))
    · skip
      refine aw_aload_n dX11_next__19 rfl ?_
      refine aw_iload_n dX11_next__20 rfl ?_
      refine aw_callV (As := [_]) (ρ := (_, 0, 0)) (kn' := (0, 0)) cv_X11_199 dX11_next__21 rfl rfl (hc43 hnx) rfl rfl (Nat.le_of_ble_eq_true rfl) (rmR _ _ _) ⟨Nat.le_refl _, Nat.le_refl _⟩ rfl (c_X11_isOpen hnx hI hA hL (by omega) (fun r21 h21 => ?_))
      rcases h21 with ⟨rfl, h21⟩ | ⟨rfl, h21⟩
      · skip
        refine aw_if_eq (tgt := 38) dX11_next__24 rfl (by decide) (fun c => absurd c (by decide)) (fun _ => ?_)
        refine aw_aload_n dX11_next__27 rfl ?_
        refine aw_iload_n dX11_next__28 rfl ?_
        refine aw_callV (As := [_]) (ρ := (_, 0, 0)) (kn' := (0, 0)) cv_X11_312 dX11_next__29 rfl rfl (hc43 hnx) rfl rfl (Nat.le_of_ble_eq_true rfl) (rmR _ _ _) ⟨Nat.le_refl _, Nat.le_refl _⟩ rfl (c_X11_aheadOf hnx hI hA hL (by omega) (fun r29 h29 => ?_))
        have ha := aheadN_in A k (nS A)
        refine aw_iload_n dX11_next__32 rfl ?_
        refine aw_icmp_ne (tgt := 38) dX11_next__33 rfl (by omega) (fun c33 => ?_) (fun c33 => ?_)
        · skip
          refine aw_iinc (ls' := [some (rf Γ 43), some _, some _]) dX11_next__38 rfl (by decide) rfl ?_
          refine aw_goto (tgt := 9) dX11_next__41 rfl ?_
          exact ih (by omega)   (fs_s i9_0 (by unfold nxP; omega))
        · skip
          refine aw_iload_n dX11_next__36 rfl ?_
          exact aw_ireturn dX11_next__37 rfl rfl ⟨Nat.le_refl _, Nat.le_refl _⟩ (hQ _ (by unfold aNext; rw [if_neg (by omega), if_neg (by omega)]; exact (fsA_hit i9_0 (show nxP A q k by unfold nxP; omega) (by omega)).symm))
      · skip
        refine aw_if_eq (tgt := 38) dX11_next__24 rfl (by decide) (fun _ => ?_) (fun c => absurd c (by decide))
        refine aw_iinc (ls' := [some (rf Γ 43), some _, some _]) dX11_next__38 rfl (by decide) rfl ?_
        refine aw_goto (tgt := 9) dX11_next__41 rfl ?_
        exact ih (by omega)   (fs_s i9_0 (by unfold nxP; omega))
  · skip
    refine aw_iconst dX11_next__5 ?_
    exact aw_ireturn dX11_next__6 rfl rfl ⟨Nat.le_refl _, Nat.le_refl _⟩ (hQ _ (by unfold aNext; rw [if_pos (by omega)]))

set_option maxHeartbeats 1000000 in
theorem c_X11_risk {Γ : GT} {S T U V A : St} {G : Gw} {nx d : Nat} {Q : QT} (hnx : 52 ≤ nx) {q : Int} {c : Int} (hI : Inv c A) (hA : Ag A (V 0)) (hL : RgL V) (hq : inI q) (hQ : ∀ r, r = aRisk A q → Q (some (vi r)) (hp Γ S T U V G) nx) : AM Γ MX11_risk (d + 3, 0, 0) [rf Γ 43, vi q] (hp Γ S T U V G) nx Q := by
  refine am_of (by decide) (Nat.le_of_ble_eq_true rfl) (ls := [some (rf Γ 43), some _, none, none]) rfl ?_
  have hR := hI.R
  have i1 := hI.i1
  have hz : 0 ≤ A 28 0 ∧ A 28 0 ≤ 60 := i1.2.2.1
  have hkS : nS A = (A 28 0).toNat := rfl
  have hkI : nIm A = (A 27 0).toNat := rfl
  have hkO : nOr A = (A 26 0).toNat := rfl
  refine aw_iload_n dX11_risk_0 rfl ?_
  refine aw_iconst dX11_risk_1 ?_
  refine aw_icmp_ge (tgt := 7) dX11_risk_2 rfl (by omega) (fun c2 => ?_) (fun c2 => ?_)
  · skip
    refine aw_iconst dX11_risk_7 ?_
    refine aw_istore_n (ls' := [some (rf Γ 43), some _, some _, none]) dX11_risk_8 (by decide) rfl ?_
    refine aw_iconst dX11_risk_9 ?_
    refine aw_istore_n (ls' := [some (rf Γ 43), some _, some _, some _]) dX11_risk_10 (by decide) rfl ?_
    refine loopN (nS A) (P := fun k => ∀ (x : Int) , x = rskN A k → fs (rkP A q) k = -5 →  AW Γ MX11_risk _ _ (0, 0) 11 [some (rf Γ 43), some (vi q), some (vi x), some (vi (k : Int))] [] (hp Γ S T U V G) nx) (fun k hk ih => ?_) 0 (Nat.zero_le _) _ rfl rfl
    intro x i11_0 i11_1
    refine aw_iload_n dX11_risk_11 rfl ?_
    refine aw_aload_n dX11_risk_12 rfl ?_
    refine aw_bipush dX11_risk_13 rfl ?_
    refine aw_callV (As := [_]) (ρ := (_, 0, 0)) (kn' := (0, 0)) cv_X11_164 dX11_risk_15 rfl rfl (hc43 hnx) rfl rfl (Nat.le_of_ble_eq_true rfl) (rmR _ _ _) ⟨Nat.le_refl _, Nat.le_refl _⟩ rfl (c_X11_many_8 hnx hI hA hL  (fun r15 h15 => ?_))
    subst h15
    refine aw_icmp_ge (tgt := 56) dX11_risk_18 rfl (by omega) (fun c18 => ?_) (fun c18 => ?_)
    · skip
      obtain rfl : k = nS A := by omega
      refine aw_iload_n dX11_risk_56 rfl ?_
      refine aw_iconst dX11_risk_57 ?_
      refine aw_icmp_ne (tgt := 65) dX11_risk_58 rfl (by omega) (fun c58 => ?_) (fun c58 => ?_)
      · skip
        refine aw_bipush dX11_risk_65 rfl ?_
        exact aw_ireturn dX11_risk_67 rfl rfl ⟨Nat.le_refl _, Nat.le_refl _⟩ (hQ _ (by unfold aRisk; rw [if_neg (by omega), fsA_none i11_1]; first | (rw [if_pos (by omega)]; omega) | (rw [if_neg (by omega)])))
      · skip
        refine aw_iload_n dX11_risk_61 rfl ?_
        refine aw_goto (tgt := 67) dX11_risk_62 rfl ?_
        exact aw_ireturn dX11_risk_67 rfl rfl ⟨Nat.le_refl _, Nat.le_refl _⟩ (hQ _ (by unfold aRisk; rw [if_neg (by omega), fsA_none i11_1]; first | (rw [if_pos (by omega)]; omega) | (rw [if_neg (by omega)])))
    · skip
      have ha0 := rskN_in A k
      refine aw_aload_n dX11_risk_21 rfl ?_
      refine aw_iload_n dX11_risk_22 rfl ?_
      refine aw_callV (As := [_]) (ρ := (_, 0, 0)) (kn' := (0, 0)) cv_X11_199 dX11_risk_23 rfl rfl (hc43 hnx) rfl rfl (Nat.le_of_ble_eq_true rfl) (rmR _ _ _) ⟨Nat.le_refl _, Nat.le_refl _⟩ rfl (c_X11_isOpen hnx hI hA hL (by omega) (fun r23 h23 => ?_))
      rcases h23 with ⟨rfl, h23⟩ | ⟨rfl, h23⟩
      · skip
        refine aw_if_eq (tgt := 50) dX11_risk_26 rfl (by decide) (fun c => absurd c (by decide)) (fun _ => ?_)
        refine aw_aload_n dX11_risk_29 rfl ?_
        refine aw_iload_n dX11_risk_30 rfl ?_
        refine aw_callV (As := [_]) (ρ := (_, 0, 0)) (kn' := (0, 0)) cv_X11_209 dX11_risk_31 rfl rfl (hc43 hnx) rfl rfl (Nat.le_of_ble_eq_true rfl) (rmR _ _ _) ⟨Nat.le_refl _, Nat.le_refl _⟩ rfl (c_X11_isIdleBy hnx hI hA hL (by omega) (fun r31 h31 => ?_))
        rcases h31 with ⟨rfl, h31⟩ | ⟨rfl, h31⟩
        · skip
          refine aw_if_ne (tgt := 40) dX11_risk_34 rfl (by decide) (fun _ => ?_) (fun c => absurd c (by decide))
          have ha := rskN_in A k
          refine aw_iload_n dX11_risk_40 rfl ?_
          refine aw_iload_n dX11_risk_41 rfl ?_
          refine aw_icmp_ne (tgt := 47) dX11_risk_42 rfl (by omega) (fun c42 => ?_) (fun c42 => ?_)
          · skip
            refine aw_iinc (ls' := [some (rf Γ 43), some _, some _, some _]) dX11_risk_47 rfl (by decide) rfl ?_
            refine aw_iinc (ls' := [some (rf Γ 43), some _, some _, some _]) dX11_risk_50 rfl (by decide) rfl ?_
            refine aw_goto (tgt := 11) dX11_risk_53 rfl ?_
            exact ih (by omega) _  (by simp only [rskN, sm] at i11_0 ⊢; split <;> omega) (fs_s i11_1 (by unfold rkP; rw [Int.toNat_natCast]; omega))
          · skip
            refine aw_iload_n dX11_risk_45 rfl ?_
            exact aw_ireturn dX11_risk_46 rfl rfl ⟨Nat.le_refl _, Nat.le_refl _⟩ (hQ _ (by unfold aRisk; rw [if_neg (by omega)]; exact (fsA_hit i11_1 (show rkP A q k from ⟨⟨h23, h31⟩, by rw [Int.toNat_natCast]; omega⟩) (by omega)).symm))
        · skip
          refine aw_if_ne (tgt := 40) dX11_risk_34 rfl (by decide) (fun c => absurd c (by decide)) (fun _ => ?_)
          refine aw_goto (tgt := 50) dX11_risk_37 rfl ?_
          refine aw_iinc (ls' := [some (rf Γ 43), some _, some _, some _]) dX11_risk_50 rfl (by decide) rfl ?_
          refine aw_goto (tgt := 11) dX11_risk_53 rfl ?_
          exact ih (by omega) x  (by simp only [rskN, sm] at i11_0 ⊢; split <;> omega) (fs_s i11_1 (by unfold rkP; rw [Int.toNat_natCast]; omega))
      · skip
        refine aw_if_eq (tgt := 50) dX11_risk_26 rfl (by decide) (fun _ => ?_) (fun c => absurd c (by decide))
        refine aw_iinc (ls' := [some (rf Γ 43), some _, some _, some _]) dX11_risk_50 rfl (by decide) rfl ?_
        refine aw_goto (tgt := 11) dX11_risk_53 rfl ?_
        exact ih (by omega) x  (by simp only [rskN, sm] at i11_0 ⊢; split <;> omega) (fs_s i11_1 (by unfold rkP; rw [Int.toNat_natCast]; omega))
  · skip
    refine aw_iconst dX11_risk_5 ?_
    exact aw_ireturn dX11_risk_6 rfl rfl ⟨Nat.le_refl _, Nat.le_refl _⟩ (hQ _ (by unfold aRisk; rw [if_pos (by omega)]))

set_option maxHeartbeats 1000000 in
theorem c_X11_order {Γ : GT} {S T U V A : St} {G : Gw} {nx d : Nat} {Q : QT} (hnx : 52 ≤ nx) {q : Int} {c : Int} (hI : Inv c A) (hA : Ag A (V 0)) (hL : RgL V) (hq : inI q) (hQ : ∀ r, r = aOrder A q → Q (some (vi r)) (hp Γ S T U V G) nx) : AM Γ MX11_order (d + 2, 0, 0) [rf Γ 43, vi q] (hp Γ S T U V G) nx Q := by
  refine am_of (by decide) (Nat.le_of_ble_eq_true rfl) (ls := [some (rf Γ 43), some _, none, none, none]) rfl ?_
  have hR := hI.R
  have i1 := hI.i1
  have hz : 0 ≤ A 28 0 ∧ A 28 0 ≤ 60 := i1.2.2.1
  have hkS : nS A = (A 28 0).toNat := rfl
  have hkI : nIm A = (A 27 0).toNat := rfl
  have hkO : nOr A = (A 26 0).toNat := rfl
  refine aw_iconst dX11_order_0 ?_
  refine aw_istore_n (ls' := [some (rf Γ 43), some _, some _, none, none]) dX11_order_1 (by decide) rfl ?_
  refine loopN (nIm A) (P := fun k => fs (odP A q) k = -5 →  AW Γ MX11_order _ _ (0, 0) 2 [some (rf Γ 43), some (vi q), some (vi (k : Int)), none, none] [] (hp Γ S T U V G) nx) (fun k hk ih => ?_) 0 (Nat.zero_le _) rfl
  intro  i2_0
  refine aw_iload_n dX11_order_2 rfl ?_
  refine aw_aload_n dX11_order_3 rfl ?_
  refine aw_bipush dX11_order_4 rfl ?_
  refine aw_callV (As := [_]) (ρ := (_, 0, 0)) (kn' := (0, 0)) cv_X11_164 dX11_order_6 rfl rfl (hc43 hnx) rfl rfl (Nat.le_of_ble_eq_true rfl) (rmR _ _ _) ⟨Nat.le_refl _, Nat.le_refl _⟩ rfl (c_X11_many_7 hnx hI hA hL  (fun r6 h6 => ?_))
  subst h6
  refine aw_icmp_ge (tgt := 94) dX11_order_9 rfl (by omega) (fun c9 => ?_) (fun c9 => ?_)
  · skip
    obtain rfl : k = nIm A := by omega
    refine aw_iconst dX11_order_94 ?_
    exact aw_ireturn dX11_order_95 rfl rfl ⟨Nat.le_refl _, Nat.le_refl _⟩ (hQ _ (by unfold aOrder; exact (fsA_none i2_0).symm))
  · skip
    refine aw_iconst dX11_order_12 ?_
    refine aw_istore_n (ls' := [some (rf Γ 43), some _, some _, some _, none]) dX11_order_13 (by decide) rfl ?_
    refine aw_iconst dX11_order_14 ?_
    refine aw_istore (ls' := [some (rf Γ 43), some _, some _, some _, some _]) dX11_order_15 (by decide) rfl ?_
    refine loopN (nIm A) (P := fun k2 => ∀ (x : Int) , x = iah A k k2 →  AW Γ MX11_order _ _ (0, 0) 17 [some (rf Γ 43), some (vi q), some (vi (k : Int)), some (vi x), some (vi (k2 : Int))] [] (hp Γ S T U V G) nx) (fun k2 hk2 ihk2 => ?_) 0 (Nat.zero_le _) _ rfl
    intro x i17_0
    refine aw_iload dX11_order_17 rfl ?_
    refine aw_aload_n dX11_order_19 rfl ?_
    refine aw_bipush dX11_order_20 rfl ?_
    refine aw_callV (As := [_]) (ρ := (_, 0, 0)) (kn' := (0, 0)) cv_X11_164 dX11_order_22 rfl rfl (hc43 hnx) rfl rfl (Nat.le_of_ble_eq_true rfl) (rmR _ _ _) ⟨Nat.le_refl _, Nat.le_refl _⟩ rfl (c_X11_many_7 hnx hI hA hL  (fun r22 h22 => ?_))
    subst h22
    refine aw_icmp_ge (tgt := 81) dX11_order_25 rfl (by omega) (fun c25 => ?_) (fun c25 => ?_)
    · skip
      obtain rfl : k2 = nIm A := by omega
      have ha := iah_in A k (nIm A)
      refine aw_iload_n dX11_order_81 rfl ?_
      refine aw_iload_n dX11_order_82 rfl ?_
      refine aw_icmp_ne (tgt := 88) dX11_order_83 rfl (by omega) (fun c83 => ?_) (fun c83 => ?_)
      · skip
        refine aw_iinc (ls' := [some (rf Γ 43), some _, some _, some _, some _]) dX11_order_88 rfl (by decide) rfl ?_
        refine aw_goto (tgt := 2) dX11_order_91 rfl ?_
        refine aw_fg [true, true, true, false, false] (ls' := [some (rf Γ 43), some _, some _, none, none]) rfl ?_
        exact ih (by omega)   (fs_s i2_0 (by unfold odP; omega))
      · skip
        refine aw_iload_n dX11_order_86 rfl ?_
        exact aw_ireturn dX11_order_87 rfl rfl ⟨Nat.le_refl _, Nat.le_refl _⟩ (hQ _ (by unfold aOrder; exact (fsA_hit i2_0 (show odP A q k by unfold odP; omega) (by omega)).symm))
    · skip
      refine aw_iload_n dX11_order_28 rfl ?_
      refine aw_aload_n dX11_order_29 rfl ?_
      refine aw_iload dX11_order_30 rfl ?_
      refine aw_callV (As := [_]) (ρ := (_, 0, 0)) (kn' := (0, 0)) cv_X11_318 dX11_order_32 rfl rfl (hc43 hnx) rfl rfl (Nat.le_of_ble_eq_true rfl) (rmR _ _ _) ⟨Nat.le_refl _, Nat.le_refl _⟩ rfl (c_X11_yearOf hnx hI hA hL (by omega) (fun r32 h32 => ?_))
      have m1 := hI.imI (i := (k2 : Int)) (by omega) 12 (by omega)
      refine aw_aload_n dX11_order_35 rfl ?_
      refine aw_iload_n dX11_order_36 rfl ?_
      refine aw_callV (As := [_]) (ρ := (_, 0, 0)) (kn' := (0, 0)) cv_X11_318 dX11_order_37 rfl rfl (hc43 hnx) rfl rfl (Nat.le_of_ble_eq_true rfl) (rmR _ _ _) ⟨Nat.le_refl _, Nat.le_refl _⟩ rfl (c_X11_yearOf hnx hI hA hL (by omega) (fun r37 h37 => ?_))
      have m2 := hI.imI (i := (k : Int)) (by omega) 12 (by omega)
      refine aw_lif_gt (tgt := 65) dX11_order_40 dX11_order_41 rfl (by omega) (fun c40 => ?_) (fun c40 => ?_)
      · skip
        refine aw_iconst dX11_order_65 ?_
        refine aw_goto (tgt := 70) dX11_order_66 rfl ?_
        refine aw_callS (As := [_]) (ρ := (_, 0, 0)) (kn' := (0, 0)) cs_X11_122 dX11_order_70 rfl rfl (Nat.le_of_ble_eq_true rfl) (rmR _ _ _) ⟨Nat.le_refl _, Nat.le_refl _⟩ rfl (c_X11_truth hnx (by omega) (fun r70 h70 => ?_))
        refine aw_iadd dX11_order_73 ?_
        refine aw_nmI (fun x3_74 hx3_74 => ?_)
        refine aw_istore_n (ls' := [some (rf Γ 43), some _, some _, some _, some _]) dX11_order_74 (by decide) rfl ?_
        refine aw_iinc (ls' := [some (rf Γ 43), some _, some _, some _, some _]) dX11_order_75 rfl (by decide) rfl ?_
        refine aw_goto (tgt := 17) dX11_order_78 rfl ?_
        exact ihk2 (by omega) x3_74  (by simp only [iah, sm] at i17_0 ⊢; split <;> omega)
      · skip
        refine aw_aload_n dX11_order_44 rfl ?_
        refine aw_iload dX11_order_45 rfl ?_
        refine aw_callV (As := [_]) (ρ := (_, 0, 0)) (kn' := (0, 0)) cv_X11_318 dX11_order_47 rfl rfl (hc43 hnx) rfl rfl (Nat.le_of_ble_eq_true rfl) (rmR _ _ _) ⟨Nat.le_refl _, Nat.le_refl _⟩ rfl (c_X11_yearOf hnx hI hA hL (by omega) (fun r47 h47 => ?_))
        refine aw_aload_n dX11_order_50 rfl ?_
        refine aw_iload_n dX11_order_51 rfl ?_
        refine aw_callV (As := [_]) (ρ := (_, 0, 0)) (kn' := (0, 0)) cv_X11_318 dX11_order_52 rfl rfl (hc43 hnx) rfl rfl (Nat.le_of_ble_eq_true rfl) (rmR _ _ _) ⟨Nat.le_refl _, Nat.le_refl _⟩ rfl (c_X11_yearOf hnx hI hA hL (by omega) (fun r52 h52 => ?_))
        refine aw_lif_ne (tgt := 69) dX11_order_55 dX11_order_56 rfl (by omega) (fun c55 => ?_) (fun c55 => ?_)
        · skip
          refine aw_iconst dX11_order_69 ?_
          refine aw_callS (As := [_]) (ρ := (_, 0, 0)) (kn' := (0, 0)) cs_X11_122 dX11_order_70 rfl rfl (Nat.le_of_ble_eq_true rfl) (rmR _ _ _) ⟨Nat.le_refl _, Nat.le_refl _⟩ rfl (c_X11_truth hnx (by omega) (fun r70 h70 => ?_))
          refine aw_iadd dX11_order_73 ?_
          refine aw_nmI (fun x3_74 hx3_74 => ?_)
          refine aw_istore_n (ls' := [some (rf Γ 43), some _, some _, some _, some _]) dX11_order_74 (by decide) rfl ?_
          refine aw_iinc (ls' := [some (rf Γ 43), some _, some _, some _, some _]) dX11_order_75 rfl (by decide) rfl ?_
          refine aw_goto (tgt := 17) dX11_order_78 rfl ?_
          exact ihk2 (by omega) x3_74  (by simp only [iah, sm] at i17_0 ⊢; split <;> omega)
        · skip
          refine aw_iload dX11_order_59 rfl ?_
          refine aw_iload_n dX11_order_61 rfl ?_
          refine aw_icmp_ge (tgt := 69) dX11_order_62 rfl (by omega) (fun c62 => ?_) (fun c62 => ?_)
          · skip
            refine aw_iconst dX11_order_69 ?_
            refine aw_callS (As := [_]) (ρ := (_, 0, 0)) (kn' := (0, 0)) cs_X11_122 dX11_order_70 rfl rfl (Nat.le_of_ble_eq_true rfl) (rmR _ _ _) ⟨Nat.le_refl _, Nat.le_refl _⟩ rfl (c_X11_truth hnx (by omega) (fun r70 h70 => ?_))
            refine aw_iadd dX11_order_73 ?_
            refine aw_nmI (fun x3_74 hx3_74 => ?_)
            refine aw_istore_n (ls' := [some (rf Γ 43), some _, some _, some _, some _]) dX11_order_74 (by decide) rfl ?_
            refine aw_iinc (ls' := [some (rf Γ 43), some _, some _, some _, some _]) dX11_order_75 rfl (by decide) rfl ?_
            refine aw_goto (tgt := 17) dX11_order_78 rfl ?_
            exact ihk2 (by omega) x3_74  (by simp only [iah, sm] at i17_0 ⊢; split <;> omega)
          · skip
            refine aw_iconst dX11_order_65 ?_
            refine aw_goto (tgt := 70) dX11_order_66 rfl ?_
            refine aw_callS (As := [_]) (ρ := (_, 0, 0)) (kn' := (0, 0)) cs_X11_122 dX11_order_70 rfl rfl (Nat.le_of_ble_eq_true rfl) (rmR _ _ _) ⟨Nat.le_refl _, Nat.le_refl _⟩ rfl (c_X11_truth hnx (by omega) (fun r70 h70 => ?_))
            refine aw_iadd dX11_order_73 ?_
            refine aw_nmI (fun x3_74 hx3_74 => ?_)
            refine aw_istore_n (ls' := [some (rf Γ 43), some _, some _, some _, some _]) dX11_order_74 (by decide) rfl ?_
            refine aw_iinc (ls' := [some (rf Γ 43), some _, some _, some _, some _]) dX11_order_75 rfl (by decide) rfl ?_
            refine aw_goto (tgt := 17) dX11_order_78 rfl ?_
            exact ihk2 (by omega) x3_74  (by simp only [iah, sm] at i17_0 ⊢; split <;> omega)

set_option maxHeartbeats 1000000 in
theorem c_X11_median {Γ : GT} {S T U V A : St} {G : Gw} {nx d : Nat} {Q : QT} (hnx : 52 ≤ nx) {a : Int} {c : Int} (hI : Inv c A) (hA : Ag A (V 0)) (hL : RgL V) (ha : inI a) (hQ : ∀ r, r = aMedian A a → Q (some (vi r)) (hp Γ S T U V G) nx) : AM Γ MX11_median (d + 2, 0, 0) [rf Γ 43, vi a] (hp Γ S T U V G) nx Q := by
  refine am_of (by decide) (Nat.le_of_ble_eq_true rfl) (ls := [some (rf Γ 43), some _, none, none, none, none, none]) rfl ?_
  have hR := hI.R
  have i1 := hI.i1
  have hz : 0 ≤ A 28 0 ∧ A 28 0 ≤ 60 := i1.2.2.1
  have hkS : nS A = (A 28 0).toNat := rfl
  have hkI : nIm A = (A 27 0).toNat := rfl
  have hkO : nOr A = (A 26 0).toNat := rfl
  refine aw_aload_n dX11_median_0 rfl ?_
  refine aw_iload_n dX11_median_1 rfl ?_
  refine aw_callV (As := [_]) (ρ := (_, 0, 0)) (kn' := (0, 0)) cv_X11_59 dX11_median_2 rfl rfl (hc43 hnx) rfl rfl (Nat.le_of_ble_eq_true rfl) (rmR _ _ _) ⟨Nat.le_refl _, Nat.le_refl _⟩ rfl (c_X11_isOrigin hnx hI hA hL (by omega) (fun r2 h2 => ?_))
  rcases h2 with ⟨rfl, h2⟩ | ⟨rfl, h2⟩
  · skip
    refine aw_if_ne (tgt := 10) dX11_median_5 rfl (by decide) (fun _ => ?_) (fun c => absurd c (by decide))
    refine aw_iconst dX11_median_10 ?_
    refine aw_istore_n (ls' := [some (rf Γ 43), some _, some _, none, none, none, none]) dX11_median_11 (by decide) rfl ?_
    refine aw_iconst dX11_median_12 ?_
    refine aw_istore_n (ls' := [some (rf Γ 43), some _, some _, some _, none, none, none]) dX11_median_13 (by decide) rfl ?_
    refine loopN (nIm A) (P := fun k => ∀ (x : Int) , x = mdN A a k →  AW Γ MX11_median _ _ (0, 0) 14 [some (rf Γ 43), some (vi a), some (vi x), some (vi (k : Int)), none, none, none] [] (hp Γ S T U V G) nx) (fun k hk ih => ?_) 0 (Nat.zero_le _) _ rfl
    intro x i14_0
    refine aw_iload_n dX11_median_14 rfl ?_
    refine aw_aload_n dX11_median_15 rfl ?_
    refine aw_bipush dX11_median_16 rfl ?_
    refine aw_callV (As := [_]) (ρ := (_, 0, 0)) (kn' := (0, 0)) cv_X11_164 dX11_median_18 rfl rfl (hc43 hnx) rfl rfl (Nat.le_of_ble_eq_true rfl) (rmR _ _ _) ⟨Nat.le_refl _, Nat.le_refl _⟩ rfl (c_X11_many_7 hnx hI hA hL  (fun r18 h18 => ?_))
    subst h18
    refine aw_icmp_ge (tgt := 40) dX11_median_21 rfl (by omega) (fun c21 => ?_) (fun c21 => ?_)
    · skip
      obtain rfl : k = nIm A := by omega
      refine aw_iconst dX11_median_40 ?_
      refine aw_istore_n (ls' := [some (rf Γ 43), some _, some _, some _, none, none, none]) dX11_median_41 (by decide) rfl ?_
      refine loopN (nIm A) (P := fun k2 => fs (mdP A a) k2 = -5 →  AW Γ MX11_median _ _ (0, 0) 42 [some (rf Γ 43), some (vi a), some (vi x), some (vi (k2 : Int)), none, none, none] [] (hp Γ S T U V G) nx) (fun k2 hk2 ihk2 => ?_) 0 (Nat.zero_le _) rfl
      intro  i42_0
      refine aw_iload_n dX11_median_42 rfl ?_
      refine aw_aload_n dX11_median_43 rfl ?_
      refine aw_bipush dX11_median_44 rfl ?_
      refine aw_callV (As := [_]) (ρ := (_, 0, 0)) (kn' := (0, 0)) cv_X11_164 dX11_median_46 rfl rfl (hc43 hnx) rfl rfl (Nat.le_of_ble_eq_true rfl) (rmR _ _ _) ⟨Nat.le_refl _, Nat.le_refl _⟩ rfl (c_X11_many_7 hnx hI hA hL  (fun r46 h46 => ?_))
      subst h46
      refine aw_icmp_ge (tgt := 187) dX11_median_49 rfl (by omega) (fun c49 => ?_) (fun c49 => ?_)
      · skip
        obtain rfl : k2 = nIm A := by omega
        refine aw_bipush dX11_median_187 rfl ?_
        exact aw_ireturn dX11_median_189 rfl rfl ⟨Nat.le_refl _, Nat.le_refl _⟩ (hQ _ (by unfold aMedian; rw [if_pos (by simp only [isO]; omega), if_pos i42_0]))
      · skip
        refine aw_iconst dX11_median_52 ?_
        refine aw_istore (ls' := [some (rf Γ 43), some _, some _, some _, some _, none, none]) dX11_median_53 (by decide) rfl ?_
        refine aw_iconst dX11_median_55 ?_
        refine aw_istore (ls' := [some (rf Γ 43), some _, some _, some _, some _, some _, none]) dX11_median_56 (by decide) rfl ?_
        refine loopN (nIm A) (P := fun k3 => ∀ (y : Int) , y = lah A k2 a k3 →  AW Γ MX11_median _ _ (0, 0) 58 [some (rf Γ 43), some (vi a), some (vi x), some (vi (k2 : Int)), some (vi y), some (vi (k3 : Int)), none] [] (hp Γ S T U V G) nx) (fun k3 hk3 ihk3 => ?_) 0 (Nat.zero_le _) _ rfl
        intro y i58_0
        refine aw_iload dX11_median_58 rfl ?_
        refine aw_aload_n dX11_median_60 rfl ?_
        refine aw_bipush dX11_median_61 rfl ?_
        refine aw_callV (As := [_]) (ρ := (_, 0, 0)) (kn' := (0, 0)) cv_X11_164 dX11_median_63 rfl rfl (hc43 hnx) rfl rfl (Nat.le_of_ble_eq_true rfl) (rmR _ _ _) ⟨Nat.le_refl _, Nat.le_refl _⟩ rfl (c_X11_many_7 hnx hI hA hL  (fun r63 h63 => ?_))
        subst h63
        refine aw_icmp_ge (tgt := 152) dX11_median_66 rfl (by omega) (fun c66 => ?_) (fun c66 => ?_)
        · skip
          obtain rfl : k3 = nIm A := by omega
          refine aw_aload_n dX11_median_152 rfl ?_
          refine aw_iload_n dX11_median_153 rfl ?_
          refine aw_iload_n dX11_median_154 rfl ?_
          refine aw_iconst dX11_median_155 ?_
          refine aw_callV (As := [_, _, _]) (ρ := (_, 0, 0)) (kn' := (0, 0)) cv_X11_167 dX11_median_156 rfl rfl (hc43 hnx) rfl rfl (Nat.le_of_ble_eq_true rfl) (rmR _ _ _) ⟨Nat.le_refl _, Nat.le_refl _⟩ rfl (c_X11_ofPair_4 hnx hI hA hL (by omega) (by omega) (fun r156 h156 => ?_))
          have r15 := hR 15 (by decide) (4 * (k2 : Int) + a)
          refine aw_iconst dX11_median_159 ?_
          refine aw_icmp_ne (tgt := 181) dX11_median_160 rfl (by omega) (fun c160 => ?_) (fun c160 => ?_)
          · skip
            refine aw_iinc (ls' := [some (rf Γ 43), some _, some _, some _, some _, some _, none]) dX11_median_181 rfl (by decide) rfl ?_
            refine aw_goto (tgt := 42) dX11_median_184 rfl ?_
            refine aw_fg [true, true, true, true, false, false, true] (ls' := [some (rf Γ 43), some _, some _, some _, none, none, none]) rfl ?_
            exact ihk2 (by omega)   (fs_s i42_0 (by unfold mdP; omega))
          · skip
            have ha := lah_in A k2 a (nIm A)
            have m1 := hI.mdN1 (o := a) (by omega) (k := k2) (by omega) (by omega)
            have m2 := hI.mdN (o := a) (by omega) (nIm A) (Nat.le_refl _)
            refine aw_iload dX11_median_163 rfl ?_
            refine aw_iload_n dX11_median_165 rfl ?_
            refine aw_iconst dX11_median_166 ?_
            refine aw_isub dX11_median_167 ?_
            refine aw_iconst dX11_median_168 ?_
            refine aw_idiv dX11_median_169 (by omega) (by omega) ?_
            refine aw_icmp_ne (tgt := 181) dX11_median_170 rfl (by omega) (fun c170 => ?_) (fun c170 => ?_)
            · skip
              refine aw_iinc (ls' := [some (rf Γ 43), some _, some _, some _, some _, some _, none]) dX11_median_181 rfl (by decide) rfl ?_
              refine aw_goto (tgt := 42) dX11_median_184 rfl ?_
              refine aw_fg [true, true, true, true, false, false, true] (ls' := [some (rf Γ 43), some _, some _, some _, none, none, none]) rfl ?_
              exact ihk2 (by omega)   (fs_s i42_0 (by unfold mdP; omega))
            · skip
              refine aw_aload_n dX11_median_173 rfl ?_
              refine aw_iload_n dX11_median_174 rfl ?_
              refine aw_iload_n dX11_median_175 rfl ?_
              refine aw_callV (As := [_, _]) (ρ := (_, 0, 0)) (kn' := (0, 0)) cv_X11_170 dX11_median_176 rfl rfl (hc43 hnx) rfl rfl (Nat.le_of_ble_eq_true rfl) (rmR _ _ _) ⟨Nat.le_refl _, Nat.le_refl _⟩ rfl (c_X11_importedOf hnx hI hA hL (by omega) (by omega) (fun r176 h176 => ?_))
              refine aw_l2i dX11_median_179 ?_
              exact aw_ireturn dX11_median_180 rfl rfl ⟨Nat.le_refl _, Nat.le_refl _⟩ (hQ _ (by unfold aMedian; rw [if_pos (by simp only [isO]; omega), fs_hit i42_0 (show mdP A a k2 by unfold mdP; omega) (nIm A) (by omega), if_neg (by omega)]; exact h176))
        · skip
          refine aw_aload_n dX11_median_69 rfl ?_
          refine aw_iload dX11_median_70 rfl ?_
          refine aw_iload_n dX11_median_72 rfl ?_
          refine aw_callV (As := [_, _]) (ρ := (_, 0, 0)) (kn' := (0, 0)) cv_X11_170 dX11_median_73 rfl rfl (hc43 hnx) rfl rfl (Nat.le_of_ble_eq_true rfl) (rmR _ _ _) ⟨Nat.le_refl _, Nat.le_refl _⟩ rfl (c_X11_importedOf hnx hI hA hL (by omega) (by omega) (fun r73 h73 => ?_))
          have m1 := hI.old (p := 4 * (k3 : Int) + a) (by omega)
          refine aw_aload_n dX11_median_76 rfl ?_
          refine aw_iload_n dX11_median_77 rfl ?_
          refine aw_iload_n dX11_median_78 rfl ?_
          refine aw_callV (As := [_, _]) (ρ := (_, 0, 0)) (kn' := (0, 0)) cv_X11_170 dX11_median_79 rfl rfl (hc43 hnx) rfl rfl (Nat.le_of_ble_eq_true rfl) (rmR _ _ _) ⟨Nat.le_refl _, Nat.le_refl _⟩ rfl (c_X11_importedOf hnx hI hA hL (by omega) (by omega) (fun r79 h79 => ?_))
          have m2 := hI.old (p := 4 * (k2 : Int) + a) (by omega)
          refine aw_lif_lt (tgt := 109) dX11_median_82 dX11_median_83 rfl (by omega) (fun c82 => ?_) (fun c82 => ?_)
          · skip
            refine aw_iconst dX11_median_109 ?_
            refine aw_goto (tgt := 114) dX11_median_110 rfl ?_
            refine aw_istore (ls' := [some (rf Γ 43), some _, some _, some _, some _, some _, some _]) dX11_median_114 (by decide) rfl ?_
            refine aw_iload dX11_median_116 rfl ?_
            refine aw_aload_n dX11_median_118 rfl ?_
            refine aw_iload dX11_median_119 rfl ?_
            refine aw_iload_n dX11_median_121 rfl ?_
            refine aw_iconst dX11_median_122 ?_
            refine aw_callV (As := [_, _, _]) (ρ := (_, 0, 0)) (kn' := (0, 0)) cv_X11_167 dX11_median_123 rfl rfl (hc43 hnx) rfl rfl (Nat.le_of_ble_eq_true rfl) (rmR _ _ _) ⟨Nat.le_refl _, Nat.le_refl _⟩ rfl (c_X11_ofPair_4 hnx hI hA hL (by omega) (by omega) (fun r123 h123 => ?_))
            have r15 := hR 15 (by decide) (4 * (k3 : Int) + a)
            refine aw_iconst dX11_median_126 ?_
            refine aw_icmp_ne (tgt := 139) dX11_median_127 rfl (by omega) (fun c127 => ?_) (fun c127 => ?_)
            · skip
              refine aw_iconst dX11_median_139 ?_
              refine aw_callS (As := [_]) (ρ := (_, 0, 0)) (kn' := (0, 0)) cs_X11_122 dX11_median_140 rfl rfl (Nat.le_of_ble_eq_true rfl) (rmR _ _ _) ⟨Nat.le_refl _, Nat.le_refl _⟩ rfl (c_X11_truth hnx (by omega) (fun r140 h140 => ?_))
              refine aw_iadd dX11_median_143 ?_
              refine aw_nmI (fun x4_144 hx4_144 => ?_)
              refine aw_istore (ls' := [some (rf Γ 43), some _, some _, some _, some _, some _, some _]) dX11_median_144 (by decide) rfl ?_
              refine aw_iinc (ls' := [some (rf Γ 43), some _, some _, some _, some _, some _, some _]) dX11_median_146 rfl (by decide) rfl ?_
              refine aw_goto (tgt := 58) dX11_median_149 rfl ?_
              refine aw_fg [true, true, true, true, true, true, false] (ls' := [some (rf Γ 43), some _, some _, some _, some _, some _, none]) rfl ?_
              exact ihk3 (by omega) x4_144  (by simp only [lah, sm] at i58_0 ⊢; split <;> omega)
            · skip
              refine aw_iload dX11_median_130 rfl ?_
              refine aw_if_eq (tgt := 139) dX11_median_132 rfl (by omega) (fun c132 => ?_) (fun c132 => ?_)
              · skip
                refine aw_iconst dX11_median_139 ?_
                refine aw_callS (As := [_]) (ρ := (_, 0, 0)) (kn' := (0, 0)) cs_X11_122 dX11_median_140 rfl rfl (Nat.le_of_ble_eq_true rfl) (rmR _ _ _) ⟨Nat.le_refl _, Nat.le_refl _⟩ rfl (c_X11_truth hnx (by omega) (fun r140 h140 => ?_))
                refine aw_iadd dX11_median_143 ?_
                refine aw_nmI (fun x4_144 hx4_144 => ?_)
                refine aw_istore (ls' := [some (rf Γ 43), some _, some _, some _, some _, some _, some _]) dX11_median_144 (by decide) rfl ?_
                refine aw_iinc (ls' := [some (rf Γ 43), some _, some _, some _, some _, some _, some _]) dX11_median_146 rfl (by decide) rfl ?_
                refine aw_goto (tgt := 58) dX11_median_149 rfl ?_
                refine aw_fg [true, true, true, true, true, true, false] (ls' := [some (rf Γ 43), some _, some _, some _, some _, some _, none]) rfl ?_
                exact ihk3 (by omega) x4_144  (by simp only [lah, sm] at i58_0 ⊢; split <;> omega)
              · skip
                refine aw_iconst dX11_median_135 ?_
                refine aw_goto (tgt := 140) dX11_median_136 rfl ?_
                refine aw_callS (As := [_]) (ρ := (_, 0, 0)) (kn' := (0, 0)) cs_X11_122 dX11_median_140 rfl rfl (Nat.le_of_ble_eq_true rfl) (rmR _ _ _) ⟨Nat.le_refl _, Nat.le_refl _⟩ rfl (c_X11_truth hnx (by omega) (fun r140 h140 => ?_))
                refine aw_iadd dX11_median_143 ?_
                refine aw_nmI (fun x4_144 hx4_144 => ?_)
                refine aw_istore (ls' := [some (rf Γ 43), some _, some _, some _, some _, some _, some _]) dX11_median_144 (by decide) rfl ?_
                refine aw_iinc (ls' := [some (rf Γ 43), some _, some _, some _, some _, some _, some _]) dX11_median_146 rfl (by decide) rfl ?_
                refine aw_goto (tgt := 58) dX11_median_149 rfl ?_
                refine aw_fg [true, true, true, true, true, true, false] (ls' := [some (rf Γ 43), some _, some _, some _, some _, some _, none]) rfl ?_
                exact ihk3 (by omega) x4_144  (by simp only [lah, sm] at i58_0 ⊢; split <;> omega)
          · skip
            refine aw_aload_n dX11_median_86 rfl ?_
            refine aw_iload dX11_median_87 rfl ?_
            refine aw_iload_n dX11_median_89 rfl ?_
            refine aw_callV (As := [_, _]) (ρ := (_, 0, 0)) (kn' := (0, 0)) cv_X11_170 dX11_median_90 rfl rfl (hc43 hnx) rfl rfl (Nat.le_of_ble_eq_true rfl) (rmR _ _ _) ⟨Nat.le_refl _, Nat.le_refl _⟩ rfl (c_X11_importedOf hnx hI hA hL (by omega) (by omega) (fun r90 h90 => ?_))
            refine aw_aload_n dX11_median_93 rfl ?_
            refine aw_iload_n dX11_median_94 rfl ?_
            refine aw_iload_n dX11_median_95 rfl ?_
            refine aw_callV (As := [_, _]) (ρ := (_, 0, 0)) (kn' := (0, 0)) cv_X11_170 dX11_median_96 rfl rfl (hc43 hnx) rfl rfl (Nat.le_of_ble_eq_true rfl) (rmR _ _ _) ⟨Nat.le_refl _, Nat.le_refl _⟩ rfl (c_X11_importedOf hnx hI hA hL (by omega) (by omega) (fun r96 h96 => ?_))
            refine aw_lif_ne (tgt := 113) dX11_median_99 dX11_median_100 rfl (by omega) (fun c99 => ?_) (fun c99 => ?_)
            · skip
              refine aw_iconst dX11_median_113 ?_
              refine aw_istore (ls' := [some (rf Γ 43), some _, some _, some _, some _, some _, some _]) dX11_median_114 (by decide) rfl ?_
              refine aw_iload dX11_median_116 rfl ?_
              refine aw_aload_n dX11_median_118 rfl ?_
              refine aw_iload dX11_median_119 rfl ?_
              refine aw_iload_n dX11_median_121 rfl ?_
              refine aw_iconst dX11_median_122 ?_
              refine aw_callV (As := [_, _, _]) (ρ := (_, 0, 0)) (kn' := (0, 0)) cv_X11_167 dX11_median_123 rfl rfl (hc43 hnx) rfl rfl (Nat.le_of_ble_eq_true rfl) (rmR _ _ _) ⟨Nat.le_refl _, Nat.le_refl _⟩ rfl (c_X11_ofPair_4 hnx hI hA hL (by omega) (by omega) (fun r123 h123 => ?_))
              have r15 := hR 15 (by decide) (4 * (k3 : Int) + a)
              refine aw_iconst dX11_median_126 ?_
              refine aw_icmp_ne (tgt := 139) dX11_median_127 rfl (by omega) (fun c127 => ?_) (fun c127 => ?_)
              · skip
                refine aw_iconst dX11_median_139 ?_
                refine aw_callS (As := [_]) (ρ := (_, 0, 0)) (kn' := (0, 0)) cs_X11_122 dX11_median_140 rfl rfl (Nat.le_of_ble_eq_true rfl) (rmR _ _ _) ⟨Nat.le_refl _, Nat.le_refl _⟩ rfl (c_X11_truth hnx (by omega) (fun r140 h140 => ?_))
                refine aw_iadd dX11_median_143 ?_
                refine aw_nmI (fun x4_144 hx4_144 => ?_)
                refine aw_istore (ls' := [some (rf Γ 43), some _, some _, some _, some _, some _, some _]) dX11_median_144 (by decide) rfl ?_
                refine aw_iinc (ls' := [some (rf Γ 43), some _, some _, some _, some _, some _, some _]) dX11_median_146 rfl (by decide) rfl ?_
                refine aw_goto (tgt := 58) dX11_median_149 rfl ?_
                refine aw_fg [true, true, true, true, true, true, false] (ls' := [some (rf Γ 43), some _, some _, some _, some _, some _, none]) rfl ?_
                exact ihk3 (by omega) x4_144  (by simp only [lah, sm] at i58_0 ⊢; split <;> omega)
              · skip
                refine aw_iload dX11_median_130 rfl ?_
                refine aw_if_eq (tgt := 139) dX11_median_132 rfl (by omega) (fun c132 => ?_) (fun c132 => ?_)
                · skip
                  refine aw_iconst dX11_median_139 ?_
                  refine aw_callS (As := [_]) (ρ := (_, 0, 0)) (kn' := (0, 0)) cs_X11_122 dX11_median_140 rfl rfl (Nat.le_of_ble_eq_true rfl) (rmR _ _ _) ⟨Nat.le_refl _, Nat.le_refl _⟩ rfl (c_X11_truth hnx (by omega) (fun r140 h140 => ?_))
                  refine aw_iadd dX11_median_143 ?_
                  refine aw_nmI (fun x4_144 hx4_144 => ?_)
                  refine aw_istore (ls' := [some (rf Γ 43), some _, some _, some _, some _, some _, some _]) dX11_median_144 (by decide) rfl ?_
                  refine aw_iinc (ls' := [some (rf Γ 43), some _, some _, some _, some _, some _, some _]) dX11_median_146 rfl (by decide) rfl ?_
                  refine aw_goto (tgt := 58) dX11_median_149 rfl ?_
                  refine aw_fg [true, true, true, true, true, true, false] (ls' := [some (rf Γ 43), some _, some _, some _, some _, some _, none]) rfl ?_
                  exact ihk3 (by omega) x4_144  (by simp only [lah, sm] at i58_0 ⊢; split <;> omega)
                · skip
                  refine aw_iconst dX11_median_135 ?_
                  refine aw_goto (tgt := 140) dX11_median_136 rfl ?_
                  refine aw_callS (As := [_]) (ρ := (_, 0, 0)) (kn' := (0, 0)) cs_X11_122 dX11_median_140 rfl rfl (Nat.le_of_ble_eq_true rfl) (rmR _ _ _) ⟨Nat.le_refl _, Nat.le_refl _⟩ rfl (c_X11_truth hnx (by omega) (fun r140 h140 => ?_))
                  refine aw_iadd dX11_median_143 ?_
                  refine aw_nmI (fun x4_144 hx4_144 => ?_)
                  refine aw_istore (ls' := [some (rf Γ 43), some _, some _, some _, some _, some _, some _]) dX11_median_144 (by decide) rfl ?_
                  refine aw_iinc (ls' := [some (rf Γ 43), some _, some _, some _, some _, some _, some _]) dX11_median_146 rfl (by decide) rfl ?_
                  refine aw_goto (tgt := 58) dX11_median_149 rfl ?_
                  refine aw_fg [true, true, true, true, true, true, false] (ls' := [some (rf Γ 43), some _, some _, some _, some _, some _, none]) rfl ?_
                  exact ihk3 (by omega) x4_144  (by simp only [lah, sm] at i58_0 ⊢; split <;> omega)
            · skip
              refine aw_iload dX11_median_103 rfl ?_
              refine aw_iload_n dX11_median_105 rfl ?_
              refine aw_icmp_ge (tgt := 113) dX11_median_106 rfl (by omega) (fun c106 => ?_) (fun c106 => ?_)
              · skip
                refine aw_iconst dX11_median_113 ?_
                refine aw_istore (ls' := [some (rf Γ 43), some _, some _, some _, some _, some _, some _]) dX11_median_114 (by decide) rfl ?_
                refine aw_iload dX11_median_116 rfl ?_
                refine aw_aload_n dX11_median_118 rfl ?_
                refine aw_iload dX11_median_119 rfl ?_
                refine aw_iload_n dX11_median_121 rfl ?_
                refine aw_iconst dX11_median_122 ?_
                refine aw_callV (As := [_, _, _]) (ρ := (_, 0, 0)) (kn' := (0, 0)) cv_X11_167 dX11_median_123 rfl rfl (hc43 hnx) rfl rfl (Nat.le_of_ble_eq_true rfl) (rmR _ _ _) ⟨Nat.le_refl _, Nat.le_refl _⟩ rfl (c_X11_ofPair_4 hnx hI hA hL (by omega) (by omega) (fun r123 h123 => ?_))
                have r15 := hR 15 (by decide) (4 * (k3 : Int) + a)
                refine aw_iconst dX11_median_126 ?_
                refine aw_icmp_ne (tgt := 139) dX11_median_127 rfl (by omega) (fun c127 => ?_) (fun c127 => ?_)
                · skip
                  refine aw_iconst dX11_median_139 ?_
                  refine aw_callS (As := [_]) (ρ := (_, 0, 0)) (kn' := (0, 0)) cs_X11_122 dX11_median_140 rfl rfl (Nat.le_of_ble_eq_true rfl) (rmR _ _ _) ⟨Nat.le_refl _, Nat.le_refl _⟩ rfl (c_X11_truth hnx (by omega) (fun r140 h140 => ?_))
                  refine aw_iadd dX11_median_143 ?_
                  refine aw_nmI (fun x4_144 hx4_144 => ?_)
                  refine aw_istore (ls' := [some (rf Γ 43), some _, some _, some _, some _, some _, some _]) dX11_median_144 (by decide) rfl ?_
                  refine aw_iinc (ls' := [some (rf Γ 43), some _, some _, some _, some _, some _, some _]) dX11_median_146 rfl (by decide) rfl ?_
                  refine aw_goto (tgt := 58) dX11_median_149 rfl ?_
                  refine aw_fg [true, true, true, true, true, true, false] (ls' := [some (rf Γ 43), some _, some _, some _, some _, some _, none]) rfl ?_
                  exact ihk3 (by omega) x4_144  (by simp only [lah, sm] at i58_0 ⊢; split <;> omega)
                · skip
                  refine aw_iload dX11_median_130 rfl ?_
                  refine aw_if_eq (tgt := 139) dX11_median_132 rfl (by omega) (fun c132 => ?_) (fun c132 => ?_)
                  · skip
                    refine aw_iconst dX11_median_139 ?_
                    refine aw_callS (As := [_]) (ρ := (_, 0, 0)) (kn' := (0, 0)) cs_X11_122 dX11_median_140 rfl rfl (Nat.le_of_ble_eq_true rfl) (rmR _ _ _) ⟨Nat.le_refl _, Nat.le_refl _⟩ rfl (c_X11_truth hnx (by omega) (fun r140 h140 => ?_))
                    refine aw_iadd dX11_median_143 ?_
                    refine aw_nmI (fun x4_144 hx4_144 => ?_)
                    refine aw_istore (ls' := [some (rf Γ 43), some _, some _, some _, some _, some _, some _]) dX11_median_144 (by decide) rfl ?_
                    refine aw_iinc (ls' := [some (rf Γ 43), some _, some _, some _, some _, some _, some _]) dX11_median_146 rfl (by decide) rfl ?_
                    refine aw_goto (tgt := 58) dX11_median_149 rfl ?_
                    refine aw_fg [true, true, true, true, true, true, false] (ls' := [some (rf Γ 43), some _, some _, some _, some _, some _, none]) rfl ?_
                    exact ihk3 (by omega) x4_144  (by simp only [lah, sm] at i58_0 ⊢; split <;> omega)
                  · skip
                    refine aw_iconst dX11_median_135 ?_
                    refine aw_goto (tgt := 140) dX11_median_136 rfl ?_
                    refine aw_callS (As := [_]) (ρ := (_, 0, 0)) (kn' := (0, 0)) cs_X11_122 dX11_median_140 rfl rfl (Nat.le_of_ble_eq_true rfl) (rmR _ _ _) ⟨Nat.le_refl _, Nat.le_refl _⟩ rfl (c_X11_truth hnx (by omega) (fun r140 h140 => ?_))
                    refine aw_iadd dX11_median_143 ?_
                    refine aw_nmI (fun x4_144 hx4_144 => ?_)
                    refine aw_istore (ls' := [some (rf Γ 43), some _, some _, some _, some _, some _, some _]) dX11_median_144 (by decide) rfl ?_
                    refine aw_iinc (ls' := [some (rf Γ 43), some _, some _, some _, some _, some _, some _]) dX11_median_146 rfl (by decide) rfl ?_
                    refine aw_goto (tgt := 58) dX11_median_149 rfl ?_
                    refine aw_fg [true, true, true, true, true, true, false] (ls' := [some (rf Γ 43), some _, some _, some _, some _, some _, none]) rfl ?_
                    exact ihk3 (by omega) x4_144  (by simp only [lah, sm] at i58_0 ⊢; split <;> omega)
              · skip
                refine aw_iconst dX11_median_109 ?_
                refine aw_goto (tgt := 114) dX11_median_110 rfl ?_
                refine aw_istore (ls' := [some (rf Γ 43), some _, some _, some _, some _, some _, some _]) dX11_median_114 (by decide) rfl ?_
                refine aw_iload dX11_median_116 rfl ?_
                refine aw_aload_n dX11_median_118 rfl ?_
                refine aw_iload dX11_median_119 rfl ?_
                refine aw_iload_n dX11_median_121 rfl ?_
                refine aw_iconst dX11_median_122 ?_
                refine aw_callV (As := [_, _, _]) (ρ := (_, 0, 0)) (kn' := (0, 0)) cv_X11_167 dX11_median_123 rfl rfl (hc43 hnx) rfl rfl (Nat.le_of_ble_eq_true rfl) (rmR _ _ _) ⟨Nat.le_refl _, Nat.le_refl _⟩ rfl (c_X11_ofPair_4 hnx hI hA hL (by omega) (by omega) (fun r123 h123 => ?_))
                have r15 := hR 15 (by decide) (4 * (k3 : Int) + a)
                refine aw_iconst dX11_median_126 ?_
                refine aw_icmp_ne (tgt := 139) dX11_median_127 rfl (by omega) (fun c127 => ?_) (fun c127 => ?_)
                · skip
                  refine aw_iconst dX11_median_139 ?_
                  refine aw_callS (As := [_]) (ρ := (_, 0, 0)) (kn' := (0, 0)) cs_X11_122 dX11_median_140 rfl rfl (Nat.le_of_ble_eq_true rfl) (rmR _ _ _) ⟨Nat.le_refl _, Nat.le_refl _⟩ rfl (c_X11_truth hnx (by omega) (fun r140 h140 => ?_))
                  refine aw_iadd dX11_median_143 ?_
                  refine aw_nmI (fun x4_144 hx4_144 => ?_)
                  refine aw_istore (ls' := [some (rf Γ 43), some _, some _, some _, some _, some _, some _]) dX11_median_144 (by decide) rfl ?_
                  refine aw_iinc (ls' := [some (rf Γ 43), some _, some _, some _, some _, some _, some _]) dX11_median_146 rfl (by decide) rfl ?_
                  refine aw_goto (tgt := 58) dX11_median_149 rfl ?_
                  refine aw_fg [true, true, true, true, true, true, false] (ls' := [some (rf Γ 43), some _, some _, some _, some _, some _, none]) rfl ?_
                  exact ihk3 (by omega) x4_144  (by simp only [lah, sm] at i58_0 ⊢; split <;> omega)
                · skip
                  refine aw_iload dX11_median_130 rfl ?_
                  refine aw_if_eq (tgt := 139) dX11_median_132 rfl (by omega) (fun c132 => ?_) (fun c132 => ?_)
                  · skip
                    refine aw_iconst dX11_median_139 ?_
                    refine aw_callS (As := [_]) (ρ := (_, 0, 0)) (kn' := (0, 0)) cs_X11_122 dX11_median_140 rfl rfl (Nat.le_of_ble_eq_true rfl) (rmR _ _ _) ⟨Nat.le_refl _, Nat.le_refl _⟩ rfl (c_X11_truth hnx (by omega) (fun r140 h140 => ?_))
                    refine aw_iadd dX11_median_143 ?_
                    refine aw_nmI (fun x4_144 hx4_144 => ?_)
                    refine aw_istore (ls' := [some (rf Γ 43), some _, some _, some _, some _, some _, some _]) dX11_median_144 (by decide) rfl ?_
                    refine aw_iinc (ls' := [some (rf Γ 43), some _, some _, some _, some _, some _, some _]) dX11_median_146 rfl (by decide) rfl ?_
                    refine aw_goto (tgt := 58) dX11_median_149 rfl ?_
                    refine aw_fg [true, true, true, true, true, true, false] (ls' := [some (rf Γ 43), some _, some _, some _, some _, some _, none]) rfl ?_
                    exact ihk3 (by omega) x4_144  (by simp only [lah, sm] at i58_0 ⊢; split <;> omega)
                  · skip
                    refine aw_iconst dX11_median_135 ?_
                    refine aw_goto (tgt := 140) dX11_median_136 rfl ?_
                    refine aw_callS (As := [_]) (ρ := (_, 0, 0)) (kn' := (0, 0)) cs_X11_122 dX11_median_140 rfl rfl (Nat.le_of_ble_eq_true rfl) (rmR _ _ _) ⟨Nat.le_refl _, Nat.le_refl _⟩ rfl (c_X11_truth hnx (by omega) (fun r140 h140 => ?_))
                    refine aw_iadd dX11_median_143 ?_
                    refine aw_nmI (fun x4_144 hx4_144 => ?_)
                    refine aw_istore (ls' := [some (rf Γ 43), some _, some _, some _, some _, some _, some _]) dX11_median_144 (by decide) rfl ?_
                    refine aw_iinc (ls' := [some (rf Γ 43), some _, some _, some _, some _, some _, some _]) dX11_median_146 rfl (by decide) rfl ?_
                    refine aw_goto (tgt := 58) dX11_median_149 rfl ?_
                    refine aw_fg [true, true, true, true, true, true, false] (ls' := [some (rf Γ 43), some _, some _, some _, some _, some _, none]) rfl ?_
                    exact ihk3 (by omega) x4_144  (by simp only [lah, sm] at i58_0 ⊢; split <;> omega)
    · skip
      refine aw_iload_n dX11_median_24 rfl ?_
      refine aw_aload_n dX11_median_25 rfl ?_
      refine aw_iload_n dX11_median_26 rfl ?_
      refine aw_iload_n dX11_median_27 rfl ?_
      refine aw_iconst dX11_median_28 ?_
      refine aw_callV (As := [_, _, _]) (ρ := (_, 0, 0)) (kn' := (0, 0)) cv_X11_167 dX11_median_29 rfl rfl (hc43 hnx) rfl rfl (Nat.le_of_ble_eq_true rfl) (rmR _ _ _) ⟨Nat.le_refl _, Nat.le_refl _⟩ rfl (c_X11_ofPair_4 hnx hI hA hL (by omega) (by omega) (fun r29 h29 => ?_))
      refine aw_iadd dX11_median_32 ?_
      refine aw_nmI (fun x2_33 hx2_33 => ?_)
      refine aw_istore_n (ls' := [some (rf Γ 43), some _, some _, some _, none, none, none]) dX11_median_33 (by decide) rfl ?_
      refine aw_iinc (ls' := [some (rf Γ 43), some _, some _, some _, none, none, none]) dX11_median_34 rfl (by decide) rfl ?_
      refine aw_goto (tgt := 14) dX11_median_37 rfl ?_
      exact ih (by omega) x2_33  (by simp only [mdN, sm] at i14_0 ⊢; omega)
  · skip
    refine aw_if_ne (tgt := 10) dX11_median_5 rfl (by decide) (fun c => absurd c (by decide)) (fun _ => ?_)
    refine aw_iconst dX11_median_8 ?_
    exact aw_ireturn dX11_median_9 rfl rfl ⟨Nat.le_refl _, Nat.le_refl _⟩ (hQ _ (by unfold aMedian; rw [if_neg (by simp only [isO]; omega)]))

set_option maxHeartbeats 1000000 in
theorem c_X11_best {Γ : GT} {S T U V A : St} {G : Gw} {nx d : Nat} {Q : QT} (hnx : 52 ≤ nx) {i n w : Int} {c : Int} (hI : Inv c A) (hA : Ag A (V 0)) (hL : RgL V) (hi : inI i) (hn : inI n) (hw : inI w) (hQ : ∀ r, r = aBest A i n w → Q (some (vi r)) (hp Γ S T U V G) nx) : AM Γ MX11_best (d + 6, 0, 0) [rf Γ 43, vi i, vi n, vi w] (hp Γ S T U V G) nx Q := by
  refine am_of (by decide) (Nat.le_of_ble_eq_true rfl) (ls := [some (rf Γ 43), some _, some _, some _, none, none, none, none]) rfl ?_
  have hR := hI.R
  have i1 := hI.i1
  have hz : 0 ≤ A 28 0 ∧ A 28 0 ≤ 60 := i1.2.2.1
  have hkS : nS A = (A 28 0).toNat := rfl
  have hkI : nIm A = (A 27 0).toNat := rfl
  have hkO : nOr A = (A 26 0).toNat := rfl
  refine aw_aload_n dX11_best_0 rfl ?_
  refine aw_iload_n dX11_best_1 rfl ?_
  refine aw_callV (As := [_]) (ρ := (_, 0, 0)) (kn' := (0, 0)) cv_X11_55 dX11_best_2 rfl rfl (hc43 hnx) rfl rfl (Nat.le_of_ble_eq_true rfl) (rmR _ _ _) ⟨Nat.le_refl _, Nat.le_refl _⟩ rfl (c_X11_isImporter hnx hI hA hL (by omega) (fun r2 h2 => ?_))
  rcases h2 with ⟨rfl, h2⟩ | ⟨rfl, h2⟩
  · skip
    refine aw_if_eq (tgt := 25) dX11_best_5 rfl (by decide) (fun c => absurd c (by decide)) (fun _ => ?_)
    refine aw_iload_n dX11_best_8 rfl ?_
    refine aw_callS (As := [_]) (ρ := (_, 0, 0)) (kn' := (0, 0)) cs_X11_239 dX11_best_9 rfl rfl (Nat.le_of_ble_eq_true rfl) (rmR _ _ _) ⟨Nat.le_refl _, Nat.le_refl _⟩ rfl (c_X11_isMuch hnx (by omega) (fun r9 h9 => ?_))
    rcases h9 with ⟨rfl, h9⟩ | ⟨rfl, h9⟩
    · skip
      refine aw_if_eq (tgt := 25) dX11_best_12 rfl (by decide) (fun c => absurd c (by decide)) (fun _ => ?_)
      refine aw_iload_n dX11_best_15 rfl ?_
      refine aw_i2l dX11_best_16 (by omega) ?_
      refine aw_lconst0 dX11_best_17 ?_
      refine aw_lconst1 dX11_best_18 ?_
      refine aw_callS (As := [_, _, _]) (ρ := (_, 0, 0)) (kn' := (0, 0)) cs_X11_51 dX11_best_19 rfl rfl (Nat.le_of_ble_eq_true rfl) (rmR _ _ _) ⟨Nat.le_refl _, Nat.le_refl _⟩ rfl (c_X11_in hnx (by omega) (fun r19 h19 => ?_))
      rcases h19 with ⟨rfl, h19⟩ | ⟨rfl, h19⟩
      · skip
        refine aw_if_ne (tgt := 27) dX11_best_22 rfl (by decide) (fun _ => ?_) (fun c => absurd c (by decide))
        refine aw_bipush dX11_best_27 rfl ?_
        refine aw_istore (ls' := [some (rf Γ 43), some _, some _, some _, some _, none, none, none]) dX11_best_29 (by decide) rfl ?_
        refine aw_iconst dX11_best_31 ?_
        refine aw_istore (ls' := [some (rf Γ 43), some _, some _, some _, some _, some _, none, none]) dX11_best_32 (by decide) rfl ?_
        refine aw_iconst dX11_best_34 ?_
        refine aw_istore (ls' := [some (rf Γ 43), some _, some _, some _, some _, some _, some _, none]) dX11_best_35 (by decide) rfl ?_
        refine loopN (nOr A) (P := fun k => ∀ (x : Int) (y : Int) , x = bsW A i n k → y = bsM A i n k →  AW Γ MX11_best _ _ (0, 0) 37 [some (rf Γ 43), some (vi i), some (vi n), some (vi w), some (vi x), some (vi y), some (vi (k : Int)), none] [] (hp Γ S T U V G) nx) (fun k hk ih => ?_) 0 (Nat.zero_le _) _ _ rfl rfl
        intro x y i37_0 i37_1
        refine aw_iload dX11_best_37 rfl ?_
        refine aw_aload_n dX11_best_39 rfl ?_
        refine aw_bipush dX11_best_40 rfl ?_
        refine aw_callV (As := [_]) (ρ := (_, 0, 0)) (kn' := (0, 0)) cv_X11_164 dX11_best_42 rfl rfl (hc43 hnx) rfl rfl (Nat.le_of_ble_eq_true rfl) (rmR _ _ _) ⟨Nat.le_refl _, Nat.le_refl _⟩ rfl (c_X11_many_6 hnx hI hA hL  (fun r42 h42 => ?_))
        subst h42
        refine aw_icmp_ge (tgt := 79) dX11_best_45 rfl (by omega) (fun c45 => ?_) (fun c45 => ?_)
        · skip
          obtain rfl : k = nOr A := by omega
          have b2 := bsW_in A i n (nOr A)
          refine aw_iload dX11_best_79 rfl ?_
          refine aw_bipush dX11_best_81 rfl ?_
          refine aw_icmp_eq (tgt := 90) dX11_best_83 rfl (by omega) (fun c83 => ?_) (fun c83 => ?_)
          · skip
            refine aw_iload dX11_best_90 rfl ?_
            refine aw_goto (tgt := 97) dX11_best_92 rfl ?_
            exact aw_ireturn dX11_best_97 rfl rfl ⟨Nat.le_refl _, Nat.le_refl _⟩ (hQ _ (by unfold aBest; rw [if_pos (by simp only [isI, isN]; omega)]; first | (rw [if_pos (by omega)]; omega) | (rw [if_neg (by omega)]; omega)))
          · skip
            refine aw_iload_n dX11_best_86 rfl ?_
            refine aw_if_ne (tgt := 95) dX11_best_87 rfl (by omega) (fun c87 => ?_) (fun c87 => ?_)
            · skip
              refine aw_iload dX11_best_95 rfl ?_
              exact aw_ireturn dX11_best_97 rfl rfl ⟨Nat.le_refl _, Nat.le_refl _⟩ (hQ _ (by unfold aBest; rw [if_pos (by simp only [isI, isN]; omega)]; first | (rw [if_pos (by omega)]; omega) | (rw [if_neg (by omega)]; omega)))
            · skip
              refine aw_iload dX11_best_90 rfl ?_
              refine aw_goto (tgt := 97) dX11_best_92 rfl ?_
              exact aw_ireturn dX11_best_97 rfl rfl ⟨Nat.le_refl _, Nat.le_refl _⟩ (hQ _ (by unfold aBest; rw [if_pos (by simp only [isI, isN]; omega)]; first | (rw [if_pos (by omega)]; omega) | (rw [if_neg (by omega)]; omega)))
        · skip
          have b1 := hI.bsM (i := i) (n := n) (by omega) (by omega) k (by omega)
          have b2 := bsW_in A i n k
          have b3 := offer_in A i k n (A 14 ((k : Int) * 8 + 3)) (A 28 0) (by omega) (hI.pr (i := i) (o := k) (by omega) (by omega)).2.2.1
          refine aw_aload_n dX11_best_48 rfl ?_
          refine aw_iload_n dX11_best_49 rfl ?_
          refine aw_iload dX11_best_50 rfl ?_
          refine aw_iload_n dX11_best_52 rfl ?_
          refine aw_callV (As := [_, _, _]) (ρ := (_, 0, 0)) (kn' := (0, 0)) cv_X11_229 dX11_best_53 rfl rfl (hc43 hnx) rfl rfl (Nat.le_of_ble_eq_true rfl) (rmR _ _ _) ⟨Nat.le_refl _, Nat.le_refl _⟩ rfl (c_X11_grantable hnx hI hA hL (by omega) (by omega) (by omega) (fun r53 h53 => ?_))
          refine aw_istore (ls' := [some (rf Γ 43), some _, some _, some _, some _, some _, some _, some _]) dX11_best_56 (by decide) rfl ?_
          refine aw_iload dX11_best_58 rfl ?_
          refine aw_iload dX11_best_60 rfl ?_
          refine aw_icmp_le (tgt := 73) dX11_best_62 rfl (by omega) (fun c62 => ?_) (fun c62 => ?_)
          · skip
            refine aw_iinc (ls' := [some (rf Γ 43), some _, some _, some _, some _, some _, some _, some _]) dX11_best_73 rfl (by decide) rfl ?_
            refine aw_goto (tgt := 37) dX11_best_76 rfl ?_
            refine aw_fg [true, true, true, true, true, true, true, false] (ls' := [some (rf Γ 43), some _, some _, some _, some _, some _, some _, none]) rfl ?_
            exact ih (by omega) x y  (by simp only [bsW]; split <;> omega) (by simp only [bsM]; split <;> omega)
          · skip
            refine aw_iload dX11_best_65 rfl ?_
            refine aw_istore (ls' := [some (rf Γ 43), some _, some _, some _, some _, some _, some _, some _]) dX11_best_67 (by decide) rfl ?_
            refine aw_iload dX11_best_69 rfl ?_
            refine aw_istore (ls' := [some (rf Γ 43), some _, some _, some _, some _, some _, some _, some _]) dX11_best_71 (by decide) rfl ?_
            refine aw_iinc (ls' := [some (rf Γ 43), some _, some _, some _, some _, some _, some _, some _]) dX11_best_73 rfl (by decide) rfl ?_
            refine aw_goto (tgt := 37) dX11_best_76 rfl ?_
            refine aw_fg [true, true, true, true, true, true, true, false] (ls' := [some (rf Γ 43), some _, some _, some _, some _, some _, some _, none]) rfl ?_
            exact ih (by omega) (k : Int) r53  (by simp only [bsW]; split <;> omega) (by simp only [bsM]; split <;> omega)
      · skip
        refine aw_if_ne (tgt := 27) dX11_best_22 rfl (by decide) (fun c => absurd c (by decide)) (fun _ => ?_)
        refine aw_iconst dX11_best_25 ?_
        exact aw_ireturn dX11_best_26 rfl rfl ⟨Nat.le_refl _, Nat.le_refl _⟩ (hQ _ (by unfold aBest; rw [if_neg (by simp only [isI, isN]; omega)]))
    · skip
      refine aw_if_eq (tgt := 25) dX11_best_12 rfl (by decide) (fun _ => ?_) (fun c => absurd c (by decide))
      refine aw_iconst dX11_best_25 ?_
      exact aw_ireturn dX11_best_26 rfl rfl ⟨Nat.le_refl _, Nat.le_refl _⟩ (hQ _ (by unfold aBest; rw [if_neg (by simp only [isI, isN]; omega)]))
  · skip
    refine aw_if_eq (tgt := 25) dX11_best_5 rfl (by decide) (fun _ => ?_) (fun c => absurd c (by decide))
    refine aw_iconst dX11_best_25 ?_
    exact aw_ireturn dX11_best_26 rfl rfl ⟨Nat.le_refl _, Nat.le_refl _⟩ (hQ _ (by unfold aBest; rw [if_neg (by simp only [isI, isN]; omega)]))

set_option maxHeartbeats 1000000 in
theorem c_X11_peak {Γ : GT} {S T U V A : St} {G : Gw} {nx d : Nat} {Q : QT} (hnx : 52 ≤ nx) {a n w : Int} {c : Int} (hI : Inv c A) (hA : Ag A (V 0)) (hL : RgL V) (ha : inI a) (hn : inI n) (hw : inI w) (hQ : ∀ r, r = aPeak A a n w → Q (some (vi r)) (hp Γ S T U V G) nx) : AM Γ MX11_peak (d + 2, 0, 0) [rf Γ 43, vi a, vi n, vi w] (hp Γ S T U V G) nx Q := by
  refine am_of (by decide) (Nat.le_of_ble_eq_true rfl) (ls := [some (rf Γ 43), some _, some _, some _, none, none, none, none, none, none, none]) rfl ?_
  have hR := hI.R
  have i1 := hI.i1
  have hz : 0 ≤ A 28 0 ∧ A 28 0 ≤ 60 := i1.2.2.1
  have hkS : nS A = (A 28 0).toNat := rfl
  have hkI : nIm A = (A 27 0).toNat := rfl
  have hkO : nOr A = (A 26 0).toNat := rfl
  refine aw_aload_n dX11_peak_0 rfl ?_
  refine aw_iload_n dX11_peak_1 rfl ?_
  refine aw_callV (As := [_]) (ρ := (_, 0, 0)) (kn' := (0, 0)) cv_X11_59 dX11_peak_2 rfl rfl (hc43 hnx) rfl rfl (Nat.le_of_ble_eq_true rfl) (rmR _ _ _) ⟨Nat.le_refl _, Nat.le_refl _⟩ rfl (c_X11_isOrigin hnx hI hA hL (by omega) (fun r2 h2 => ?_))
  rcases h2 with ⟨rfl, h2⟩ | ⟨rfl, h2⟩
  · skip
    refine aw_if_eq (tgt := 30) dX11_peak_5 rfl (by decide) (fun c => absurd c (by decide)) (fun _ => ?_)
    refine aw_iload_n dX11_peak_8 rfl ?_
    refine aw_i2l dX11_peak_9 (by omega) ?_
    refine aw_lconst1 dX11_peak_10 ?_
    refine aw_ldc2 dX11_peak_11 qk_X11_336 ?_
    refine aw_st (st' := vl 12 :: _) rfl ?_
    refine aw_callS (As := [_, _, _]) (ρ := (_, 0, 0)) (kn' := (0, 0)) cs_X11_51 dX11_peak_14 rfl rfl (Nat.le_of_ble_eq_true rfl) (rmR _ _ _) ⟨Nat.le_refl _, Nat.le_refl _⟩ rfl (c_X11_in hnx (by omega) (fun r14 h14 => ?_))
    rcases h14 with ⟨rfl, h14⟩ | ⟨rfl, h14⟩
    · skip
      refine aw_if_eq (tgt := 30) dX11_peak_17 rfl (by decide) (fun c => absurd c (by decide)) (fun _ => ?_)
      refine aw_iload_n dX11_peak_20 rfl ?_
      refine aw_i2l dX11_peak_21 (by omega) ?_
      refine aw_lconst0 dX11_peak_22 ?_
      refine aw_lconst1 dX11_peak_23 ?_
      refine aw_callS (As := [_, _, _]) (ρ := (_, 0, 0)) (kn' := (0, 0)) cs_X11_51 dX11_peak_24 rfl rfl (Nat.le_of_ble_eq_true rfl) (rmR _ _ _) ⟨Nat.le_refl _, Nat.le_refl _⟩ rfl (c_X11_in hnx (by omega) (fun r24 h24 => ?_))
      rcases h24 with ⟨rfl, h24⟩ | ⟨rfl, h24⟩
      · skip
        refine aw_if_ne (tgt := 32) dX11_peak_27 rfl (by decide) (fun _ => ?_) (fun c => absurd c (by decide))
        refine aw_iconst dX11_peak_32 ?_
        refine aw_istore (ls' := [some (rf Γ 43), some _, some _, some _, some _, none, none, none, none, none, none]) dX11_peak_33 (by decide) rfl ?_
        refine aw_ldc2 dX11_peak_35 qk_X11_268 ?_
        refine aw_st (st' := vl (-1) :: _) rfl ?_
        refine aw_nmL (fun x5_38 hx5_38 => ?_)
        refine aw_lstore (ls' := [some (rf Γ 43), some _, some _, some _, some _, some _, none, none, none, none, none]) dX11_peak_38 (by decide) rfl ?_
        subst hx5_38
        refine aw_iconst dX11_peak_40 ?_
        refine aw_istore (ls' := [some (rf Γ 43), some _, some _, some _, some _, some _, none, some _, none, none, none]) dX11_peak_41 (by decide) rfl ?_
        refine loopN ((13 - n).toNat) (P := fun k => ∀ (x : Int) (y : Int) , x = pkW A a n k → y = pkM A a n k →  AW Γ MX11_peak _ _ (0, 0) 43 [some (rf Γ 43), some (vi a), some (vi n), some (vi w), some (vi x), some (vl y), none, some (vi (k : Int)), none, none, none] [] (hp Γ S T U V G) nx) (fun k hk ih => ?_) 0 (Nat.zero_le _) _ _ rfl rfl
        intro x y i43_0 i43_1
        refine aw_iload dX11_peak_43 rfl ?_
        refine aw_iload_n dX11_peak_45 rfl ?_
        refine aw_iadd dX11_peak_46 ?_
        refine aw_bipush dX11_peak_47 rfl ?_
        refine aw_icmp_gt (tgt := 116) dX11_peak_49 rfl (by omega) (fun c49 => ?_) (fun c49 => ?_)
        · skip
          obtain rfl : k = (13 - n).toNat := by omega
          refine aw_iload_n dX11_peak_116 rfl ?_
          refine aw_if_ne (tgt := 125) dX11_peak_117 rfl (by omega) (fun c117 => ?_) (fun c117 => ?_)
          · skip
            refine aw_lload dX11_peak_125 rfl ?_
            refine aw_l2i dX11_peak_127 ?_
            exact aw_ireturn dX11_peak_128 rfl rfl ⟨Nat.le_refl _, Nat.le_refl _⟩ (hQ _ (by unfold aPeak; rw [if_pos (by simp only [isO]; omega)]; first | (rw [if_pos (by omega)]; omega) | (rw [if_neg (by omega)]; omega)))
          · skip
            refine aw_iload dX11_peak_120 rfl ?_
            refine aw_goto (tgt := 128) dX11_peak_122 rfl ?_
            exact aw_ireturn dX11_peak_128 rfl rfl ⟨Nat.le_refl _, Nat.le_refl _⟩ (hQ _ (by unfold aPeak; rw [if_pos (by simp only [isO]; omega)]; first | (rw [if_pos (by omega)]; omega) | (rw [if_neg (by omega)]; omega)))
        · skip
          have b1 := hI.pkM (o := a) (n := n) (by omega) (by omega) k (by omega)
          have b2 := pkW_in A a n k
          have b3 := hI.imO (o := a) (a := (k : Int)) (by omega) n.toNat (by omega)
          refine aw_lconst0 dX11_peak_52 ?_
          refine aw_lstore (ls' := [some (rf Γ 43), some _, some _, some _, some _, some _, none, some _, some _, none, none]) dX11_peak_53 (by decide) rfl ?_
          refine aw_iconst dX11_peak_55 ?_
          refine aw_istore (ls' := [some (rf Γ 43), some _, some _, some _, some _, some _, none, some _, some _, none, some _]) dX11_peak_56 (by decide) rfl ?_
          refine loopN (n.toNat) (P := fun k2 => ∀ (z : Int) , z = imO A a k k2 →  AW Γ MX11_peak _ _ (0, 0) 58 [some (rf Γ 43), some (vi a), some (vi n), some (vi w), some (vi x), some (vl y), none, some (vi (k : Int)), some (vl z), none, some (vi (k2 : Int))] [] (hp Γ S T U V G) nx) (fun k2 hk2 ihk2 => ?_) 0 (Nat.zero_le _) _ rfl
          intro z i58_0
          refine aw_iload dX11_peak_58 rfl ?_
          refine aw_iload_n dX11_peak_60 rfl ?_
          refine aw_icmp_ge (tgt := 94) dX11_peak_61 rfl (by omega) (fun c61 => ?_) (fun c61 => ?_)
          · skip
            obtain rfl : k2 = n.toNat := by omega
            refine aw_lload dX11_peak_94 rfl ?_
            refine aw_lload dX11_peak_96 rfl ?_
            refine aw_lif_le (tgt := 110) dX11_peak_98 dX11_peak_99 rfl (by omega) (fun c98 => ?_) (fun c98 => ?_)
            · skip
              refine aw_iinc (ls' := [some (rf Γ 43), some _, some _, some _, some _, some _, none, some _, some _, none, some _]) dX11_peak_110 rfl (by decide) rfl ?_
              refine aw_goto (tgt := 43) dX11_peak_113 rfl ?_
              refine aw_fg [true, true, true, true, true, true, true, true, false, true, false] (ls' := [some (rf Γ 43), some _, some _, some _, some _, some _, none, some _, none, none, none]) rfl ?_
              exact ih (by omega) x y  (by rw [pkW]; split <;> omega) (by rw [pkM]; split <;> omega)
            · skip
              refine aw_lload dX11_peak_102 rfl ?_
              refine aw_lstore (ls' := [some (rf Γ 43), some _, some _, some _, some _, some _, none, some _, some _, none, some _]) dX11_peak_104 (by decide) rfl ?_
              refine aw_iload dX11_peak_106 rfl ?_
              refine aw_istore (ls' := [some (rf Γ 43), some _, some _, some _, some _, some _, none, some _, some _, none, some _]) dX11_peak_108 (by decide) rfl ?_
              refine aw_iinc (ls' := [some (rf Γ 43), some _, some _, some _, some _, some _, none, some _, some _, none, some _]) dX11_peak_110 rfl (by decide) rfl ?_
              refine aw_goto (tgt := 43) dX11_peak_113 rfl ?_
              refine aw_fg [true, true, true, true, true, true, true, true, false, true, false] (ls' := [some (rf Γ 43), some _, some _, some _, some _, some _, none, some _, none, none, none]) rfl ?_
              exact ih (by omega) (k : Int) z  (by rw [pkW]; split <;> omega) (by rw [pkM]; split <;> omega)
          · skip
            refine aw_lload dX11_peak_64 rfl ?_
            refine aw_aload_n dX11_peak_66 rfl ?_
            refine aw_getf fg_X11_9 dX11_peak_67 (hc43 hnx) rfl ?_
            refine aw_sipush dX11_peak_70 rfl ?_
            refine aw_bipush dX11_peak_73 rfl ?_
            refine aw_iload_n dX11_peak_75 rfl ?_
            refine aw_imul dX11_peak_76 ?_
            refine aw_iadd dX11_peak_77 ?_
            refine aw_iload dX11_peak_78 rfl ?_
            refine aw_iadd dX11_peak_80 ?_
            refine aw_iload dX11_peak_81 rfl ?_
            refine aw_iadd dX11_peak_83 ?_
            refine aw_laldr dX11_peak_84 (hc44 hnx) (by omega) (by decide) (hL 0) (fun q84 => ?_)
            refine aw_svl (a := A 22 (a * 12 + ((k : Int) + (k2 : Int)))) (by rw [show 408 + 12 * a + (k : Int) + (k2 : Int) = 408 + 12 * a + ((k : Int) + (k2 : Int)) by omega]; exact (hA.m22 (by omega) (by omega)).symm) ?_
            refine aw_ladd dX11_peak_85 ?_
            refine aw_nmL (fun x8_86 hx8_86 => ?_)
            refine aw_lstore (ls' := [some (rf Γ 43), some _, some _, some _, some _, some _, none, some _, some _, none, some _]) dX11_peak_86 (by decide) rfl ?_
            refine aw_iinc (ls' := [some (rf Γ 43), some _, some _, some _, some _, some _, none, some _, some _, none, some _]) dX11_peak_88 rfl (by decide) rfl ?_
            refine aw_goto (tgt := 58) dX11_peak_91 rfl ?_
            exact ihk2 (by omega) x8_86  (by subst i58_0; subst hx8_86; rfl)
      · skip
        refine aw_if_ne (tgt := 32) dX11_peak_27 rfl (by decide) (fun c => absurd c (by decide)) (fun _ => ?_)
        refine aw_iconst dX11_peak_30 ?_
        exact aw_ireturn dX11_peak_31 rfl rfl ⟨Nat.le_refl _, Nat.le_refl _⟩ (hQ _ (by unfold aPeak; rw [if_neg (by simp only [isO]; omega)]))
    · skip
      refine aw_if_eq (tgt := 30) dX11_peak_17 rfl (by decide) (fun _ => ?_) (fun c => absurd c (by decide))
      refine aw_iconst dX11_peak_30 ?_
      exact aw_ireturn dX11_peak_31 rfl rfl ⟨Nat.le_refl _, Nat.le_refl _⟩ (hQ _ (by unfold aPeak; rw [if_neg (by simp only [isO]; omega)]))
  · skip
    refine aw_if_eq (tgt := 30) dX11_peak_5 rfl (by decide) (fun _ => ?_) (fun c => absurd c (by decide))
    refine aw_iconst dX11_peak_30 ?_
    exact aw_ireturn dX11_peak_31 rfl rfl ⟨Nat.le_refl _, Nat.le_refl _⟩ (hQ _ (by unfold aPeak; rw [if_neg (by simp only [isO]; omega)]))

set_option maxHeartbeats 1000000 in
theorem c_X11_even {Γ : GT} {S T U V A : St} {G : Gw} {nx d : Nat} {Q : QT} (hnx : 52 ≤ nx) {i a : Int} {c : Int} (hI : Inv c A) (hA : Ag A (V 0)) (hL : RgL V) (hi : inI i) (ha : inI a) (hQ : ∀ r, r = aEven A i a → Q (some (vi r)) (hp Γ S T U V G) nx) : AM Γ MX11_even (d + 3, 0, 0) [rf Γ 43, vi i, vi a] (hp Γ S T U V G) nx Q := by
  refine am_of (by decide) (Nat.le_of_ble_eq_true rfl) (ls := [some (rf Γ 43), some _, some _, none, none, none, none]) rfl ?_
  have hR := hI.R
  have i1 := hI.i1
  have hz : 0 ≤ A 28 0 ∧ A 28 0 ≤ 60 := i1.2.2.1
  have hkS : nS A = (A 28 0).toNat := rfl
  have hkI : nIm A = (A 27 0).toNat := rfl
  have hkO : nOr A = (A 26 0).toNat := rfl
  refine aw_aload_n dX11_even_0 rfl ?_
  refine aw_iload_n dX11_even_1 rfl ?_
  refine aw_iload_n dX11_even_2 rfl ?_
  refine aw_callV (As := [_, _]) (ρ := (_, 0, 0)) (kn' := (0, 0)) cv_X11_236 dX11_even_3 rfl rfl (hc43 hnx) rfl rfl (Nat.le_of_ble_eq_true rfl) (rmR _ _ _) ⟨Nat.le_refl _, Nat.le_refl _⟩ rfl (c_X11_arePair hnx hI hA hL (by omega) (fun r3 h3 => ?_))
  rcases h3 with ⟨rfl, h3⟩ | ⟨rfl, h3⟩
  · skip
    refine aw_if_eq (tgt := 20) dX11_even_6 rfl (by decide) (fun c => absurd c (by decide)) (fun _ => ?_)
    refine aw_aload_n dX11_even_9 rfl ?_
    refine aw_iload_n dX11_even_10 rfl ?_
    refine aw_iload_n dX11_even_11 rfl ?_
    refine aw_iconst dX11_even_12 ?_
    refine aw_callV (As := [_, _, _]) (ρ := (_, 0, 0)) (kn' := (0, 0)) cv_X11_167 dX11_even_13 rfl rfl (hc43 hnx) rfl rfl (Nat.le_of_ble_eq_true rfl) (rmR _ _ _) ⟨Nat.le_refl _, Nat.le_refl _⟩ rfl (c_X11_ofPair_4 hnx hI hA hL (by omega) (by omega) (fun r13 h13 => ?_))
    have r15 := hR 15 (by decide) (4 * i + a)
    refine aw_iconst dX11_even_16 ?_
    refine aw_icmp_ne (tgt := 22) dX11_even_17 rfl (by omega) (fun c17 => ?_) (fun c17 => ?_)
    · skip
      refine aw_iconst dX11_even_22 ?_
      refine aw_istore_n (ls' := [some (rf Γ 43), some _, some _, some _, none, none, none]) dX11_even_23 (by decide) rfl ?_
      refine aw_iconst dX11_even_24 ?_
      refine aw_istore (ls' := [some (rf Γ 43), some _, some _, some _, some _, none, none]) dX11_even_25 (by decide) rfl ?_
      refine aw_iconst dX11_even_27 ?_
      refine aw_istore (ls' := [some (rf Γ 43), some _, some _, some _, some _, some _, none]) dX11_even_28 (by decide) rfl ?_
      refine loopN (nIm A) (P := fun k => ∀ (x : Int) (y : Int) , x = evN A a k → y = evA A i a k →  AW Γ MX11_even _ _ (0, 0) 30 [some (rf Γ 43), some (vi i), some (vi a), some (vi x), some (vi y), some (vi (k : Int)), none] [] (hp Γ S T U V G) nx) (fun k hk ih => ?_) 0 (Nat.zero_le _) _ _ rfl rfl
      intro x y i30_0 i30_1
      refine aw_iload dX11_even_30 rfl ?_
      refine aw_aload_n dX11_even_32 rfl ?_
      refine aw_bipush dX11_even_33 rfl ?_
      refine aw_callV (As := [_]) (ρ := (_, 0, 0)) (kn' := (0, 0)) cv_X11_164 dX11_even_35 rfl rfl (hc43 hnx) rfl rfl (Nat.le_of_ble_eq_true rfl) (rmR _ _ _) ⟨Nat.le_refl _, Nat.le_refl _⟩ rfl (c_X11_many_7 hnx hI hA hL  (fun r35 h35 => ?_))
      subst h35
      refine aw_icmp_ge (tgt := 81) dX11_even_38 rfl (by omega) (fun c38 => ?_) (fun c38 => ?_)
      · skip
        obtain rfl : k = nIm A := by omega
        have b1 := evN_in A a (nIm A)
        have b2 := evA_in A i a (nIm A)
        have nt : ¬ A 15 (4 * i + a) = 1 := by omega
        have b3 := evN_1 (S := A) (o := a) (n := nIm A) (k := i.toNat) (by omega) (by rw [show ((i.toNat : Nat) : Int) = i by omega]; exact nt)
        have fg := hI.fg (o := a) (by omega)
        have f3 := hR 14 (by decide) (a * 8 + 3)
        have tm := hI.tm (by omega)
        have d1 := Int.ediv_le_self (evN A a (nIm A)) fg.2.2.1
        have d2 := Int.ediv_nonneg fg.2.2.1 (show 0 ≤ evN A a (nIm A) by omega)
        have d3 := Int.emod_nonneg (A 14 (a * 8 + 3)) (show evN A a (nIm A) ≠ 0 by omega)
        have d4 := Int.emod_lt_of_pos (A 14 (a * 8 + 3)) (show 0 < evN A a (nIm A) by omega)
        have d5 := hI.lfs (o := a) (by omega) (nIm A) (Nat.le_refl _)
        have d6 := hI.rems
        subst i30_0
        subst i30_1
        refine aw_aload_n dX11_even_81 rfl ?_
        refine aw_iload_n dX11_even_82 rfl ?_
        refine aw_iconst dX11_even_83 ?_
        refine aw_callV (As := [_, _]) (ρ := (_, 0, 0)) (kn' := (0, 0)) cv_X11_226 dX11_even_84 rfl rfl (hc43 hnx) rfl rfl (Nat.le_of_ble_eq_true rfl) (rmR _ _ _) ⟨Nat.le_refl _, Nat.le_refl _⟩ rfl (c_X11_ofOrigin_3 hnx hI hA hL (by omega) (fun r84 h84 => ?_))
        subst h84
        refine aw_iload_n dX11_even_87 rfl ?_
        refine aw_idiv dX11_even_88 (by omega) (by omega) ?_
        refine aw_iload dX11_even_89 rfl ?_
        refine aw_aload_n dX11_even_91 rfl ?_
        refine aw_iload_n dX11_even_92 rfl ?_
        refine aw_iconst dX11_even_93 ?_
        refine aw_callV (As := [_, _]) (ρ := (_, 0, 0)) (kn' := (0, 0)) cv_X11_226 dX11_even_94 rfl rfl (hc43 hnx) rfl rfl (Nat.le_of_ble_eq_true rfl) (rmR _ _ _) ⟨Nat.le_refl _, Nat.le_refl _⟩ rfl (c_X11_ofOrigin_3 hnx hI hA hL (by omega) (fun r94 h94 => ?_))
        subst h94
        refine aw_iload_n dX11_even_97 rfl ?_
        refine aw_irem dX11_even_98 (by omega) (by omega) ?_
        refine aw_icmp_ge (tgt := 106) dX11_even_99 rfl (by omega) (fun c99 => ?_) (fun c99 => ?_)
        · skip
          refine aw_iconst dX11_even_106 ?_
          refine aw_callS (As := [_]) (ρ := (_, 0, 0)) (kn' := (0, 0)) cs_X11_122 dX11_even_107 rfl rfl (Nat.le_of_ble_eq_true rfl) (rmR _ _ _) ⟨Nat.le_refl _, Nat.le_refl _⟩ rfl (c_X11_truth hnx (by omega) (fun r107 h107 => ?_))
          refine aw_iadd dX11_even_110 ?_
          refine aw_nmI (fun x5_111 hx5_111 => ?_)
          refine aw_istore (ls' := [some (rf Γ 43), some _, some _, some _, some _, some _, none]) dX11_even_111 (by decide) rfl ?_
          refine aw_aload_n dX11_even_113 rfl ?_
          refine aw_iconst dX11_even_114 ?_
          refine aw_callV (As := [_]) (ρ := (_, 0, 0)) (kn' := (0, 0)) cv_X11_164 dX11_even_115 rfl rfl (hc43 hnx) rfl rfl (Nat.le_of_ble_eq_true rfl) (rmR _ _ _) ⟨Nat.le_refl _, Nat.le_refl _⟩ rfl (c_X11_many_1 hnx hI hA hL  (fun r115 h115 => ?_))
          refine aw_iload dX11_even_118 rfl ?_
          refine aw_mmin qm_X11_117 dX11_even_120 (by omega) (rmN13 _ _ _ (Nat.le_of_ble_eq_true rfl)) ⟨Nat.le_refl _, Nat.le_refl _⟩ (fun r120 h120 => ?_)
          exact aw_ireturn dX11_even_123 rfl rfl ⟨Nat.le_refl _, Nat.le_refl _⟩ (hQ _ (by unfold aEven; rw [if_pos ⟨⟨by omega, by omega⟩, nt⟩]; subst hx5_111; first | (rw [if_pos (by omega)]; omega) | (rw [if_neg (by omega)]; omega)))
        · skip
          refine aw_iconst dX11_even_102 ?_
          refine aw_goto (tgt := 107) dX11_even_103 rfl ?_
          refine aw_callS (As := [_]) (ρ := (_, 0, 0)) (kn' := (0, 0)) cs_X11_122 dX11_even_107 rfl rfl (Nat.le_of_ble_eq_true rfl) (rmR _ _ _) ⟨Nat.le_refl _, Nat.le_refl _⟩ rfl (c_X11_truth hnx (by omega) (fun r107 h107 => ?_))
          refine aw_iadd dX11_even_110 ?_
          refine aw_nmI (fun x5_111 hx5_111 => ?_)
          refine aw_istore (ls' := [some (rf Γ 43), some _, some _, some _, some _, some _, none]) dX11_even_111 (by decide) rfl ?_
          refine aw_aload_n dX11_even_113 rfl ?_
          refine aw_iconst dX11_even_114 ?_
          refine aw_callV (As := [_]) (ρ := (_, 0, 0)) (kn' := (0, 0)) cv_X11_164 dX11_even_115 rfl rfl (hc43 hnx) rfl rfl (Nat.le_of_ble_eq_true rfl) (rmR _ _ _) ⟨Nat.le_refl _, Nat.le_refl _⟩ rfl (c_X11_many_1 hnx hI hA hL  (fun r115 h115 => ?_))
          refine aw_iload dX11_even_118 rfl ?_
          refine aw_mmin qm_X11_117 dX11_even_120 (by omega) (rmN13 _ _ _ (Nat.le_of_ble_eq_true rfl)) ⟨Nat.le_refl _, Nat.le_refl _⟩ (fun r120 h120 => ?_)
          exact aw_ireturn dX11_even_123 rfl rfl ⟨Nat.le_refl _, Nat.le_refl _⟩ (hQ _ (by unfold aEven; rw [if_pos ⟨⟨by omega, by omega⟩, nt⟩]; subst hx5_111; first | (rw [if_pos (by omega)]; omega) | (rw [if_neg (by omega)]; omega)))
      · skip
        refine aw_iconst dX11_even_41 ?_
        refine aw_aload_n dX11_even_42 rfl ?_
        refine aw_iload dX11_even_43 rfl ?_
        refine aw_iload_n dX11_even_45 rfl ?_
        refine aw_iconst dX11_even_46 ?_
        refine aw_callV (As := [_, _, _]) (ρ := (_, 0, 0)) (kn' := (0, 0)) cv_X11_167 dX11_even_47 rfl rfl (hc43 hnx) rfl rfl (Nat.le_of_ble_eq_true rfl) (rmR _ _ _) ⟨Nat.le_refl _, Nat.le_refl _⟩ rfl (c_X11_ofPair_4 hnx hI hA hL (by omega) (by omega) (fun r47 h47 => ?_))
        have pr := hI.pr (i := (k : Int)) (o := a) (by omega) (by omega)
        refine aw_isub dX11_even_50 ?_
        refine aw_nmI (fun x6_51 hx6_51 => ?_)
        refine aw_istore (ls' := [some (rf Γ 43), some _, some _, some _, some _, some _, some _]) dX11_even_51 (by decide) rfl ?_
        refine aw_iload_n dX11_even_53 rfl ?_
        refine aw_iload dX11_even_54 rfl ?_
        refine aw_iadd dX11_even_56 ?_
        refine aw_nmI (fun x3_57 hx3_57 => ?_)
        refine aw_istore_n (ls' := [some (rf Γ 43), some _, some _, some _, some _, some _, some _]) dX11_even_57 (by decide) rfl ?_
        refine aw_iload dX11_even_58 rfl ?_
        refine aw_iload dX11_even_60 rfl ?_
        refine aw_iload_n dX11_even_62 rfl ?_
        refine aw_icmp_ge (tgt := 71) dX11_even_63 rfl (by omega) (fun c63 => ?_) (fun c63 => ?_)
        · skip
          refine aw_iconst dX11_even_71 ?_
          refine aw_iadd dX11_even_72 ?_
          refine aw_nmI (fun x4_73 hx4_73 => ?_)
          refine aw_istore (ls' := [some (rf Γ 43), some _, some _, some _, some _, some _, some _]) dX11_even_73 (by decide) rfl ?_
          refine aw_iinc (ls' := [some (rf Γ 43), some _, some _, some _, some _, some _, some _]) dX11_even_75 rfl (by decide) rfl ?_
          refine aw_goto (tgt := 30) dX11_even_78 rfl ?_
          refine aw_fg [true, true, true, true, true, true, false] (ls' := [some (rf Γ 43), some _, some _, some _, some _, some _, none]) rfl ?_
          exact ih (by omega) x3_57 x4_73  (by simp only [evN, sm] at i30_0 ⊢; split <;> omega) (by simp only [evA, sm] at i30_1 ⊢; split <;> omega)
        · skip
          refine aw_iload dX11_even_66 rfl ?_
          refine aw_goto (tgt := 72) dX11_even_68 rfl ?_
          refine aw_iadd dX11_even_72 ?_
          refine aw_nmI (fun x4_73 hx4_73 => ?_)
          refine aw_istore (ls' := [some (rf Γ 43), some _, some _, some _, some _, some _, some _]) dX11_even_73 (by decide) rfl ?_
          refine aw_iinc (ls' := [some (rf Γ 43), some _, some _, some _, some _, some _, some _]) dX11_even_75 rfl (by decide) rfl ?_
          refine aw_goto (tgt := 30) dX11_even_78 rfl ?_
          refine aw_fg [true, true, true, true, true, true, false] (ls' := [some (rf Γ 43), some _, some _, some _, some _, some _, none]) rfl ?_
          exact ih (by omega) x3_57 x4_73  (by simp only [evN, sm] at i30_0 ⊢; split <;> omega) (by simp only [evA, sm] at i30_1 ⊢; split <;> omega)
    · skip
      refine aw_iconst dX11_even_20 ?_
      exact aw_ireturn dX11_even_21 rfl rfl ⟨Nat.le_refl _, Nat.le_refl _⟩ (hQ _ (by unfold aEven; rw [if_neg (by simp only [isI, isO]; omega)]))
  · skip
    refine aw_if_eq (tgt := 20) dX11_even_6 rfl (by decide) (fun _ => ?_) (fun c => absurd c (by decide))
    refine aw_iconst dX11_even_20 ?_
    exact aw_ireturn dX11_even_21 rfl rfl ⟨Nat.le_refl _, Nat.le_refl _⟩ (hQ _ (by unfold aEven; rw [if_neg (by simp only [isI, isO]; omega)]))

set_option maxHeartbeats 1000000 in
theorem c_X11_future {Γ : GT} {S T U V A : St} {G : Gw} {nx d : Nat} {Q : QT} (hnx : 52 ≤ nx) {i a : Int} {c : Int} (hI : Inv c A) (hA : Ag A (V 0)) (hL : RgL V) (hi : inI i) (ha : inI a) (hQ : ∀ r, r = aFuture A i a → Q (some (vi r)) (hp Γ S T U V G) nx) : AM Γ MX11_future (d + 4, 0, 0) [rf Γ 43, vi i, vi a] (hp Γ S T U V G) nx Q := by
  refine am_of (by decide) (Nat.le_of_ble_eq_true rfl) (ls := [some (rf Γ 43), some _, some _, none, none, none]) rfl ?_
  have hR := hI.R
  have i1 := hI.i1
  have hz : 0 ≤ A 28 0 ∧ A 28 0 ≤ 60 := i1.2.2.1
  have hkS : nS A = (A 28 0).toNat := rfl
  have hkI : nIm A = (A 27 0).toNat := rfl
  have hkO : nOr A = (A 26 0).toNat := rfl
  refine aw_aload_n dX11_future_0 rfl ?_
  refine aw_iload_n dX11_future_1 rfl ?_
  refine aw_iload_n dX11_future_2 rfl ?_
  refine aw_callV (As := [_, _]) (ρ := (_, 0, 0)) (kn' := (0, 0)) cv_X11_236 dX11_future_3 rfl rfl (hc43 hnx) rfl rfl (Nat.le_of_ble_eq_true rfl) (rmR _ _ _) ⟨Nat.le_refl _, Nat.le_refl _⟩ rfl (c_X11_arePair hnx hI hA hL (by omega) (fun r3 h3 => ?_))
  rcases h3 with ⟨rfl, h3⟩ | ⟨rfl, h3⟩
  · skip
    refine aw_if_ne (tgt := 11) dX11_future_6 rfl (by decide) (fun _ => ?_) (fun c => absurd c (by decide))
    refine aw_aload_n dX11_future_11 rfl ?_
    refine aw_iload_n dX11_future_12 rfl ?_
    refine aw_iload_n dX11_future_13 rfl ?_
    refine aw_callV (As := [_, _]) (ρ := (_, 0, 0)) (kn' := (0, 0)) cv_X11_341 dX11_future_14 rfl rfl (hc43 hnx) rfl rfl (Nat.le_of_ble_eq_true rfl) (rmR _ _ _) ⟨Nat.le_refl _, Nat.le_refl _⟩ rfl (c_X11_wouldCount hnx hI hA hL (by omega) (by omega) (fun r14 h14 => ?_))
    rcases h14 with ⟨rfl, h14⟩ | ⟨rfl, h14⟩
    · skip
      refine aw_if_ne (tgt := 22) dX11_future_17 rfl (by decide) (fun _ => ?_) (fun c => absurd c (by decide))
      refine aw_lconst0 dX11_future_22 ?_
      refine aw_lstore_n (ls' := [some (rf Γ 43), some _, some _, some _, none, none]) dX11_future_23 (by decide) rfl ?_
      refine aw_iconst dX11_future_24 ?_
      refine aw_istore (ls' := [some (rf Γ 43), some _, some _, some _, none, some _]) dX11_future_25 (by decide) rfl ?_
      refine loopN (nIm A) (P := fun k => ∀ (x : Int) , x = cnys A a k →  AW Γ MX11_future _ _ (0, 0) 27 [some (rf Γ 43), some (vi i), some (vi a), some (vl x), none, some (vi (k : Int))] [] (hp Γ S T U V G) nx) (fun k hk ih => ?_) 0 (Nat.zero_le _) _ rfl
      intro x i27_0
      refine aw_iload dX11_future_27 rfl ?_
      refine aw_aload_n dX11_future_29 rfl ?_
      refine aw_bipush dX11_future_30 rfl ?_
      refine aw_callV (As := [_]) (ρ := (_, 0, 0)) (kn' := (0, 0)) cv_X11_164 dX11_future_32 rfl rfl (hc43 hnx) rfl rfl (Nat.le_of_ble_eq_true rfl) (rmR _ _ _) ⟨Nat.le_refl _, Nat.le_refl _⟩ rfl (c_X11_many_7 hnx hI hA hL  (fun r32 h32 => ?_))
      subst h32
      refine aw_icmp_ge (tgt := 68) dX11_future_35 rfl (by omega) (fun c35 => ?_) (fun c35 => ?_)
      · skip
        obtain rfl : k = nIm A := by omega
        have m1 := hI.cny (p := 4 * i + a) (by omega)
        have tm := hI.tm (by omega)
        have qu := hI.qu (o := a) (by omega)
        have m2 := mul_rg qu tm.1
        have m4 := hI.cnys (o := a) (by omega) (nIm A) (by omega)
        have c1 := hI.cny1 (p := 4 * i + a) (by omega) (by omega) h14
        have c2 := hI.cnys1 (i := i) (o := a) (by omega) (by omega) c1
        have ec : cny A (4 * i + a) = A 20 (4 * i + a) + A 2 ((4 * i + a) * 3 + 0) + A 2 ((4 * i + a) * 3 + 1) := by unfold cny; rw [if_pos h14]
        have m5 := mul_rg (a := A 1 a * A 0 0 / 100) (b := cny A (4 * i + a)) (A := 99999) (B := 153598464) ⟨by omega, by omega⟩ m1
        subst i27_0
        refine aw_aload_n dX11_future_68 rfl ?_
        refine aw_getf fg_X11_9 dX11_future_69 (hc43 hnx) rfl ?_
        refine aw_iload_n dX11_future_72 rfl ?_
        refine aw_iconst dX11_future_73 ?_
        refine aw_callS (As := [_, _]) (ρ := (_, 0, 0)) (kn' := (0, 0)) cs_X11_40 dX11_future_74 rfl rfl (Nat.le_of_ble_eq_true rfl) (rmR _ _ _) ⟨Nat.le_refl _, Nat.le_refl _⟩ rfl (c_X11_originAt hnx  (fun r74 h74 => ?_))
        subst h74
        refine aw_laldr dX11_future_77 (hc44 hnx) (by omega) (by decide) (hL 0) (fun q77 => ?_)
        refine aw_svl (a := A 1 a) ((hA.o0 (by omega)).symm) ?_
        refine aw_aload_n dX11_future_78 rfl ?_
        refine aw_getf fg_X11_9 dX11_future_79 (hc43 hnx) rfl ?_
        refine aw_iconst dX11_future_82 ?_
        refine aw_laldr dX11_future_83 (hc44 hnx) (by omega) (by decide) (hL 0) (fun q83 => ?_)
        refine aw_svl (a := A 0 0) ((hA.tm (by omega)).symm) ?_
        refine aw_lmul dX11_future_84 ?_
        refine aw_ldc2 dX11_future_85 qk_X11_174 ?_
        refine aw_st (st' := vl 100 :: _) rfl ?_
        refine aw_ldiv dX11_future_88 (by omega) (by omega) ?_
        refine aw_aload_n dX11_future_89 rfl ?_
        refine aw_iload_n dX11_future_90 rfl ?_
        refine aw_iload_n dX11_future_91 rfl ?_
        refine aw_callV (As := [_, _]) (ρ := (_, 0, 0)) (kn' := (0, 0)) cv_X11_344 dX11_future_92 rfl rfl (hc43 hnx) rfl rfl (Nat.le_of_ble_eq_true rfl) (rmR _ _ _) ⟨Nat.le_refl _, Nat.le_refl _⟩ rfl (c_X11_wouldAll hnx hI hA hL (by omega) (by omega) (fun r92 h92 => ?_))
        rw [← ec] at h92
        subst h92
        refine aw_lmul dX11_future_95 ?_
        refine aw_lload_n dX11_future_96 rfl ?_
        refine aw_ldiv dX11_future_97 (by omega) (by omega) ?_
        refine aw_l2i dX11_future_98 ?_
        exact aw_ireturn dX11_future_99 rfl rfl ⟨Nat.le_refl _, Nat.le_refl _⟩ (hQ _ (by unfold aFuture; rw [if_pos (by simp only [isI, isO]; omega)]; unfold sny poa; rw [if_pos c2, Int.mul_comm (A 0 0)]))
      · skip
        refine aw_lload_n dX11_future_38 rfl ?_
        refine aw_aload_n dX11_future_39 rfl ?_
        refine aw_iload dX11_future_40 rfl ?_
        refine aw_iload_n dX11_future_42 rfl ?_
        refine aw_callV (As := [_, _]) (ρ := (_, 0, 0)) (kn' := (0, 0)) cv_X11_341 dX11_future_43 rfl rfl (hc43 hnx) rfl rfl (Nat.le_of_ble_eq_true rfl) (rmR _ _ _) ⟨Nat.le_refl _, Nat.le_refl _⟩ rfl (c_X11_wouldCount hnx hI hA hL (by omega) (by omega) (fun r43 h43 => ?_))
        rcases h43 with ⟨rfl, h43⟩ | ⟨rfl, h43⟩
        · skip
          refine aw_if_eq (tgt := 59) dX11_future_46 rfl (by decide) (fun c => absurd c (by decide)) (fun _ => ?_)
          refine aw_aload_n dX11_future_49 rfl ?_
          refine aw_iload dX11_future_50 rfl ?_
          refine aw_iload_n dX11_future_52 rfl ?_
          refine aw_callV (As := [_, _]) (ρ := (_, 0, 0)) (kn' := (0, 0)) cv_X11_344 dX11_future_53 rfl rfl (hc43 hnx) rfl rfl (Nat.le_of_ble_eq_true rfl) (rmR _ _ _) ⟨Nat.le_refl _, Nat.le_refl _⟩ rfl (c_X11_wouldAll hnx hI hA hL (by omega) (by omega) (fun r53 h53 => ?_))
          refine aw_goto (tgt := 60) dX11_future_56 rfl ?_
          refine aw_ladd dX11_future_60 ?_
          refine aw_nmL (fun x3_61 hx3_61 => ?_)
          refine aw_lstore_n (ls' := [some (rf Γ 43), some _, some _, some _, none, some _]) dX11_future_61 (by decide) rfl ?_
          refine aw_iinc (ls' := [some (rf Γ 43), some _, some _, some _, none, some _]) dX11_future_62 rfl (by decide) rfl ?_
          refine aw_goto (tgt := 27) dX11_future_65 rfl ?_
          exact ih (by omega) x3_61  (by simp only [cnys, sm, cny] at i27_0 ⊢; split <;> omega)
        · skip
          refine aw_if_eq (tgt := 59) dX11_future_46 rfl (by decide) (fun _ => ?_) (fun c => absurd c (by decide))
          refine aw_lconst0 dX11_future_59 ?_
          refine aw_ladd dX11_future_60 ?_
          refine aw_nmL (fun x3_61 hx3_61 => ?_)
          refine aw_lstore_n (ls' := [some (rf Γ 43), some _, some _, some _, none, some _]) dX11_future_61 (by decide) rfl ?_
          refine aw_iinc (ls' := [some (rf Γ 43), some _, some _, some _, none, some _]) dX11_future_62 rfl (by decide) rfl ?_
          refine aw_goto (tgt := 27) dX11_future_65 rfl ?_
          exact ih (by omega) x3_61  (by simp only [cnys, sm, cny] at i27_0 ⊢; split <;> omega)
    · skip
      refine aw_if_ne (tgt := 22) dX11_future_17 rfl (by decide) (fun c => absurd c (by decide)) (fun _ => ?_)
      refine aw_iconst dX11_future_20 ?_
      exact aw_ireturn dX11_future_21 rfl rfl ⟨Nat.le_refl _, Nat.le_refl _⟩ (hQ _ (by unfold aFuture; rw [if_pos (by simp only [isI, isO]; omega)]; unfold sny poa; rw [show cny A (4 * i + a) = 0 by unfold cny; rw [if_neg h14]]; split <;> simp))
  · skip
    refine aw_if_ne (tgt := 11) dX11_future_6 rfl (by decide) (fun c => absurd c (by decide)) (fun _ => ?_)
    refine aw_iconst dX11_future_9 ?_
    exact aw_ireturn dX11_future_10 rfl rfl ⟨Nat.le_refl _, Nat.le_refl _⟩ (hQ _ (by unfold aFuture; rw [if_neg (by simp only [isI, isO]; omega)]))

set_option maxHeartbeats 1000000 in
theorem c_X11_root {Γ : GT} {S T U V A : St} {G : Gw} {nx d : Nat} {Q : QT} (hnx : 52 ≤ nx) {l w : Int} {c : Int} (hI : Inv c A) (hA : Ag A (V 0)) (hL : RgL V) (hl : inI l) (hw : inI w) (hQ : ∀ r, r = aRoot A l w → Q (some (vi r)) (hp Γ S T U V G) nx) : AM Γ MX11_root (d + 2, 0, 0) [rf Γ 43, vi l, vi w] (hp Γ S T U V G) nx Q := by
  refine am_of (by decide) (Nat.le_of_ble_eq_true rfl) (ls := [some (rf Γ 43), some _, some _, none, none]) rfl ?_
  have hR := hI.R
  have i1 := hI.i1
  have hz : 0 ≤ A 28 0 ∧ A 28 0 ≤ 60 := i1.2.2.1
  have hkS : nS A = (A 28 0).toNat := rfl
  have hkI : nIm A = (A 27 0).toNat := rfl
  have hkO : nOr A = (A 26 0).toNat := rfl
  refine aw_aload_n dX11_root_0 rfl ?_
  refine aw_iload_n dX11_root_1 rfl ?_
  refine aw_callV (As := [_]) (ρ := (_, 0, 0)) (kn' := (0, 0)) cv_X11_248 dX11_root_2 rfl rfl (hc43 hnx) rfl rfl (Nat.le_of_ble_eq_true rfl) (rmR _ _ _) ⟨Nat.le_refl _, Nat.le_refl _⟩ rfl (c_X11_isLicence hnx hI hA hL (by omega) (fun r2 h2 => ?_))
  rcases h2 with ⟨rfl, h2⟩ | ⟨rfl, h2⟩
  · skip
    refine aw_if_eq (tgt := 18) dX11_root_5 rfl (by decide) (fun c => absurd c (by decide)) (fun _ => ?_)
    refine aw_iload_n dX11_root_8 rfl ?_
    refine aw_i2l dX11_root_9 (by omega) ?_
    refine aw_lconst0 dX11_root_10 ?_
    refine aw_lconst1 dX11_root_11 ?_
    refine aw_callS (As := [_, _, _]) (ρ := (_, 0, 0)) (kn' := (0, 0)) cs_X11_51 dX11_root_12 rfl rfl (Nat.le_of_ble_eq_true rfl) (rmR _ _ _) ⟨Nat.le_refl _, Nat.le_refl _⟩ rfl (c_X11_in hnx (by omega) (fun r12 h12 => ?_))
    rcases h12 with ⟨rfl, h12⟩ | ⟨rfl, h12⟩
    · skip
      refine aw_if_ne (tgt := 20) dX11_root_15 rfl (by decide) (fun _ => ?_) (fun c => absurd c (by decide))
      refine aw_iconst dX11_root_20 ?_
      refine aw_istore_n (ls' := [some (rf Γ 43), some _, some _, some _, none]) dX11_root_21 (by decide) rfl ?_
      refine aw_iload_n dX11_root_22 rfl ?_
      refine aw_istore (ls' := [some (rf Γ 43), some _, some _, some _, some _]) dX11_root_23 (by decide) rfl ?_
      refine loopN (60) (P := fun k => ∀ (x : Int) (y : Int) , x = rtW A l k → y = rtH A l k →  AW Γ MX11_root _ _ (0, 0) 25 [some (rf Γ 43), some (vi l), some (vi w), some (vi y), some (vi x)] [] (hp Γ S T U V G) nx) (fun k hk ih => ?_) 0 (Nat.zero_le _) _ _ rfl rfl
      intro x y i25_0 i25_1
      refine aw_aload_n dX11_root_25 rfl ?_
      have b1 := hI.rtW (l := l) (by omega) k
      have b2 := (hI.li (l := rtW A l k) (by omega)).2.2.2.2.2.2.2
      have b60 := rt_end hI (l := l) (by omega)
      refine aw_iload dX11_root_26 rfl ?_
      refine aw_bipush dX11_root_28 rfl ?_
      refine aw_callV (As := [_, _]) (ρ := (_, 0, 0)) (kn' := (0, 0)) cv_X11_196 dX11_root_30 rfl rfl (hc43 hnx) rfl rfl (Nat.le_of_ble_eq_true rfl) (rmR _ _ _) ⟨Nat.le_refl _, Nat.le_refl _⟩ rfl (c_X11_ofLicence_8 hnx hI hA hL (by omega) (fun r30 h30 => ?_))
      rw [i25_0] at h30
      refine aw_iconst dX11_root_33 ?_
      refine aw_icmp_eq (tgt := 53) dX11_root_34 rfl (by omega) (fun c34 => ?_) (fun c34 => ?_)
      · skip
        have eR : rtW A l k = rtW A l 60 ∧ y = rtH A l 60 := by
          have e := rt_stay (S := A) (l := l) (k := k) (by omega) (60 - k)
          rw [show k + (60 - k) = 60 by omega] at e
          exact ⟨by omega, by omega⟩
        refine aw_iload_n dX11_root_53 rfl ?_
        refine aw_if_ne (tgt := 62) dX11_root_54 rfl (by omega) (fun c54 => ?_) (fun c54 => ?_)
        · skip
          refine aw_iload_n dX11_root_62 rfl ?_
          exact aw_ireturn dX11_root_63 rfl rfl ⟨Nat.le_refl _, Nat.le_refl _⟩ (hQ _ (by unfold aRoot; rw [if_pos (by simp only [isL]; omega)]; first | (rw [if_pos (by omega)]; omega) | (rw [if_neg (by omega)]; omega)))
        · skip
          refine aw_iload dX11_root_57 rfl ?_
          refine aw_goto (tgt := 63) dX11_root_59 rfl ?_
          exact aw_ireturn dX11_root_63 rfl rfl ⟨Nat.le_refl _, Nat.le_refl _⟩ (hQ _ (by unfold aRoot; rw [if_pos (by simp only [isL]; omega)]; first | (rw [if_pos (by omega)]; omega) | (rw [if_neg (by omega)]; omega)))
      · skip
        have k60 : k < 60 := by (rcases Nat.lt_or_ge k 60 with z | z); exact z; (exfalso; rw [show k = 60 by omega] at h30; omega)
        refine aw_aload_n dX11_root_37 rfl ?_
        refine aw_iload dX11_root_38 rfl ?_
        refine aw_bipush dX11_root_40 rfl ?_
        refine aw_callV (As := [_, _]) (ρ := (_, 0, 0)) (kn' := (0, 0)) cv_X11_196 dX11_root_42 rfl rfl (hc43 hnx) rfl rfl (Nat.le_of_ble_eq_true rfl) (rmR _ _ _) ⟨Nat.le_refl _, Nat.le_refl _⟩ rfl (c_X11_ofLicence_8 hnx hI hA hL (by omega) (fun r42 h42 => ?_))
        rw [i25_0] at h42
        refine aw_istore (ls' := [some (rf Γ 43), some _, some _, some _, some _]) dX11_root_45 (by decide) rfl ?_
        refine aw_iinc (ls' := [some (rf Γ 43), some _, some _, some _, some _]) dX11_root_47 rfl (by decide) rfl ?_
        refine aw_goto (tgt := 25) dX11_root_50 rfl ?_
        exact ih (by omega) r42 _  (by rw [rtW, if_neg (by omega)]; omega) (by rw [rtH, if_neg (by omega)]; omega)
    · skip
      refine aw_if_ne (tgt := 20) dX11_root_15 rfl (by decide) (fun c => absurd c (by decide)) (fun _ => ?_)
      refine aw_iconst dX11_root_18 ?_
      exact aw_ireturn dX11_root_19 rfl rfl ⟨Nat.le_refl _, Nat.le_refl _⟩ (hQ _ (by unfold aRoot; rw [if_neg (by simp only [isL]; omega)]))
  · skip
    refine aw_if_eq (tgt := 18) dX11_root_5 rfl (by decide) (fun _ => ?_) (fun c => absurd c (by decide))
    refine aw_iconst dX11_root_18 ?_
    exact aw_ireturn dX11_root_19 rfl rfl ⟨Nat.le_refl _, Nat.le_refl _⟩ (hQ _ (by unfold aRoot; rw [if_neg (by simp only [isL]; omega)]))

set_option maxHeartbeats 1000000 in
theorem c_X11_fastest {Γ : GT} {S T U V A : St} {G : Gw} {nx d : Nat} {Q : QT} (hnx : 52 ≤ nx) {a : Int} {c : Int} (hI : Inv c A) (hA : Ag A (V 0)) (hL : RgL V) (ha : inI a) (hQ : ∀ r, r = aFastest A a → Q (some (vi r)) (hp Γ S T U V G) nx) : AM Γ MX11_fastest (d + 4, 0, 0) [rf Γ 43, vi a] (hp Γ S T U V G) nx Q := by
  refine am_of (by decide) (Nat.le_of_ble_eq_true rfl) (ls := [some (rf Γ 43), some _, none, none]) rfl ?_
  have hR := hI.R
  have i1 := hI.i1
  have hz : 0 ≤ A 28 0 ∧ A 28 0 ≤ 60 := i1.2.2.1
  have hkS : nS A = (A 28 0).toNat := rfl
  have hkI : nIm A = (A 27 0).toNat := rfl
  have hkO : nOr A = (A 26 0).toNat := rfl
  refine aw_aload_n dX11_fastest_0 rfl ?_
  refine aw_iload_n dX11_fastest_1 rfl ?_
  refine aw_callV (As := [_]) (ρ := (_, 0, 0)) (kn' := (0, 0)) cv_X11_59 dX11_fastest_2 rfl rfl (hc43 hnx) rfl rfl (Nat.le_of_ble_eq_true rfl) (rmR _ _ _) ⟨Nat.le_refl _, Nat.le_refl _⟩ rfl (c_X11_isOrigin hnx hI hA hL (by omega) (fun r2 h2 => ?_))
  rcases h2 with ⟨rfl, h2⟩ | ⟨rfl, h2⟩
  · skip
    refine aw_if_ne (tgt := 10) dX11_fastest_5 rfl (by decide) (fun _ => ?_) (fun c => absurd c (by decide))
    refine aw_bipush dX11_fastest_10 rfl ?_
    refine aw_istore_n (ls' := [some (rf Γ 43), some _, some _, none]) dX11_fastest_12 (by decide) rfl ?_
    refine aw_iconst dX11_fastest_13 ?_
    refine aw_istore_n (ls' := [some (rf Γ 43), some _, some _, some _]) dX11_fastest_14 (by decide) rfl ?_
    refine loopN (nIm A) (P := fun k => ∀ (x : Int) , x = faW A a k →  AW Γ MX11_fastest _ _ (0, 0) 15 [some (rf Γ 43), some (vi a), some (vi x), some (vi (k : Int))] [] (hp Γ S T U V G) nx) (fun k hk ih => ?_) 0 (Nat.zero_le _) _ rfl
    intro x i15_0
    refine aw_iload_n dX11_fastest_15 rfl ?_
    refine aw_aload_n dX11_fastest_16 rfl ?_
    refine aw_bipush dX11_fastest_17 rfl ?_
    refine aw_callV (As := [_]) (ρ := (_, 0, 0)) (kn' := (0, 0)) cv_X11_164 dX11_fastest_19 rfl rfl (hc43 hnx) rfl rfl (Nat.le_of_ble_eq_true rfl) (rmR _ _ _) ⟨Nat.le_refl _, Nat.le_refl _⟩ rfl (c_X11_many_7 hnx hI hA hL  (fun r19 h19 => ?_))
    subst h19
    refine aw_icmp_ge (tgt := 90) dX11_fastest_22 rfl (by omega) (fun c22 => ?_) (fun c22 => ?_)
    · skip
      obtain rfl : k = nIm A := by omega
      refine aw_iload_n dX11_fastest_90 rfl ?_
      exact aw_ireturn dX11_fastest_91 rfl rfl ⟨Nat.le_refl _, Nat.le_refl _⟩ (hQ _ (by unfold aFastest; rw [if_pos (by simp only [isO]; omega)]; exact i15_0))
    · skip
      have o1 := hI.ofN k a
      have o2 := hI.ofN (faW A a k) a
      have o3 := faW_in A a k
      refine aw_aload_n dX11_fastest_25 rfl ?_
      refine aw_iload_n dX11_fastest_26 rfl ?_
      refine aw_iload_n dX11_fastest_27 rfl ?_
      refine aw_iconst dX11_fastest_28 ?_
      refine aw_callV (As := [_, _, _]) (ρ := (_, 0, 0)) (kn' := (0, 0)) cv_X11_323 dX11_fastest_29 rfl rfl (hc43 hnx) rfl rfl (Nat.le_of_ble_eq_true rfl) (rmR _ _ _) ⟨Nat.le_refl _, Nat.le_refl _⟩ rfl (c_X11_sumOf_4 hnx hI hA hL (by omega) (fun r29 h29 => ?_))
      refine aw_lconst0 dX11_fastest_32 ?_
      refine aw_lif_ne (tgt := 40) dX11_fastest_33 dX11_fastest_34 rfl (by omega) (fun c33 => ?_) (fun c33 => ?_)
      · skip
        refine aw_iload_n dX11_fastest_40 rfl ?_
        refine aw_bipush dX11_fastest_41 rfl ?_
        refine aw_icmp_eq (tgt := 82) dX11_fastest_43 rfl (by omega) (fun c43 => ?_) (fun c43 => ?_)
        · skip
          refine aw_iload_n dX11_fastest_82 rfl ?_
          refine aw_istore_n (ls' := [some (rf Γ 43), some _, some _, some _]) dX11_fastest_83 (by decide) rfl ?_
          refine aw_iinc (ls' := [some (rf Γ 43), some _, some _, some _]) dX11_fastest_84 rfl (by decide) rfl ?_
          refine aw_goto (tgt := 15) dX11_fastest_87 rfl ?_
          exact ih (by omega) (k : Int)  (by simp only [faW]; split <;> omega)
        · skip
          refine aw_aload_n dX11_fastest_46 rfl ?_
          refine aw_iload_n dX11_fastest_47 rfl ?_
          refine aw_iload_n dX11_fastest_48 rfl ?_
          refine aw_bipush dX11_fastest_49 rfl ?_
          refine aw_callV (As := [_, _, _]) (ρ := (_, 0, 0)) (kn' := (0, 0)) cv_X11_323 dX11_fastest_51 rfl rfl (hc43 hnx) rfl rfl (Nat.le_of_ble_eq_true rfl) (rmR _ _ _) ⟨Nat.le_refl _, Nat.le_refl _⟩ rfl (c_X11_sumOf_9 hnx hI hA hL (by omega) (fun r51 h51 => ?_))
          refine aw_aload_n dX11_fastest_54 rfl ?_
          refine aw_iload_n dX11_fastest_55 rfl ?_
          refine aw_iload_n dX11_fastest_56 rfl ?_
          refine aw_iconst dX11_fastest_57 ?_
          refine aw_callV (As := [_, _, _]) (ρ := (_, 0, 0)) (kn' := (0, 0)) cv_X11_323 dX11_fastest_58 rfl rfl (hc43 hnx) rfl rfl (Nat.le_of_ble_eq_true rfl) (rmR _ _ _) ⟨Nat.le_refl _, Nat.le_refl _⟩ rfl (c_X11_sumOf_4 hnx hI hA hL (by omega) (fun r58 h58 => ?_))
          refine aw_lmul dX11_fastest_61 ?_
          refine aw_aload_n dX11_fastest_62 rfl ?_
          refine aw_iload_n dX11_fastest_63 rfl ?_
          refine aw_iload_n dX11_fastest_64 rfl ?_
          refine aw_bipush dX11_fastest_65 rfl ?_
          refine aw_callV (As := [_, _, _]) (ρ := (_, 0, 0)) (kn' := (0, 0)) cv_X11_323 dX11_fastest_67 rfl rfl (hc43 hnx) rfl rfl (Nat.le_of_ble_eq_true rfl) (rmR _ _ _) ⟨Nat.le_refl _, Nat.le_refl _⟩ rfl (c_X11_sumOf_9 hnx hI hA hL (by omega) (fun r67 h67 => ?_))
          refine aw_aload_n dX11_fastest_70 rfl ?_
          refine aw_iload_n dX11_fastest_71 rfl ?_
          refine aw_iload_n dX11_fastest_72 rfl ?_
          refine aw_iconst dX11_fastest_73 ?_
          refine aw_callV (As := [_, _, _]) (ρ := (_, 0, 0)) (kn' := (0, 0)) cv_X11_323 dX11_fastest_74 rfl rfl (hc43 hnx) rfl rfl (Nat.le_of_ble_eq_true rfl) (rmR _ _ _) ⟨Nat.le_refl _, Nat.le_refl _⟩ rfl (c_X11_sumOf_4 hnx hI hA hL (by omega) (fun r74 h74 => ?_))
          refine aw_lmul dX11_fastest_77 ?_
          rw [i15_0] at h58 h67
          have e1 : r51 * r58 = ofN A 13 k a (nS A) * ofN A 9 (faW A a k) a (nS A) := by rw [h51, h58]
          have e2 : r67 * r74 = ofN A 13 (faW A a k) a (nS A) * ofN A 9 k a (nS A) := by rw [h67, h74]
          have m1 := mul_rg o1.2 o2.1
          have m2 := mul_rg o2.2 o1.1
          refine aw_lif_ge (tgt := 84) dX11_fastest_78 dX11_fastest_79 rfl (by omega) (fun c78 => ?_) (fun c78 => ?_)
          · skip
            refine aw_iinc (ls' := [some (rf Γ 43), some _, some _, some _]) dX11_fastest_84 rfl (by decide) rfl ?_
            refine aw_goto (tgt := 15) dX11_fastest_87 rfl ?_
            exact ih (by omega) x  (by simp only [faW]; split <;> omega)
          · skip
            refine aw_iload_n dX11_fastest_82 rfl ?_
            refine aw_istore_n (ls' := [some (rf Γ 43), some _, some _, some _]) dX11_fastest_83 (by decide) rfl ?_
            refine aw_iinc (ls' := [some (rf Γ 43), some _, some _, some _]) dX11_fastest_84 rfl (by decide) rfl ?_
            refine aw_goto (tgt := 15) dX11_fastest_87 rfl ?_
            exact ih (by omega) (k : Int)  (by simp only [faW]; split <;> omega)
      · skip
        refine aw_goto (tgt := 84) dX11_fastest_37 rfl ?_
        refine aw_iinc (ls' := [some (rf Γ 43), some _, some _, some _]) dX11_fastest_84 rfl (by decide) rfl ?_
        refine aw_goto (tgt := 15) dX11_fastest_87 rfl ?_
        exact ih (by omega) x  (by simp only [faW]; split <;> omega)
  · skip
    refine aw_if_ne (tgt := 10) dX11_fastest_5 rfl (by decide) (fun c => absurd c (by decide)) (fun _ => ?_)
    refine aw_iconst dX11_fastest_8 ?_
    exact aw_ireturn dX11_fastest_9 rfl rfl ⟨Nat.le_refl _, Nat.le_refl _⟩ (hQ _ (by unfold aFastest; rw [if_neg (by simp only [isO]; omega)]))


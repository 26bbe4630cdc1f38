/-! the reference: doubles and floats -/
theorem Dn.nn {lo hi : Nat} {x : UInt64} (h : Dn lo hi x) (h0 : 1 ≤ hi ∧ hi ≤ 2047) : FP.Core.val64 x ≠ .nan := lt_ne_nan (by have := h.lt h0.1; omega)
theorem paF_nn {v t : Int} (hv : 0 ≤ v ∧ v < 2147483648) (ht : 1 ≤ t ∧ t ≤ 360) : FP.Core.val32 (paF v t) ≠ .nan := by
  rcases paF_ok hv ht with e | e
  · rw [e]; decide +kernel
  · obtain ⟨c, q, e2⟩ := fin_pos32 (x := paF v t) (by omega)
    rw [e2]; exact FP.Core.Datum.noConfusion
section AWF
variable {Γ : GT} {M : MD} {R : Room} {Φ : PH} {kn : Nat × Nat} {pc : Nat} {ls : List (Option Value)} {st : List Value} {h : Nat → AC} {nx : Nat}
theorem aw_sf {a b : UInt32} (e : a = b) (k : AW Γ M R Φ kn pc ls (.float a :: st) h nx) : AW Γ M R Φ kn pc ls (.float b :: st) h nx := e ▸ k
end AWF

set_option maxHeartbeats 1000000 in
theorem c_X11_mean {Γ : GT} {S T U V A : St} {G : Gw} {nx d : Nat} {Q : QT} (hnx : 52 ≤ nx) {i a : Int} {c : Int} (hI : Inv c A) (hA : Ag A (V 0)) (hL : RgL V) (hi : inI i) (ha : inI a) (hQ : ∀ r : Int64, r = aMean A i a → Q (some (.long r)) (hp Γ S T U V G) nx) : AM Γ MX11_mean (d + 3, 0, 0) [rf Γ 43, vi i, vi a] (hp Γ S T U V G) nx Q := by
  refine am_of (by decide) (Nat.le_of_ble_eq_true rfl) (ls := [some (rf Γ 43), some _, some _]) rfl ?_
  have hR := hI.R
  have i1 := hI.i1
  have hz : 0 ≤ A 28 0 ∧ A 28 0 ≤ 60 := i1.2.2.1
  have hkS : nS A = (A 28 0).toNat := rfl
  have hkI : nIm A = (A 27 0).toNat := rfl
  have hkO : nOr A = (A 26 0).toNat := rfl
  refine aw_aload_n dX11_mean_0 rfl ?_
  refine aw_iload_n dX11_mean_1 rfl ?_
  refine aw_iload_n dX11_mean_2 rfl ?_
  refine aw_callV (As := [_, _]) (ρ := (_, 0, 0)) (kn' := (0, 0)) cv_X11_236 dX11_mean_3 rfl rfl (hc43 hnx) rfl rfl (Nat.le_of_ble_eq_true rfl) (rmR _ _ _) ⟨Nat.le_refl _, Nat.le_refl _⟩ rfl (c_X11_arePair hnx hI hA hL (by omega) (fun r3 h3 => ?_))
  rcases h3 with ⟨rfl, h3⟩ | ⟨rfl, h3⟩
  · skip
    refine aw_if_eq (tgt := 26) dX11_mean_6 rfl (by decide) (fun c => absurd c (by decide)) (fun _ => ?_)
    refine aw_aload_n dX11_mean_9 rfl ?_
    refine aw_iload_n dX11_mean_10 rfl ?_
    refine aw_iload_n dX11_mean_11 rfl ?_
    refine aw_callV (As := [_, _]) (ρ := (_, 0, 0)) (kn' := (0, 0)) cv_X11_170 dX11_mean_12 rfl rfl (hc43 hnx) rfl rfl (Nat.le_of_ble_eq_true rfl) (rmR _ _ _) ⟨Nat.le_refl _, Nat.le_refl _⟩ rfl (c_X11_importedOf hnx hI hA hL (by omega) (by omega) (fun r12 h12 => ?_))
    subst h12
    have od := hI.old (p := 4 * i + a) (by omega)
    have dn := hI.mnDn (p := 4 * i + a) (by omega)
    have nn := dn.nn (by omega)
    have dn2 := dn; unfold mnD at dn2
    refine aw_l2d dX11_mean_15 ?_
    refine aw_sd (a := FP.i2d (I (old A (4 * i + a)))) (l2d_i (by omega)).symm ?_
    refine aw_ldc2d dX11_mean_16 qk_X11_303 ?_
    refine aw_ddiv dX11_mean_19 (dn2.n64 (by omega)) ?_
    refine aw_sd (a := mnD A (4 * i + a)) rfl ?_
    refine aw_callS (As := [_]) (ρ := (_, 0, 0)) (kn' := (0, 0)) cs_X11_276 dX11_mean_20 rfl rfl (Nat.le_of_ble_eq_true rfl) (rmR _ _ _) ⟨Nat.le_refl _, Nat.le_refl _⟩ rfl (c_dtl hnx nn ?_)
    refine aw_goto (tgt := 29) dX11_mean_23 rfl ?_
    exact aw_lreturn dX11_mean_29 rfl ⟨Nat.le_refl _, Nat.le_refl _⟩ (hQ _ (by unfold aMean; first | (rw [if_pos (by simp only [isI, isO]; omega)]) | (rw [if_neg (by simp only [isI, isO]; omega)])))
  · skip
    refine aw_if_eq (tgt := 26) dX11_mean_6 rfl (by decide) (fun _ => ?_) (fun c => absurd c (by decide))
    refine aw_ldc2 dX11_mean_26 qk_X11_268 ?_
    refine aw_st (st' := vl (-1) :: _) rfl ?_
    exact aw_lreturn dX11_mean_29 rfl ⟨Nat.le_refl _, Nat.le_refl _⟩ (hQ _ (by unfold aMean; first | (rw [if_pos (by simp only [isI, isO]; omega)]) | (rw [if_neg (by simp only [isI, isO]; omega)])))

set_option maxHeartbeats 1000000 in
theorem c_X11_rate {Γ : GT} {S T U V A : St} {G : Gw} {nx d : Nat} {Q : QT} (hnx : 52 ≤ nx) {i : Int} {c : Int} (hI : Inv c A) (hA : Ag A (V 0)) (hL : RgL V) (hi : inI i) (hQ : ∀ r : Int64, r = aRate A i → Q (some (.long r)) (hp Γ S T U V G) nx) : AM Γ MX11_rate (d + 4, 0, 0) [rf Γ 43, vi i] (hp Γ S T U V G) nx Q := by
  refine am_of (by decide) (Nat.le_of_ble_eq_true rfl) (ls := [some (rf Γ 43), some _]) rfl ?_
  have hR := hI.R
  have i1 := hI.i1
  have hz : 0 ≤ A 28 0 ∧ A 28 0 ≤ 60 := i1.2.2.1
  have hkS : nS A = (A 28 0).toNat := rfl
  have hkI : nIm A = (A 27 0).toNat := rfl
  have hkO : nOr A = (A 26 0).toNat := rfl
  refine aw_aload_n dX11_rate_0 rfl ?_
  refine aw_iload_n dX11_rate_1 rfl ?_
  refine aw_callV (As := [_]) (ρ := (_, 0, 0)) (kn' := (0, 0)) cv_X11_55 dX11_rate_2 rfl rfl (hc43 hnx) rfl rfl (Nat.le_of_ble_eq_true rfl) (rmR _ _ _) ⟨Nat.le_refl _, Nat.le_refl _⟩ rfl (c_X11_isImporter hnx hI hA hL (by omega) (fun r2 h2 => ?_))
  rcases h2 with ⟨rfl, h2⟩ | ⟨rfl, h2⟩
  · skip
    refine aw_if_eq (tgt := 19) dX11_rate_5 rfl (by decide) (fun c => absurd c (by decide)) (fun _ => ?_)
    refine aw_aload_n dX11_rate_8 rfl ?_
    refine aw_iload_n dX11_rate_9 rfl ?_
    refine aw_callV (As := [_]) (ρ := (_, 0, 0)) (kn' := (0, 0)) cv_X11_309 dX11_rate_10 rfl rfl (hc43 hnx) rfl rfl (Nat.le_of_ble_eq_true rfl) (rmR _ _ _) ⟨Nat.le_refl _, Nat.le_refl _⟩ rfl (c_X11_rateOf hnx hI hA hL (by omega) ?_)
    have nn := ok_ne_nan (hI.rateOk i)
    refine aw_callS (As := [_]) (ρ := (_, 0, 0)) (kn' := (0, 0)) cs_X11_276 dX11_rate_13 rfl rfl (Nat.le_of_ble_eq_true rfl) (rmR _ _ _) ⟨Nat.le_refl _, Nat.le_refl _⟩ rfl (c_dtl hnx nn ?_)
    refine aw_goto (tgt := 22) dX11_rate_16 rfl ?_
    exact aw_lreturn dX11_rate_22 rfl ⟨Nat.le_refl _, Nat.le_refl _⟩ (hQ _ (by unfold aRate; first | rw [if_pos (by simp only [isI]; omega)] | rw [if_neg (by simp only [isI]; omega)]))
  · skip
    refine aw_if_eq (tgt := 19) dX11_rate_5 rfl (by decide) (fun _ => ?_) (fun c => absurd c (by decide))
    refine aw_ldc2 dX11_rate_19 qk_X11_268 ?_
    refine aw_st (st' := vl (-1) :: _) rfl ?_
    exact aw_lreturn dX11_rate_22 rfl ⟨Nat.le_refl _, Nat.le_refl _⟩ (hQ _ (by unfold aRate; first | rw [if_pos (by simp only [isI]; omega)] | rw [if_neg (by simp only [isI]; omega)]))

set_option maxHeartbeats 1000000 in
theorem c_X11_owed {Γ : GT} {S T U V A : St} {G : Gw} {nx d : Nat} {Q : QT} (hnx : 52 ≤ nx) {i : Int} {c : Int} (hI : Inv c A) (hA : Ag A (V 0)) (hL : RgL V) (hi : inI i) (hQ : ∀ r : Int64, r = aOwed A i → Q (some (.long r)) (hp Γ S T U V G) nx) : AM Γ MX11_owed (d + 2, 0, 0) [rf Γ 43, vi i] (hp Γ S T U V G) nx Q := by
  refine am_of (by decide) (Nat.le_of_ble_eq_true rfl) (ls := [some (rf Γ 43), some _]) rfl ?_
  have hR := hI.R
  have i1 := hI.i1
  have hz : 0 ≤ A 28 0 ∧ A 28 0 ≤ 60 := i1.2.2.1
  have hkS : nS A = (A 28 0).toNat := rfl
  have hkI : nIm A = (A 27 0).toNat := rfl
  have hkO : nOr A = (A 26 0).toNat := rfl
  refine aw_aload_n dX11_owed_0 rfl ?_
  refine aw_iload_n dX11_owed_1 rfl ?_
  refine aw_callV (As := [_]) (ρ := (_, 0, 0)) (kn' := (0, 0)) cv_X11_55 dX11_owed_2 rfl rfl (hc43 hnx) rfl rfl (Nat.le_of_ble_eq_true rfl) (rmR _ _ _) ⟨Nat.le_refl _, Nat.le_refl _⟩ rfl (c_X11_isImporter hnx hI hA hL (by omega) (fun r2 h2 => ?_))
  rcases h2 with ⟨rfl, h2⟩ | ⟨rfl, h2⟩
  · skip
    refine aw_if_eq (tgt := 21) dX11_owed_5 rfl (by decide) (fun c => absurd c (by decide)) (fun _ => ?_)
    refine aw_aload_n dX11_owed_8 rfl ?_
    refine aw_getf fg_X11_9 dX11_owed_9 (hc43 hnx) rfl ?_
    refine aw_sipush dX11_owed_12 rfl ?_
    refine aw_iload_n dX11_owed_15 rfl ?_
    refine aw_iadd dX11_owed_16 ?_
    refine aw_laldr dX11_owed_17 (hc44 hnx) (by omega) (by decide) (hL 0) (fun q17 => ?_)
    refine aw_svl (a := A 23 i) ((hA.ow (by omega)).symm) ?_
    refine aw_goto (tgt := 24) dX11_owed_18 rfl ?_
    exact aw_lreturn dX11_owed_24 rfl ⟨Nat.le_refl _, Nat.le_refl _⟩ (hQ _ (by unfold aOwed; first | rw [if_pos (by simp only [isI]; omega)] | rw [if_neg (by simp only [isI]; omega)]))
  · skip
    refine aw_if_eq (tgt := 21) dX11_owed_5 rfl (by decide) (fun _ => ?_) (fun c => absurd c (by decide))
    refine aw_ldc2 dX11_owed_21 qk_X11_268 ?_
    refine aw_st (st' := vl (-1) :: _) rfl ?_
    exact aw_lreturn dX11_owed_24 rfl ⟨Nat.le_refl _, Nat.le_refl _⟩ (hQ _ (by unfold aOwed; first | rw [if_pos (by simp only [isI]; omega)] | rw [if_neg (by simp only [isI]; omega)]))

set_option maxHeartbeats 1000000 in
theorem c_X11_speed {Γ : GT} {S T U V A : St} {G : Gw} {nx d : Nat} {Q : QT} (hnx : 52 ≤ nx) {l : Int} {c : Int} (hI : Inv c A) (hA : Ag A (V 0)) (hL : RgL V) (hl : inI l) (hQ : ∀ r : Int64, r = aSpeed A l → Q (some (.long r)) (hp Γ S T U V G) nx) : AM Γ MX11_speed (d + 2, 0, 0) [rf Γ 43, vi l] (hp Γ S T U V G) nx Q := by
  refine am_of (by decide) (Nat.le_of_ble_eq_true rfl) (ls := [some (rf Γ 43), some _, none, none]) rfl ?_
  have hR := hI.R
  have i1 := hI.i1
  have hz : 0 ≤ A 28 0 ∧ A 28 0 ≤ 60 := i1.2.2.1
  have hkS : nS A = (A 28 0).toNat := rfl
  have hkI : nIm A = (A 27 0).toNat := rfl
  have hkO : nOr A = (A 26 0).toNat := rfl
  refine aw_aload_n dX11_speed_0 rfl ?_
  refine aw_iload_n dX11_speed_1 rfl ?_
  refine aw_callV (As := [_]) (ρ := (_, 0, 0)) (kn' := (0, 0)) cv_X11_248 dX11_speed_2 rfl rfl (hc43 hnx) rfl rfl (Nat.le_of_ble_eq_true rfl) (rmR _ _ _) ⟨Nat.le_refl _, Nat.le_refl _⟩ rfl (c_X11_isLicence hnx hI hA hL (by omega) (fun r2 h2 => ?_))
  rcases h2 with ⟨rfl, h2⟩ | ⟨rfl, h2⟩
  · skip
    refine aw_if_ne (tgt := 12) dX11_speed_5 rfl (by decide) (fun _ => ?_) (fun c => absurd c (by decide))
    refine aw_aload_n dX11_speed_12 rfl ?_
    refine aw_getf fg_X11_9 dX11_speed_13 (hc43 hnx) rfl ?_
    refine aw_iload_n dX11_speed_16 rfl ?_
    refine aw_iconst dX11_speed_17 ?_
    refine aw_callS (As := [_, _]) (ρ := (_, 0, 0)) (kn' := (0, 0)) cs_X11_48 dX11_speed_18 rfl rfl (Nat.le_of_ble_eq_true rfl) (rmR _ _ _) ⟨Nat.le_refl _, Nat.le_refl _⟩ rfl (c_X11_licenceAt hnx  (fun r18 h18 => ?_))
    subst h18
    refine aw_laldr dX11_speed_21 (hc44 hnx) (by omega) (by decide) (hL 0) (fun q21 => ?_)
    refine aw_svl (a := A 9 l) ((hA.l9 (by omega)).symm) ?_
    have li := hI.li (l := l) (by omega)
    have am := hI.am (l := l) (by omega)
    have sp := ok_ne_nan (hI.spDn (l := l) (by omega))
    refine aw_nmL (fun x2_22 hx2_22 => ?_)
    refine aw_lstore_n (ls' := [some (rf Γ 43), some _, some _, none]) dX11_speed_22 (by decide) rfl ?_
    subst hx2_22
    refine aw_lload_n dX11_speed_23 rfl ?_
    refine aw_lconst0 dX11_speed_24 ?_
    refine aw_lif_ne (tgt := 35) dX11_speed_25 dX11_speed_26 rfl (by omega) (fun c25 => ?_) (fun c25 => ?_)
    · skip
      refine aw_aload_n dX11_speed_35 rfl ?_
      refine aw_getf fg_X11_9 dX11_speed_36 (hc43 hnx) rfl ?_
      refine aw_iload_n dX11_speed_39 rfl ?_
      refine aw_bipush dX11_speed_40 rfl ?_
      refine aw_callS (As := [_, _]) (ρ := (_, 0, 0)) (kn' := (0, 0)) cs_X11_48 dX11_speed_42 rfl rfl (Nat.le_of_ble_eq_true rfl) (rmR _ _ _) ⟨Nat.le_refl _, Nat.le_refl _⟩ rfl (c_X11_licenceAt hnx  (fun r42 h42 => ?_))
      subst h42
      refine aw_laldr dX11_speed_45 (hc44 hnx) (by omega) (by decide) (hL 0) (fun q45 => ?_)
      refine aw_svl (a := A 13 l) ((hA.l13 (by omega)).symm) ?_
      refine aw_l2d dX11_speed_46 ?_
      refine aw_sd (a := FP.i2d (I (A 13 l))) (l2d_i (by omega)).symm ?_
      refine aw_lload_n dX11_speed_47 rfl ?_
      refine aw_l2d dX11_speed_48 ?_
      refine aw_sd (a := FP.i2d (I (A 9 l))) (l2d_i (by omega)).symm ?_
      have dn : Dn 990 1057 (FP.ddiv (FP.i2d (I (A 13 l))) (FP.i2d (I (A 9 l)))) := (Dn_i2d (v := A 13 l) (by omega) (by omega)).div (i2d_pos (by omega) (by omega)) (by omega) (by omega) (by omega)
      refine aw_ddiv dX11_speed_49 (dn.n64 (by omega)) ?_
      first | refine aw_sd (a := spD A l) (by rw [spD, if_pos (by omega)]) ?_ | refine aw_sd (a := spD A l) (by rw [spD, if_neg (by omega)]) ?_
      refine aw_callS (As := [_]) (ρ := (_, 0, 0)) (kn' := (0, 0)) cs_X11_276 dX11_speed_50 rfl rfl (Nat.le_of_ble_eq_true rfl) (rmR _ _ _) ⟨Nat.le_refl _, Nat.le_refl _⟩ rfl (c_dtl hnx sp ?_)
      exact aw_lreturn dX11_speed_53 rfl ⟨Nat.le_refl _, Nat.le_refl _⟩ (hQ _ (by unfold aSpeed; rw [if_pos (by simp only [isL]; omega)]))
    · skip
      refine aw_ldc2d dX11_speed_29 qk_X11_307 ?_
      refine aw_goto (tgt := 50) dX11_speed_32 rfl ?_
      first | refine aw_sd (a := spD A l) (by rw [spD, if_pos (by omega)]) ?_ | refine aw_sd (a := spD A l) (by rw [spD, if_neg (by omega)]) ?_
      refine aw_callS (As := [_]) (ρ := (_, 0, 0)) (kn' := (0, 0)) cs_X11_276 dX11_speed_50 rfl rfl (Nat.le_of_ble_eq_true rfl) (rmR _ _ _) ⟨Nat.le_refl _, Nat.le_refl _⟩ rfl (c_dtl hnx sp ?_)
      exact aw_lreturn dX11_speed_53 rfl ⟨Nat.le_refl _, Nat.le_refl _⟩ (hQ _ (by unfold aSpeed; rw [if_pos (by simp only [isL]; omega)]))
  · skip
    refine aw_if_ne (tgt := 12) dX11_speed_5 rfl (by decide) (fun c => absurd c (by decide)) (fun _ => ?_)
    refine aw_ldc2 dX11_speed_8 qk_X11_268 ?_
    refine aw_st (st' := vl (-1) :: _) rfl ?_
    exact aw_lreturn dX11_speed_11 rfl ⟨Nat.le_refl _, Nat.le_refl _⟩ (hQ _ (by unfold aSpeed; rw [if_neg (by simp only [isL]; omega)]))

set_option maxHeartbeats 1000000 in
theorem c_X11_focus {Γ : GT} {S T U V A : St} {G : Gw} {nx d : Nat} {Q : QT} (hnx : 52 ≤ nx) {a : Int} {c : Int} (hI : Inv c A) (hA : Ag A (V 0)) (hL : RgL V) (ha : inI a) (hQ : ∀ r : Int64, r = aFocus A a → Q (some (.long r)) (hp Γ S T U V G) nx) : AM Γ MX11_focus (d + 2, 0, 0) [rf Γ 43, vi a] (hp Γ S T U V G) nx Q := by
  refine am_of (by decide) (Nat.le_of_ble_eq_true rfl) (ls := [some (rf Γ 43), some _, none, none, none, none, none]) rfl ?_
  have hR := hI.R
  have i1 := hI.i1
  have hz : 0 ≤ A 28 0 ∧ A 28 0 ≤ 60 := i1.2.2.1
  have hkS : nS A = (A 28 0).toNat := rfl
  have hkI : nIm A = (A 27 0).toNat := rfl
  have hkO : nOr A = (A 26 0).toNat := rfl
  refine aw_aload_n dX11_focus_0 rfl ?_
  refine aw_iload_n dX11_focus_1 rfl ?_
  refine aw_callV (As := [_]) (ρ := (_, 0, 0)) (kn' := (0, 0)) cv_X11_59 dX11_focus_2 rfl rfl (hc43 hnx) rfl rfl (Nat.le_of_ble_eq_true rfl) (rmR _ _ _) ⟨Nat.le_refl _, Nat.le_refl _⟩ rfl (c_X11_isOrigin hnx hI hA hL (by omega) (fun r2 h2 => ?_))
  rcases h2 with ⟨rfl, h2⟩ | ⟨rfl, h2⟩
  · skip
    refine aw_if_ne (tgt := 12) dX11_focus_5 rfl (by decide) (fun _ => ?_) (fun c => absurd c (by decide))
    refine aw_dconst0 dX11_focus_12 ?_
    refine aw_nmD (fun x2_13 hx2_13 => ?_)
    refine aw_dstore_n (ls' := [some (rf Γ 43), some _, some _, none, none, none, none]) dX11_focus_13 (by decide) rfl ?_
    subst hx2_13
    have fg := hI.fg (o := a) (by omega)
    refine aw_iconst dX11_focus_14 ?_
    refine aw_istore (ls' := [some (rf Γ 43), some _, some _, none, some _, none, none]) dX11_focus_15 (by decide) rfl ?_
    refine loopN (nIm A) (P := fun k => ∀ (s : UInt64) , s = fcD A a k → k = 0 ∨ 0 < A 14 (a * 8 + 4) →  AW Γ MX11_focus _ _ (0, 0) 17 [some (rf Γ 43), some (vi a), some (Value.double s), none, some (vi (k : Int)), none, none] [] (hp Γ S T U V G) nx) (fun k hk ih => ?_) 0 (Nat.zero_le _) _ rfl (Or.inl rfl)
    intro s i17_0 i17_1
    refine aw_iload dX11_focus_17 rfl ?_
    refine aw_aload_n dX11_focus_19 rfl ?_
    refine aw_bipush dX11_focus_20 rfl ?_
    refine aw_callV (As := [_]) (ρ := (_, 0, 0)) (kn' := (0, 0)) cv_X11_164 dX11_focus_22 rfl rfl (hc43 hnx) rfl rfl (Nat.le_of_ble_eq_true rfl) (rmR _ _ _) ⟨Nat.le_refl _, Nat.le_refl _⟩ rfl (c_X11_many_7 hnx hI hA hL  (fun r22 h22 => ?_))
    subst h22
    refine aw_icmp_ge (tgt := 71) dX11_focus_25 rfl (by omega) (fun c25 => ?_) (fun c25 => ?_)
    · skip
      have ea : aFocus A a = s.toInt64 := by
        unfold aFocus; rw [if_pos (by simp only [isO]; omega), i17_0]
        split
        · rw [show k = nIm A by omega]
        · rw [show k = 0 by omega]; rfl
      have nn : FP.Core.val64 s ≠ .nan := by
        rw [i17_0]
        by_cases hp2 : 0 < A 14 (a * 8 + 4)
        · exact (hI.fcDn (o := a) (by omega) hp2 k (by omega)).nn (by omega)
        · rw [show k = 0 by omega]; show FP.Core.val64 FP.dconst0 ≠ _; decide +kernel
      refine aw_dload_n dX11_focus_71 rfl ?_
      refine aw_callS (As := [_]) (ρ := (_, 0, 0)) (kn' := (0, 0)) cs_X11_276 dX11_focus_72 rfl rfl (Nat.le_of_ble_eq_true rfl) (rmR _ _ _) ⟨Nat.le_refl _, Nat.le_refl _⟩ rfl (c_dtl hnx nn ?_)
      exact aw_lreturn dX11_focus_75 rfl ⟨Nat.le_refl _, Nat.le_refl _⟩ (hQ _ (ea.symm))
    · skip
      refine aw_aload_n dX11_focus_28 rfl ?_
      refine aw_iload_n dX11_focus_29 rfl ?_
      refine aw_iconst dX11_focus_30 ?_
      refine aw_callV (As := [_, _]) (ρ := (_, 0, 0)) (kn' := (0, 0)) cv_X11_226 dX11_focus_31 rfl rfl (hc43 hnx) rfl rfl (Nat.le_of_ble_eq_true rfl) (rmR _ _ _) ⟨Nat.le_refl _, Nat.le_refl _⟩ rfl (c_X11_ofOrigin_4 hnx hI hA hL (by omega) (fun r31 h31 => ?_))
      refine aw_if_le (tgt := 71) dX11_focus_34 rfl (by omega) (fun c34 => ?_) (fun c34 => ?_)
      · skip
        have ea : aFocus A a = s.toInt64 := by
          unfold aFocus; rw [if_pos (by simp only [isO]; omega), i17_0]
          split
          · rw [show k = nIm A by omega]
          · rw [show k = 0 by omega]; rfl
        have nn : FP.Core.val64 s ≠ .nan := by
          rw [i17_0]
          by_cases hp2 : 0 < A 14 (a * 8 + 4)
          · exact (hI.fcDn (o := a) (by omega) hp2 k (by omega)).nn (by omega)
          · rw [show k = 0 by omega]; show FP.Core.val64 FP.dconst0 ≠ _; decide +kernel
        refine aw_dload_n dX11_focus_71 rfl ?_
        refine aw_callS (As := [_]) (ρ := (_, 0, 0)) (kn' := (0, 0)) cs_X11_276 dX11_focus_72 rfl rfl (Nat.le_of_ble_eq_true rfl) (rmR _ _ _) ⟨Nat.le_refl _, Nat.le_refl _⟩ rfl (c_dtl hnx nn ?_)
        exact aw_lreturn dX11_focus_75 rfl ⟨Nat.le_refl _, Nat.le_refl _⟩ (hQ _ (ea.symm))
      · skip
        have gp : 0 < A 14 (a * 8 + 4) := by omega
        have pr := hI.pr (i := (k : Int)) (o := a) (by omega) (by omega)
        have dp := hI.fcPn (o := a) (by omega) (i := (k : Int)) (by omega) gp
        have ds := hI.fcDn (o := a) (by omega) gp k (by omega)
        have dm : Dn 957 (1092 + 2 * k) (FP.dmul (fcP A a k) (fcP A a k)) := dp.mul dp (by omega) (by omega) (by omega)
        have da := ds.add dm (hi := 1092 + 2 * (k + 1)) (by omega)
        refine aw_aload_n dX11_focus_37 rfl ?_
        refine aw_iload dX11_focus_38 rfl ?_
        refine aw_iload_n dX11_focus_40 rfl ?_
        refine aw_bipush dX11_focus_41 rfl ?_
        refine aw_callV (As := [_, _, _]) (ρ := (_, 0, 0)) (kn' := (0, 0)) cv_X11_167 dX11_focus_43 rfl rfl (hc43 hnx) rfl rfl (Nat.le_of_ble_eq_true rfl) (rmR _ _ _) ⟨Nat.le_refl _, Nat.le_refl _⟩ rfl (c_X11_ofPair_7 hnx hI hA hL (by omega) (by omega) (fun r43 h43 => ?_))
        refine aw_i2d dX11_focus_46 ?_
        refine aw_aload_n dX11_focus_47 rfl ?_
        refine aw_iload_n dX11_focus_48 rfl ?_
        refine aw_iconst dX11_focus_49 ?_
        refine aw_callV (As := [_, _]) (ρ := (_, 0, 0)) (kn' := (0, 0)) cv_X11_226 dX11_focus_50 rfl rfl (hc43 hnx) rfl rfl (Nat.le_of_ble_eq_true rfl) (rmR _ _ _) ⟨Nat.le_refl _, Nat.le_refl _⟩ rfl (c_X11_ofOrigin_4 hnx hI hA hL (by omega) (fun r50 h50 => ?_))
        refine aw_i2d dX11_focus_53 ?_
        refine aw_ddiv dX11_focus_54 (by rw [h43, h50]; exact dp.n64 (by omega)) ?_
        refine aw_nmD (fun x5_55 hx5_55 => ?_)
        refine aw_dstore (ls' := [some (rf Γ 43), some _, some _, none, some _, some _, none]) dX11_focus_55 (by decide) rfl ?_
        refine aw_dload_n dX11_focus_57 rfl ?_
        refine aw_dload dX11_focus_58 rfl ?_
        refine aw_dload dX11_focus_60 rfl ?_
        refine aw_dmul dX11_focus_62 (by rw [hx5_55, h43, h50]; exact dm.n64 (by omega)) ?_
        refine aw_dadd dX11_focus_63 (by rw [hx5_55, h43, h50, i17_0]; exact da.n64 (by omega)) ?_
        refine aw_nmD (fun x2_64 hx2_64 => ?_)
        refine aw_dstore_n (ls' := [some (rf Γ 43), some _, some _, none, some _, some _, none]) dX11_focus_64 (by decide) rfl ?_
        refine aw_iinc (ls' := [some (rf Γ 43), some _, some _, none, some _, some _, none]) dX11_focus_65 rfl (by decide) rfl ?_
        refine aw_goto (tgt := 17) dX11_focus_68 rfl ?_
        refine aw_fg [true, true, true, true, true, false, true] (ls' := [some (rf Γ 43), some _, some _, none, some _, none, none]) rfl ?_
        exact ih (by omega) x2_64  (by rw [hx2_64, hx5_55, i17_0, h43, h50]; rfl) (Or.inr (by omega))
  · skip
    refine aw_if_ne (tgt := 12) dX11_focus_5 rfl (by decide) (fun c => absurd c (by decide)) (fun _ => ?_)
    refine aw_ldc2 dX11_focus_8 qk_X11_268 ?_
    refine aw_st (st' := vl (-1) :: _) rfl ?_
    exact aw_lreturn dX11_focus_11 rfl ⟨Nat.le_refl _, Nat.le_refl _⟩ (hQ _ (by unfold aFocus; rw [if_neg (by simp only [isO]; omega)]))

set_option maxHeartbeats 1000000 in
theorem c_X11_likely {Γ : GT} {S T U V A : St} {G : Gw} {nx d : Nat} {Q : QT} (hnx : 52 ≤ nx) {a : Int} {c : Int} (hI : Inv c A) (hA : Ag A (V 0)) (hL : RgL V) (ha : inI a) (hQ : ∀ r : Int64, r = aLikely A a → Q (some (.long r)) (hp Γ S T U V G) nx) : AM Γ MX11_likely (d + 4, 0, 0) [rf Γ 43, vi a] (hp Γ S T U V G) nx Q := by
  refine am_of (by decide) (Nat.le_of_ble_eq_true rfl) (ls := [some (rf Γ 43), some _, none, none, none, none, none]) rfl ?_
  have hR := hI.R
  have i1 := hI.i1
  have hz : 0 ≤ A 28 0 ∧ A 28 0 ≤ 60 := i1.2.2.1
  have hkS : nS A = (A 28 0).toNat := rfl
  have hkI : nIm A = (A 27 0).toNat := rfl
  have hkO : nOr A = (A 26 0).toNat := rfl
  refine aw_aload_n dX11_likely_0 rfl ?_
  refine aw_iload_n dX11_likely_1 rfl ?_
  refine aw_callV (As := [_]) (ρ := (_, 0, 0)) (kn' := (0, 0)) cv_X11_59 dX11_likely_2 rfl rfl (hc43 hnx) rfl rfl (Nat.le_of_ble_eq_true rfl) (rmR _ _ _) ⟨Nat.le_refl _, Nat.le_refl _⟩ rfl (c_X11_isOrigin hnx hI hA hL (by omega) (fun r2 h2 => ?_))
  rcases h2 with ⟨rfl, h2⟩ | ⟨rfl, h2⟩
  · skip
    refine aw_if_ne (tgt := 12) dX11_likely_5 rfl (by decide) (fun _ => ?_) (fun c => absurd c (by decide))
    refine aw_dconst0 dX11_likely_12 ?_
    refine aw_nmD (fun x2_13 hx2_13 => ?_)
    refine aw_dstore_n (ls' := [some (rf Γ 43), some _, some _, none, none, none, none]) dX11_likely_13 (by decide) rfl ?_
    subst hx2_13
    refine aw_iconst dX11_likely_14 ?_
    refine aw_istore (ls' := [some (rf Γ 43), some _, some _, none, some _, none, none]) dX11_likely_15 (by decide) rfl ?_
    refine loopN (nS A) (P := fun k => ∀ (s : UInt64) , s = lkD A a k →  AW Γ MX11_likely _ _ (0, 0) 17 [some (rf Γ 43), some (vi a), some (Value.double s), none, some (vi (k : Int)), none, none] [] (hp Γ S T U V G) nx) (fun k hk ih => ?_) 0 (Nat.zero_le _) _ rfl
    intro s i17_0
    refine aw_iload dX11_likely_17 rfl ?_
    refine aw_aload_n dX11_likely_19 rfl ?_
    refine aw_bipush dX11_likely_20 rfl ?_
    refine aw_callV (As := [_]) (ρ := (_, 0, 0)) (kn' := (0, 0)) cv_X11_164 dX11_likely_22 rfl rfl (hc43 hnx) rfl rfl (Nat.le_of_ble_eq_true rfl) (rmR _ _ _) ⟨Nat.le_refl _, Nat.le_refl _⟩ rfl (c_X11_many_8 hnx hI hA hL  (fun r22 h22 => ?_))
    subst h22
    refine aw_icmp_ge (tgt := 94) dX11_likely_25 rfl (by omega) (fun c25 => ?_) (fun c25 => ?_)
    · skip
      obtain rfl : k = nS A := by omega
      have nn : FP.Core.val64 s ≠ .nan := by rw [i17_0]; exact (hI.lkDn a (nS A) (Nat.le_refl _)).nn (by omega)
      refine aw_dload_n dX11_likely_94 rfl ?_
      refine aw_callS (As := [_]) (ρ := (_, 0, 0)) (kn' := (0, 0)) cs_X11_276 dX11_likely_95 rfl rfl (Nat.le_of_ble_eq_true rfl) (rmR _ _ _) ⟨Nat.le_refl _, Nat.le_refl _⟩ rfl (c_dtl hnx nn ?_)
      exact aw_lreturn dX11_likely_98 rfl ⟨Nat.le_refl _, Nat.le_refl _⟩ (hQ _ (by unfold aLikely; rw [if_pos (by simp only [isO]; omega), i17_0]))
    · skip
      refine aw_aload_n dX11_likely_28 rfl ?_
      refine aw_iload dX11_likely_29 rfl ?_
      refine aw_callV (As := [_]) (ρ := (_, 0, 0)) (kn' := (0, 0)) cv_X11_199 dX11_likely_31 rfl rfl (hc43 hnx) rfl rfl (Nat.le_of_ble_eq_true rfl) (rmR _ _ _) ⟨Nat.le_refl _, Nat.le_refl _⟩ rfl (c_X11_isOpen hnx hI hA hL (by omega) (fun r31 h31 => ?_))
      rcases h31 with ⟨rfl, h31⟩ | ⟨rfl, h31⟩
      · skip
        refine aw_if_eq (tgt := 88) dX11_likely_34 rfl (by decide) (fun c => absurd c (by decide)) (fun _ => ?_)
        refine aw_aload_n dX11_likely_37 rfl ?_
        refine aw_iload dX11_likely_38 rfl ?_
        refine aw_iconst dX11_likely_40 ?_
        refine aw_callV (As := [_, _]) (ρ := (_, 0, 0)) (kn' := (0, 0)) cv_X11_196 dX11_likely_41 rfl rfl (hc43 hnx) rfl rfl (Nat.le_of_ble_eq_true rfl) (rmR _ _ _) ⟨Nat.le_refl _, Nat.le_refl _⟩ rfl (c_X11_ofLicence_1 hnx hI hA hL (by omega) (fun r41 h41 => ?_))
        have r5 := hR 5 (by decide) (k : Int)
        refine aw_iload_n dX11_likely_44 rfl ?_
        refine aw_icmp_eq (tgt := 51) dX11_likely_45 rfl (by omega) (fun c45 => ?_) (fun c45 => ?_)
        · skip
          have li := hI.li (l := (k : Int)) (by omega)
          have lt := hI.lkTn (l := (k : Int)) (by omega)
          have ld := hI.lkDn a k (by omega)
          have la := ld.add (lt.mono (Nat.le_refl _) (show 1091 ≤ 1091 + 2 * k by omega)) (hi := 1091 + 2 * (k + 1)) (by omega)
          have rn := rneg_iff A (A 4 k) (nS A)
          refine aw_aload_n dX11_likely_51 rfl ?_
          refine aw_aload_n dX11_likely_52 rfl ?_
          refine aw_iload dX11_likely_53 rfl ?_
          refine aw_iconst dX11_likely_55 ?_
          refine aw_callV (As := [_, _]) (ρ := (_, 0, 0)) (kn' := (0, 0)) cv_X11_196 dX11_likely_56 rfl rfl (hc43 hnx) rfl rfl (Nat.le_of_ble_eq_true rfl) (rmR _ _ _) ⟨Nat.le_refl _, Nat.le_refl _⟩ rfl (c_X11_ofLicence_0 hnx hI hA hL (by omega) (fun r56 h56 => ?_))
          subst h56
          refine aw_callV (As := [_]) (ρ := (_, 0, 0)) (kn' := (0, 0)) cv_X11_309 dX11_likely_59 rfl rfl (hc43 hnx) rfl rfl (Nat.le_of_ble_eq_true rfl) (rmR _ _ _) ⟨Nat.le_refl _, Nat.le_refl _⟩ rfl (c_X11_rateOf hnx hI hA hL (by omega) ?_)
          refine aw_nmD (fun x5_62 hx5_62 => ?_)
          refine aw_dstore (ls' := [some (rf Γ 43), some _, some _, none, some _, some _, none]) dX11_likely_62 (by decide) rfl ?_
          refine aw_dload_n dX11_likely_64 rfl ?_
          refine aw_aload_n dX11_likely_65 rfl ?_
          refine aw_iload dX11_likely_66 rfl ?_
          refine aw_callV (As := [_]) (ρ := (_, 0, 0)) (kn' := (0, 0)) cv_X11_214 dX11_likely_68 rfl rfl (hc43 hnx) rfl rfl (Nat.le_of_ble_eq_true rfl) (rmR _ _ _) ⟨Nat.le_refl _, Nat.le_refl _⟩ rfl (c_X11_leftOf hnx hI hA hL (by omega) (fun r68 h68 => ?_))
          refine aw_i2d dX11_likely_71 ?_
          refine aw_dload dX11_likely_72 rfl ?_
          refine aw_dconst0 dX11_likely_74 ?_
          refine aw_dcmp dX11_likely_75 ?_
          refine aw_si (a := I (rneg A (A 4 k) (nS A))) (by rw [hx5_62]; exact (hI.cmpRate (A 4 k)).symm) ?_
          refine aw_if_ge (tgt := 83) dX11_likely_76 rfl (by omega) (fun c76 => ?_) (fun c76 => ?_)
          · skip
            refine aw_dload dX11_likely_83 rfl ?_
            first | refine aw_sd (a := rateP A (A 4 k) (nS A)) (by rw [rateP, if_neg (by omega)]) ?_ | refine aw_sd (a := rateP A (A 4 k) (nS A)) (by rw [rateP, if_pos (by omega), hx5_62]) ?_
            refine aw_dmul dX11_likely_85 (by rw [h68]; exact lt.n64 (by omega)) ?_
            refine aw_sd (a := lkT A k) (by rw [h68]; rfl) ?_
            refine aw_dadd dX11_likely_86 (by rw [i17_0]; exact la.n64 (by omega)) ?_
            refine aw_nmD (fun x2_87 hx2_87 => ?_)
            refine aw_dstore_n (ls' := [some (rf Γ 43), some _, some _, none, some _, some _, none]) dX11_likely_87 (by decide) rfl ?_
            first | have e87 : x2_87 = FP.dadd (lkD A a k) (lkT A k) := by rw [hx2_87, i17_0] | skip
            refine aw_iinc (ls' := [some (rf Γ 43), some _, some _, none, some _, some _, none]) dX11_likely_88 rfl (by decide) rfl ?_
            refine aw_goto (tgt := 17) dX11_likely_91 rfl ?_
            refine aw_fg [true, true, true, true, true, false, true] (ls' := [some (rf Γ 43), some _, some _, none, some _, none, none]) rfl ?_
            exact ih (by omega) x2_87  (by rw [lkD]; first | (rw [if_neg (by omega)]; exact i17_0) | (rw [if_pos (by omega)]; exact e87))
          · skip
            refine aw_dconst1 dX11_likely_79 ?_
            refine aw_goto (tgt := 85) dX11_likely_80 rfl ?_
            first | refine aw_sd (a := rateP A (A 4 k) (nS A)) (by rw [rateP, if_neg (by omega)]) ?_ | refine aw_sd (a := rateP A (A 4 k) (nS A)) (by rw [rateP, if_pos (by omega), hx5_62]) ?_
            refine aw_dmul dX11_likely_85 (by rw [h68]; exact lt.n64 (by omega)) ?_
            refine aw_sd (a := lkT A k) (by rw [h68]; rfl) ?_
            refine aw_dadd dX11_likely_86 (by rw [i17_0]; exact la.n64 (by omega)) ?_
            refine aw_nmD (fun x2_87 hx2_87 => ?_)
            refine aw_dstore_n (ls' := [some (rf Γ 43), some _, some _, none, some _, some _, none]) dX11_likely_87 (by decide) rfl ?_
            first | have e87 : x2_87 = FP.dadd (lkD A a k) (lkT A k) := by rw [hx2_87, i17_0] | skip
            refine aw_iinc (ls' := [some (rf Γ 43), some _, some _, none, some _, some _, none]) dX11_likely_88 rfl (by decide) rfl ?_
            refine aw_goto (tgt := 17) dX11_likely_91 rfl ?_
            refine aw_fg [true, true, true, true, true, false, true] (ls' := [some (rf Γ 43), some _, some _, none, some _, none, none]) rfl ?_
            exact ih (by omega) x2_87  (by rw [lkD]; first | (rw [if_neg (by omega)]; exact i17_0) | (rw [if_pos (by omega)]; exact e87))
        · skip
          refine aw_goto (tgt := 88) dX11_likely_48 rfl ?_
          first | have e87 : x2_87 = FP.dadd (lkD A a k) (lkT A k) := by rw [hx2_87, i17_0] | skip
          refine aw_iinc (ls' := [some (rf Γ 43), some _, some _, none, some _, none, none]) dX11_likely_88 rfl (by decide) rfl ?_
          refine aw_goto (tgt := 17) dX11_likely_91 rfl ?_
          exact ih (by omega) s  (by rw [lkD]; first | (rw [if_neg (by omega)]; exact i17_0) | (rw [if_pos (by omega)]; exact e87))
      · skip
        refine aw_if_eq (tgt := 88) dX11_likely_34 rfl (by decide) (fun _ => ?_) (fun c => absurd c (by decide))
        first | have e87 : x2_87 = FP.dadd (lkD A a k) (lkT A k) := by rw [hx2_87, i17_0] | skip
        refine aw_iinc (ls' := [some (rf Γ 43), some _, some _, none, some _, none, none]) dX11_likely_88 rfl (by decide) rfl ?_
        refine aw_goto (tgt := 17) dX11_likely_91 rfl ?_
        exact ih (by omega) s  (by rw [lkD]; first | (rw [if_neg (by omega)]; exact i17_0) | (rw [if_pos (by omega)]; exact e87))
  · skip
    refine aw_if_ne (tgt := 12) dX11_likely_5 rfl (by decide) (fun c => absurd c (by decide)) (fun _ => ?_)
    refine aw_ldc2 dX11_likely_8 qk_X11_268 ?_
    refine aw_st (st' := vl (-1) :: _) rfl ?_
    exact aw_lreturn dX11_likely_11 rfl ⟨Nat.le_refl _, Nat.le_refl _⟩ (hQ _ (by unfold aLikely; rw [if_neg (by simp only [isO]; omega)]))

set_option maxHeartbeats 1000000 in
theorem c_X11_pace {Γ : GT} {S T U V A : St} {G : Gw} {nx d : Nat} {Q : QT} (hnx : 52 ≤ nx) {i : Int} {c : Int} (hI : Inv c A) (hA : Ag A (V 0)) (hL : RgL V) (hi : inI i) (hQ : ∀ r : Int32, r = aPace A i → Q (some (.int r)) (hp Γ S T U V G) nx) : AM Γ MX11_pace (d + 2, 0, 0) [rf Γ 43, vi i] (hp Γ S T U V G) nx Q := by
  refine am_of (by decide) (Nat.le_of_ble_eq_true rfl) (ls := [some (rf Γ 43), some _]) rfl ?_
  have hR := hI.R
  have i1 := hI.i1
  have hz : 0 ≤ A 28 0 ∧ A 28 0 ≤ 60 := i1.2.2.1
  have hkS : nS A = (A 28 0).toNat := rfl
  have hkI : nIm A = (A 27 0).toNat := rfl
  have hkO : nOr A = (A 26 0).toNat := rfl
  refine aw_aload_n dX11_pace_0 rfl ?_
  refine aw_iload_n dX11_pace_1 rfl ?_
  refine aw_callV (As := [_]) (ρ := (_, 0, 0)) (kn' := (0, 0)) cv_X11_55 dX11_pace_2 rfl rfl (hc43 hnx) rfl rfl (Nat.le_of_ble_eq_true rfl) (rmR _ _ _) ⟨Nat.le_refl _, Nat.le_refl _⟩ rfl (c_X11_isImporter hnx hI hA hL (by omega) (fun r2 h2 => ?_))
  rcases h2 with ⟨rfl, h2⟩ | ⟨rfl, h2⟩
  · skip
    refine aw_if_eq (tgt := 35) dX11_pace_5 rfl (by decide) (fun c => absurd c (by decide)) (fun _ => ?_)
    refine aw_aload_n dX11_pace_8 rfl ?_
    refine aw_iload_n dX11_pace_9 rfl ?_
    refine aw_callV (As := [_]) (ρ := (_, 0, 0)) (kn' := (0, 0)) cv_X11_318 dX11_pace_10 rfl rfl (hc43 hnx) rfl rfl (Nat.le_of_ble_eq_true rfl) (rmR _ _ _) ⟨Nat.le_refl _, Nat.le_refl _⟩ rfl (c_X11_yearOf hnx hI hA hL (by omega) (fun r10 h10 => ?_))
    subst h10
    have im := hI.imI (i := i) (by omega) 12 (by omega)
    have nn := paF_nn (v := imI A i 12) (t := A 25 0 % 360 + 1) (by omega) (by omega)
    have pk := paF_ok (v := imI A i 12) (t := A 25 0 % 360 + 1) (by omega) (by omega)
    refine aw_l2f dX11_pace_13 ?_
    refine aw_sf (a := FP.i2f (I (imI A i 12))) (l2f_i (by omega)).symm ?_
    refine aw_aload_n dX11_pace_14 rfl ?_
    refine aw_getf fg_X11_9 dX11_pace_15 (hc43 hnx) rfl ?_
    refine aw_bipush dX11_pace_18 rfl ?_
    refine aw_laldr dX11_pace_20 (hc44 hnx) (by omega) (by decide) (hL 0) (fun q20 => ?_)
    refine aw_svl (a := A 25 0) (hA.c9.symm) ?_
    refine aw_ldc2 dX11_pace_21 qk_X11_180 ?_
    refine aw_st (st' := vl 360 :: _) rfl ?_
    refine aw_lrem dX11_pace_24 (by omega) (by omega) ?_
    refine aw_lconst1 dX11_pace_25 ?_
    refine aw_ladd dX11_pace_26 ?_
    refine aw_l2f dX11_pace_27 ?_
    refine aw_sf (a := FP.i2f (I (A 25 0 % 360 + 1))) (l2f_i (by omega)).symm ?_
    refine aw_fdiv dX11_pace_28 (n32_of (show (paF (imI A i 12) (A 25 0 % 360 + 1)).toNat < _ by rcases pk with pk | pk <;> first | (rw [pk]; decide) | exact pk.2)) ?_
    refine aw_sf (a := paF (imI A i 12) (A 25 0 % 360 + 1)) rfl ?_
    refine aw_callS (As := [_]) (ρ := (_, 0, 0)) (kn' := (0, 0)) cs_X11_330 dX11_pace_29 rfl rfl (Nat.le_of_ble_eq_true rfl) (rmR _ _ _) ⟨Nat.le_refl _, Nat.le_refl _⟩ rfl (c_fti hnx nn ?_)
    refine aw_goto (tgt := 36) dX11_pace_32 rfl ?_
    first | (have w0 : 0 ≤ i ∧ i < A 27 0 := (by omega); refine aw_si (a := I (paF (imI A i 12) (A 25 0 % 360 + 1)).toInt32.toInt) (by rw [I_of]) ?_) | skip
    exact aw_ireturn dX11_pace_36 rfl rfl ⟨Nat.le_refl _, Nat.le_refl _⟩ (hQ _ (by unfold aPace; first | (rw [if_pos (by simp only [isI]; omega), I_of]) | (rw [if_neg (by simp only [isI]; omega)])))
  · skip
    refine aw_if_eq (tgt := 35) dX11_pace_5 rfl (by decide) (fun _ => ?_) (fun c => absurd c (by decide))
    refine aw_iconst dX11_pace_35 ?_
    first | (have w0 : 0 ≤ i ∧ i < A 27 0 := (by omega); refine aw_si (a := I (paF (imI A i 12) (A 25 0 % 360 + 1)).toInt32.toInt) (by rw [I_of]) ?_) | skip
    exact aw_ireturn dX11_pace_36 rfl rfl ⟨Nat.le_refl _, Nat.le_refl _⟩ (hQ _ (by unfold aPace; first | (rw [if_pos (by simp only [isI]; omega), I_of]) | (rw [if_neg (by simp only [isI]; omega)])))


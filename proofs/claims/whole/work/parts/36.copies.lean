/-! a State copied whole -/
def cpSt (A B : St) : St := u0 (sset (sset (cpYr A (cpPd A (cpBk A (cpSch A B)))) 23 (cp0 (A 23) (B 23) ((8 : Nat) : Int))) 24 (cp0 (A 24) (B 24) ((5 : Nat) : Int))) 25 (A 25 0)
theorem Rg.s23 {S : St} (hR : Rg S) (a : Int → Int) : Rg (Jvm.Pilot.@@N@@.sset S 23 a) := by
  intro f hf i
  unfold Jvm.Pilot.@@N@@.sset
  rw [if_neg hf]
  exact hR f hf i
theorem Rg.cpSt {A B : St} (hA : Rg A) (hB : Rg B) : Rg (Jvm.Pilot.@@N@@.cpSt A B) :=
  Rg.u0 (Rg.sset (Rg.s23 (hA.cpYr (hA.cpPd (hA.cpBk (hA.cpSch hB)))) _) (f := 24) (cp_in (hA 24 (by decide)) (hB 24 (by decide)) _)) (hA 25 (by decide) 0)
def lnF (A : St) (f : Nat) : Int := if f = 0 then 6 else if f = 1 then 4 else if f = 2 then 96 else if 4 ≤ f ∧ f ≤ 13 then A 28 0 else if 14 ≤ f ∧ f ≤ 18 then 32 else if f = 19 then 160 else if f = 20 then 32 else if f = 21 then 96 else if f = 22 then 48 else if f = 23 then 8 else if f = 24 then 5 else 1
/-- the places that are in use -/
def okF (A : St) (f : Nat) (j : Int) : Prop := f < 30 ∧ f ≠ 3 ∧ 0 ≤ j ∧ j < lnF A f
theorem cp_at (A B : St) (f : Nat) (j : Int) (h : okF A f j) : cpSt A B f j = A f j := by
  obtain ⟨h1, h2, h3, h4⟩ := h
  have c : f = 0 ∨ f = 1 ∨ f = 2 ∨ f = 4 ∨ f = 5 ∨ f = 6 ∨ f = 7 ∨ f = 8 ∨ f = 9 ∨ f = 10 ∨ f = 11 ∨ f = 12 ∨ f = 13 ∨ f = 14 ∨ f = 15 ∨ f = 16 ∨ f = 17 ∨ f = 18 ∨ f = 19 ∨ f = 20 ∨ f = 21 ∨ f = 22 ∨ f = 23 ∨ f = 24 ∨ f = 25 ∨ f = 26 ∨ f = 27 ∨ f = 28 ∨ f = 29 := by omega
  rcases c with rfl | rfl | rfl | rfl | rfl | rfl | rfl | rfl | rfl | rfl | rfl | rfl | rfl | rfl | rfl | rfl | rfl | rfl | rfl | rfl | rfl | rfl | rfl | rfl | rfl | rfl | rfl | rfl | rfl
  · have h5 : j < 6 := h4
    show (if j < ((6 : Nat) : Int) then A 0 j else B 0 j) = _
    rw [if_pos (by omega)]
  · have h5 : j < 4 := h4
    show (if j < ((4 : Nat) : Int) then A 1 j else B 1 j) = _
    rw [if_pos (by omega)]
  · have h5 : j < 96 := h4
    show (if j < ((96 : Nat) : Int) then A 2 j else B 2 j) = _
    rw [if_pos (by omega)]
  · have h5 : j < A 28 0 := h4
    show (if j < A 28 0 then A 4 j else B 4 j) = _
    rw [if_pos (by omega)]
  · have h5 : j < A 28 0 := h4
    show (if j < A 28 0 then A 5 j else B 5 j) = _
    rw [if_pos (by omega)]
  · have h5 : j < A 28 0 := h4
    show (if j < A 28 0 then A 6 j else B 6 j) = _
    rw [if_pos (by omega)]
  · have h5 : j < A 28 0 := h4
    show (if j < A 28 0 then A 7 j else B 7 j) = _
    rw [if_pos (by omega)]
  · have h5 : j < A 28 0 := h4
    show (if j < A 28 0 then A 8 j else B 8 j) = _
    rw [if_pos (by omega)]
  · have h5 : j < A 28 0 := h4
    show (if j < A 28 0 then A 9 j else B 9 j) = _
    rw [if_pos (by omega)]
  · have h5 : j < A 28 0 := h4
    show (if j < A 28 0 then A 10 j else B 10 j) = _
    rw [if_pos (by omega)]
  · have h5 : j < A 28 0 := h4
    show (if j < A 28 0 then A 11 j else B 11 j) = _
    rw [if_pos (by omega)]
  · have h5 : j < A 28 0 := h4
    show (if j < A 28 0 then A 12 j else B 12 j) = _
    rw [if_pos (by omega)]
  · have h5 : j < A 28 0 := h4
    show (if j < A 28 0 then A 13 j else B 13 j) = _
    rw [if_pos (by omega)]
  · have h5 : j < 32 := h4
    show (if j < ((32 : Nat) : Int) then A 14 j else B 14 j) = _
    rw [if_pos (by omega)]
  · have h5 : j < 32 := h4
    show (if j < ((32 : Nat) : Int) then A 15 j else B 15 j) = _
    rw [if_pos (by omega)]
  · have h5 : j < 32 := h4
    show (if j < ((32 : Nat) : Int) then A 16 j else B 16 j) = _
    rw [if_pos (by omega)]
  · have h5 : j < 32 := h4
    show (if j < ((32 : Nat) : Int) then A 17 j else B 17 j) = _
    rw [if_pos (by omega)]
  · have h5 : j < 32 := h4
    show (if j < ((32 : Nat) : Int) then A 18 j else B 18 j) = _
    rw [if_pos (by omega)]
  · have h5 : j < 160 := h4
    show (if j < ((160 : Nat) : Int) then A 19 j else B 19 j) = _
    rw [if_pos (by omega)]
  · have h5 : j < 32 := h4
    show (if j < ((32 : Nat) : Int) then A 20 j else B 20 j) = _
    rw [if_pos (by omega)]
  · have h5 : j < 96 := h4
    show (if j < ((96 : Nat) : Int) then A 21 j else B 21 j) = _
    rw [if_pos (by omega)]
  · have h5 : j < 48 := h4
    show (if j < ((48 : Nat) : Int) then A 22 j else B 22 j) = _
    rw [if_pos (by omega)]
  · have h5 : j < 8 := h4
    show (if j < ((8 : Nat) : Int) then A 23 j else B 23 j) = _
    rw [if_pos (by omega)]
  · have h5 : j < 5 := h4
    show (if j < ((5 : Nat) : Int) then A 24 j else B 24 j) = _
    rw [if_pos (by omega)]
  · have h5 : j < 1 := h4
    obtain rfl : j = 0 := by omega
    rfl
  · have h5 : j < 1 := h4
    obtain rfl : j = 0 := by omega
    rfl
  · have h5 : j < 1 := h4
    obtain rfl : j = 0 := by omega
    rfl
  · have h5 : j < 1 := h4
    obtain rfl : j = 0 := by omega
    rfl
  · have h5 : j < 1 := h4
    obtain rfl : j = 0 := by omega
    rfl

set_option maxHeartbeats 1000000 in
theorem c_X7_copyFromB {Γ : GT} {S T U V X : St} {G : Gw} {j : Nat} {nx d : Nat} {Q : QT} (hnx : 52 ≤ nx) (hj : j * 29 + 81 ≤ nx) (hR : Rg S) (hX : Rg X) (hz : 0 ≤ X 28 0 ∧ X 28 0 ≤ 60) (hQ : Rg (cpSt X S) → Q none (hp Γ (cpSt X S) T U V (gset G j X)) nx) : AM Γ MX7_copyFrom (d + 2, 0, 0) [rf Γ 9, rf Γ (j * 29 + 52 + 0)] (hp Γ S T U V (gset G j X)) nx Q := by
  refine am_of (by decide) (Nat.le_of_ble_eq_true rfl) (ls := [some (rf Γ 9), some (rf Γ (j * 29 + 52 + 0))]) rfl ?_
  have hR0 := hR
  have x25 := hX 25 (by decide) 0
  refine aw_aload_n dX7_copyFrom_0 rfl ?_
  refine aw_getf fg_X7_12 dX7_copyFrom_1 (hc9 hnx) rfl ?_
  refine aw_aload_n dX7_copyFrom_4 rfl ?_
  refine aw_getf fg_X7_12 dX7_copyFrom_5 (hg0 hj) rfl ?_
  refine aw_callV (As := [_]) (ρ := (_, 0, 0)) (kn' := (0, 0)) cv_X7_47 dX7_copyFrom_8 rfl rfl (hc10 hnx) rfl rfl (Nat.le_of_ble_eq_true rfl) (rmR _ _ _) ⟨Nat.le_refl _, Nat.le_refl _⟩ rfl (c_X5_copyFromB hnx hj hR hX (fun hR => ?_))
  refine aw_aload_n dX7_copyFrom_11 rfl ?_
  refine aw_getf fg_X7_21 dX7_copyFrom_12 (hc9 hnx) rfl ?_
  refine aw_aload_n dX7_copyFrom_15 rfl ?_
  refine aw_getf fg_X7_21 dX7_copyFrom_16 (hg0 hj) rfl ?_
  refine aw_callV (As := [_]) (ρ := (_, 0, 0)) (kn' := (0, 0)) cv_X7_51 dX7_copyFrom_19 rfl rfl (hc14 hnx) rfl rfl (Nat.le_of_ble_eq_true rfl) (rmR _ _ _) ⟨Nat.le_refl _, Nat.le_refl _⟩ rfl (c_X1_copyFromB hnx hj hR hX hz (fun hR => ?_))
  refine aw_aload_n dX7_copyFrom_22 rfl ?_
  refine aw_getf fg_X7_28 dX7_copyFrom_23 (hc9 hnx) rfl ?_
  refine aw_aload_n dX7_copyFrom_26 rfl ?_
  refine aw_getf fg_X7_28 dX7_copyFrom_27 (hg0 hj) rfl ?_
  refine aw_callV (As := [_]) (ρ := (_, 0, 0)) (kn' := (0, 0)) cv_X7_54 dX7_copyFrom_30 rfl rfl (hc25 hnx) rfl rfl (Nat.le_of_ble_eq_true rfl) (rmR _ _ _) ⟨Nat.le_refl _, Nat.le_refl _⟩ rfl (c_X3_copyFromB hnx hj hR hX (fun hR => ?_))
  refine aw_aload_n dX7_copyFrom_33 rfl ?_
  refine aw_getf fg_X7_35 dX7_copyFrom_34 (hc9 hnx) rfl ?_
  refine aw_aload_n dX7_copyFrom_37 rfl ?_
  refine aw_getf fg_X7_35 dX7_copyFrom_38 (hg0 hj) rfl ?_
  refine aw_callV (As := [_]) (ρ := (_, 0, 0)) (kn' := (0, 0)) cv_X7_57 dX7_copyFrom_41 rfl rfl (hc32 hnx) rfl rfl (Nat.le_of_ble_eq_true rfl) (rmR _ _ _) ⟨Nat.le_refl _, Nat.le_refl _⟩ rfl (c_X9_copyFromB hnx hj hR hX (fun hR => ?_))
  refine aw_aload_n dX7_copyFrom_44 rfl ?_
  refine aw_getf fg_X7_39 dX7_copyFrom_45 (hg0 hj) rfl ?_
  refine aw_iconst dX7_copyFrom_48 ?_
  refine aw_aload_n dX7_copyFrom_49 rfl ?_
  refine aw_getf fg_X7_39 dX7_copyFrom_50 (hc9 hnx) rfl ?_
  refine aw_iconst dX7_copyFrom_53 ?_
  refine aw_aload_n dX7_copyFrom_54 rfl ?_
  refine aw_getf fg_X7_39 dX7_copyFrom_55 (hc9 hnx) rfl ?_
  refine aw_alen dX7_copyFrom_58 (hc36 hnx) rfl ?_
  refine aw_copyd qm_X7_60 qv_java_lang_System_arraycopy qt_java_lang_System_arraycopy qn_J10 dX7_copyFrom_59 (hg27 hj) (hc36 hnx) (by omega) (rmA _ _ _ (Nat.le_of_ble_eq_true rfl)) hu36 ?_
  refine aw_aload_n dX7_copyFrom_62 rfl ?_
  refine aw_getf fg_X7_43 dX7_copyFrom_63 (hg0 hj) rfl ?_
  refine aw_iconst dX7_copyFrom_66 ?_
  refine aw_aload_n dX7_copyFrom_67 rfl ?_
  refine aw_getf fg_X7_43 dX7_copyFrom_68 (hc9 hnx) rfl ?_
  refine aw_iconst dX7_copyFrom_71 ?_
  refine aw_aload_n dX7_copyFrom_72 rfl ?_
  refine aw_getf fg_X7_43 dX7_copyFrom_73 (hc9 hnx) rfl ?_
  refine aw_alen dX7_copyFrom_76 (hc37 hnx) rfl ?_
  refine aw_copyi qm_X7_60 qv_java_lang_System_arraycopy qt_java_lang_System_arraycopy qn_J10 dX7_copyFrom_77 (hg28 hj) (hc37 hnx) (by omega) (rmA _ _ _ (Nat.le_of_ble_eq_true rfl)) hu37 ?_
  replace hR := Rg.sset (Rg.s23 hR (cp0 (X 23) (S 23) ((8 : Nat) : Int))) (f := 24) (cp_in (hX 24 (by decide)) (hR0 24 (by decide)) ((5 : Nat) : Int))
  refine aw_aload_n dX7_copyFrom_80 rfl ?_
  refine aw_aload_n dX7_copyFrom_81 rfl ?_
  refine aw_getf fg_X7_66 dX7_copyFrom_82 (hg0 hj) rfl ?_
  refine aw_putS fp_X7_66 dX7_copyFrom_85 (hc9 hnx) (Nat.le_of_ble_eq_true rfl) hR (by omega) hu9_25 (fun hR => ?_)
  exact aw_return dX7_copyFrom_88 rfl ⟨Nat.le_refl _, Nat.le_refl _⟩ (hQ hR)

set_option maxHeartbeats 1000000 in
theorem c_X7_copyFromC {Γ : GT} {S T U V X : St} {G : Gw} {j : Nat} {nx d : Nat} {Q : QT} (hnx : 52 ≤ nx) (hj : j * 29 + 81 ≤ nx) (hz : 0 ≤ S 28 0 ∧ S 28 0 ≤ 60) (hQ : Q none (hp Γ S T U V (gset G j (cpSt S X))) nx) : AM Γ MX7_copyFrom (d + 2, 0, 0) [rf Γ (j * 29 + 52 + 0), rf Γ 9] (hp Γ S T U V (gset G j X)) nx Q := by
  refine am_of (by decide) (Nat.le_of_ble_eq_true rfl) (ls := [some (rf Γ (j * 29 + 52 + 0)), some (rf Γ 9)]) rfl ?_
  refine aw_aload_n dX7_copyFrom_0 rfl ?_
  refine aw_getf fg_X7_12 dX7_copyFrom_1 (hg0 hj) rfl ?_
  refine aw_aload_n dX7_copyFrom_4 rfl ?_
  refine aw_getf fg_X7_12 dX7_copyFrom_5 (hc9 hnx) rfl ?_
  refine aw_callV (As := [_]) (ρ := (_, 0, 0)) (kn' := (0, 0)) cv_X7_47 dX7_copyFrom_8 rfl rfl (hg1 hj) rfl rfl (Nat.le_of_ble_eq_true rfl) (rmR _ _ _) ⟨Nat.le_refl _, Nat.le_refl _⟩ rfl (c_X5_copyFromC hnx hj ?_)
  refine aw_aload_n dX7_copyFrom_11 rfl ?_
  refine aw_getf fg_X7_21 dX7_copyFrom_12 (hg0 hj) rfl ?_
  refine aw_aload_n dX7_copyFrom_15 rfl ?_
  refine aw_getf fg_X7_21 dX7_copyFrom_16 (hc9 hnx) rfl ?_
  refine aw_callV (As := [_]) (ρ := (_, 0, 0)) (kn' := (0, 0)) cv_X7_51 dX7_copyFrom_19 rfl rfl (hg5 hj) rfl rfl (Nat.le_of_ble_eq_true rfl) (rmR _ _ _) ⟨Nat.le_refl _, Nat.le_refl _⟩ rfl (c_X1_copyFromC hnx hj hz ?_)
  refine aw_aload_n dX7_copyFrom_22 rfl ?_
  refine aw_getf fg_X7_28 dX7_copyFrom_23 (hg0 hj) rfl ?_
  refine aw_aload_n dX7_copyFrom_26 rfl ?_
  refine aw_getf fg_X7_28 dX7_copyFrom_27 (hc9 hnx) rfl ?_
  refine aw_callV (As := [_]) (ρ := (_, 0, 0)) (kn' := (0, 0)) cv_X7_54 dX7_copyFrom_30 rfl rfl (hg16 hj) rfl rfl (Nat.le_of_ble_eq_true rfl) (rmR _ _ _) ⟨Nat.le_refl _, Nat.le_refl _⟩ rfl (c_X3_copyFromC hnx hj ?_)
  refine aw_aload_n dX7_copyFrom_33 rfl ?_
  refine aw_getf fg_X7_35 dX7_copyFrom_34 (hg0 hj) rfl ?_
  refine aw_aload_n dX7_copyFrom_37 rfl ?_
  refine aw_getf fg_X7_35 dX7_copyFrom_38 (hc9 hnx) rfl ?_
  refine aw_callV (As := [_]) (ρ := (_, 0, 0)) (kn' := (0, 0)) cv_X7_57 dX7_copyFrom_41 rfl rfl (hg23 hj) rfl rfl (Nat.le_of_ble_eq_true rfl) (rmR _ _ _) ⟨Nat.le_refl _, Nat.le_refl _⟩ rfl (c_X9_copyFromC hnx hj ?_)
  refine aw_aload_n dX7_copyFrom_44 rfl ?_
  refine aw_getf fg_X7_39 dX7_copyFrom_45 (hc9 hnx) rfl ?_
  refine aw_iconst dX7_copyFrom_48 ?_
  refine aw_aload_n dX7_copyFrom_49 rfl ?_
  refine aw_getf fg_X7_39 dX7_copyFrom_50 (hg0 hj) rfl ?_
  refine aw_iconst dX7_copyFrom_53 ?_
  refine aw_aload_n dX7_copyFrom_54 rfl ?_
  refine aw_getf fg_X7_39 dX7_copyFrom_55 (hg0 hj) rfl ?_
  refine aw_alen dX7_copyFrom_58 (hg27 hj) rfl ?_
  refine aw_copyd qm_X7_60 qv_java_lang_System_arraycopy qt_java_lang_System_arraycopy qn_J10 dX7_copyFrom_59 (hc36 hnx) (hg27 hj) (by omega) (rmA _ _ _ (Nat.le_of_ble_eq_true rfl)) hgu27 ?_
  refine aw_aload_n dX7_copyFrom_62 rfl ?_
  refine aw_getf fg_X7_43 dX7_copyFrom_63 (hc9 hnx) rfl ?_
  refine aw_iconst dX7_copyFrom_66 ?_
  refine aw_aload_n dX7_copyFrom_67 rfl ?_
  refine aw_getf fg_X7_43 dX7_copyFrom_68 (hg0 hj) rfl ?_
  refine aw_iconst dX7_copyFrom_71 ?_
  refine aw_aload_n dX7_copyFrom_72 rfl ?_
  refine aw_getf fg_X7_43 dX7_copyFrom_73 (hg0 hj) rfl ?_
  refine aw_alen dX7_copyFrom_76 (hg28 hj) rfl ?_
  refine aw_copyi qm_X7_60 qv_java_lang_System_arraycopy qt_java_lang_System_arraycopy qn_J10 dX7_copyFrom_77 (hc37 hnx) (hg28 hj) (by omega) (rmA _ _ _ (Nat.le_of_ble_eq_true rfl)) hgu28 ?_
  refine aw_aload_n dX7_copyFrom_80 rfl ?_
  refine aw_aload_n dX7_copyFrom_81 rfl ?_
  refine aw_getf fg_X7_66 dX7_copyFrom_82 (hc9 hnx) rfl ?_
  refine aw_putf fp_X7_66 dX7_copyFrom_85 (hg0 hj) (Nat.le_of_ble_eq_true rfl) hgu0_25 ?_
  exact aw_return dX7_copyFrom_88 rfl ⟨Nat.le_refl _, Nat.le_refl _⟩ hQ


/-! copies of states -/
theorem cp_in {a b : Int → Int} (ha : ∀ i, inI (a i)) (hb : ∀ i, inI (b i)) (n : Int) (i : Int) : inI (cp0 a b n i) := by
  unfold cp0; split
  · exact ha i
  · exact hb i
def cpSch (A B : St) : St := u0 (u0 (sset (sset (sset (B) 0 (cp0 (A 0) (B 0) ((6 : Nat) : Int))) 1 (cp0 (A 1) (B 1) ((4 : Nat) : Int))) 2 (cp0 (A 2) (B 2) ((96 : Nat) : Int))) 26 (A 26 0)) 27 (A 27 0)
def cpBk (A B : St) : St := sset (sset (sset (sset (sset (sset (sset (sset (sset (sset (u0 B 28 (A 28 0)) 4 (cp0 (A 4) (B 4) (A 28 0))) 5 (cp0 (A 5) (B 5) (A 28 0))) 6 (cp0 (A 6) (B 6) (A 28 0))) 7 (cp0 (A 7) (B 7) (A 28 0))) 8 (cp0 (A 8) (B 8) (A 28 0))) 9 (cp0 (A 9) (B 9) (A 28 0))) 10 (cp0 (A 10) (B 10) (A 28 0))) 11 (cp0 (A 11) (B 11) (A 28 0))) 12 (cp0 (A 12) (B 12) (A 28 0))) 13 (cp0 (A 13) (B 13) (A 28 0))
def cpPd (A B : St) : St := u0 (sset (sset (sset (sset (sset (sset (B) 14 (cp0 (A 14) (B 14) ((32 : Nat) : Int))) 15 (cp0 (A 15) (B 15) ((32 : Nat) : Int))) 16 (cp0 (A 16) (B 16) ((32 : Nat) : Int))) 17 (cp0 (A 17) (B 17) ((32 : Nat) : Int))) 18 (cp0 (A 18) (B 18) ((32 : Nat) : Int))) 19 (cp0 (A 19) (B 19) ((160 : Nat) : Int))) 29 (A 29 0)
def cpYr (A B : St) : St := sset (sset (sset (B) 20 (cp0 (A 20) (B 20) ((32 : Nat) : Int))) 21 (cp0 (A 21) (B 21) ((96 : Nat) : Int))) 22 (cp0 (A 22) (B 22) ((48 : Nat) : Int))

theorem Rg.cpSch {A B : St} (hA : Rg A) (hB : Rg B) : Rg (cpSch A B) := Rg.u0 (Rg.u0 (Rg.sset (Rg.sset (Rg.sset (hB) (f := 0) (cp_in (hA 0 (by decide)) (hB 0 (by decide)) _)) (f := 1) (cp_in (hA 1 (by decide)) (hB 1 (by decide)) _)) (f := 2) (cp_in (hA 2 (by decide)) (hB 2 (by decide)) _)) (hA 26 (by decide) 0)) (hA 27 (by decide) 0)
theorem Rg.cpBk {A B : St} (hA : Rg A) (hB : Rg B) : Rg (cpBk A B) := Rg.sset (Rg.sset (Rg.sset (Rg.sset (Rg.sset (Rg.sset (Rg.sset (Rg.sset (Rg.sset (Rg.sset (Rg.u0 hB (hA 28 (by decide) 0)) (f := 4) (cp_in (hA 4 (by decide)) (hB 4 (by decide)) _)) (f := 5) (cp_in (hA 5 (by decide)) (hB 5 (by decide)) _)) (f := 6) (cp_in (hA 6 (by decide)) (hB 6 (by decide)) _)) (f := 7) (cp_in (hA 7 (by decide)) (hB 7 (by decide)) _)) (f := 8) (cp_in (hA 8 (by decide)) (hB 8 (by decide)) _)) (f := 9) (cp_in (hA 9 (by decide)) (hB 9 (by decide)) _)) (f := 10) (cp_in (hA 10 (by decide)) (hB 10 (by decide)) _)) (f := 11) (cp_in (hA 11 (by decide)) (hB 11 (by decide)) _)) (f := 12) (cp_in (hA 12 (by decide)) (hB 12 (by decide)) _)) (f := 13) (cp_in (hA 13 (by decide)) (hB 13 (by decide)) _)
theorem Rg.cpPd {A B : St} (hA : Rg A) (hB : Rg B) : Rg (cpPd A B) := Rg.u0 (Rg.sset (Rg.sset (Rg.sset (Rg.sset (Rg.sset (Rg.sset (hB) (f := 14) (cp_in (hA 14 (by decide)) (hB 14 (by decide)) _)) (f := 15) (cp_in (hA 15 (by decide)) (hB 15 (by decide)) _)) (f := 16) (cp_in (hA 16 (by decide)) (hB 16 (by decide)) _)) (f := 17) (cp_in (hA 17 (by decide)) (hB 17 (by decide)) _)) (f := 18) (cp_in (hA 18 (by decide)) (hB 18 (by decide)) _)) (f := 19) (cp_in (hA 19 (by decide)) (hB 19 (by decide)) _)) (hA 29 (by decide) 0)
theorem Rg.cpYr {A B : St} (hA : Rg A) (hB : Rg B) : Rg (cpYr A B) := Rg.sset (Rg.sset (Rg.sset (hB) (f := 20) (cp_in (hA 20 (by decide)) (hB 20 (by decide)) _)) (f := 21) (cp_in (hA 21 (by decide)) (hB 21 (by decide)) _)) (f := 22) (cp_in (hA 22 (by decide)) (hB 22 (by decide)) _)

set_option maxHeartbeats 1000000 in
theorem c_X5_copyFromB {Γ : GT} {S T U V X : St} {G : Gw} {j : Nat} {nx d : Nat} {Q : QT} (hnx : 52 ≤ nx) (hj : j * 29 + 81 ≤ nx) (hR : Rg S) (hX : Rg X)  (hQ : Rg (cpSch X S) → Q none (hp Γ (cpSch X S) T U V (gset G j X)) nx) : AM Γ MX5_copyFrom (d + 1, 0, 0) [rf Γ 10, rf Γ (j * 29 + 52 + 1)] (hp Γ S T U V (gset G j X)) nx Q := by
  refine am_of (by decide) (Nat.le_of_ble_eq_true rfl) (ls := [some (rf Γ 10), some (rf Γ (j * 29 + 52 + 1))]) rfl ?_
  have hR0 := hR
  have x26 := hX 26 (by decide) 0
  have x27 := hX 27 (by decide) 0
  refine aw_aload_n dX5_copyFrom_0 rfl ?_
  refine aw_getf fg_X5_9 dX5_copyFrom_1 (hg1 hj) rfl ?_
  refine aw_iconst dX5_copyFrom_4 ?_
  refine aw_aload_n dX5_copyFrom_5 rfl ?_
  refine aw_getf fg_X5_9 dX5_copyFrom_6 (hc10 hnx) rfl ?_
  refine aw_iconst dX5_copyFrom_9 ?_
  refine aw_aload_n dX5_copyFrom_10 rfl ?_
  refine aw_getf fg_X5_9 dX5_copyFrom_11 (hc10 hnx) rfl ?_
  refine aw_alen dX5_copyFrom_14 (hc11 hnx) rfl ?_
  refine aw_copyi qm_X5_34 qv_java_lang_System_arraycopy qt_java_lang_System_arraycopy qn_J10 dX5_copyFrom_15 (hg2 hj) (hc11 hnx) (by omega) (rmA _ _ _ (Nat.le_of_ble_eq_true rfl)) hu11 ?_
  refine aw_aload_n dX5_copyFrom_18 rfl ?_
  refine aw_getf fg_X5_15 dX5_copyFrom_19 (hg1 hj) rfl ?_
  refine aw_iconst dX5_copyFrom_22 ?_
  refine aw_aload_n dX5_copyFrom_23 rfl ?_
  refine aw_getf fg_X5_15 dX5_copyFrom_24 (hc10 hnx) rfl ?_
  refine aw_iconst dX5_copyFrom_27 ?_
  refine aw_aload_n dX5_copyFrom_28 rfl ?_
  refine aw_getf fg_X5_15 dX5_copyFrom_29 (hc10 hnx) rfl ?_
  refine aw_alen dX5_copyFrom_32 (hc12 hnx) rfl ?_
  refine aw_copyi qm_X5_34 qv_java_lang_System_arraycopy qt_java_lang_System_arraycopy qn_J10 dX5_copyFrom_33 (hg3 hj) (hc12 hnx) (by omega) (rmA _ _ _ (Nat.le_of_ble_eq_true rfl)) hu12 ?_
  refine aw_aload_n dX5_copyFrom_36 rfl ?_
  refine aw_getf fg_X5_18 dX5_copyFrom_37 (hg1 hj) rfl ?_
  refine aw_iconst dX5_copyFrom_40 ?_
  refine aw_aload_n dX5_copyFrom_41 rfl ?_
  refine aw_getf fg_X5_18 dX5_copyFrom_42 (hc10 hnx) rfl ?_
  refine aw_iconst dX5_copyFrom_45 ?_
  refine aw_aload_n dX5_copyFrom_46 rfl ?_
  refine aw_getf fg_X5_18 dX5_copyFrom_47 (hc10 hnx) rfl ?_
  refine aw_alen dX5_copyFrom_50 (hc13 hnx) rfl ?_
  refine aw_copyi qm_X5_34 qv_java_lang_System_arraycopy qt_java_lang_System_arraycopy qn_J10 dX5_copyFrom_51 (hg4 hj) (hc13 hnx) (by omega) (rmA _ _ _ (Nat.le_of_ble_eq_true rfl)) hu13 ?_
  replace hR := Rg.sset (Rg.sset (Rg.sset (hR0) (f := 0) (cp_in (hX 0 (by decide)) (hR0 0 (by decide)) ((6 : Nat) : Int))) (f := 1) (cp_in (hX 1 (by decide)) (hR0 1 (by decide)) ((4 : Nat) : Int))) (f := 2) (cp_in (hX 2 (by decide)) (hR0 2 (by decide)) ((96 : Nat) : Int))
  refine aw_aload_n dX5_copyFrom_54 rfl ?_
  refine aw_aload_n dX5_copyFrom_55 rfl ?_
  refine aw_getf fg_X5_27 dX5_copyFrom_56 (hg1 hj) rfl ?_
  refine aw_putS fp_X5_27 dX5_copyFrom_59 (hc10 hnx) (Nat.le_of_ble_eq_true rfl) hR (by omega) hu10_26 (fun hR => ?_)
  refine aw_aload_n dX5_copyFrom_62 rfl ?_
  refine aw_aload_n dX5_copyFrom_63 rfl ?_
  refine aw_getf fg_X5_31 dX5_copyFrom_64 (hg1 hj) rfl ?_
  refine aw_putS fp_X5_31 dX5_copyFrom_67 (hc10 hnx) (Nat.le_of_ble_eq_true rfl) hR (by omega) hu10_27 (fun hR => ?_)
  exact aw_return dX5_copyFrom_70 rfl ⟨Nat.le_refl _, Nat.le_refl _⟩ (hQ (hX.cpSch hR0))

set_option maxHeartbeats 1000000 in
theorem c_X5_copyFromC {Γ : GT} {S T U V X : St} {G : Gw} {j : Nat} {nx d : Nat} {Q : QT} (hnx : 52 ≤ nx) (hj : j * 29 + 81 ≤ nx)  (hQ : Q none (hp Γ S T U V (gset G j (cpSch S X))) nx) : AM Γ MX5_copyFrom (d + 1, 0, 0) [rf Γ (j * 29 + 52 + 1), rf Γ 10] (hp Γ S T U V (gset G j X)) nx Q := by
  refine am_of (by decide) (Nat.le_of_ble_eq_true rfl) (ls := [some (rf Γ (j * 29 + 52 + 1)), some (rf Γ 10)]) rfl ?_
  refine aw_aload_n dX5_copyFrom_0 rfl ?_
  refine aw_getf fg_X5_9 dX5_copyFrom_1 (hc10 hnx) rfl ?_
  refine aw_iconst dX5_copyFrom_4 ?_
  refine aw_aload_n dX5_copyFrom_5 rfl ?_
  refine aw_getf fg_X5_9 dX5_copyFrom_6 (hg1 hj) rfl ?_
  refine aw_iconst dX5_copyFrom_9 ?_
  refine aw_aload_n dX5_copyFrom_10 rfl ?_
  refine aw_getf fg_X5_9 dX5_copyFrom_11 (hg1 hj) rfl ?_
  refine aw_alen dX5_copyFrom_14 (hg2 hj) rfl ?_
  refine aw_copyi qm_X5_34 qv_java_lang_System_arraycopy qt_java_lang_System_arraycopy qn_J10 dX5_copyFrom_15 (hc11 hnx) (hg2 hj) (by omega) (rmA _ _ _ (Nat.le_of_ble_eq_true rfl)) hgu2 ?_
  refine aw_aload_n dX5_copyFrom_18 rfl ?_
  refine aw_getf fg_X5_15 dX5_copyFrom_19 (hc10 hnx) rfl ?_
  refine aw_iconst dX5_copyFrom_22 ?_
  refine aw_aload_n dX5_copyFrom_23 rfl ?_
  refine aw_getf fg_X5_15 dX5_copyFrom_24 (hg1 hj) rfl ?_
  refine aw_iconst dX5_copyFrom_27 ?_
  refine aw_aload_n dX5_copyFrom_28 rfl ?_
  refine aw_getf fg_X5_15 dX5_copyFrom_29 (hg1 hj) rfl ?_
  refine aw_alen dX5_copyFrom_32 (hg3 hj) rfl ?_
  refine aw_copyi qm_X5_34 qv_java_lang_System_arraycopy qt_java_lang_System_arraycopy qn_J10 dX5_copyFrom_33 (hc12 hnx) (hg3 hj) (by omega) (rmA _ _ _ (Nat.le_of_ble_eq_true rfl)) hgu3 ?_
  refine aw_aload_n dX5_copyFrom_36 rfl ?_
  refine aw_getf fg_X5_18 dX5_copyFrom_37 (hc10 hnx) rfl ?_
  refine aw_iconst dX5_copyFrom_40 ?_
  refine aw_aload_n dX5_copyFrom_41 rfl ?_
  refine aw_getf fg_X5_18 dX5_copyFrom_42 (hg1 hj) rfl ?_
  refine aw_iconst dX5_copyFrom_45 ?_
  refine aw_aload_n dX5_copyFrom_46 rfl ?_
  refine aw_getf fg_X5_18 dX5_copyFrom_47 (hg1 hj) rfl ?_
  refine aw_alen dX5_copyFrom_50 (hg4 hj) rfl ?_
  refine aw_copyi qm_X5_34 qv_java_lang_System_arraycopy qt_java_lang_System_arraycopy qn_J10 dX5_copyFrom_51 (hc13 hnx) (hg4 hj) (by omega) (rmA _ _ _ (Nat.le_of_ble_eq_true rfl)) hgu4 ?_
  refine aw_aload_n dX5_copyFrom_54 rfl ?_
  refine aw_aload_n dX5_copyFrom_55 rfl ?_
  refine aw_getf fg_X5_27 dX5_copyFrom_56 (hc10 hnx) rfl ?_
  refine aw_putf fp_X5_27 dX5_copyFrom_59 (hg1 hj) (Nat.le_of_ble_eq_true rfl) hgu1_26 ?_
  refine aw_aload_n dX5_copyFrom_62 rfl ?_
  refine aw_aload_n dX5_copyFrom_63 rfl ?_
  refine aw_getf fg_X5_31 dX5_copyFrom_64 (hc10 hnx) rfl ?_
  refine aw_putf fp_X5_31 dX5_copyFrom_67 (hg1 hj) (Nat.le_of_ble_eq_true rfl) hgu1_27 ?_
  exact aw_return dX5_copyFrom_70 rfl ⟨Nat.le_refl _, Nat.le_refl _⟩ hQ

set_option maxHeartbeats 1000000 in
theorem c_X5_copyFromA {Γ : GT} {S T U V : St} {G : Gw} {nx d : Nat} {Q : QT} (hnx : 52 ≤ nx) (hR : Rg S) (hT : Rg T) (hQ : Rg (cpSch T S) → Q none (hp Γ (cpSch T S) T U V G) nx) : AM Γ MX5_copyFrom (d + 1, 0, 0) [rf Γ 10, rf Γ 4] (hp Γ S T U V G) nx Q := by
  refine am_of (by decide) (Nat.le_of_ble_eq_true rfl) (ls := [some (rf Γ 10), some (rf Γ 4)]) rfl ?_
  have hR0 := hR
  have x26 := hT 26 (by decide) 0
  have x27 := hT 27 (by decide) 0
  refine aw_aload_n dX5_copyFrom_0 rfl ?_
  refine aw_getf fg_X5_9 dX5_copyFrom_1 (hc4 hnx) rfl ?_
  refine aw_iconst dX5_copyFrom_4 ?_
  refine aw_aload_n dX5_copyFrom_5 rfl ?_
  refine aw_getf fg_X5_9 dX5_copyFrom_6 (hc10 hnx) rfl ?_
  refine aw_iconst dX5_copyFrom_9 ?_
  refine aw_aload_n dX5_copyFrom_10 rfl ?_
  refine aw_getf fg_X5_9 dX5_copyFrom_11 (hc10 hnx) rfl ?_
  refine aw_alen dX5_copyFrom_14 (hc11 hnx) rfl ?_
  refine aw_copyi qm_X5_34 qv_java_lang_System_arraycopy qt_java_lang_System_arraycopy qn_J10 dX5_copyFrom_15 (hc5 hnx) (hc11 hnx) (by omega) (rmA _ _ _ (Nat.le_of_ble_eq_true rfl)) hu11 ?_
  refine aw_aload_n dX5_copyFrom_18 rfl ?_
  refine aw_getf fg_X5_15 dX5_copyFrom_19 (hc4 hnx) rfl ?_
  refine aw_iconst dX5_copyFrom_22 ?_
  refine aw_aload_n dX5_copyFrom_23 rfl ?_
  refine aw_getf fg_X5_15 dX5_copyFrom_24 (hc10 hnx) rfl ?_
  refine aw_iconst dX5_copyFrom_27 ?_
  refine aw_aload_n dX5_copyFrom_28 rfl ?_
  refine aw_getf fg_X5_15 dX5_copyFrom_29 (hc10 hnx) rfl ?_
  refine aw_alen dX5_copyFrom_32 (hc12 hnx) rfl ?_
  refine aw_copyi qm_X5_34 qv_java_lang_System_arraycopy qt_java_lang_System_arraycopy qn_J10 dX5_copyFrom_33 (hc6 hnx) (hc12 hnx) (by omega) (rmA _ _ _ (Nat.le_of_ble_eq_true rfl)) hu12 ?_
  refine aw_aload_n dX5_copyFrom_36 rfl ?_
  refine aw_getf fg_X5_18 dX5_copyFrom_37 (hc4 hnx) rfl ?_
  refine aw_iconst dX5_copyFrom_40 ?_
  refine aw_aload_n dX5_copyFrom_41 rfl ?_
  refine aw_getf fg_X5_18 dX5_copyFrom_42 (hc10 hnx) rfl ?_
  refine aw_iconst dX5_copyFrom_45 ?_
  refine aw_aload_n dX5_copyFrom_46 rfl ?_
  refine aw_getf fg_X5_18 dX5_copyFrom_47 (hc10 hnx) rfl ?_
  refine aw_alen dX5_copyFrom_50 (hc13 hnx) rfl ?_
  refine aw_copyi qm_X5_34 qv_java_lang_System_arraycopy qt_java_lang_System_arraycopy qn_J10 dX5_copyFrom_51 (hc7 hnx) (hc13 hnx) (by omega) (rmA _ _ _ (Nat.le_of_ble_eq_true rfl)) hu13 ?_
  replace hR := Rg.sset (Rg.sset (Rg.sset (hR0) (f := 0) (cp_in (hT 0 (by decide)) (hR0 0 (by decide)) ((6 : Nat) : Int))) (f := 1) (cp_in (hT 1 (by decide)) (hR0 1 (by decide)) ((4 : Nat) : Int))) (f := 2) (cp_in (hT 2 (by decide)) (hR0 2 (by decide)) ((96 : Nat) : Int))
  refine aw_aload_n dX5_copyFrom_54 rfl ?_
  refine aw_aload_n dX5_copyFrom_55 rfl ?_
  refine aw_getf fg_X5_27 dX5_copyFrom_56 (hc4 hnx) rfl ?_
  refine aw_putS fp_X5_27 dX5_copyFrom_59 (hc10 hnx) (Nat.le_of_ble_eq_true rfl) hR (by omega) hu10_26 (fun hR => ?_)
  refine aw_aload_n dX5_copyFrom_62 rfl ?_
  refine aw_aload_n dX5_copyFrom_63 rfl ?_
  refine aw_getf fg_X5_31 dX5_copyFrom_64 (hc4 hnx) rfl ?_
  refine aw_putS fp_X5_31 dX5_copyFrom_67 (hc10 hnx) (Nat.le_of_ble_eq_true rfl) hR (by omega) hu10_27 (fun hR => ?_)
  exact aw_return dX5_copyFrom_70 rfl ⟨Nat.le_refl _, Nat.le_refl _⟩ (hQ (hT.cpSch hR0))

set_option maxHeartbeats 1000000 in
theorem c_X1_copyFromB {Γ : GT} {S T U V X : St} {G : Gw} {j : Nat} {nx d : Nat} {Q : QT} (hnx : 52 ≤ nx) (hj : j * 29 + 81 ≤ nx) (hR : Rg S) (hX : Rg X) (hz : 0 ≤ X 28 0 ∧ X 28 0 ≤ 60) (hQ : Rg (cpBk X S) → Q none (hp Γ (cpBk X S) T U V (gset G j X)) nx) : AM Γ MX1_copyFrom (d + 1, 0, 0) [rf Γ 14, rf Γ (j * 29 + 52 + 5)] (hp Γ S T U V (gset G j X)) nx Q := by
  refine am_of (by decide) (Nat.le_of_ble_eq_true rfl) (ls := [some (rf Γ 14), some (rf Γ (j * 29 + 52 + 5))]) rfl ?_
  have hR0 := hR
  have x28 := hX 28 (by decide) 0
  refine aw_aload_n dX1_copyFrom_0 rfl ?_
  refine aw_aload_n dX1_copyFrom_1 rfl ?_
  refine aw_getf fg_X1_42 dX1_copyFrom_2 (hg5 hj) rfl ?_
  refine aw_putS fp_X1_42 dX1_copyFrom_5 (hc14 hnx) (Nat.le_of_ble_eq_true rfl) hR (by omega) hu14_28 (fun hR => ?_)
  refine aw_aload_n dX1_copyFrom_8 rfl ?_
  refine aw_getf fg_X1_9 dX1_copyFrom_9 (hg5 hj) rfl ?_
  refine aw_iconst dX1_copyFrom_12 ?_
  refine aw_aload_n dX1_copyFrom_13 rfl ?_
  refine aw_getf fg_X1_9 dX1_copyFrom_14 (hc14 hnx) rfl ?_
  refine aw_iconst dX1_copyFrom_17 ?_
  refine aw_aload_n dX1_copyFrom_18 rfl ?_
  refine aw_getf fg_X1_42 dX1_copyFrom_19 (hc14 hnx) rfl ?_
  refine aw_sv (a := X 28 0) (rfl) ?_
  refine aw_copyi qm_X1_46 qv_java_lang_System_arraycopy qt_java_lang_System_arraycopy qn_J10 dX1_copyFrom_22 (hg6 hj) (hc15 hnx) (by omega) (rmA _ _ _ (Nat.le_of_ble_eq_true rfl)) hu15 ?_
  refine aw_aload_n dX1_copyFrom_25 rfl ?_
  refine aw_getf fg_X1_15 dX1_copyFrom_26 (hg5 hj) rfl ?_
  refine aw_iconst dX1_copyFrom_29 ?_
  refine aw_aload_n dX1_copyFrom_30 rfl ?_
  refine aw_getf fg_X1_15 dX1_copyFrom_31 (hc14 hnx) rfl ?_
  refine aw_iconst dX1_copyFrom_34 ?_
  refine aw_aload_n dX1_copyFrom_35 rfl ?_
  refine aw_getf fg_X1_42 dX1_copyFrom_36 (hc14 hnx) rfl ?_
  refine aw_sv (a := X 28 0) (rfl) ?_
  refine aw_copyi qm_X1_46 qv_java_lang_System_arraycopy qt_java_lang_System_arraycopy qn_J10 dX1_copyFrom_39 (hg7 hj) (hc16 hnx) (by omega) (rmA _ _ _ (Nat.le_of_ble_eq_true rfl)) hu16 ?_
  refine aw_aload_n dX1_copyFrom_42 rfl ?_
  refine aw_getf fg_X1_18 dX1_copyFrom_43 (hg5 hj) rfl ?_
  refine aw_iconst dX1_copyFrom_46 ?_
  refine aw_aload_n dX1_copyFrom_47 rfl ?_
  refine aw_getf fg_X1_18 dX1_copyFrom_48 (hc14 hnx) rfl ?_
  refine aw_iconst dX1_copyFrom_51 ?_
  refine aw_aload_n dX1_copyFrom_52 rfl ?_
  refine aw_getf fg_X1_42 dX1_copyFrom_53 (hc14 hnx) rfl ?_
  refine aw_sv (a := X 28 0) (rfl) ?_
  refine aw_copyi qm_X1_46 qv_java_lang_System_arraycopy qt_java_lang_System_arraycopy qn_J10 dX1_copyFrom_56 (hg8 hj) (hc17 hnx) (by omega) (rmA _ _ _ (Nat.le_of_ble_eq_true rfl)) hu17 ?_
  refine aw_aload_n dX1_copyFrom_59 rfl ?_
  refine aw_getf fg_X1_21 dX1_copyFrom_60 (hg5 hj) rfl ?_
  refine aw_iconst dX1_copyFrom_63 ?_
  refine aw_aload_n dX1_copyFrom_64 rfl ?_
  refine aw_getf fg_X1_21 dX1_copyFrom_65 (hc14 hnx) rfl ?_
  refine aw_iconst dX1_copyFrom_68 ?_
  refine aw_aload_n dX1_copyFrom_69 rfl ?_
  refine aw_getf fg_X1_42 dX1_copyFrom_70 (hc14 hnx) rfl ?_
  refine aw_sv (a := X 28 0) (rfl) ?_
  refine aw_copyi qm_X1_46 qv_java_lang_System_arraycopy qt_java_lang_System_arraycopy qn_J10 dX1_copyFrom_73 (hg9 hj) (hc18 hnx) (by omega) (rmA _ _ _ (Nat.le_of_ble_eq_true rfl)) hu18 ?_
  refine aw_aload_n dX1_copyFrom_76 rfl ?_
  refine aw_getf fg_X1_24 dX1_copyFrom_77 (hg5 hj) rfl ?_
  refine aw_iconst dX1_copyFrom_80 ?_
  refine aw_aload_n dX1_copyFrom_81 rfl ?_
  refine aw_getf fg_X1_24 dX1_copyFrom_82 (hc14 hnx) rfl ?_
  refine aw_iconst dX1_copyFrom_85 ?_
  refine aw_aload_n dX1_copyFrom_86 rfl ?_
  refine aw_getf fg_X1_42 dX1_copyFrom_87 (hc14 hnx) rfl ?_
  refine aw_sv (a := X 28 0) (rfl) ?_
  refine aw_copyi qm_X1_46 qv_java_lang_System_arraycopy qt_java_lang_System_arraycopy qn_J10 dX1_copyFrom_90 (hg10 hj) (hc19 hnx) (by omega) (rmA _ _ _ (Nat.le_of_ble_eq_true rfl)) hu19 ?_
  refine aw_aload_n dX1_copyFrom_93 rfl ?_
  refine aw_getf fg_X1_27 dX1_copyFrom_94 (hg5 hj) rfl ?_
  refine aw_iconst dX1_copyFrom_97 ?_
  refine aw_aload_n dX1_copyFrom_98 rfl ?_
  refine aw_getf fg_X1_27 dX1_copyFrom_99 (hc14 hnx) rfl ?_
  refine aw_iconst dX1_copyFrom_102 ?_
  refine aw_aload_n dX1_copyFrom_103 rfl ?_
  refine aw_getf fg_X1_42 dX1_copyFrom_104 (hc14 hnx) rfl ?_
  refine aw_sv (a := X 28 0) (rfl) ?_
  refine aw_copyi qm_X1_46 qv_java_lang_System_arraycopy qt_java_lang_System_arraycopy qn_J10 dX1_copyFrom_107 (hg11 hj) (hc20 hnx) (by omega) (rmA _ _ _ (Nat.le_of_ble_eq_true rfl)) hu20 ?_
  refine aw_aload_n dX1_copyFrom_110 rfl ?_
  refine aw_getf fg_X1_30 dX1_copyFrom_111 (hg5 hj) rfl ?_
  refine aw_iconst dX1_copyFrom_114 ?_
  refine aw_aload_n dX1_copyFrom_115 rfl ?_
  refine aw_getf fg_X1_30 dX1_copyFrom_116 (hc14 hnx) rfl ?_
  refine aw_iconst dX1_copyFrom_119 ?_
  refine aw_aload_n dX1_copyFrom_120 rfl ?_
  refine aw_getf fg_X1_42 dX1_copyFrom_121 (hc14 hnx) rfl ?_
  refine aw_sv (a := X 28 0) (rfl) ?_
  refine aw_copyi qm_X1_46 qv_java_lang_System_arraycopy qt_java_lang_System_arraycopy qn_J10 dX1_copyFrom_124 (hg12 hj) (hc21 hnx) (by omega) (rmA _ _ _ (Nat.le_of_ble_eq_true rfl)) hu21 ?_
  refine aw_aload_n dX1_copyFrom_127 rfl ?_
  refine aw_getf fg_X1_33 dX1_copyFrom_128 (hg5 hj) rfl ?_
  refine aw_iconst dX1_copyFrom_131 ?_
  refine aw_aload_n dX1_copyFrom_132 rfl ?_
  refine aw_getf fg_X1_33 dX1_copyFrom_133 (hc14 hnx) rfl ?_
  refine aw_iconst dX1_copyFrom_136 ?_
  refine aw_aload_n dX1_copyFrom_137 rfl ?_
  refine aw_getf fg_X1_42 dX1_copyFrom_138 (hc14 hnx) rfl ?_
  refine aw_sv (a := X 28 0) (rfl) ?_
  refine aw_copyi qm_X1_46 qv_java_lang_System_arraycopy qt_java_lang_System_arraycopy qn_J10 dX1_copyFrom_141 (hg13 hj) (hc22 hnx) (by omega) (rmA _ _ _ (Nat.le_of_ble_eq_true rfl)) hu22 ?_
  refine aw_aload_n dX1_copyFrom_144 rfl ?_
  refine aw_getf fg_X1_36 dX1_copyFrom_145 (hg5 hj) rfl ?_
  refine aw_iconst dX1_copyFrom_148 ?_
  refine aw_aload_n dX1_copyFrom_149 rfl ?_
  refine aw_getf fg_X1_36 dX1_copyFrom_150 (hc14 hnx) rfl ?_
  refine aw_iconst dX1_copyFrom_153 ?_
  refine aw_aload_n dX1_copyFrom_154 rfl ?_
  refine aw_getf fg_X1_42 dX1_copyFrom_155 (hc14 hnx) rfl ?_
  refine aw_sv (a := X 28 0) (rfl) ?_
  refine aw_copyi qm_X1_46 qv_java_lang_System_arraycopy qt_java_lang_System_arraycopy qn_J10 dX1_copyFrom_158 (hg14 hj) (hc23 hnx) (by omega) (rmA _ _ _ (Nat.le_of_ble_eq_true rfl)) hu23 ?_
  refine aw_aload_n dX1_copyFrom_161 rfl ?_
  refine aw_getf fg_X1_39 dX1_copyFrom_162 (hg5 hj) rfl ?_
  refine aw_iconst dX1_copyFrom_165 ?_
  refine aw_aload_n dX1_copyFrom_166 rfl ?_
  refine aw_getf fg_X1_39 dX1_copyFrom_167 (hc14 hnx) rfl ?_
  refine aw_iconst dX1_copyFrom_170 ?_
  refine aw_aload_n dX1_copyFrom_171 rfl ?_
  refine aw_getf fg_X1_42 dX1_copyFrom_172 (hc14 hnx) rfl ?_
  refine aw_sv (a := X 28 0) (rfl) ?_
  refine aw_copyi qm_X1_46 qv_java_lang_System_arraycopy qt_java_lang_System_arraycopy qn_J10 dX1_copyFrom_175 (hg15 hj) (hc24 hnx) (by omega) (rmA _ _ _ (Nat.le_of_ble_eq_true rfl)) hu24 ?_
  exact aw_return dX1_copyFrom_178 rfl ⟨Nat.le_refl _, Nat.le_refl _⟩ (hQ (hX.cpBk hR0))

set_option maxHeartbeats 1000000 in
theorem c_X1_copyFromC {Γ : GT} {S T U V X : St} {G : Gw} {j : Nat} {nx d : Nat} {Q : QT} (hnx : 52 ≤ nx) (hj : j * 29 + 81 ≤ nx) (hz : 0 ≤ S 28 0 ∧ S 28 0 ≤ 60) (hQ : Q none (hp Γ S T U V (gset G j (cpBk S X))) nx) : AM Γ MX1_copyFrom (d + 1, 0, 0) [rf Γ (j * 29 + 52 + 5), rf Γ 14] (hp Γ S T U V (gset G j X)) nx Q := by
  refine am_of (by decide) (Nat.le_of_ble_eq_true rfl) (ls := [some (rf Γ (j * 29 + 52 + 5)), some (rf Γ 14)]) rfl ?_
  refine aw_aload_n dX1_copyFrom_0 rfl ?_
  refine aw_aload_n dX1_copyFrom_1 rfl ?_
  refine aw_getf fg_X1_42 dX1_copyFrom_2 (hc14 hnx) rfl ?_
  refine aw_putf fp_X1_42 dX1_copyFrom_5 (hg5 hj) (Nat.le_of_ble_eq_true rfl) hgu5_28 ?_
  refine aw_aload_n dX1_copyFrom_8 rfl ?_
  refine aw_getf fg_X1_9 dX1_copyFrom_9 (hc14 hnx) rfl ?_
  refine aw_iconst dX1_copyFrom_12 ?_
  refine aw_aload_n dX1_copyFrom_13 rfl ?_
  refine aw_getf fg_X1_9 dX1_copyFrom_14 (hg5 hj) rfl ?_
  refine aw_iconst dX1_copyFrom_17 ?_
  refine aw_aload_n dX1_copyFrom_18 rfl ?_
  refine aw_getf fg_X1_42 dX1_copyFrom_19 (hg5 hj) rfl ?_
  refine aw_sv (a := S 28 0) (rfl) ?_
  refine aw_copyi qm_X1_46 qv_java_lang_System_arraycopy qt_java_lang_System_arraycopy qn_J10 dX1_copyFrom_22 (hc15 hnx) (hg6 hj) (by omega) (rmA _ _ _ (Nat.le_of_ble_eq_true rfl)) hgu6 ?_
  refine aw_aload_n dX1_copyFrom_25 rfl ?_
  refine aw_getf fg_X1_15 dX1_copyFrom_26 (hc14 hnx) rfl ?_
  refine aw_iconst dX1_copyFrom_29 ?_
  refine aw_aload_n dX1_copyFrom_30 rfl ?_
  refine aw_getf fg_X1_15 dX1_copyFrom_31 (hg5 hj) rfl ?_
  refine aw_iconst dX1_copyFrom_34 ?_
  refine aw_aload_n dX1_copyFrom_35 rfl ?_
  refine aw_getf fg_X1_42 dX1_copyFrom_36 (hg5 hj) rfl ?_
  refine aw_sv (a := S 28 0) (rfl) ?_
  refine aw_copyi qm_X1_46 qv_java_lang_System_arraycopy qt_java_lang_System_arraycopy qn_J10 dX1_copyFrom_39 (hc16 hnx) (hg7 hj) (by omega) (rmA _ _ _ (Nat.le_of_ble_eq_true rfl)) hgu7 ?_
  refine aw_aload_n dX1_copyFrom_42 rfl ?_
  refine aw_getf fg_X1_18 dX1_copyFrom_43 (hc14 hnx) rfl ?_
  refine aw_iconst dX1_copyFrom_46 ?_
  refine aw_aload_n dX1_copyFrom_47 rfl ?_
  refine aw_getf fg_X1_18 dX1_copyFrom_48 (hg5 hj) rfl ?_
  refine aw_iconst dX1_copyFrom_51 ?_
  refine aw_aload_n dX1_copyFrom_52 rfl ?_
  refine aw_getf fg_X1_42 dX1_copyFrom_53 (hg5 hj) rfl ?_
  refine aw_sv (a := S 28 0) (rfl) ?_
  refine aw_copyi qm_X1_46 qv_java_lang_System_arraycopy qt_java_lang_System_arraycopy qn_J10 dX1_copyFrom_56 (hc17 hnx) (hg8 hj) (by omega) (rmA _ _ _ (Nat.le_of_ble_eq_true rfl)) hgu8 ?_
  refine aw_aload_n dX1_copyFrom_59 rfl ?_
  refine aw_getf fg_X1_21 dX1_copyFrom_60 (hc14 hnx) rfl ?_
  refine aw_iconst dX1_copyFrom_63 ?_
  refine aw_aload_n dX1_copyFrom_64 rfl ?_
  refine aw_getf fg_X1_21 dX1_copyFrom_65 (hg5 hj) rfl ?_
  refine aw_iconst dX1_copyFrom_68 ?_
  refine aw_aload_n dX1_copyFrom_69 rfl ?_
  refine aw_getf fg_X1_42 dX1_copyFrom_70 (hg5 hj) rfl ?_
  refine aw_sv (a := S 28 0) (rfl) ?_
  refine aw_copyi qm_X1_46 qv_java_lang_System_arraycopy qt_java_lang_System_arraycopy qn_J10 dX1_copyFrom_73 (hc18 hnx) (hg9 hj) (by omega) (rmA _ _ _ (Nat.le_of_ble_eq_true rfl)) hgu9 ?_
  refine aw_aload_n dX1_copyFrom_76 rfl ?_
  refine aw_getf fg_X1_24 dX1_copyFrom_77 (hc14 hnx) rfl ?_
  refine aw_iconst dX1_copyFrom_80 ?_
  refine aw_aload_n dX1_copyFrom_81 rfl ?_
  refine aw_getf fg_X1_24 dX1_copyFrom_82 (hg5 hj) rfl ?_
  refine aw_iconst dX1_copyFrom_85 ?_
  refine aw_aload_n dX1_copyFrom_86 rfl ?_
  refine aw_getf fg_X1_42 dX1_copyFrom_87 (hg5 hj) rfl ?_
  refine aw_sv (a := S 28 0) (rfl) ?_
  refine aw_copyi qm_X1_46 qv_java_lang_System_arraycopy qt_java_lang_System_arraycopy qn_J10 dX1_copyFrom_90 (hc19 hnx) (hg10 hj) (by omega) (rmA _ _ _ (Nat.le_of_ble_eq_true rfl)) hgu10 ?_
  refine aw_aload_n dX1_copyFrom_93 rfl ?_
  refine aw_getf fg_X1_27 dX1_copyFrom_94 (hc14 hnx) rfl ?_
  refine aw_iconst dX1_copyFrom_97 ?_
  refine aw_aload_n dX1_copyFrom_98 rfl ?_
  refine aw_getf fg_X1_27 dX1_copyFrom_99 (hg5 hj) rfl ?_
  refine aw_iconst dX1_copyFrom_102 ?_
  refine aw_aload_n dX1_copyFrom_103 rfl ?_
  refine aw_getf fg_X1_42 dX1_copyFrom_104 (hg5 hj) rfl ?_
  refine aw_sv (a := S 28 0) (rfl) ?_
  refine aw_copyi qm_X1_46 qv_java_lang_System_arraycopy qt_java_lang_System_arraycopy qn_J10 dX1_copyFrom_107 (hc20 hnx) (hg11 hj) (by omega) (rmA _ _ _ (Nat.le_of_ble_eq_true rfl)) hgu11 ?_
  refine aw_aload_n dX1_copyFrom_110 rfl ?_
  refine aw_getf fg_X1_30 dX1_copyFrom_111 (hc14 hnx) rfl ?_
  refine aw_iconst dX1_copyFrom_114 ?_
  refine aw_aload_n dX1_copyFrom_115 rfl ?_
  refine aw_getf fg_X1_30 dX1_copyFrom_116 (hg5 hj) rfl ?_
  refine aw_iconst dX1_copyFrom_119 ?_
  refine aw_aload_n dX1_copyFrom_120 rfl ?_
  refine aw_getf fg_X1_42 dX1_copyFrom_121 (hg5 hj) rfl ?_
  refine aw_sv (a := S 28 0) (rfl) ?_
  refine aw_copyi qm_X1_46 qv_java_lang_System_arraycopy qt_java_lang_System_arraycopy qn_J10 dX1_copyFrom_124 (hc21 hnx) (hg12 hj) (by omega) (rmA _ _ _ (Nat.le_of_ble_eq_true rfl)) hgu12 ?_
  refine aw_aload_n dX1_copyFrom_127 rfl ?_
  refine aw_getf fg_X1_33 dX1_copyFrom_128 (hc14 hnx) rfl ?_
  refine aw_iconst dX1_copyFrom_131 ?_
  refine aw_aload_n dX1_copyFrom_132 rfl ?_
  refine aw_getf fg_X1_33 dX1_copyFrom_133 (hg5 hj) rfl ?_
  refine aw_iconst dX1_copyFrom_136 ?_
  refine aw_aload_n dX1_copyFrom_137 rfl ?_
  refine aw_getf fg_X1_42 dX1_copyFrom_138 (hg5 hj) rfl ?_
  refine aw_sv (a := S 28 0) (rfl) ?_
  refine aw_copyi qm_X1_46 qv_java_lang_System_arraycopy qt_java_lang_System_arraycopy qn_J10 dX1_copyFrom_141 (hc22 hnx) (hg13 hj) (by omega) (rmA _ _ _ (Nat.le_of_ble_eq_true rfl)) hgu13 ?_
  refine aw_aload_n dX1_copyFrom_144 rfl ?_
  refine aw_getf fg_X1_36 dX1_copyFrom_145 (hc14 hnx) rfl ?_
  refine aw_iconst dX1_copyFrom_148 ?_
  refine aw_aload_n dX1_copyFrom_149 rfl ?_
  refine aw_getf fg_X1_36 dX1_copyFrom_150 (hg5 hj) rfl ?_
  refine aw_iconst dX1_copyFrom_153 ?_
  refine aw_aload_n dX1_copyFrom_154 rfl ?_
  refine aw_getf fg_X1_42 dX1_copyFrom_155 (hg5 hj) rfl ?_
  refine aw_sv (a := S 28 0) (rfl) ?_
  refine aw_copyi qm_X1_46 qv_java_lang_System_arraycopy qt_java_lang_System_arraycopy qn_J10 dX1_copyFrom_158 (hc23 hnx) (hg14 hj) (by omega) (rmA _ _ _ (Nat.le_of_ble_eq_true rfl)) hgu14 ?_
  refine aw_aload_n dX1_copyFrom_161 rfl ?_
  refine aw_getf fg_X1_39 dX1_copyFrom_162 (hc14 hnx) rfl ?_
  refine aw_iconst dX1_copyFrom_165 ?_
  refine aw_aload_n dX1_copyFrom_166 rfl ?_
  refine aw_getf fg_X1_39 dX1_copyFrom_167 (hg5 hj) rfl ?_
  refine aw_iconst dX1_copyFrom_170 ?_
  refine aw_aload_n dX1_copyFrom_171 rfl ?_
  refine aw_getf fg_X1_42 dX1_copyFrom_172 (hg5 hj) rfl ?_
  refine aw_sv (a := S 28 0) (rfl) ?_
  refine aw_copyi qm_X1_46 qv_java_lang_System_arraycopy qt_java_lang_System_arraycopy qn_J10 dX1_copyFrom_175 (hc24 hnx) (hg15 hj) (by omega) (rmA _ _ _ (Nat.le_of_ble_eq_true rfl)) hgu15 ?_
  exact aw_return dX1_copyFrom_178 rfl ⟨Nat.le_refl _, Nat.le_refl _⟩ hQ

set_option maxHeartbeats 1000000 in
theorem c_X3_copyFromB {Γ : GT} {S T U V X : St} {G : Gw} {j : Nat} {nx d : Nat} {Q : QT} (hnx : 52 ≤ nx) (hj : j * 29 + 81 ≤ nx) (hR : Rg S) (hX : Rg X)  (hQ : Rg (cpPd X S) → Q none (hp Γ (cpPd X S) T U V (gset G j X)) nx) : AM Γ MX3_copyFrom (d + 1, 0, 0) [rf Γ 25, rf Γ (j * 29 + 52 + 16)] (hp Γ S T U V (gset G j X)) nx Q := by
  refine am_of (by decide) (Nat.le_of_ble_eq_true rfl) (ls := [some (rf Γ 25), some (rf Γ (j * 29 + 52 + 16))]) rfl ?_
  have hR0 := hR
  have x29 := hX 29 (by decide) 0
  refine aw_aload_n dX3_copyFrom_0 rfl ?_
  refine aw_getf fg_X3_9 dX3_copyFrom_1 (hg16 hj) rfl ?_
  refine aw_iconst dX3_copyFrom_4 ?_
  refine aw_aload_n dX3_copyFrom_5 rfl ?_
  refine aw_getf fg_X3_9 dX3_copyFrom_6 (hc25 hnx) rfl ?_
  refine aw_iconst dX3_copyFrom_9 ?_
  refine aw_aload_n dX3_copyFrom_10 rfl ?_
  refine aw_getf fg_X3_9 dX3_copyFrom_11 (hc25 hnx) rfl ?_
  refine aw_alen dX3_copyFrom_14 (hc26 hnx) rfl ?_
  refine aw_copyi qm_X3_30 qv_java_lang_System_arraycopy qt_java_lang_System_arraycopy qn_J10 dX3_copyFrom_15 (hg17 hj) (hc26 hnx) (by omega) (rmA _ _ _ (Nat.le_of_ble_eq_true rfl)) hu26 ?_
  refine aw_aload_n dX3_copyFrom_18 rfl ?_
  refine aw_getf fg_X3_15 dX3_copyFrom_19 (hg16 hj) rfl ?_
  refine aw_iconst dX3_copyFrom_22 ?_
  refine aw_aload_n dX3_copyFrom_23 rfl ?_
  refine aw_getf fg_X3_15 dX3_copyFrom_24 (hc25 hnx) rfl ?_
  refine aw_iconst dX3_copyFrom_27 ?_
  refine aw_aload_n dX3_copyFrom_28 rfl ?_
  refine aw_getf fg_X3_15 dX3_copyFrom_29 (hc25 hnx) rfl ?_
  refine aw_alen dX3_copyFrom_32 (hc27 hnx) rfl ?_
  refine aw_copyi qm_X3_30 qv_java_lang_System_arraycopy qt_java_lang_System_arraycopy qn_J10 dX3_copyFrom_33 (hg18 hj) (hc27 hnx) (by omega) (rmA _ _ _ (Nat.le_of_ble_eq_true rfl)) hu27 ?_
  refine aw_aload_n dX3_copyFrom_36 rfl ?_
  refine aw_getf fg_X3_18 dX3_copyFrom_37 (hg16 hj) rfl ?_
  refine aw_iconst dX3_copyFrom_40 ?_
  refine aw_aload_n dX3_copyFrom_41 rfl ?_
  refine aw_getf fg_X3_18 dX3_copyFrom_42 (hc25 hnx) rfl ?_
  refine aw_iconst dX3_copyFrom_45 ?_
  refine aw_aload_n dX3_copyFrom_46 rfl ?_
  refine aw_getf fg_X3_18 dX3_copyFrom_47 (hc25 hnx) rfl ?_
  refine aw_alen dX3_copyFrom_50 (hc28 hnx) rfl ?_
  refine aw_copyi qm_X3_30 qv_java_lang_System_arraycopy qt_java_lang_System_arraycopy qn_J10 dX3_copyFrom_51 (hg19 hj) (hc28 hnx) (by omega) (rmA _ _ _ (Nat.le_of_ble_eq_true rfl)) hu28 ?_
  refine aw_aload_n dX3_copyFrom_54 rfl ?_
  refine aw_getf fg_X3_21 dX3_copyFrom_55 (hg16 hj) rfl ?_
  refine aw_iconst dX3_copyFrom_58 ?_
  refine aw_aload_n dX3_copyFrom_59 rfl ?_
  refine aw_getf fg_X3_21 dX3_copyFrom_60 (hc25 hnx) rfl ?_
  refine aw_iconst dX3_copyFrom_63 ?_
  refine aw_aload_n dX3_copyFrom_64 rfl ?_
  refine aw_getf fg_X3_21 dX3_copyFrom_65 (hc25 hnx) rfl ?_
  refine aw_alen dX3_copyFrom_68 (hc29 hnx) rfl ?_
  refine aw_copyi qm_X3_30 qv_java_lang_System_arraycopy qt_java_lang_System_arraycopy qn_J10 dX3_copyFrom_69 (hg20 hj) (hc29 hnx) (by omega) (rmA _ _ _ (Nat.le_of_ble_eq_true rfl)) hu29 ?_
  refine aw_aload_n dX3_copyFrom_72 rfl ?_
  refine aw_getf fg_X3_24 dX3_copyFrom_73 (hg16 hj) rfl ?_
  refine aw_iconst dX3_copyFrom_76 ?_
  refine aw_aload_n dX3_copyFrom_77 rfl ?_
  refine aw_getf fg_X3_24 dX3_copyFrom_78 (hc25 hnx) rfl ?_
  refine aw_iconst dX3_copyFrom_81 ?_
  refine aw_aload_n dX3_copyFrom_82 rfl ?_
  refine aw_getf fg_X3_24 dX3_copyFrom_83 (hc25 hnx) rfl ?_
  refine aw_alen dX3_copyFrom_86 (hc30 hnx) rfl ?_
  refine aw_copyi qm_X3_30 qv_java_lang_System_arraycopy qt_java_lang_System_arraycopy qn_J10 dX3_copyFrom_87 (hg21 hj) (hc30 hnx) (by omega) (rmA _ _ _ (Nat.le_of_ble_eq_true rfl)) hu30 ?_
  refine aw_aload_n dX3_copyFrom_90 rfl ?_
  refine aw_getf fg_X3_27 dX3_copyFrom_91 (hg16 hj) rfl ?_
  refine aw_iconst dX3_copyFrom_94 ?_
  refine aw_aload_n dX3_copyFrom_95 rfl ?_
  refine aw_getf fg_X3_27 dX3_copyFrom_96 (hc25 hnx) rfl ?_
  refine aw_iconst dX3_copyFrom_99 ?_
  refine aw_aload_n dX3_copyFrom_100 rfl ?_
  refine aw_getf fg_X3_27 dX3_copyFrom_101 (hc25 hnx) rfl ?_
  refine aw_alen dX3_copyFrom_104 (hc31 hnx) rfl ?_
  refine aw_copyi qm_X3_30 qv_java_lang_System_arraycopy qt_java_lang_System_arraycopy qn_J10 dX3_copyFrom_105 (hg22 hj) (hc31 hnx) (by omega) (rmA _ _ _ (Nat.le_of_ble_eq_true rfl)) hu31 ?_
  replace hR := Rg.sset (Rg.sset (Rg.sset (Rg.sset (Rg.sset (Rg.sset (hR0) (f := 14) (cp_in (hX 14 (by decide)) (hR0 14 (by decide)) ((32 : Nat) : Int))) (f := 15) (cp_in (hX 15 (by decide)) (hR0 15 (by decide)) ((32 : Nat) : Int))) (f := 16) (cp_in (hX 16 (by decide)) (hR0 16 (by decide)) ((32 : Nat) : Int))) (f := 17) (cp_in (hX 17 (by decide)) (hR0 17 (by decide)) ((32 : Nat) : Int))) (f := 18) (cp_in (hX 18 (by decide)) (hR0 18 (by decide)) ((32 : Nat) : Int))) (f := 19) (cp_in (hX 19 (by decide)) (hR0 19 (by decide)) ((160 : Nat) : Int))
  refine aw_aload_n dX3_copyFrom_108 rfl ?_
  refine aw_aload_n dX3_copyFrom_109 rfl ?_
  refine aw_getf fg_X3_36 dX3_copyFrom_110 (hg16 hj) rfl ?_
  refine aw_putS fp_X3_36 dX3_copyFrom_113 (hc25 hnx) (Nat.le_of_ble_eq_true rfl) hR (by omega) hu25_29 (fun hR => ?_)
  exact aw_return dX3_copyFrom_116 rfl ⟨Nat.le_refl _, Nat.le_refl _⟩ (hQ (hX.cpPd hR0))

set_option maxHeartbeats 1000000 in
theorem c_X3_copyFromC {Γ : GT} {S T U V X : St} {G : Gw} {j : Nat} {nx d : Nat} {Q : QT} (hnx : 52 ≤ nx) (hj : j * 29 + 81 ≤ nx)  (hQ : Q none (hp Γ S T U V (gset G j (cpPd S X))) nx) : AM Γ MX3_copyFrom (d + 1, 0, 0) [rf Γ (j * 29 + 52 + 16), rf Γ 25] (hp Γ S T U V (gset G j X)) nx Q := by
  refine am_of (by decide) (Nat.le_of_ble_eq_true rfl) (ls := [some (rf Γ (j * 29 + 52 + 16)), some (rf Γ 25)]) rfl ?_
  refine aw_aload_n dX3_copyFrom_0 rfl ?_
  refine aw_getf fg_X3_9 dX3_copyFrom_1 (hc25 hnx) rfl ?_
  refine aw_iconst dX3_copyFrom_4 ?_
  refine aw_aload_n dX3_copyFrom_5 rfl ?_
  refine aw_getf fg_X3_9 dX3_copyFrom_6 (hg16 hj) rfl ?_
  refine aw_iconst dX3_copyFrom_9 ?_
  refine aw_aload_n dX3_copyFrom_10 rfl ?_
  refine aw_getf fg_X3_9 dX3_copyFrom_11 (hg16 hj) rfl ?_
  refine aw_alen dX3_copyFrom_14 (hg17 hj) rfl ?_
  refine aw_copyi qm_X3_30 qv_java_lang_System_arraycopy qt_java_lang_System_arraycopy qn_J10 dX3_copyFrom_15 (hc26 hnx) (hg17 hj) (by omega) (rmA _ _ _ (Nat.le_of_ble_eq_true rfl)) hgu17 ?_
  refine aw_aload_n dX3_copyFrom_18 rfl ?_
  refine aw_getf fg_X3_15 dX3_copyFrom_19 (hc25 hnx) rfl ?_
  refine aw_iconst dX3_copyFrom_22 ?_
  refine aw_aload_n dX3_copyFrom_23 rfl ?_
  refine aw_getf fg_X3_15 dX3_copyFrom_24 (hg16 hj) rfl ?_
  refine aw_iconst dX3_copyFrom_27 ?_
  refine aw_aload_n dX3_copyFrom_28 rfl ?_
  refine aw_getf fg_X3_15 dX3_copyFrom_29 (hg16 hj) rfl ?_
  refine aw_alen dX3_copyFrom_32 (hg18 hj) rfl ?_
  refine aw_copyi qm_X3_30 qv_java_lang_System_arraycopy qt_java_lang_System_arraycopy qn_J10 dX3_copyFrom_33 (hc27 hnx) (hg18 hj) (by omega) (rmA _ _ _ (Nat.le_of_ble_eq_true rfl)) hgu18 ?_
  refine aw_aload_n dX3_copyFrom_36 rfl ?_
  refine aw_getf fg_X3_18 dX3_copyFrom_37 (hc25 hnx) rfl ?_
  refine aw_iconst dX3_copyFrom_40 ?_
  refine aw_aload_n dX3_copyFrom_41 rfl ?_
  refine aw_getf fg_X3_18 dX3_copyFrom_42 (hg16 hj) rfl ?_
  refine aw_iconst dX3_copyFrom_45 ?_
  refine aw_aload_n dX3_copyFrom_46 rfl ?_
  refine aw_getf fg_X3_18 dX3_copyFrom_47 (hg16 hj) rfl ?_
  refine aw_alen dX3_copyFrom_50 (hg19 hj) rfl ?_
  refine aw_copyi qm_X3_30 qv_java_lang_System_arraycopy qt_java_lang_System_arraycopy qn_J10 dX3_copyFrom_51 (hc28 hnx) (hg19 hj) (by omega) (rmA _ _ _ (Nat.le_of_ble_eq_true rfl)) hgu19 ?_
  refine aw_aload_n dX3_copyFrom_54 rfl ?_
  refine aw_getf fg_X3_21 dX3_copyFrom_55 (hc25 hnx) rfl ?_
  refine aw_iconst dX3_copyFrom_58 ?_
  refine aw_aload_n dX3_copyFrom_59 rfl ?_
  refine aw_getf fg_X3_21 dX3_copyFrom_60 (hg16 hj) rfl ?_
  refine aw_iconst dX3_copyFrom_63 ?_
  refine aw_aload_n dX3_copyFrom_64 rfl ?_
  refine aw_getf fg_X3_21 dX3_copyFrom_65 (hg16 hj) rfl ?_
  refine aw_alen dX3_copyFrom_68 (hg20 hj) rfl ?_
  refine aw_copyi qm_X3_30 qv_java_lang_System_arraycopy qt_java_lang_System_arraycopy qn_J10 dX3_copyFrom_69 (hc29 hnx) (hg20 hj) (by omega) (rmA _ _ _ (Nat.le_of_ble_eq_true rfl)) hgu20 ?_
  refine aw_aload_n dX3_copyFrom_72 rfl ?_
  refine aw_getf fg_X3_24 dX3_copyFrom_73 (hc25 hnx) rfl ?_
  refine aw_iconst dX3_copyFrom_76 ?_
  refine aw_aload_n dX3_copyFrom_77 rfl ?_
  refine aw_getf fg_X3_24 dX3_copyFrom_78 (hg16 hj) rfl ?_
  refine aw_iconst dX3_copyFrom_81 ?_
  refine aw_aload_n dX3_copyFrom_82 rfl ?_
  refine aw_getf fg_X3_24 dX3_copyFrom_83 (hg16 hj) rfl ?_
  refine aw_alen dX3_copyFrom_86 (hg21 hj) rfl ?_
  refine aw_copyi qm_X3_30 qv_java_lang_System_arraycopy qt_java_lang_System_arraycopy qn_J10 dX3_copyFrom_87 (hc30 hnx) (hg21 hj) (by omega) (rmA _ _ _ (Nat.le_of_ble_eq_true rfl)) hgu21 ?_
  refine aw_aload_n dX3_copyFrom_90 rfl ?_
  refine aw_getf fg_X3_27 dX3_copyFrom_91 (hc25 hnx) rfl ?_
  refine aw_iconst dX3_copyFrom_94 ?_
  refine aw_aload_n dX3_copyFrom_95 rfl ?_
  refine aw_getf fg_X3_27 dX3_copyFrom_96 (hg16 hj) rfl ?_
  refine aw_iconst dX3_copyFrom_99 ?_
  refine aw_aload_n dX3_copyFrom_100 rfl ?_
  refine aw_getf fg_X3_27 dX3_copyFrom_101 (hg16 hj) rfl ?_
  refine aw_alen dX3_copyFrom_104 (hg22 hj) rfl ?_
  refine aw_copyi qm_X3_30 qv_java_lang_System_arraycopy qt_java_lang_System_arraycopy qn_J10 dX3_copyFrom_105 (hc31 hnx) (hg22 hj) (by omega) (rmA _ _ _ (Nat.le_of_ble_eq_true rfl)) hgu22 ?_
  refine aw_aload_n dX3_copyFrom_108 rfl ?_
  refine aw_aload_n dX3_copyFrom_109 rfl ?_
  refine aw_getf fg_X3_36 dX3_copyFrom_110 (hc25 hnx) rfl ?_
  refine aw_putf fp_X3_36 dX3_copyFrom_113 (hg16 hj) (Nat.le_of_ble_eq_true rfl) hgu16_29 ?_
  exact aw_return dX3_copyFrom_116 rfl ⟨Nat.le_refl _, Nat.le_refl _⟩ hQ

set_option maxHeartbeats 1000000 in
theorem c_X9_copyFromB {Γ : GT} {S T U V X : St} {G : Gw} {j : Nat} {nx d : Nat} {Q : QT} (hnx : 52 ≤ nx) (hj : j * 29 + 81 ≤ nx) (hR : Rg S) (hX : Rg X)  (hQ : Rg (cpYr X S) → Q none (hp Γ (cpYr X S) T U V (gset G j X)) nx) : AM Γ MX9_copyFrom (d + 1, 0, 0) [rf Γ 32, rf Γ (j * 29 + 52 + 23)] (hp Γ S T U V (gset G j X)) nx Q := by
  refine am_of (by decide) (Nat.le_of_ble_eq_true rfl) (ls := [some (rf Γ 32), some (rf Γ (j * 29 + 52 + 23))]) rfl ?_
  have hR0 := hR
  refine aw_aload_n dX9_copyFrom_0 rfl ?_
  refine aw_getf fg_X9_9 dX9_copyFrom_1 (hg23 hj) rfl ?_
  refine aw_iconst dX9_copyFrom_4 ?_
  refine aw_aload_n dX9_copyFrom_5 rfl ?_
  refine aw_getf fg_X9_9 dX9_copyFrom_6 (hc32 hnx) rfl ?_
  refine aw_iconst dX9_copyFrom_9 ?_
  refine aw_aload_n dX9_copyFrom_10 rfl ?_
  refine aw_getf fg_X9_9 dX9_copyFrom_11 (hc32 hnx) rfl ?_
  refine aw_alen dX9_copyFrom_14 (hc33 hnx) rfl ?_
  refine aw_copyi qm_X9_27 qv_java_lang_System_arraycopy qt_java_lang_System_arraycopy qn_J10 dX9_copyFrom_15 (hg24 hj) (hc33 hnx) (by omega) (rmA _ _ _ (Nat.le_of_ble_eq_true rfl)) hu33 ?_
  refine aw_aload_n dX9_copyFrom_18 rfl ?_
  refine aw_getf fg_X9_15 dX9_copyFrom_19 (hg23 hj) rfl ?_
  refine aw_iconst dX9_copyFrom_22 ?_
  refine aw_aload_n dX9_copyFrom_23 rfl ?_
  refine aw_getf fg_X9_15 dX9_copyFrom_24 (hc32 hnx) rfl ?_
  refine aw_iconst dX9_copyFrom_27 ?_
  refine aw_aload_n dX9_copyFrom_28 rfl ?_
  refine aw_getf fg_X9_15 dX9_copyFrom_29 (hc32 hnx) rfl ?_
  refine aw_alen dX9_copyFrom_32 (hc34 hnx) rfl ?_
  refine aw_copyi qm_X9_27 qv_java_lang_System_arraycopy qt_java_lang_System_arraycopy qn_J10 dX9_copyFrom_33 (hg25 hj) (hc34 hnx) (by omega) (rmA _ _ _ (Nat.le_of_ble_eq_true rfl)) hu34 ?_
  refine aw_aload_n dX9_copyFrom_36 rfl ?_
  refine aw_getf fg_X9_18 dX9_copyFrom_37 (hg23 hj) rfl ?_
  refine aw_iconst dX9_copyFrom_40 ?_
  refine aw_aload_n dX9_copyFrom_41 rfl ?_
  refine aw_getf fg_X9_18 dX9_copyFrom_42 (hc32 hnx) rfl ?_
  refine aw_iconst dX9_copyFrom_45 ?_
  refine aw_aload_n dX9_copyFrom_46 rfl ?_
  refine aw_getf fg_X9_18 dX9_copyFrom_47 (hc32 hnx) rfl ?_
  refine aw_alen dX9_copyFrom_50 (hc35 hnx) rfl ?_
  refine aw_copyi qm_X9_27 qv_java_lang_System_arraycopy qt_java_lang_System_arraycopy qn_J10 dX9_copyFrom_51 (hg26 hj) (hc35 hnx) (by omega) (rmA _ _ _ (Nat.le_of_ble_eq_true rfl)) hu35 ?_
  exact aw_return dX9_copyFrom_54 rfl ⟨Nat.le_refl _, Nat.le_refl _⟩ (hQ (hX.cpYr hR0))

set_option maxHeartbeats 1000000 in
theorem c_X9_copyFromC {Γ : GT} {S T U V X : St} {G : Gw} {j : Nat} {nx d : Nat} {Q : QT} (hnx : 52 ≤ nx) (hj : j * 29 + 81 ≤ nx)  (hQ : Q none (hp Γ S T U V (gset G j (cpYr S X))) nx) : AM Γ MX9_copyFrom (d + 1, 0, 0) [rf Γ (j * 29 + 52 + 23), rf Γ 32] (hp Γ S T U V (gset G j X)) nx Q := by
  refine am_of (by decide) (Nat.le_of_ble_eq_true rfl) (ls := [some (rf Γ (j * 29 + 52 + 23)), some (rf Γ 32)]) rfl ?_
  refine aw_aload_n dX9_copyFrom_0 rfl ?_
  refine aw_getf fg_X9_9 dX9_copyFrom_1 (hc32 hnx) rfl ?_
  refine aw_iconst dX9_copyFrom_4 ?_
  refine aw_aload_n dX9_copyFrom_5 rfl ?_
  refine aw_getf fg_X9_9 dX9_copyFrom_6 (hg23 hj) rfl ?_
  refine aw_iconst dX9_copyFrom_9 ?_
  refine aw_aload_n dX9_copyFrom_10 rfl ?_
  refine aw_getf fg_X9_9 dX9_copyFrom_11 (hg23 hj) rfl ?_
  refine aw_alen dX9_copyFrom_14 (hg24 hj) rfl ?_
  refine aw_copyi qm_X9_27 qv_java_lang_System_arraycopy qt_java_lang_System_arraycopy qn_J10 dX9_copyFrom_15 (hc33 hnx) (hg24 hj) (by omega) (rmA _ _ _ (Nat.le_of_ble_eq_true rfl)) hgu24 ?_
  refine aw_aload_n dX9_copyFrom_18 rfl ?_
  refine aw_getf fg_X9_15 dX9_copyFrom_19 (hc32 hnx) rfl ?_
  refine aw_iconst dX9_copyFrom_22 ?_
  refine aw_aload_n dX9_copyFrom_23 rfl ?_
  refine aw_getf fg_X9_15 dX9_copyFrom_24 (hg23 hj) rfl ?_
  refine aw_iconst dX9_copyFrom_27 ?_
  refine aw_aload_n dX9_copyFrom_28 rfl ?_
  refine aw_getf fg_X9_15 dX9_copyFrom_29 (hg23 hj) rfl ?_
  refine aw_alen dX9_copyFrom_32 (hg25 hj) rfl ?_
  refine aw_copyi qm_X9_27 qv_java_lang_System_arraycopy qt_java_lang_System_arraycopy qn_J10 dX9_copyFrom_33 (hc34 hnx) (hg25 hj) (by omega) (rmA _ _ _ (Nat.le_of_ble_eq_true rfl)) hgu25 ?_
  refine aw_aload_n dX9_copyFrom_36 rfl ?_
  refine aw_getf fg_X9_18 dX9_copyFrom_37 (hc32 hnx) rfl ?_
  refine aw_iconst dX9_copyFrom_40 ?_
  refine aw_aload_n dX9_copyFrom_41 rfl ?_
  refine aw_getf fg_X9_18 dX9_copyFrom_42 (hg23 hj) rfl ?_
  refine aw_iconst dX9_copyFrom_45 ?_
  refine aw_aload_n dX9_copyFrom_46 rfl ?_
  refine aw_getf fg_X9_18 dX9_copyFrom_47 (hg23 hj) rfl ?_
  refine aw_alen dX9_copyFrom_50 (hg26 hj) rfl ?_
  refine aw_copyi qm_X9_27 qv_java_lang_System_arraycopy qt_java_lang_System_arraycopy qn_J10 dX9_copyFrom_51 (hc35 hnx) (hg26 hj) (by omega) (rmA _ _ _ (Nat.le_of_ble_eq_true rfl)) hgu26 ?_
  exact aw_return dX9_copyFrom_54 rfl ⟨Nat.le_refl _, Nat.le_refl _⟩ hQ


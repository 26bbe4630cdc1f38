/-! an act is remembered -/
def Rem (U U' : St) (G G' : Gw) (S : St) (nx nx' : Nat) : Prop := ∃ (j : Nat) (X : St), j * 29 + 81 ≤ nx' ∧ G' = gset G j (cpSt S X) ∧ U' = u0 (u0 (u1 U 3 (U 16 0) ((j * 29 + 52 : Nat) : Int)) 16 ((U 16 0 + 1) % 10)) 17 (min (U 17 0 + 1) 10) ∧ ((U 3 (U 16 0) = ((j * 29 + 52 : Nat) : Int) ∧ nx' = nx) ∨ (U 3 (U 16 0) < 0 ∧ nx = j * 29 + 52 ∧ nx' = nx + 29))
set_option maxHeartbeats 1000000 in
theorem rem_tail {Γ : GT} {S T U V X : St} {G : Gw} {nx d j a b : Nat} {Q : QT} (hnx : 52 ≤ nx) (hj : j * 29 + 81 ≤ nx) (hk : a ≤ 29 ∧ b ≤ 1248) (hz : 0 ≤ S 28 0 ∧ S 28 0 ≤ 60) (ht : 0 ≤ U 16 0 ∧ U 16 0 < 10) (hm : 0 ≤ U 17 0 ∧ U 17 0 ≤ 10) (hQ : Q none (hp Γ S T (u0 (u0 U 16 ((U 16 0 + 1) % 10)) 17 (min (U 17 0 + 1) 10)) V (gset G j (cpSt S X))) nx) : AW Γ MX0_remember (rmm (d + 4, 29, 1248)) (MF Γ Q (d + 4, 29, 1248)) (a, b) 32 [some (rf Γ 38), some (rf Γ 9), some (rf Γ (j * 29 + 52 + 0))] [] (hp Γ S T U V (gset G j X)) nx := by
  refine aw_aload_n dX0_remember_32 rfl ?_
  refine aw_aload_n dX0_remember_33 rfl ?_
  refine aw_callV (As := [_]) (ρ := (_, 0, 0)) (kn' := (a, b)) cv_X0_22 dX0_remember_34 rfl rfl (hg0 hj) rfl rfl (Nat.le_of_ble_eq_true rfl) (rmR _ _ _) hk rfl (c_X7_copyFromC hnx hj hz ?_)
  refine aw_aload_n dX0_remember_37 rfl ?_
  refine aw_aload_n dX0_remember_38 rfl ?_
  refine aw_getf fg_X0_17 dX0_remember_39 (hc38 hnx) rfl ?_
  refine aw_iconst dX0_remember_42 ?_
  refine aw_iadd dX0_remember_43 ?_
  refine aw_bipush dX0_remember_44 rfl ?_
  refine aw_irem dX0_remember_46 (by omega) (by omega) ?_
  refine aw_putU fp_X0_17 dX0_remember_47 (hc38 hnx) (Nat.le_of_ble_eq_true rfl) hu38_16 ?_
  refine aw_aload_n dX0_remember_50 rfl ?_
  refine aw_aload_n dX0_remember_51 rfl ?_
  refine aw_getf fg_X0_26 dX0_remember_52 (hc38 hnx) rfl ?_
  refine aw_sv (a := U 17 0) rfl ?_
  refine aw_iconst dX0_remember_55 ?_
  refine aw_iadd dX0_remember_56 ?_
  refine aw_bipush dX0_remember_57 rfl ?_
  refine aw_mmin qm_X0_29 dX0_remember_59 (by omega) (rmN13 _ _ _ (Nat.le_of_ble_eq_true rfl)) hk (fun r h => ?_)
  subst h
  refine aw_putU fp_X0_26 dX0_remember_62 (hc38 hnx) (Nat.le_of_ble_eq_true rfl) hu38_17 ?_
  exact aw_return dX0_remember_65 rfl hk hQ
set_option maxHeartbeats 1000000 in
theorem c_X0_remember {Γ : GT} {S T U V : St} {G : Gw} {nx d : Nat} {Q : QT} (hnx : 52 ≤ nx) (hz : 0 ≤ S 28 0 ∧ S 28 0 ≤ 60) (ht : 0 ≤ U 16 0 ∧ U 16 0 < 10) (hm : 0 ≤ U 17 0 ∧ U 17 0 ≤ 10) (hW : (U 3 (U 16 0) < 0 ∧ ∃ g : Nat, nx = g * 29 + 52) ∨ ∃ j : Nat, U 3 (U 16 0) = ((j * 29 + 52 : Nat) : Int) ∧ j * 29 + 81 ≤ nx) (hQ : ∀ U' G' nx', 52 ≤ nx' → Rem U U' G G' S nx nx' → Q none (hp Γ S T U' V G') nx') : AM Γ MX0_remember (d + 4, 29, 1248) [rf Γ 38, rf Γ 9] (hp Γ S T U V G) nx Q := by
  refine am_of (by decide) (Nat.le_of_ble_eq_true rfl) (ls := [some (rf Γ 38), some (rf Γ 9), none]) rfl ?_
  refine aw_aload_n dX0_remember_0 rfl ?_
  refine aw_getf fg_X0_11 dX0_remember_1 (hc38 hnx) rfl ?_
  refine aw_aload_n dX0_remember_4 rfl ?_
  refine aw_getf fg_X0_17 dX0_remember_5 (hc38 hnx) rfl ?_
  rcases hW with ⟨h0, g, hg⟩ | ⟨j, h0, hj⟩
  · subst hg
    refine aw_aaldN dX0_remember_8 (hc39 hnx) (by omega) (by decide) h0 ?_
    refine aw_astore_nN (ls' := [some (rf Γ 38), some (rf Γ 9), some .null]) dX0_remember_9 (by decide) rfl ?_
    refine aw_aload_nN dX0_remember_10 rfl ?_
    refine aw_ifnonnullN dX0_remember_11 ?_
    refine aw_new (kn' := (1, 7)) nb_X0_9 dX0_remember_14 (Nat.le_of_ble_eq_true rfl) (Nat.le_of_ble_eq_true rfl) rfl ?_
    refine aw_dup dX0_remember_17 rfl ?_
    refine aw_callIN (As := []) (ρ := (_, 28, 1241)) (kn' := (29, 1248)) ci_X0_21 dX0_remember_18 rfl rfl (Nat.le_of_ble_eq_true rfl) (rmR _ _ _) ⟨Nat.le_of_ble_eq_true rfl, Nat.le_of_ble_eq_true rfl⟩ rfl (c_X7_init (o := g * 29 + 52) ⟨by omega, up_eq _ _ _⟩ (fun h1 a1 f1 => ?_))
    have ecg : ∀ k, k < g * 29 + 52 + 29 → hp Γ S T U V (gset G g (fun _ _ => 0)) k = h1 k := by
      intro k hk
      by_cases hk2 : k < g * 29 + 52
      · rw [a1 k hk2, up_ne (by omega)]
        by_cases h52 : k < 52
        · exact hp_low _ _ k h52
        · obtain ⟨n, rfl⟩ : ∃ n, k = n + 52 := ⟨k - 52, by omega⟩
          show stC Γ (n / 29 * 29 + 52) (gset G g (fun _ _ => 0) (n / 29)) (n % 29) = stC Γ (n / 29 * 29 + 52) (G (n / 29)) (n % 29)
          rw [gset_ne G _ (by omega)]
      · obtain ⟨q, rfl⟩ : ∃ q, k = g * 29 + 52 + q := ⟨k - (g * 29 + 52), by omega⟩
        rw [f1 q (by omega), hp_slotX q (by omega)]
    refine aw_cg ecg ?_
    refine aw_astore_n (ls' := [some (rf Γ 38), some (rf Γ 9), some (rf Γ (g * 29 + 52 + 0))]) dX0_remember_21 (by decide) rfl ?_
    refine aw_aload_n dX0_remember_22 rfl ?_
    refine aw_getf fg_X0_11 dX0_remember_23 (hc38 (by omega)) rfl ?_
    refine aw_aload_n dX0_remember_26 rfl ?_
    refine aw_getf fg_X0_17 dX0_remember_27 (hc38 (by omega)) rfl ?_
    refine aw_aload_n dX0_remember_30 rfl ?_
    refine aw_aast dX0_remember_31 (hc39 (by omega)) (hg0 (j := g) (by omega)) (by omega) (by decide) hu39 ?_
    refine rem_tail (U := u1 U 3 (U 16 0) ((g * 29 + 52 : Nat) : Int)) (by omega) (by omega) ⟨Nat.le_refl _, Nat.le_refl _⟩ hz ht hm ?_
    exact hQ _ _ _ (by omega) ⟨g, (fun _ _ => 0), by omega, rfl, rfl, Or.inr ⟨h0, rfl, rfl⟩⟩
  · refine aw_aaldR dX0_remember_8 (hc39 hnx) (by omega) (by decide) (by omega) ?_
    rw [h0, Int.toNat_natCast]
    refine aw_astore_n (ls' := [some (rf Γ 38), some (rf Γ 9), some (rf Γ (j * 29 + 52 + 0))]) dX0_remember_9 (by decide) rfl ?_
    refine aw_aload_n dX0_remember_10 rfl ?_
    refine aw_ifnonnull (tgt := 32) dX0_remember_11 rfl ?_
    have eG : hp Γ S T U V G = hp Γ S T U V (gset G j (G j)) := by rw [gset_self]
    rw [eG]
    refine rem_tail hnx hj ⟨Nat.zero_le _, Nat.zero_le _⟩ hz ht hm ?_
    refine hQ _ _ _ hnx ⟨j, G j, hj, rfl, ?_, Or.inl ⟨h0, rfl⟩⟩
    rw [← h0, u1_self]


/-! days, what comes without a licence, undone, kept, brought back, begun anew -/
theorem day_25 (S : St) : dayS S 25 0 = S 25 0 + 1 := by
  have e : dyB S 25 0 = S 25 0 + 1 := by rw [dyB_ne S (by decide) (by decide) (by decide) (by decide)]; rfl
  unfold dayS; split
  · exact e
  · exact e
theorem day_26 (S : St) : dayS S 26 = S 26 := by
  have e : dyB S 26 = S 26 := dyB_f S 26 (by decide) (by decide) (by decide) (by decide) (by decide) (by decide) (by decide) (by decide) (by decide)
  unfold dayS; split
  · funext j; exact congrFun e j
  · exact e
theorem Inv.days {c : Int} {S : St} (h : Inv c S) (hk : 0 < S 26 0) : ∀ k : Nat, S 25 0 + k ≤ 3600 → Inv c (daysS S k) ∧ daysS S k 25 0 = S 25 0 + k ∧ daysS S k 26 0 = S 26 0
  | 0, _ => ⟨h, by show S 25 0 = S 25 0 + 0; omega, rfl⟩
  | k + 1, hk2 => by
    have q := Inv.days h hk k (by omega)
    refine ⟨q.1.day (by omega) (by omega), ?_, ?_⟩
    · show dayS (daysS S k) 25 0 = _; rw [day_25]; omega
    · show dayS (daysS S k) 26 0 = _; rw [day_26]; exact q.2.2
def dueD (S : St) (n v : Int) : UInt64 := FP.ddiv (FP.dmul (FP.i2d (I (n * v))) (FP.i2d (I (S 0 4)))) 4652007308841189376
def owB (S : St) (i n v : Int) : Int := (FP.dadd (L (S 23 i)).toUInt64 (dueD S n v)).toInt64.toInt
def exS (S : St) (i o n v : Int) : St := u1 (addS (u1 (u1 S 23 i (owB S i n v)) 20 (4 * i + o) (S 20 (4 * i + o) + n)) o 6 n) 24 4 (S 24 4 + n)
def rExc (S : St) (i o n v : Int) : Int := if ¬ ((isI S i ∧ isO S o) ∧ isN n ∧ 1 ≤ v ∧ v ≤ 9999) then -1 else 0
theorem dmD {n v t : Int} (hn : 1 ≤ n ∧ n ≤ 99999) (hv : 1 ≤ v ∧ v ≤ 9999) (ht : 0 ≤ t ∧ t ≤ 2000) : Dn 1023 1067 (FP.dmul (FP.i2d (I (n * v))) (FP.i2d (I t))) := by
  have m := mul_rg (a := n) (b := v) (A := 99999) (B := 9999) (by omega) (by omega)
  have a1 := Dn_i2d (v := n * v) (by omega) (by omega)
  have a2 := i2d_up (v := n * v) (j := 30) (by omega) (by omega) (by omega)
  have b1 := Dn_i2d (v := t) (by omega) (by omega)
  have b2 := i2d_up (v := t) (j := 11) (by omega) (by omega) (by omega)
  have a : Dn 1023 1054 (FP.i2d (I (n * v))) := by rcases a1 with a1 | a1; exact Or.inl a1; right; omega
  have b : Dn 1023 1035 (FP.i2d (I t)) := by rcases b1 with b1 | b1; exact Or.inl b1; right; omega
  exact a.mul b (by omega) (by omega) (by omega)
theorem dueDn {S : St} {n v : Int} (hn : 1 ≤ n ∧ n ≤ 99999) (hv : 1 ≤ v ∧ v ≤ 9999) (ht : 0 ≤ S 0 4 ∧ S 0 4 ≤ 2000) : Dn 1013 1059 (dueD S n v) :=
  (dmD hn hv ht).div (lb := 1032) (hb := 1033) (by decide) (by omega) (by omega) (by omega)
theorem ow_add {c x : Int} {y : UInt64} (hc : 0 ≤ c ∧ c ≤ 511) (hx : OW c x) (hy : Dn 1013 1059 y) : OW (c + 1) (FP.dadd (L x).toUInt64 y).toInt64.toInt ∧ Dn 1 2047 (FP.dadd (L x).toUInt64 y) := by
  unfold OW at hx ⊢
  have hl : (L x).toUInt64.toNat = x.toNat := LU_toNat (by omega)
  have hyl := hy.lt (by omega)
  have s1 := dadd_ge (a := (L x).toUInt64) (b := y) (by omega) (by omega)
  have s2 := dadd_ge (a := y) (b := (L x).toUInt64) (by omega) (by omega)
  have s3 := dadd_lt (a := (L x).toUInt64) (b := y) (K := (1059 + c).toNat) (by omega) (by omega) (by omega)
  rw [show FP.dadd y (L x).toUInt64 = FP.dadd (L x).toUInt64 y from FP.Core.dadd_comm _ _] at s2
  have e : (FP.dadd (L x).toUInt64 y).toInt64.toInt = ((FP.dadd (L x).toUInt64 y).toNat : Int) := by
    rw [UI_toInt s1.2, L_toInt (by omega)]
  by_cases z : x = 0 ∧ y = 0
  · have e0 : FP.dadd (L x).toUInt64 y = 0 := by rw [z.1, z.2]; decide +kernel
    rw [e0]
    exact ⟨⟨by decide, by show (0 : Int) < _; omega, Or.inl (by decide)⟩, Or.inl rfl⟩
  · rw [e]
    have low : 4503599627370496 * 1000 ≤ (FP.dadd (L x).toUInt64 y).toNat := by
      by_cases zx : x = 0
      · rcases hy with hy | hy
        · exact absurd ⟨zx, hy⟩ z
        · omega
      · omega
    exact ⟨⟨by omega, by omega, Or.inr (by omega)⟩, Or.inr (by omega)⟩

set_option maxHeartbeats 1000000 in
theorem c_X10_days {Γ : GT} {S T U V : St} {G : Gw} {nx d : Nat} {Q : QT} (hnx : 52 ≤ nx) {n : Int} {c : Int} (hI : Inv c S) (hn : inI n) (hW : RW U nx) (hN : ∀ r, r = rDays S n → r ≠ 0 → Q (some (vi r)) (hp Γ S T U V G) nx) (hQ : rDays S n = 0 → ∀ U2 G2 nx2, 52 ≤ nx2 → Rem U U2 G G2 S nx nx2 → Q (some (vi (daysN S n.toNat))) (hp Γ (daysS S n.toNat) T U2 V G2) nx2) : AM Γ MX10_days (d + 7, 29, 1248) [rf Γ 0, vi n] (hp Γ S T U V G) nx Q := by
  refine am_of (by decide) (Nat.le_of_ble_eq_true rfl) (ls := [some (rf Γ 0), some _, none, none]) rfl ?_
  have hR := hI.R
  have i1 := hI.i1
  have hz : 0 ≤ S 28 0 ∧ S 28 0 ≤ 60 := i1.2.2.1
  have hkS : nS S = (S 28 0).toNat := rfl
  have hkI : nIm S = (S 27 0).toNat := rfl
  have hkO : nOr S = (S 26 0).toNat := rfl
  refine aw_aload_n dX10_days_0 rfl ?_
  refine aw_getf fg_X10_26 dX10_days_1 (hc0 hnx) rfl ?_
  refine aw_callV (As := []) (ρ := (_, 0, 0)) (kn' := (0, 0)) cv_X10_181 dX10_days_4 rfl rfl (hc9 hnx) rfl rfl (Nat.le_of_ble_eq_true rfl) (rmR _ _ _) ⟨Nat.le_of_ble_eq_true rfl, Nat.le_of_ble_eq_true rfl⟩ rfl (c_X7_hasScheme hnx hR (fun r4 h4 => ?_))
  rcases h4 with ⟨rfl, h4⟩ | ⟨rfl, h4⟩
  · skip
    refine aw_if_eq (tgt := 17) dX10_days_7 rfl (by decide) (fun c => absurd c (by decide)) (fun _ => ?_)
    refine aw_iload_n dX10_days_10 rfl ?_
    refine aw_callS (As := [_]) (ρ := (_, 0, 0)) (kn' := (0, 0)) cs_X10_185 dX10_days_11 rfl rfl (Nat.le_of_ble_eq_true rfl) (rmR _ _ _) ⟨Nat.le_of_ble_eq_true rfl, Nat.le_of_ble_eq_true rfl⟩ rfl (c_X10_isDays hnx (by omega) (fun r11 h11 => ?_))
    rcases h11 with ⟨rfl, h11⟩ | ⟨rfl, h11⟩
    · skip
      refine aw_if_ne (tgt := 19) dX10_days_14 rfl (by decide) (fun _ => ?_) (fun c => absurd c (by decide))
      refine aw_aload_n dX10_days_19 rfl ?_
      refine aw_getf fg_X10_26 dX10_days_20 (hc0 hnx) rfl ?_
      refine aw_getf fg_X10_142 dX10_days_23 (hc9 hnx) rfl ?_
      refine aw_iload_n dX10_days_26 rfl ?_
      refine aw_iadd dX10_days_27 ?_
      refine aw_sipush dX10_days_28 rfl ?_
      refine aw_icmp_le (tgt := 37) dX10_days_31 rfl (by omega) (fun c31 => ?_) (fun c31 => ?_)
      · skip
        have acc : rDays S n = 0 := by simp only [rDays]; (repeat' split) <;> omega
        refine aw_aload_n dX10_days_37 rfl ?_
        refine aw_getf fg_X10_33 dX10_days_38 (hc0 hnx) rfl ?_
        refine aw_aload_n dX10_days_41 rfl ?_
        refine aw_getf fg_X10_26 dX10_days_42 (hc0 hnx) rfl ?_
        refine aw_callV (As := [_]) (ρ := (_, 29, 1248)) (kn' := (29, 1248)) cv_X10_99 dX10_days_45 rfl rfl (hc38 hnx) rfl rfl (Nat.le_of_ble_eq_true rfl) (rmR _ _ _) ⟨Nat.le_of_ble_eq_true rfl, Nat.le_of_ble_eq_true rfl⟩ rfl (c_X0_remember hnx hz hW.1 hW.2.1 hW.2.2 (fun U2 G2 nx2 hnx hRem => ?_))
        refine aw_iconst dX10_days_48 ?_
        refine aw_istore_n (ls' := [some (rf Γ 0), some _, some _, none]) dX10_days_49 (by decide) rfl ?_
        refine aw_iconst dX10_days_50 ?_
        refine aw_istore_n (ls' := [some (rf Γ 0), some _, some _, some _]) dX10_days_51 (by decide) rfl ?_
        refine aw_hp (S' := daysS S 0) rfl rfl rfl rfl rfl ?_
        refine loopN (n.toNat) (P := fun k => ∀ (x : Int) , x = daysN S k →  AW Γ MX10_days _ _ (29, 1248) 52 [some (rf Γ 0), some (vi n), some (vi x), some (vi (k : Int))] [] (hp Γ (daysS S k) T U2 V G2) nx2) (fun k hk ih => ?_) 0 (Nat.zero_le _) _ rfl
        intro x i52_0
        refine aw_iload_n dX10_days_52 rfl ?_
        refine aw_iload_n dX10_days_53 rfl ?_
        refine aw_icmp_ge (tgt := 73) dX10_days_54 rfl (by omega) (fun c54 => ?_) (fun c54 => ?_)
        · skip
          obtain rfl : k = n.toNat := by omega
          subst i52_0
          refine aw_iload_n dX10_days_73 rfl ?_
          exact aw_ireturn dX10_days_74 rfl rfl ⟨Nat.le_of_ble_eq_true rfl, Nat.le_of_ble_eq_true rfl⟩ (hQ acc _ _ _ hnx hRem)
        · skip
          have hD := hI.days (by omega) k (by omega)
          have hI2 := hD.1
          refine aw_iload_n dX10_days_57 rfl ?_
          refine aw_aload_n dX10_days_58 rfl ?_
          refine aw_getf fg_X10_26 dX10_days_59 (hc0 hnx) rfl ?_
          refine aw_callV (As := []) (ρ := (_, 0, 0)) (kn' := (29, 1248)) cv_X10_188 dX10_days_62 rfl rfl (hc9 hnx) rfl rfl (Nat.le_of_ble_eq_true rfl) (rmR _ _ _) ⟨Nat.le_of_ble_eq_true rfl, Nat.le_of_ble_eq_true rfl⟩ rfl (c_X7_passDay hnx hI2 (by omega) (by omega) (fun r62 h62 hR => ?_))
          refine aw_iadd dX10_days_65 ?_
          refine aw_nmI (fun x2_66 hx2_66 => ?_)
          refine aw_istore_n (ls' := [some (rf Γ 0), some _, some _, some _]) dX10_days_66 (by decide) rfl ?_
          refine aw_iinc (ls' := [some (rf Γ 0), some _, some _, some _]) dX10_days_67 rfl (by decide) rfl ?_
          refine aw_goto (tgt := 52) dX10_days_70 rfl ?_
          exact ih (by omega) x2_66  (by subst i52_0; subst hx2_66; subst h62; rfl)
      · skip
        refine aw_bipush dX10_days_34 rfl ?_
        exact aw_ireturn dX10_days_36 rfl rfl ⟨Nat.le_of_ble_eq_true rfl, Nat.le_of_ble_eq_true rfl⟩ (hN _ (by simp only [rDays]; (repeat' split) <;> omega) (by omega))
    · skip
      refine aw_if_ne (tgt := 19) dX10_days_14 rfl (by decide) (fun c => absurd c (by decide)) (fun _ => ?_)
      refine aw_iconst dX10_days_17 ?_
      exact aw_ireturn dX10_days_18 rfl rfl ⟨Nat.le_of_ble_eq_true rfl, Nat.le_of_ble_eq_true rfl⟩ (hN _ (by simp only [rDays]; (repeat' split) <;> omega) (by omega))
  · skip
    refine aw_if_eq (tgt := 17) dX10_days_7 rfl (by decide) (fun _ => ?_) (fun c => absurd c (by decide))
    refine aw_iconst dX10_days_17 ?_
    exact aw_ireturn dX10_days_18 rfl rfl ⟨Nat.le_of_ble_eq_true rfl, Nat.le_of_ble_eq_true rfl⟩ (hN _ (by simp only [rDays]; (repeat' split) <;> omega) (by omega))

set_option maxHeartbeats 1000000 in
theorem c_X7_importWithout {Γ : GT} {S T U V : St} {G : Gw} {nx d : Nat} {Q : QT} (hnx : 52 ≤ nx) {i j n v : Int} {c : Int} (hI : Inv c S) (hi : 0 ≤ i ∧ i < S 27 0) (hj : 0 ≤ j ∧ j < S 26 0) (hn : 1 ≤ n ∧ n ≤ 99999) (hv : 1 ≤ v ∧ v ≤ 9999) (hc : c ≤ 511) (hQ : Rg (exS S i j n v) → Q (some (.double (dueD S n v))) (hp Γ (exS S i j n v) T U V G) nx) : AM Γ MX7_importWithout (d + 1, 0, 0) [rf Γ 9, vi i, vi j, vi n, vi v] (hp Γ S T U V G) nx Q := by
  refine am_of (by decide) (Nat.le_of_ble_eq_true rfl) (ls := [some (rf Γ 9), some _, some _, some _, some _, none, none]) rfl ?_
  have hR := hI.R
  have i1 := hI.i1
  have hz : 0 ≤ S 28 0 ∧ S 28 0 ≤ 60 := i1.2.2.1
  have hkS : nS S = (S 28 0).toNat := rfl
  have hkI : nIm S = (S 27 0).toNat := rfl
  have hkO : nOr S = (S 26 0).toNat := rfl
  have t := hI.tm (hI.pos7 hi)
  have dm := dmD hn hv (by omega : 0 ≤ S 0 4 ∧ S 0 4 ≤ 2000)
  have du := dueDn (S := S) hn hv (by omega)
  have ow := ow_add (c := c) (y := dueD S n v) ⟨hI.cc.1, hc⟩ (hI.i11 i (by omega) (by omega)) du
  have y1 := (hI.yr (k := 4 * i + j) (by omega)).1 (by omega)
  have fg := hI.fg hj
  have i9 := hI.i9
  unfold inv9 at i9
  have cc := hI.cc
  refine aw_iload_n dX7_importWithout_0 rfl ?_
  refine aw_iload dX7_importWithout_1 rfl ?_
  refine aw_imul dX7_importWithout_3 ?_
  refine aw_i2d dX7_importWithout_4 ?_
  refine aw_aload_n dX7_importWithout_5 rfl ?_
  refine aw_getf fg_X7_12 dX7_importWithout_6 (hc9 hnx) rfl ?_
  refine aw_getf fg_X7_132 dX7_importWithout_9 (hc10 hnx) rfl ?_
  refine aw_iconst dX7_importWithout_12 ?_
  refine aw_ialdr dX7_importWithout_13 (hc11 hnx) (by omega) (by decide) (hR 0 (by decide)) (fun q13 => ?_)
  refine aw_i2d dX7_importWithout_14 ?_
  refine aw_dmul dX7_importWithout_15 (dm.n64 (by omega)) ?_
  refine aw_ldc2d dX7_importWithout_16 qk_X7_230 ?_
  refine aw_ddiv dX7_importWithout_19 (du.n64 (by omega)) ?_
  refine aw_sd (a := dueD S n v) rfl ?_
  refine aw_nmD (fun x5_20 hx5_20 => ?_)
  refine aw_dstore (ls' := [some (rf Γ 9), some _, some _, some _, some _, some _, none]) dX7_importWithout_20 (by decide) rfl ?_
  subst hx5_20
  refine aw_aload_n dX7_importWithout_22 rfl ?_
  refine aw_getf fg_X7_39 dX7_importWithout_23 (hc9 hnx) rfl ?_
  refine aw_iload_n dX7_importWithout_26 rfl ?_
  refine aw_aload_n dX7_importWithout_27 rfl ?_
  refine aw_getf fg_X7_39 dX7_importWithout_28 (hc9 hnx) rfl ?_
  refine aw_iload_n dX7_importWithout_31 rfl ?_
  refine aw_dald dX7_importWithout_32 (hc36 hnx) (by omega) (by decide) ?_
  refine aw_dload dX7_importWithout_33 rfl ?_
  refine aw_dadd dX7_importWithout_35 (ow.2.n64 (by omega)) ?_
  refine aw_dast dX7_importWithout_36 (hc36 hnx) (by omega) (by decide)  hu36 ?_
  refine aw_hp (S' := u1 S 23 i (owB S i n v)) rfl rfl rfl rfl rfl ?_
  replace hR : Rg (u1 S 23 i (owB S i n v)) := Rg.s23 hR _
  refine aw_aload_n dX7_importWithout_37 rfl ?_
  refine aw_getf fg_X7_35 dX7_importWithout_38 (hc9 hnx) rfl ?_
  refine aw_getf fg_X7_161 dX7_importWithout_41 (hc32 hnx) rfl ?_
  refine aw_iload_n dX7_importWithout_44 rfl ?_
  refine aw_iload_n dX7_importWithout_45 rfl ?_
  refine aw_callSN (As := [_, _]) (ρ := (_, 0, 0)) (kn' := (0, 0)) cs_X7_123 dX7_importWithout_46 rfl rfl (Nat.le_of_ble_eq_true rfl) (rmR _ _ _) ⟨Nat.le_refl _, Nat.le_refl _⟩ rfl (c_X10_pairOf hnx  (fun r46 h46 => ?_))
  subst h46
  refine aw_dup2_11 dX7_importWithout_49 rfl rfl ?_
  refine aw_ialdr dX7_importWithout_50 (hc33 hnx) (by omega) (by decide) (hR 20 (by decide)) (fun q50 => ?_)
  refine aw_sv (a := S 20 (4 * i + j)) (rfl) ?_
  refine aw_iload_n dX7_importWithout_51 rfl ?_
  refine aw_iadd dX7_importWithout_52 ?_
  refine aw_iastS dX7_importWithout_53 (hc33 hnx) (by omega) (by decide) hR (by omega) (fun _ => hu33) (fun hR => ?_)
  refine aw_aload_n dX7_importWithout_54 rfl ?_
  refine aw_getf fg_X7_28 dX7_importWithout_55 (hc9 hnx) rfl ?_
  refine aw_iload_n dX7_importWithout_58 rfl ?_
  refine aw_bipush dX7_importWithout_59 rfl ?_
  refine aw_iload_n dX7_importWithout_61 rfl ?_
  refine aw_callV (As := [_, _, _]) (ρ := (_, 0, 0)) (kn' := (0, 0)) cv_X7_115 dX7_importWithout_62 rfl rfl (hc25 hnx) rfl rfl (Nat.le_of_ble_eq_true rfl) (rmR _ _ _) ⟨Nat.le_refl _, Nat.le_refl _⟩ rfl (c_X3_add hnx hR (by omega) (add_in (S0 := S) rfl (by omega)) (fun hR => ?_))
  refine aw_aload_n dX7_importWithout_65 rfl ?_
  refine aw_getf fg_X7_43 dX7_importWithout_66 (hc9 hnx) rfl ?_
  refine aw_iconst dX7_importWithout_69 ?_
  refine aw_dup2_11 dX7_importWithout_70 rfl rfl ?_
  refine aw_ialdr dX7_importWithout_71 (hc37 hnx) (by omega) (by decide) (hR 24 (by decide)) (fun q71 => ?_)
  refine aw_sv (a := S 24 4) (rfl) ?_
  refine aw_iload_n dX7_importWithout_72 rfl ?_
  refine aw_iadd dX7_importWithout_73 ?_
  refine aw_iastS dX7_importWithout_74 (hc37 hnx) (by omega) (by decide) hR (by omega) (fun _ => hu37) (fun hR => ?_)
  refine aw_dload dX7_importWithout_75 rfl ?_
  exact aw_dreturn dX7_importWithout_77 rfl ⟨Nat.le_refl _, Nat.le_refl _⟩ (hQ hR)

set_option maxHeartbeats 1000000 in
theorem c_X10_excess {Γ : GT} {S T U V : St} {G : Gw} {nx d : Nat} {Q : QT} (hnx : 52 ≤ nx) {i j n v : Int} {c : Int} (hI : Inv c S) (hi : inI i) (hj : inI j) (hn : inI n) (hv : inI v) (hc : c ≤ 511) (hW : RW U nx) (hN : ∀ r, r = rExc S i j n v → r ≠ 0 → Q (some (vl r)) (hp Γ S T U V G) nx) (hQ : rExc S i j n v = 0 → ∀ U2 G2 nx2, 52 ≤ nx2 → Rem U U2 G G2 S nx nx2 → Rg (exS S i j n v) → Q (some (.long (dueD S n v).toInt64)) (hp Γ (exS S i j n v) T U2 V G2) nx2) : AM Γ MX10_excess (d + 5, 29, 1248) [rf Γ 0, vi i, vi j, vi n, vi v] (hp Γ S T U V G) nx Q := by
  refine am_of (by decide) (Nat.le_of_ble_eq_true rfl) (ls := [some (rf Γ 0), some _, some _, some _, some _]) rfl ?_
  have hR := hI.R
  have i1 := hI.i1
  have hz : 0 ≤ S 28 0 ∧ S 28 0 ≤ 60 := i1.2.2.1
  have hkS : nS S = (S 28 0).toNat := rfl
  have hkI : nIm S = (S 27 0).toNat := rfl
  have hkO : nOr S = (S 26 0).toNat := rfl
  refine aw_aload_n dX10_excess_0 rfl ?_
  refine aw_getf fg_X10_26 dX10_excess_1 (hc0 hnx) rfl ?_
  refine aw_iload_n dX10_excess_4 rfl ?_
  refine aw_iload_n dX10_excess_5 rfl ?_
  refine aw_callV (As := [_, _]) (ρ := (_, 0, 0)) (kn' := (0, 0)) cv_X10_87 dX10_excess_6 rfl rfl (hc9 hnx) rfl rfl (Nat.le_of_ble_eq_true rfl) (rmR _ _ _) ⟨Nat.le_of_ble_eq_true rfl, Nat.le_of_ble_eq_true rfl⟩ rfl (c_X7_hasPair hnx hR (by omega) (fun r6 h6 => ?_))
  rcases h6 with ⟨rfl, h6⟩ | ⟨rfl, h6⟩
  · skip
    refine aw_if_eq (tgt := 33) dX10_excess_9 rfl (by decide) (fun c => absurd c (by decide)) (fun _ => ?_)
    refine aw_iload_n dX10_excess_12 rfl ?_
    refine aw_callS (As := [_]) (ρ := (_, 0, 0)) (kn' := (0, 0)) cs_X10_91 dX10_excess_13 rfl rfl (Nat.le_of_ble_eq_true rfl) (rmR _ _ _) ⟨Nat.le_of_ble_eq_true rfl, Nat.le_of_ble_eq_true rfl⟩ rfl (c_X10_isAmount hnx (by omega) (fun r13 h13 => ?_))
    rcases h13 with ⟨rfl, h13⟩ | ⟨rfl, h13⟩
    · skip
      refine aw_if_eq (tgt := 33) dX10_excess_16 rfl (by decide) (fun c => absurd c (by decide)) (fun _ => ?_)
      refine aw_iload dX10_excess_19 rfl ?_
      refine aw_iconst dX10_excess_21 ?_
      refine aw_icmp_lt (tgt := 33) dX10_excess_22 rfl (by omega) (fun c22 => ?_) (fun c22 => ?_)
      · skip
        refine aw_ldc2 dX10_excess_33 qk_X10_171 ?_
        refine aw_st (st' := vl (-1) :: _) rfl ?_
        exact aw_lreturn dX10_excess_36 rfl ⟨Nat.le_of_ble_eq_true rfl, Nat.le_of_ble_eq_true rfl⟩ (hN _ (by simp only [rExc, isI, isO, isN]; (repeat' split) <;> omega) (by omega))
      · skip
        refine aw_iload dX10_excess_25 rfl ?_
        refine aw_sipush dX10_excess_27 rfl ?_
        refine aw_icmp_le (tgt := 37) dX10_excess_30 rfl (by omega) (fun c30 => ?_) (fun c30 => ?_)
        · skip
          have acc : rExc S i j n v = 0 := by simp only [rExc, isI, isO, isN]; (repeat' split) <;> omega
          have t := hI.tm (by omega)
          have du := dueDn (S := S) (n := n) (v := v) (by omega) (by omega) (by omega)
          refine aw_aload_n dX10_excess_37 rfl ?_
          refine aw_getf fg_X10_33 dX10_excess_38 (hc0 hnx) rfl ?_
          refine aw_aload_n dX10_excess_41 rfl ?_
          refine aw_getf fg_X10_26 dX10_excess_42 (hc0 hnx) rfl ?_
          refine aw_callV (As := [_]) (ρ := (_, 29, 1248)) (kn' := (29, 1248)) cv_X10_99 dX10_excess_45 rfl rfl (hc38 hnx) rfl rfl (Nat.le_of_ble_eq_true rfl) (rmR _ _ _) ⟨Nat.le_of_ble_eq_true rfl, Nat.le_of_ble_eq_true rfl⟩ rfl (c_X0_remember hnx hz hW.1 hW.2.1 hW.2.2 (fun U2 G2 nx2 hnx hRem => ?_))
          refine aw_aload_n dX10_excess_48 rfl ?_
          refine aw_getf fg_X10_26 dX10_excess_49 (hc0 hnx) rfl ?_
          refine aw_iload_n dX10_excess_52 rfl ?_
          refine aw_iload_n dX10_excess_53 rfl ?_
          refine aw_iload_n dX10_excess_54 rfl ?_
          refine aw_iload dX10_excess_55 rfl ?_
          refine aw_callV (As := [_, _, _, _]) (ρ := (_, 0, 0)) (kn' := (29, 1248)) cv_X10_173 dX10_excess_57 rfl rfl (hc9 hnx) rfl rfl (Nat.le_of_ble_eq_true rfl) (rmR _ _ _) ⟨Nat.le_of_ble_eq_true rfl, Nat.le_of_ble_eq_true rfl⟩ rfl (c_X7_importWithout hnx hI (by omega) (by omega) (by omega) (by omega) hc (fun hR => ?_))
          refine aw_callS (As := [_]) (ρ := (_, 0, 0)) (kn' := (29, 1248)) cs_X10_177 dX10_excess_60 rfl rfl (Nat.le_of_ble_eq_true rfl) (rmR _ _ _) ⟨Nat.le_of_ble_eq_true rfl, Nat.le_of_ble_eq_true rfl⟩ rfl (c_X10_bitsOf hnx (Or.inl (du.mono (by omega) (by omega))) ?_)
          exact aw_lreturn dX10_excess_63 rfl ⟨Nat.le_of_ble_eq_true rfl, Nat.le_of_ble_eq_true rfl⟩ (hQ acc _ _ _ hnx hRem hR)
        · skip
          refine aw_ldc2 dX10_excess_33 qk_X10_171 ?_
          refine aw_st (st' := vl (-1) :: _) rfl ?_
          exact aw_lreturn dX10_excess_36 rfl ⟨Nat.le_of_ble_eq_true rfl, Nat.le_of_ble_eq_true rfl⟩ (hN _ (by simp only [rExc, isI, isO, isN]; (repeat' split) <;> omega) (by omega))
    · skip
      refine aw_if_eq (tgt := 33) dX10_excess_16 rfl (by decide) (fun _ => ?_) (fun c => absurd c (by decide))
      refine aw_ldc2 dX10_excess_33 qk_X10_171 ?_
      refine aw_st (st' := vl (-1) :: _) rfl ?_
      exact aw_lreturn dX10_excess_36 rfl ⟨Nat.le_of_ble_eq_true rfl, Nat.le_of_ble_eq_true rfl⟩ (hN _ (by simp only [rExc, isI, isO, isN]; (repeat' split) <;> omega) (by omega))
  · skip
    refine aw_if_eq (tgt := 33) dX10_excess_9 rfl (by decide) (fun _ => ?_) (fun c => absurd c (by decide))
    refine aw_ldc2 dX10_excess_33 qk_X10_171 ?_
    refine aw_st (st' := vl (-1) :: _) rfl ?_
    exact aw_lreturn dX10_excess_36 rfl ⟨Nat.le_of_ble_eq_true rfl, Nat.le_of_ble_eq_true rfl⟩ (hN _ (by simp only [rExc, isI, isO, isN]; (repeat' split) <;> omega) (by omega))

set_option maxHeartbeats 1000000 in
theorem c_X10_undo {Γ : GT} {S T U V : St} {G : Gw} {nx d : Nat} {Q : QT} (hnx : 52 ≤ nx) (hR : Rg S) (ht : 0 ≤ U 16 0 ∧ U 16 0 < 10) (hm : 0 ≤ U 17 0 ∧ U 17 0 ≤ 10) (hW : U 3 ((U 16 0 + 10 - 1) % 10) < 0 ∨ ∃ j : Nat, U 3 ((U 16 0 + 10 - 1) % 10) = ((j * 29 + 52 : Nat) : Int))
    (hN : U 17 0 = 0 → Q (some (vi (-1))) (hp Γ S T U V G) nx)
    (hQ : 0 < U 17 0 → ∃ j : Nat, U 3 ((U 16 0 + 10 - 1) % 10) = ((j * 29 + 52 : Nat) : Int) ∧ j * 29 + 81 ≤ nx ∧ Rg (G j) ∧ (0 ≤ G j 28 0 ∧ G j 28 0 ≤ 60) ∧ (Rg (cpSt (G j) S) → Q (some (vi (U 17 0 - 1))) (hp Γ (cpSt (G j) S) T (u0 (u0 U 16 ((U 16 0 + 10 - 1) % 10)) 17 (U 17 0 - 1)) V G) nx)) : AM Γ MX10_undo (d + 4, 0, 0) [rf Γ 0] (hp Γ S T U V G) nx Q := by
  refine am_of (by decide) (Nat.le_of_ble_eq_true rfl) (ls := [some (rf Γ 0)]) rfl ?_
  refine aw_aload_n dX10_undo_0 rfl ?_
  refine aw_getf fg_X10_33 dX10_undo_1 (hc0 hnx) rfl ?_
  refine aw_aload_n dX10_undo_4 rfl ?_
  refine aw_getf fg_X10_26 dX10_undo_5 (hc0 hnx) rfl ?_
  refine aw_callV (As := [_]) (ρ := (_, 0, 0)) (kn' := (0, 0)) cv_X10_210 dX10_undo_8 rfl rfl (hc38 hnx) rfl rfl (Nat.le_of_ble_eq_true rfl) (rmR _ _ _) ⟨Nat.le_refl _, Nat.le_refl _⟩ rfl (c_X0_takeBackInto hnx hR ht hm hW (fun h0 => ?_) (fun h0 => ?_))
  · exact aw_ireturn dX10_undo_11 rfl rfl ⟨Nat.le_refl _, Nat.le_refl _⟩ (hN h0)
  · obtain ⟨j, a1, a2, a3, a4, a5⟩ := hQ h0
    exact ⟨j, a1, a2, a3, a4, fun hr => aw_ireturn dX10_undo_11 rfl rfl ⟨Nat.le_refl _, Nat.le_refl _⟩ (a5 hr)⟩

/-- a state put on a shelf -/
def Kep (U U' : St) (G G' : Gw) (S : St) (q : Int) (nx nx' : Nat) : Prop := ∃ (j : Nat) (X : St), j * 29 + 81 ≤ nx' ∧ G' = gset G j (cpSt S X) ∧ U' = u1 U 4 q ((j * 29 + 52 : Nat) : Int) ∧ ((U 4 q = ((j * 29 + 52 : Nat) : Int) ∧ nx' = nx) ∨ (U 4 q < 0 ∧ nx = j * 29 + 52 ∧ nx' = nx + 29))
set_option maxHeartbeats 1000000 in
theorem keep_tail {Γ : GT} {S T U V X : St} {G : Gw} {nx d j a b : Nat} {q : Int} {Q : QT} (hnx : 52 ≤ nx) (hj : j * 29 + 81 ≤ nx) (hk : a ≤ 29 ∧ b ≤ 1248) (hz : 0 ≤ S 28 0 ∧ S 28 0 ≤ 60) (hQ : Q (some (vi (S 26 0))) (hp Γ S T U V (gset G j (cpSt S X))) nx) : AW Γ MX10_keep (rmm (d + 4, 29, 1248)) (MF Γ Q (d + 4, 29, 1248)) (a, b) 37 [some (rf Γ 0), some (vi q), some (rf Γ (j * 29 + 52 + 0))] [] (hp Γ S T U V (gset G j X)) nx := by
  refine aw_aload_n dX10_keep_37 rfl ?_
  refine aw_aload_n dX10_keep_38 rfl ?_
  refine aw_getf fg_X10_26 dX10_keep_39 (hc0 hnx) rfl ?_
  refine aw_callV (As := [_]) (ρ := (_, 0, 0)) (kn' := (a, b)) cv_X10_214 dX10_keep_42 rfl rfl (hg0 hj) rfl rfl (Nat.le_of_ble_eq_true rfl) (rmR _ _ _) hk rfl (c_X7_copyFromC hnx hj hz ?_)
  refine aw_aload_n dX10_keep_45 rfl ?_
  refine aw_getf fg_X10_26 dX10_keep_46 (hc0 hnx) rfl ?_
  refine aw_getf fg_X10_81 dX10_keep_49 (hc9 hnx) rfl ?_
  refine aw_getf fg_X10_82 dX10_keep_52 (hc10 hnx) rfl ?_
  exact aw_ireturn dX10_keep_55 rfl rfl hk hQ

set_option maxHeartbeats 1000000 in
theorem c_X10_keep {Γ : GT} {S T U V : St} {G : Gw} {nx d : Nat} {q : Int} {Q : QT} (hnx : 52 ≤ nx) (hq : inI q) (hz : 0 ≤ S 28 0 ∧ S 28 0 ≤ 60) (hW : (0 ≤ q ∧ q < 2) → (U 4 q < 0 ∧ ∃ g : Nat, nx = g * 29 + 52) ∨ ∃ j : Nat, U 4 q = ((j * 29 + 52 : Nat) : Int) ∧ j * 29 + 81 ≤ nx) (hN : ¬ (0 ≤ q ∧ q < 2) → Q (some (vi (-1))) (hp Γ S T U V G) nx) (hQ : (0 ≤ q ∧ q < 2) → ∀ U' G' nx', 52 ≤ nx' → Kep U U' G G' S q nx nx' → Q (some (vi (S 26 0))) (hp Γ S T U' V G') nx') : AM Γ MX10_keep (d + 4, 29, 1248) [rf Γ 0, vi q] (hp Γ S T U V G) nx Q := by
  refine am_of (by decide) (Nat.le_of_ble_eq_true rfl) (ls := [some (rf Γ 0), some (vi q), none]) rfl ?_
  have go : (0 ≤ q ∧ q < 2) → AW Γ MX10_keep (rmm (d + 4, 29, 1248)) (MF Γ Q (d + 4, 29, 1248)) (0, 0) 11 [some (rf Γ 0), some (vi q), none] [] (hp Γ S T U V G) nx := by
    intro h2
    refine aw_aload_n dX10_keep_11 rfl ?_
    refine aw_getf fg_X10_37 dX10_keep_12 (hc0 hnx) rfl ?_
    refine aw_iload_n dX10_keep_15 rfl ?_
    rcases hW h2 with ⟨h0, g, hg⟩ | ⟨j, h0, hj⟩
    · subst hg
      refine aw_aaldN dX10_keep_16 (hc40 hnx) (by omega) (by decide) h0 ?_
      refine aw_astore_nN (ls' := [some (rf Γ 0), some (vi q), some .null]) dX10_keep_17 (by decide) rfl ?_
      refine aw_aload_nN dX10_keep_18 rfl ?_
      refine aw_ifnonnullN dX10_keep_19 ?_
      refine aw_new (kn' := (1, 7)) nb_X10_23 dX10_keep_22 (Nat.le_of_ble_eq_true rfl) (Nat.le_of_ble_eq_true rfl) rfl ?_
      refine aw_dup dX10_keep_25 rfl ?_
      refine aw_callIN (As := []) (ρ := (_, 28, 1241)) (kn' := (29, 1248)) ci_X10_25 dX10_keep_26 rfl rfl (Nat.le_of_ble_eq_true rfl) (rmR _ _ _) ⟨Nat.le_of_ble_eq_true rfl, Nat.le_of_ble_eq_true rfl⟩ rfl (c_X7_init (o := g * 29 + 52) ⟨by omega, up_eq _ _ _⟩ (fun h1 a1 f1 => ?_))
      have ecg : ∀ k, k < g * 29 + 52 + 29 → hp Γ S T U V (gset G g (fun _ _ => 0)) k = h1 k := by
        intro k hk
        by_cases hk2 : k < g * 29 + 52
        · rw [a1 k hk2, up_ne (by omega)]
          by_cases h52 : k < 52
          · exact hp_low _ _ k h52
          · obtain ⟨n, rfl⟩ : ∃ n, k = n + 52 := ⟨k - 52, by omega⟩
            show stC Γ (n / 29 * 29 + 52) (gset G g (fun _ _ => 0) (n / 29)) (n % 29) = stC Γ (n / 29 * 29 + 52) (G (n / 29)) (n % 29)
            rw [gset_ne G _ (by omega)]
        · obtain ⟨z, rfl⟩ : ∃ z, k = g * 29 + 52 + z := ⟨k - (g * 29 + 52), by omega⟩
          rw [f1 z (by omega), hp_slotX z (by omega)]
      refine aw_cg ecg ?_
      refine aw_astore_n (ls' := [some (rf Γ 0), some (vi q), some (rf Γ (g * 29 + 52 + 0))]) dX10_keep_29 (by decide) rfl ?_
      refine aw_aload_n dX10_keep_30 rfl ?_
      refine aw_getf fg_X10_37 dX10_keep_31 (hc0 (by omega)) rfl ?_
      refine aw_iload_n dX10_keep_34 rfl ?_
      refine aw_aload_n dX10_keep_35 rfl ?_
      refine aw_aast dX10_keep_36 (hc40 (by omega)) (hg0 (j := g) (by omega)) (by omega) (by decide) hu40 ?_
      refine keep_tail (U := u1 U 4 q ((g * 29 + 52 : Nat) : Int)) (by omega) (by omega) ⟨Nat.le_refl _, Nat.le_refl _⟩ hz ?_
      exact hQ h2 _ _ _ (by omega) ⟨g, (fun _ _ => 0), by omega, rfl, rfl, Or.inr ⟨h0, rfl, rfl⟩⟩
    · refine aw_aaldR dX10_keep_16 (hc40 hnx) (by omega) (by decide) (by omega) ?_
      rw [h0, Int.toNat_natCast]
      refine aw_astore_n (ls' := [some (rf Γ 0), some (vi q), some (rf Γ (j * 29 + 52 + 0))]) dX10_keep_17 (by decide) rfl ?_
      refine aw_aload_n dX10_keep_18 rfl ?_
      refine aw_ifnonnull (tgt := 37) dX10_keep_19 rfl ?_
      have eG : hp Γ S T U V G = hp Γ S T U V (gset G j (G j)) := by rw [gset_self]
      rw [eG]
      refine keep_tail hnx hj ⟨Nat.zero_le _, Nat.zero_le _⟩ hz ?_
      refine hQ h2 _ _ _ hnx ⟨j, G j, hj, rfl, ?_, Or.inl ⟨h0, rfl⟩⟩
      rw [← h0, u1_self]
  refine aw_iload_n dX10_keep_0 rfl ?_
  refine aw_if_lt (tgt := 9) dX10_keep_1 rfl (by omega) (fun c1 => ?_) (fun c1 => ?_)
  · refine aw_iconst dX10_keep_9 ?_
    exact aw_ireturn dX10_keep_10 rfl rfl ⟨Nat.zero_le _, Nat.zero_le _⟩ (hN (by omega))
  · refine aw_iload_n dX10_keep_4 rfl ?_
    refine aw_iconst dX10_keep_5 ?_
    refine aw_icmp_lt (tgt := 11) dX10_keep_6 rfl (by omega) (fun c6 => ?_) (fun c6 => ?_)
    · exact go ⟨c1, c6⟩
    · refine aw_iconst dX10_keep_9 ?_
      exact aw_ireturn dX10_keep_10 rfl rfl ⟨Nat.zero_le _, Nat.zero_le _⟩ (hN (by omega))

set_option maxHeartbeats 1000000 in
theorem c_X10_back {Γ : GT} {S T U V : St} {G : Gw} {nx d : Nat} {q : Int} {Q : QT} (hnx : 52 ≤ nx) (hq : inI q) (hR : Rg S) (hN : ¬ (0 ≤ q ∧ q < 2) → Q (some (vi (-1))) (hp Γ S T U V G) nx) (hM : (0 ≤ q ∧ q < 2) → U 4 q < 0 → Q (some (vi (-2))) (hp Γ S T U V G) nx)
    (hQ : (0 ≤ q ∧ q < 2) → 0 ≤ U 4 q → ∃ j : Nat, U 4 q = ((j * 29 + 52 : Nat) : Int) ∧ j * 29 + 81 ≤ nx ∧ Rg (G j) ∧ (0 ≤ G j 28 0 ∧ G j 28 0 ≤ 60) ∧ (Rg (cpSt (G j) S) → Q (some (vi (G j 26 0))) (hp Γ (cpSt (G j) S) T (u0 U 17 0) V G) nx)) : AM Γ MX10_back (d + 4, 0, 0) [rf Γ 0, vi q] (hp Γ S T U V G) nx Q := by
  refine am_of (by decide) (Nat.le_of_ble_eq_true rfl) (ls := [some (rf Γ 0), some (vi q), none]) rfl ?_
  have go : (0 ≤ q ∧ q < 2) → AW Γ MX10_back (rmm (d + 4, 0, 0)) (MF Γ Q (d + 4, 0, 0)) (0, 0) 11 [some (rf Γ 0), some (vi q), none] [] (hp Γ S T U V G) nx := by
    intro h2
    refine aw_aload_n dX10_back_11 rfl ?_
    refine aw_getf fg_X10_37 dX10_back_12 (hc0 hnx) rfl ?_
    refine aw_iload_n dX10_back_15 rfl ?_
    by_cases h0 : U 4 q < 0
    · refine aw_aaldN dX10_back_16 (hc40 hnx) (by omega) (by decide) h0 ?_
      refine aw_astore_nN (ls' := [some (rf Γ 0), some (vi q), some .null]) dX10_back_17 (by decide) rfl ?_
      refine aw_aload_nN dX10_back_18 rfl ?_
      refine aw_ifnonnullN dX10_back_19 ?_
      refine aw_bipush dX10_back_22 rfl ?_
      exact aw_ireturn dX10_back_24 rfl rfl ⟨Nat.le_refl _, Nat.le_refl _⟩ (hM h2 h0)
    · obtain ⟨j, hw, hj, hX, hz, hq2⟩ := hQ h2 (by omega)
      refine aw_aaldR dX10_back_16 (hc40 hnx) (by omega) (by decide) (by omega) ?_
      rw [hw, Int.toNat_natCast]
      refine aw_astore_n (ls' := [some (rf Γ 0), some (vi q), some (rf Γ (j * 29 + 52 + 0))]) dX10_back_17 (by decide) rfl ?_
      refine aw_aload_n dX10_back_18 rfl ?_
      refine aw_ifnonnull (tgt := 25) dX10_back_19 rfl ?_
      refine aw_aload_n dX10_back_25 rfl ?_
      refine aw_getf fg_X10_26 dX10_back_26 (hc0 hnx) rfl ?_
      refine aw_aload_n dX10_back_29 rfl ?_
      have eG : hp Γ S T U V G = hp Γ S T U V (gset G j (G j)) := by rw [gset_self]
      rw [eG]
      refine aw_callV (As := [_]) (ρ := (_, 0, 0)) (kn' := (0, 0)) cv_X10_214 dX10_back_30 rfl rfl (hc9 hnx) rfl rfl (Nat.le_of_ble_eq_true rfl) (rmR _ _ _) ⟨Nat.le_refl _, Nat.le_refl _⟩ rfl (c_X7_copyFromB hnx hj hR hX hz (fun hR2 => ?_))
      rw [gset_self]
      refine aw_aload_n dX10_back_33 rfl ?_
      refine aw_getf fg_X10_33 dX10_back_34 (hc0 hnx) rfl ?_
      refine aw_callV (As := []) (ρ := (_, 0, 0)) (kn' := (0, 0)) cv_X10_78 dX10_back_37 rfl rfl (hc38 hnx) rfl rfl (Nat.le_of_ble_eq_true rfl) (rmR _ _ _) ⟨Nat.le_refl _, Nat.le_refl _⟩ rfl (c_X0_forget hnx ?_)
      refine aw_aload_n dX10_back_40 rfl ?_
      refine aw_getf fg_X10_26 dX10_back_41 (hc0 hnx) rfl ?_
      refine aw_getf fg_X10_81 dX10_back_44 (hc9 hnx) rfl ?_
      refine aw_getf fg_X10_82 dX10_back_47 (hc10 hnx) rfl ?_
      exact aw_ireturn dX10_back_50 rfl rfl ⟨Nat.le_refl _, Nat.le_refl _⟩ (hq2 hR2)
  refine aw_iload_n dX10_back_0 rfl ?_
  refine aw_if_lt (tgt := 9) dX10_back_1 rfl (by omega) (fun c1 => ?_) (fun c1 => ?_)
  · refine aw_iconst dX10_back_9 ?_
    exact aw_ireturn dX10_back_10 rfl rfl ⟨Nat.le_refl _, Nat.le_refl _⟩ (hN (by omega))
  · refine aw_iload_n dX10_back_4 rfl ?_
    refine aw_iconst dX10_back_5 ?_
    refine aw_icmp_lt (tgt := 11) dX10_back_6 rfl (by omega) (fun c6 => ?_) (fun c6 => ?_)
    · exact go ⟨c1, c6⟩
    · refine aw_iconst dX10_back_9 ?_
      exact aw_ireturn dX10_back_10 rfl rfl ⟨Nat.le_refl _, Nat.le_refl _⟩ (hN (by omega))

/-- begun anew with a scheme -/
def st0S (T S : St) : St := u0 (clS (sset (yclS (u0 (u0 (cpSch T S) 28 0) 29 0)) 23 (fl (S 23) 8 0)) 24 5) 25 0
def begS (T S : St) : St := prdF (st0S T S) (nOr (st0S T S))

set_option maxHeartbeats 1000000 in
theorem c_X7_startWith {Γ : GT} {S T U V : St} {G : Gw} {nx d : Nat} {Q : QT} (hnx : 52 ≤ nx) (hR : Rg S) (hT : Rg T) (hP : InvP (st0S T S)) (hQ : Rg (begS T S) → Q none (hp Γ (begS T S) T U V G) nx) : AM Γ MX7_startWith (d + 6, 0, 0) [rf Γ 9, rf Γ 4] (hp Γ S T U V G) nx Q := by
  refine am_of (by decide) (Nat.le_of_ble_eq_true rfl) (ls := [some (rf Γ 9), some (rf Γ 4)]) rfl ?_
  refine aw_aload_n dX7_startWith_0 rfl ?_
  refine aw_getf fg_X7_12 dX7_startWith_1 (hc9 hnx) rfl ?_
  refine aw_aload_n dX7_startWith_4 rfl ?_
  refine aw_callV (As := [_]) (ρ := (_, 0, 0)) (kn' := (0, 0)) cv_X7_47 dX7_startWith_5 rfl rfl (hc10 hnx) rfl rfl (Nat.le_of_ble_eq_true rfl) (rmR _ _ _) ⟨Nat.le_refl _, Nat.le_refl _⟩ rfl (c_X5_copyFromA hnx hR hT (fun hR => ?_))
  refine aw_aload_n dX7_startWith_8 rfl ?_
  refine aw_getf fg_X7_21 dX7_startWith_9 (hc9 hnx) rfl ?_
  refine aw_iconst dX7_startWith_12 ?_
  refine aw_putS fp_X7_70 dX7_startWith_13 (hc14 hnx) (Nat.le_of_ble_eq_true rfl) hR (by omega) hu14_28 (fun hR => ?_)
  refine aw_aload_n dX7_startWith_16 rfl ?_
  refine aw_getf fg_X7_28 dX7_startWith_17 (hc9 hnx) rfl ?_
  refine aw_iconst dX7_startWith_20 ?_
  refine aw_putS fp_X7_73 dX7_startWith_21 (hc25 hnx) (Nat.le_of_ble_eq_true rfl) hR (by omega) hu25_29 (fun hR => ?_)
  refine aw_aload_n dX7_startWith_24 rfl ?_
  refine aw_getf fg_X7_35 dX7_startWith_25 (hc9 hnx) rfl ?_
  refine aw_callV (As := []) (ρ := (_, 0, 0)) (kn' := (0, 0)) cv_X7_76 dX7_startWith_28 rfl rfl (hc32 hnx) rfl rfl (Nat.le_of_ble_eq_true rfl) (rmR _ _ _) ⟨Nat.le_refl _, Nat.le_refl _⟩ rfl (c_X9_clear hnx hR (fun hR => ?_))
  refine aw_aload_n dX7_startWith_31 rfl ?_
  refine aw_getf fg_X7_39 dX7_startWith_32 (hc9 hnx) rfl ?_
  refine aw_dconst0 dX7_startWith_35 ?_
  refine aw_callS (As := [_, _]) (ρ := (_, 0, 0)) (kn' := (0, 0)) cs_X7_79 dX7_startWith_36 rfl rfl (Nat.le_of_ble_eq_true rfl) (rmR _ _ _) ⟨Nat.le_refl _, Nat.le_refl _⟩ rfl (c_fill_d (hc36 hnx) (by decide) hu36 ?_)
  refine aw_hp (S' := sset (yclS (u0 (u0 (cpSch T S) 28 0) 29 0)) 23 (fl (S 23) 8 0)) rfl rfl rfl rfl rfl ?_
  replace hR := Rg.s23 hR (fl (S 23) 8 0)
  refine aw_aload_n dX7_startWith_39 rfl ?_
  refine aw_getf fg_X7_43 dX7_startWith_40 (hc9 hnx) rfl ?_
  refine aw_iconst dX7_startWith_43 ?_
  refine aw_callS (As := [_, _]) (ρ := (_, 0, 0)) (kn' := (0, 0)) cs_X7_85 dX7_startWith_44 rfl rfl (Nat.le_of_ble_eq_true rfl) (rmR _ _ _) ⟨Nat.le_refl _, Nat.le_refl _⟩ rfl (c_fill_i (hc37 hnx) (by decide) hu37 ?_)
  replace hR := hR.cl (f := 24) (n := 5) (by decide)
  refine aw_aload_n dX7_startWith_47 rfl ?_
  refine aw_iconst dX7_startWith_48 ?_
  refine aw_putS fp_X7_66 dX7_startWith_49 (hc9 hnx) (Nat.le_of_ble_eq_true rfl) hR (by omega) hu9_25 (fun hR => ?_)
  refine aw_aload_n dX7_startWith_52 rfl ?_
  refine aw_callV (As := []) (ρ := (_, 0, 0)) (kn' := (0, 0)) cv_X7_88 dX7_startWith_53 rfl rfl (hc9 hnx) rfl rfl (Nat.le_of_ble_eq_true rfl) (rmR _ _ _) ⟨Nat.le_refl _, Nat.le_refl _⟩ rfl (c_X7_startPeriod hnx hP (fun hR => ?_))
  exact aw_return dX7_startWith_56 rfl ⟨Nat.le_refl _, Nat.le_refl _⟩ (hQ hR)


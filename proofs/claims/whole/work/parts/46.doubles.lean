/-! answers that are doubles -/
def dT : UInt64 := 4613937818241073152
def mnD (S : St) (p : Int) : UInt64 := FP.ddiv (FP.i2d (I (old S p))) 4613937818241073152
def aMean (S : St) (i o : Int) : Int64 := if isI S i ∧ isO S o then (mnD S (4 * i + o)).toInt64 else L (-1)
def aRate (S : St) (i : Int) : Int64 := if isI S i then (rateD S i (nS S)).toInt64 else L (-1)
def aOwed (S : St) (i : Int) : Int64 := if isI S i then L (S 23 i) else L (-1)
def spD (S : St) (l : Int) : UInt64 := if 0 < S 9 l then FP.ddiv (FP.i2d (I (S 13 l))) (FP.i2d (I (S 9 l))) else 13830554455654793216
def aSpeed (S : St) (l : Int) : Int64 := if isL S l then (spD S l).toInt64 else L (-1)
def fcP (S : St) (o i : Int) : UInt64 := FP.ddiv (FP.i2d (I (S 18 (4 * i + o)))) (FP.i2d (I (S 14 (o * 8 + 4))))
def fcD (S : St) (o : Int) : Nat → UInt64
  | 0 => FP.dconst0
  | k + 1 => FP.dadd (fcD S o k) (FP.dmul (fcP S o k) (fcP S o k))
def aFocus (S : St) (o : Int) : Int64 := if isO S o then (if 0 < S 14 (o * 8 + 4) then (fcD S o (nIm S)).toInt64 else FP.dconst0.toInt64) else L (-1)
def rateP (S : St) (i : Int) (n : Nat) : UInt64 := if 0 < allN S i n then rateD S i n else FP.dconst1
def lkT (S : St) (l : Int) : UInt64 := FP.dmul (FP.i2d (I (rem S l))) (rateP S (S 4 l) (nS S))
def lkD (S : St) (o : Int) : Nat → UInt64
  | 0 => FP.dconst0
  | k + 1 => if S 10 k = 0 ∧ S 5 k = o then FP.dadd (lkD S o k) (lkT S k) else lkD S o k
def aLikely (S : St) (o : Int) : Int64 := if isO S o then (lkD S o (nS S)).toInt64 else L (-1)
section INV
variable {c : Int} {S : St}
theorem Inv.all (h : Inv c S) (i : Int) (n : Nat) (hn : n ≤ nS S) : (0 ≤ allN S i n ∧ allN S i n ≤ 5999940) ∧ (0 ≤ takN S i n ∧ takN S i n ≤ 5999940) := by
  have hz := h.i1.2.2.1
  have h10 := h.i10; unfold inv10 at h10
  have a1 : ∀ k : Nat, k < n → 0 ≤ (if ¬ S 10 k = 0 ∧ S 4 k = i then S 6 k else 0) ∧ (if ¬ S 10 k = 0 ∧ S 4 k = i then S 6 k else 0) ≤ S 6 k := fun k hk => by
    have := (h.li (l := k) (by unfold nS at hn; omega)).2.2.1
    split <;> omega
  have a2 : ∀ k : Nat, k < n → 0 ≤ (if ¬ S 10 k = 0 ∧ S 4 k = i then S 9 k else 0) ∧ (if ¬ S 10 k = 0 ∧ S 4 k = i then S 9 k else 0) ≤ S 6 k := fun k hk => by
    have := (h.li (l := k) (by unfold nS at hn; omega)).2.2.1
    split <;> omega
  have b1 := sm_le (f := fun k => if ¬ S 10 k = 0 ∧ S 4 k = i then S 6 k else 0) (g := S 6) n (fun k hk => (a1 k hk).2)
  have b2 := sm_le (f := fun k => if ¬ S 10 k = 0 ∧ S 4 k = i then S 9 k else 0) (g := S 6) n (fun k hk => (a2 k hk).2)
  have b3 := sm_mono (f := S 6) (nS S) hn (fun k hk => by have := (h.li (l := k) (by unfold nS at hk; omega)).2.2.1; omega)
  have c1 := sm_nonneg (f := fun k => if ¬ S 10 k = 0 ∧ S 4 k = i then S 6 k else 0) n (fun k hk => (a1 k hk).1)
  have c2 := sm_nonneg (f := fun k => if ¬ S 10 k = 0 ∧ S 4 k = i then S 9 k else 0) n (fun k hk => (a2 k hk).1)
  unfold allN takN
  exact ⟨⟨c1, by omega⟩, c2, by omega⟩
theorem Inv.rateDn (h : Inv c S) (i : Int) (hp : 0 < allN S i (nS S)) : Dn 990 1057 (rateD S i (nS S)) := by
  have b := h.all i (nS S) (Nat.le_refl _)
  unfold rateD
  rw [if_pos hp]
  exact (Dn_i2d b.2.1 (by omega)).div (i2d_pos hp (by omega)) (by omega) (by omega) (by omega)
theorem Inv.rateOk (h : Inv c S) (i : Int) : Dn 1 2047 (rateD S i (nS S)) ∨ rateD S i (nS S) = 13830554455654793216 := by
  by_cases hp : 0 < allN S i (nS S)
  · exact Or.inl ((h.rateDn i hp).mono (by omega) (by omega))
  · right; unfold rateD; rw [if_neg hp]
theorem Inv.ratePn (h : Inv c S) (i : Int) : Dn 990 1057 (rateP S i (nS S)) := by
  unfold rateP; split
  · exact h.rateDn i (by assumption)
  · right; decide
theorem Inv.mnDn (h : Inv c S) {p : Int} (hp : 0 ≤ p ∧ p < 32) : Dn 1021 1056 (mnD S p) := by
  have b := h.old hp
  exact (Dn_i2d b.1 (by omega)).div (lb := 1024) (hb := 1025) (by decide) (by omega) (by omega) (by omega)
theorem Inv.spDn (h : Inv c S) {l : Int} (hl : 0 ≤ l ∧ l < S 28 0) : Dn 1 2047 (spD S l) ∨ spD S l = 13830554455654793216 := by
  have li := h.li hl; have am := h.am hl; have hz := h.i1.2.2.1
  unfold spD; split
  · left
    exact ((Dn_i2d (v := S 13 l) (by omega) (by omega)).div (lo := 990) (hi := 1057) (i2d_pos (by assumption) (by omega)) (by omega) (by omega) (by omega)).mono (by omega) (by omega)
  · right; rfl
theorem Inv.fcPn (h : Inv c S) {o : Int} (ho : 0 ≤ o ∧ o < S 26 0) {i : Int} (hi : 0 ≤ i ∧ i < S 27 0) (hp : 0 < S 14 (o * 8 + 4)) : Dn 990 1057 (fcP S o i) := by
  have pr := h.pr hi ho; have fg := h.fg ho; have hz := h.i1.2.2.1
  exact (Dn_i2d (v := S 18 (4 * i + o)) (by omega) (by omega)).div (i2d_pos hp (by omega)) (by omega) (by omega) (by omega)
theorem Inv.fcDn (h : Inv c S) {o : Int} (ho : 0 ≤ o ∧ o < S 26 0) (hp : 0 < S 14 (o * 8 + 4)) : ∀ k : Nat, k ≤ nIm S → Dn 957 (1092 + 2 * k) (fcD S o k)
  | 0, _ => Or.inl rfl
  | k + 1, hk => by
    have i1 := h.i1
    have p := h.fcPn ho (i := k) (by unfold nIm at hk; omega) hp
    have m : Dn 957 (1092 + 2 * k) (FP.dmul (fcP S o k) (fcP S o k)) := p.mul p (by unfold nIm at hk; omega) (by omega) (by omega)
    exact (Inv.fcDn h ho hp k (by omega)).add m (by unfold nIm at hk; omega)
theorem Inv.lkTn (h : Inv c S) {l : Int} (hl : 0 ≤ l ∧ l < S 28 0) : Dn 990 1091 (lkT S l) := by
  have rm := h.rem hl; have rm1 := h.rem1 hl; have rs := h.rems; have hz := h.i1.2.2.1
  exact (Dn_i2d (v := Jvm.Pilot.@@N@@.rem S l) (by omega) (by omega)).mul (h.ratePn (S 4 l)) (by omega) (by omega) (by omega)
theorem Inv.lkDn (h : Inv c S) (o : Int) : ∀ k : Nat, k ≤ nS S → Dn 990 (1091 + 2 * k) (lkD S o k)
  | 0, _ => Or.inl rfl
  | k + 1, hk => by
    have i1 := h.i1
    have hkk : (k : Int) < S 28 0 := by unfold nS at hk; omega
    have p := Inv.lkDn h o k (by omega)
    rw [lkD]
    split
    · exact p.add ((h.lkTn (l := k) ⟨by omega, hkk⟩).mono (Nat.le_refl _) (by omega)) (by omega)
    · exact p.mono (Nat.le_refl _) (by omega)
theorem Inv.owDn (h : Inv c S) {i : Int} (hi : 0 ≤ i ∧ i < 8) : Dn 1000 1573 (L (S 23 i)).toUInt64 ∧ (0 ≤ S 23 i ∧ S 23 i < 9223372036854775808) := by
  have q := h.i11 i hi.1 hi.2; have cc := h.cc
  unfold OW at q
  have hl : 0 ≤ S 23 i ∧ S 23 i < 9223372036854775808 := by omega
  refine ⟨?_, hl⟩
  by_cases z : S 23 i = 0
  · left; rw [z]; rfl
  · right; rw [LU_toNat hl]; omega
def rneg (S : St) (i : Int) (n : Nat) : Int := if 0 < allN S i n then cmpN (rateD S i n).toNat FP.dconst0.toNat else -1
theorem rneg_iff (S : St) (i : Int) (n : Nat) : (0 ≤ rneg S i n ↔ 0 < allN S i n) ∧ -1 ≤ rneg S i n ∧ rneg S i n ≤ 1 := by
  have c := cmpN_iff (rateD S i n).toNat FP.dconst0.toNat
  have z : FP.dconst0.toNat = 0 := rfl
  unfold rneg; split <;> omega
theorem Inv.cmpRate (h : Inv c S) (i : Int) : Op.cmpValue (FP.dcmp (rateD S i (nS S)) FP.dconst0) .g = I (rneg S i (nS S)) := by
  unfold rneg
  split
  · exact cmpV_N (by have := (h.rateDn i (by assumption)).lt (by omega); omega) (by decide)
  · rename_i hp
    have e : rateD S i (nS S) = 13830554455654793216 := by unfold rateD; rw [if_neg hp]
    rw [e]
    decide +kernel
end INV

set_option maxHeartbeats 1000000 in
theorem c_X1_rateOf {Γ : GT} {S T U V : St} {G : Gw} {nx d : Nat} {Q : QT} (hnx : 52 ≤ nx) {i : Int} {c : Int} (hI : Inv c S) (hij : inI i) (hQ : Q (some (.double (rateD S i (nS S)))) (hp Γ S T U V G) nx) : AM Γ MX1_rateOf (d + 1, 0, 0) [rf Γ 14, vi i] (hp Γ S T U V G) nx Q := by
  refine am_of (by decide) (Nat.le_of_ble_eq_true rfl) (ls := [some (rf Γ 14), some _, none, none, none]) rfl ?_
  have hR := hI.R
  have i1 := hI.i1
  have hz : 0 ≤ S 28 0 ∧ S 28 0 ≤ 60 := i1.2.2.1
  have hkS : nS S = (S 28 0).toNat := rfl
  have hkI : nIm S = (S 27 0).toNat := rfl
  have hkO : nOr S = (S 26 0).toNat := rfl
  refine aw_iconst dX1_rateOf_0 ?_
  refine aw_istore_n (ls' := [some (rf Γ 14), some _, some _, none, none]) dX1_rateOf_1 (by decide) rfl ?_
  refine aw_iconst dX1_rateOf_2 ?_
  refine aw_istore_n (ls' := [some (rf Γ 14), some _, some _, some _, none]) dX1_rateOf_3 (by decide) rfl ?_
  refine aw_iconst dX1_rateOf_4 ?_
  refine aw_istore (ls' := [some (rf Γ 14), some _, some _, some _, some _]) dX1_rateOf_5 (by decide) rfl ?_
  refine loopN (nS S) (P := fun k => ∀ (x : Int) (y : Int) , x = allN S i k → y = takN S i k →  AW Γ MX1_rateOf _ _ (0, 0) 7 [some (rf Γ 14), some (vi i), some (vi x), some (vi y), some (vi (k : Int))] [] (hp Γ S T U V G) nx) (fun k hk ih => ?_) 0 (Nat.zero_le _) _ _ rfl rfl
  intro x y i7_0 i7_1
  refine aw_iload dX1_rateOf_7 rfl ?_
  refine aw_aload_n dX1_rateOf_9 rfl ?_
  refine aw_getf fg_X1_42 dX1_rateOf_10 (hc14 hnx) rfl ?_
  refine aw_icmp_ge (tgt := 62) dX1_rateOf_13 rfl (by omega) (fun c13 => ?_) (fun c13 => ?_)
  · skip
    obtain rfl : k = nS S := by omega
    have b := hI.all i (nS S) (Nat.le_refl _)
    refine aw_iload_n dX1_rateOf_62 rfl ?_
    refine aw_if_le (tgt := 74) dX1_rateOf_63 rfl (by omega) (fun c63 => ?_) (fun c63 => ?_)
    · skip
      refine aw_ldc2d dX1_rateOf_74 qk_X1_76 ?_
      first | refine aw_sd (a := rateD S i (nS S)) (by rw [rateD, if_pos (by omega)]) ?_ | refine aw_sd (a := rateD S i (nS S)) (by rw [rateD, if_neg (by omega)]) ?_
      exact aw_dreturn dX1_rateOf_77 rfl ⟨Nat.le_refl _, Nat.le_refl _⟩ hQ
    · skip
      refine aw_iload_n dX1_rateOf_66 rfl ?_
      refine aw_i2d dX1_rateOf_67 ?_
      refine aw_iload_n dX1_rateOf_68 rfl ?_
      refine aw_i2d dX1_rateOf_69 ?_
      subst i7_0
      subst i7_1
      have hd := hI.rateDn i c63
      rw [rateD, if_pos c63] at hd
      refine aw_ddiv dX1_rateOf_70 (hd.n64 (by omega)) ?_
      refine aw_goto (tgt := 77) dX1_rateOf_71 rfl ?_
      first | refine aw_sd (a := rateD S i (nS S)) (by rw [rateD, if_pos (by omega)]) ?_ | refine aw_sd (a := rateD S i (nS S)) (by rw [rateD, if_neg (by omega)]) ?_
      exact aw_dreturn dX1_rateOf_77 rfl ⟨Nat.le_refl _, Nat.le_refl _⟩ hQ
  · skip
    refine aw_aload_n dX1_rateOf_16 rfl ?_
    refine aw_iload dX1_rateOf_17 rfl ?_
    refine aw_callV (As := [_]) (ρ := (_, 0, 0)) (kn' := (0, 0)) cv_X1_52 dX1_rateOf_19 rfl rfl (hc14 hnx) rfl rfl (Nat.le_of_ble_eq_true rfl) (rmR _ _ _) ⟨Nat.le_refl _, Nat.le_refl _⟩ rfl (c_X1_isOpen hnx hR (by omega) (fun r19 h19 => ?_))
    rcases h19 with ⟨rfl, h19⟩ | ⟨rfl, h19⟩
    · skip
      refine aw_if_ne (tgt := 56) dX1_rateOf_22 rfl (by decide) (fun _ => ?_) (fun c => absurd c (by decide))
      refine aw_iinc (ls' := [some (rf Γ 14), some _, some _, some _, some _]) dX1_rateOf_56 rfl (by decide) rfl ?_
      refine aw_goto (tgt := 7) dX1_rateOf_59 rfl ?_
      exact ih (by omega) x y  (by simp only [allN, sm] at i7_0 ⊢; split <;> omega) (by simp only [takN, sm] at i7_1 ⊢; split <;> omega)
    · skip
      refine aw_if_ne (tgt := 56) dX1_rateOf_22 rfl (by decide) (fun c => absurd c (by decide)) (fun _ => ?_)
      refine aw_aload_n dX1_rateOf_25 rfl ?_
      refine aw_getf fg_X1_9 dX1_rateOf_26 (hc14 hnx) rfl ?_
      refine aw_iload dX1_rateOf_29 rfl ?_
      refine aw_ialdr dX1_rateOf_31 (hc15 hnx) (by omega) (by decide) (hR 4 (by decide)) (fun q31 => ?_)
      refine aw_iload_n dX1_rateOf_32 rfl ?_
      refine aw_icmp_ne (tgt := 56) dX1_rateOf_33 rfl (by omega) (fun c33 => ?_) (fun c33 => ?_)
      · skip
        refine aw_iinc (ls' := [some (rf Γ 14), some _, some _, some _, some _]) dX1_rateOf_56 rfl (by decide) rfl ?_
        refine aw_goto (tgt := 7) dX1_rateOf_59 rfl ?_
        exact ih (by omega) x y  (by simp only [allN, sm] at i7_0 ⊢; split <;> omega) (by simp only [takN, sm] at i7_1 ⊢; split <;> omega)
      · skip
        refine aw_iload_n dX1_rateOf_36 rfl ?_
        refine aw_aload_n dX1_rateOf_37 rfl ?_
        refine aw_getf fg_X1_18 dX1_rateOf_38 (hc14 hnx) rfl ?_
        refine aw_iload dX1_rateOf_41 rfl ?_
        refine aw_ialdr dX1_rateOf_43 (hc17 hnx) (by omega) (by decide) (hR 6 (by decide)) (fun q43 => ?_)
        refine aw_iadd dX1_rateOf_44 ?_
        refine aw_nmI (fun x2_45 hx2_45 => ?_)
        refine aw_istore_n (ls' := [some (rf Γ 14), some _, some _, some _, some _]) dX1_rateOf_45 (by decide) rfl ?_
        refine aw_iload_n dX1_rateOf_46 rfl ?_
        refine aw_aload_n dX1_rateOf_47 rfl ?_
        refine aw_getf fg_X1_27 dX1_rateOf_48 (hc14 hnx) rfl ?_
        refine aw_iload dX1_rateOf_51 rfl ?_
        refine aw_ialdr dX1_rateOf_53 (hc20 hnx) (by omega) (by decide) (hR 9 (by decide)) (fun q53 => ?_)
        refine aw_iadd dX1_rateOf_54 ?_
        refine aw_nmI (fun x3_55 hx3_55 => ?_)
        refine aw_istore_n (ls' := [some (rf Γ 14), some _, some _, some _, some _]) dX1_rateOf_55 (by decide) rfl ?_
        refine aw_iinc (ls' := [some (rf Γ 14), some _, some _, some _, some _]) dX1_rateOf_56 rfl (by decide) rfl ?_
        refine aw_goto (tgt := 7) dX1_rateOf_59 rfl ?_
        exact ih (by omega) x2_45 x3_55  (by simp only [allN, sm] at i7_0 ⊢; split <;> omega) (by simp only [takN, sm] at i7_1 ⊢; split <;> omega)

set_option maxHeartbeats 1000000 in
theorem c_X10_mean {Γ : GT} {S T U V : St} {G : Gw} {nx d : Nat} {Q : QT} (hnx : 52 ≤ nx) {i j : Int} {c : Int} (hI : Inv c S) (hi : inI i) (hj : inI j) (hQ : ∀ r : Int64, r = aMean S i j → Q (some (.long r)) (hp Γ S T U V G) nx) : AM Γ MX10_mean (d + 2, 0, 0) [rf Γ 0, vi i, vi j] (hp Γ S T U V G) nx Q := by
  refine am_of (by decide) (Nat.le_of_ble_eq_true rfl) (ls := [some (rf Γ 0), some _, some _]) rfl ?_
  have hR := hI.R
  have i1 := hI.i1
  have hz : 0 ≤ S 28 0 ∧ S 28 0 ≤ 60 := i1.2.2.1
  have hkS : nS S = (S 28 0).toNat := rfl
  have hkI : nIm S = (S 27 0).toNat := rfl
  have hkO : nOr S = (S 26 0).toNat := rfl
  refine aw_aload_n dX10_mean_0 rfl ?_
  refine aw_getf fg_X10_26 dX10_mean_1 (hc0 hnx) rfl ?_
  refine aw_iload_n dX10_mean_4 rfl ?_
  refine aw_iload_n dX10_mean_5 rfl ?_
  refine aw_callV (As := [_, _]) (ρ := (_, 0, 0)) (kn' := (0, 0)) cv_X10_87 dX10_mean_6 rfl rfl (hc9 hnx) rfl rfl (Nat.le_of_ble_eq_true rfl) (rmR _ _ _) ⟨Nat.le_refl _, Nat.le_refl _⟩ rfl (c_X7_hasPair hnx hR (by omega) (fun r6 h6 => ?_))
  rcases h6 with ⟨rfl, h6⟩ | ⟨rfl, h6⟩
  · skip
    refine aw_if_ne (tgt := 16) dX10_mean_9 rfl (by decide) (fun _ => ?_) (fun c => absurd c (by decide))
    refine aw_aload_n dX10_mean_16 rfl ?_
    refine aw_getf fg_X10_26 dX10_mean_17 (hc0 hnx) rfl ?_
    refine aw_getf fg_X10_81 dX10_mean_20 (hc9 hnx) rfl ?_
    refine aw_iload_n dX10_mean_23 rfl ?_
    refine aw_iload_n dX10_mean_24 rfl ?_
    refine aw_callS (As := [_, _]) (ρ := (_, 0, 0)) (kn' := (0, 0)) cs_X10_160 dX10_mean_25 rfl rfl (Nat.le_of_ble_eq_true rfl) (rmR _ _ _) ⟨Nat.le_refl _, Nat.le_refl _⟩ rfl (c_X10_pairOf hnx  (fun r25 h25 => ?_))
    subst h25
    refine aw_callV (As := [_]) (ρ := (_, 0, 0)) (kn' := (0, 0)) cv_X10_235 dX10_mean_28 rfl rfl (hc10 hnx) rfl rfl (Nat.le_of_ble_eq_true rfl) (rmR _ _ _) ⟨Nat.le_refl _, Nat.le_refl _⟩ rfl (c_X5_inOldYears hnx hR (by omega) (fun r28 h28 => ?_))
    subst h28
    have dn := hI.mnDn (p := 4 * i + j) (by omega)
    have dn2 := dn; unfold mnD at dn2
    refine aw_i2d dX10_mean_31 ?_
    refine aw_ldc2d dX10_mean_32 qk_X10_238 ?_
    refine aw_ddiv dX10_mean_35 (dn2.n64 (by omega)) ?_
    refine aw_callS (As := [_]) (ρ := (_, 0, 0)) (kn' := (0, 0)) cs_X10_177 dX10_mean_36 rfl rfl (Nat.le_of_ble_eq_true rfl) (rmR _ _ _) ⟨Nat.le_refl _, Nat.le_refl _⟩ rfl (c_X10_bitsOf hnx (Or.inl (dn2.mono (by omega) (by omega))) ?_)
    exact aw_lreturn dX10_mean_39 rfl ⟨Nat.le_refl _, Nat.le_refl _⟩ (hQ _ (by unfold aMean; rw [if_pos (by simp only [isI, isO]; omega)]; rfl))
  · skip
    refine aw_if_ne (tgt := 16) dX10_mean_9 rfl (by decide) (fun c => absurd c (by decide)) (fun _ => ?_)
    refine aw_ldc2 dX10_mean_12 qk_X10_171 ?_
    refine aw_st (st' := vl (-1) :: _) rfl ?_
    exact aw_lreturn dX10_mean_15 rfl ⟨Nat.le_refl _, Nat.le_refl _⟩ (hQ _ (by unfold aMean; rw [if_neg (by simp only [isI, isO]; omega)]))

set_option maxHeartbeats 1000000 in
theorem c_X10_rate {Γ : GT} {S T U V : St} {G : Gw} {nx d : Nat} {Q : QT} (hnx : 52 ≤ nx) {i : Int} {c : Int} (hI : Inv c S) (hi : inI i) (hQ : ∀ r : Int64, r = aRate S i → Q (some (.long r)) (hp Γ S T U V G) nx) : AM Γ MX10_rate (d + 2, 0, 0) [rf Γ 0, vi i] (hp Γ S T U V G) nx Q := by
  refine am_of (by decide) (Nat.le_of_ble_eq_true rfl) (ls := [some (rf Γ 0), some _]) rfl ?_
  have hR := hI.R
  have i1 := hI.i1
  have hz : 0 ≤ S 28 0 ∧ S 28 0 ≤ 60 := i1.2.2.1
  have hkS : nS S = (S 28 0).toNat := rfl
  have hkI : nIm S = (S 27 0).toNat := rfl
  have hkO : nOr S = (S 26 0).toNat := rfl
  refine aw_aload_n dX10_rate_0 rfl ?_
  refine aw_getf fg_X10_26 dX10_rate_1 (hc0 hnx) rfl ?_
  refine aw_iload_n dX10_rate_4 rfl ?_
  refine aw_callV (As := [_]) (ρ := (_, 0, 0)) (kn' := (0, 0)) cv_X10_133 dX10_rate_5 rfl rfl (hc9 hnx) rfl rfl (Nat.le_of_ble_eq_true rfl) (rmR _ _ _) ⟨Nat.le_refl _, Nat.le_refl _⟩ rfl (c_X7_hasImporter hnx hR (by omega) (fun r5 h5 => ?_))
  rcases h5 with ⟨rfl, h5⟩ | ⟨rfl, h5⟩
  · skip
    refine aw_if_eq (tgt := 28) dX10_rate_8 rfl (by decide) (fun c => absurd c (by decide)) (fun _ => ?_)
    refine aw_aload_n dX10_rate_11 rfl ?_
    refine aw_getf fg_X10_26 dX10_rate_12 (hc0 hnx) rfl ?_
    refine aw_getf fg_X10_106 dX10_rate_15 (hc9 hnx) rfl ?_
    refine aw_iload_n dX10_rate_18 rfl ?_
    refine aw_callV (As := [_]) (ρ := (_, 0, 0)) (kn' := (0, 0)) cv_X10_264 dX10_rate_19 rfl rfl (hc14 hnx) rfl rfl (Nat.le_of_ble_eq_true rfl) (rmR _ _ _) ⟨Nat.le_refl _, Nat.le_refl _⟩ rfl (c_X1_rateOf hnx hI (by omega) ?_)
    refine aw_callS (As := [_]) (ρ := (_, 0, 0)) (kn' := (0, 0)) cs_X10_177 dX10_rate_22 rfl rfl (Nat.le_of_ble_eq_true rfl) (rmR _ _ _) ⟨Nat.le_refl _, Nat.le_refl _⟩ rfl (c_X10_bitsOf hnx (hI.rateOk i) ?_)
    refine aw_goto (tgt := 31) dX10_rate_25 rfl ?_
    exact aw_lreturn dX10_rate_31 rfl ⟨Nat.le_refl _, Nat.le_refl _⟩ (hQ _ (by unfold aRate; first | rw [if_pos (by simp only [isI]; omega)] | rw [if_neg (by simp only [isI]; omega)]))
  · skip
    refine aw_if_eq (tgt := 28) dX10_rate_8 rfl (by decide) (fun _ => ?_) (fun c => absurd c (by decide))
    refine aw_ldc2 dX10_rate_28 qk_X10_171 ?_
    refine aw_st (st' := vl (-1) :: _) rfl ?_
    exact aw_lreturn dX10_rate_31 rfl ⟨Nat.le_refl _, Nat.le_refl _⟩ (hQ _ (by unfold aRate; first | rw [if_pos (by simp only [isI]; omega)] | rw [if_neg (by simp only [isI]; omega)]))

set_option maxHeartbeats 1000000 in
theorem c_X10_owed {Γ : GT} {S T U V : St} {G : Gw} {nx d : Nat} {Q : QT} (hnx : 52 ≤ nx) {i : Int} {c : Int} (hI : Inv c S) (hi : inI i) (hQ : ∀ r : Int64, r = aOwed S i → Q (some (.long r)) (hp Γ S T U V G) nx) : AM Γ MX10_owed (d + 1, 0, 0) [rf Γ 0, vi i] (hp Γ S T U V G) nx Q := by
  refine am_of (by decide) (Nat.le_of_ble_eq_true rfl) (ls := [some (rf Γ 0), some _]) rfl ?_
  have hR := hI.R
  have i1 := hI.i1
  have hz : 0 ≤ S 28 0 ∧ S 28 0 ≤ 60 := i1.2.2.1
  have hkS : nS S = (S 28 0).toNat := rfl
  have hkI : nIm S = (S 27 0).toNat := rfl
  have hkO : nOr S = (S 26 0).toNat := rfl
  refine aw_aload_n dX10_owed_0 rfl ?_
  refine aw_getf fg_X10_26 dX10_owed_1 (hc0 hnx) rfl ?_
  refine aw_iload_n dX10_owed_4 rfl ?_
  refine aw_callV (As := [_]) (ρ := (_, 0, 0)) (kn' := (0, 0)) cv_X10_133 dX10_owed_5 rfl rfl (hc9 hnx) rfl rfl (Nat.le_of_ble_eq_true rfl) (rmR _ _ _) ⟨Nat.le_refl _, Nat.le_refl _⟩ rfl (c_X7_hasImporter hnx hR (by omega) (fun r5 h5 => ?_))
  rcases h5 with ⟨rfl, h5⟩ | ⟨rfl, h5⟩
  · skip
    refine aw_if_eq (tgt := 26) dX10_owed_8 rfl (by decide) (fun c => absurd c (by decide)) (fun _ => ?_)
    refine aw_aload_n dX10_owed_11 rfl ?_
    refine aw_getf fg_X10_26 dX10_owed_12 (hc0 hnx) rfl ?_
    refine aw_getf fg_X10_271 dX10_owed_15 (hc9 hnx) rfl ?_
    refine aw_iload_n dX10_owed_18 rfl ?_
    refine aw_dald dX10_owed_19 (hc36 hnx) (by omega) (by decide) ?_
    have ow := hI.owDn (i := i) (by omega)
    refine aw_callS (As := [_]) (ρ := (_, 0, 0)) (kn' := (0, 0)) cs_X10_177 dX10_owed_20 rfl rfl (Nat.le_of_ble_eq_true rfl) (rmR _ _ _) ⟨Nat.le_refl _, Nat.le_refl _⟩ rfl (c_X10_bitsOf hnx (Or.inl (ow.1.mono (by omega) (by omega))) ?_)
    refine aw_goto (tgt := 29) dX10_owed_23 rfl ?_
    exact aw_lreturn dX10_owed_29 rfl ⟨Nat.le_refl _, Nat.le_refl _⟩ (hQ _ (by unfold aOwed; first | (rw [if_pos (by simp only [isI]; omega)]; rfl) | rw [if_neg (by simp only [isI]; omega)]))
  · skip
    refine aw_if_eq (tgt := 26) dX10_owed_8 rfl (by decide) (fun _ => ?_) (fun c => absurd c (by decide))
    refine aw_ldc2 dX10_owed_26 qk_X10_171 ?_
    refine aw_st (st' := vl (-1) :: _) rfl ?_
    exact aw_lreturn dX10_owed_29 rfl ⟨Nat.le_refl _, Nat.le_refl _⟩ (hQ _ (by unfold aOwed; first | (rw [if_pos (by simp only [isI]; omega)]; rfl) | rw [if_neg (by simp only [isI]; omega)]))

set_option maxHeartbeats 1000000 in
theorem c_X10_speed {Γ : GT} {S T U V : St} {G : Gw} {nx d : Nat} {Q : QT} (hnx : 52 ≤ nx) {l : Int} {c : Int} (hI : Inv c S) (hl : inI l) (hQ : ∀ r : Int64, r = aSpeed S l → Q (some (.long r)) (hp Γ S T U V G) nx) : AM Γ MX10_speed (d + 1, 0, 0) [rf Γ 0, vi l] (hp Γ S T U V G) nx Q := by
  refine am_of (by decide) (Nat.le_of_ble_eq_true rfl) (ls := [some (rf Γ 0), some _, none]) rfl ?_
  have hR := hI.R
  have i1 := hI.i1
  have hz : 0 ≤ S 28 0 ∧ S 28 0 ≤ 60 := i1.2.2.1
  have hkS : nS S = (S 28 0).toNat := rfl
  have hkI : nIm S = (S 27 0).toNat := rfl
  have hkO : nOr S = (S 26 0).toNat := rfl
  refine aw_aload_n dX10_speed_0 rfl ?_
  refine aw_getf fg_X10_26 dX10_speed_1 (hc0 hnx) rfl ?_
  refine aw_getf fg_X10_106 dX10_speed_4 (hc9 hnx) rfl ?_
  refine aw_iload_n dX10_speed_7 rfl ?_
  refine aw_callV (As := [_]) (ρ := (_, 0, 0)) (kn' := (0, 0)) cv_X10_110 dX10_speed_8 rfl rfl (hc14 hnx) rfl rfl (Nat.le_of_ble_eq_true rfl) (rmR _ _ _) ⟨Nat.le_refl _, Nat.le_refl _⟩ rfl (c_X1_has hnx hR (by omega) (fun r8 h8 => ?_))
  rcases h8 with ⟨rfl, h8⟩ | ⟨rfl, h8⟩
  · skip
    refine aw_if_ne (tgt := 18) dX10_speed_11 rfl (by decide) (fun _ => ?_) (fun c => absurd c (by decide))
    refine aw_aload_n dX10_speed_18 rfl ?_
    refine aw_getf fg_X10_26 dX10_speed_19 (hc0 hnx) rfl ?_
    refine aw_getf fg_X10_106 dX10_speed_22 (hc9 hnx) rfl ?_
    refine aw_getf fg_X10_252 dX10_speed_25 (hc14 hnx) rfl ?_
    refine aw_iload_n dX10_speed_28 rfl ?_
    refine aw_ialdr dX10_speed_29 (hc20 hnx) (by omega) (by decide) (hR 9 (by decide)) (fun q29 => ?_)
    have li := hI.li (l := l) (by omega)
    have am := hI.am (l := l) (by omega)
    have sp := hI.spDn (l := l) (by omega)
    refine aw_nmI (fun x2_30 hx2_30 => ?_)
    refine aw_istore_n (ls' := [some (rf Γ 0), some _, some _]) dX10_speed_30 (by decide) rfl ?_
    subst hx2_30
    refine aw_iload_n dX10_speed_31 rfl ?_
    refine aw_if_le (tgt := 54) dX10_speed_32 rfl (by omega) (fun c32 => ?_) (fun c32 => ?_)
    · skip
      refine aw_ldc2d dX10_speed_54 qk_X10_302 ?_
      first | refine aw_sd (a := spD S l) (by rw [spD, if_pos (by omega)]) ?_ | refine aw_sd (a := spD S l) (by rw [spD, if_neg (by omega)]) ?_
      refine aw_callS (As := [_]) (ρ := (_, 0, 0)) (kn' := (0, 0)) cs_X10_177 dX10_speed_57 rfl rfl (Nat.le_of_ble_eq_true rfl) (rmR _ _ _) ⟨Nat.le_refl _, Nat.le_refl _⟩ rfl (c_X10_bitsOf hnx (sp) ?_)
      exact aw_lreturn dX10_speed_60 rfl ⟨Nat.le_refl _, Nat.le_refl _⟩ (hQ _ (by unfold aSpeed; rw [if_pos (by simp only [isL]; omega)]))
    · skip
      refine aw_aload_n dX10_speed_35 rfl ?_
      refine aw_getf fg_X10_26 dX10_speed_36 (hc0 hnx) rfl ?_
      refine aw_getf fg_X10_106 dX10_speed_39 (hc9 hnx) rfl ?_
      refine aw_getf fg_X10_299 dX10_speed_42 (hc14 hnx) rfl ?_
      refine aw_iload_n dX10_speed_45 rfl ?_
      refine aw_ialdr dX10_speed_46 (hc24 hnx) (by omega) (by decide) (hR 13 (by decide)) (fun q46 => ?_)
      refine aw_i2d dX10_speed_47 ?_
      refine aw_iload_n dX10_speed_48 rfl ?_
      refine aw_i2d dX10_speed_49 ?_
      have dn : Dn 990 1057 (FP.ddiv (FP.i2d (I (S 13 l))) (FP.i2d (I (S 9 l)))) := (Dn_i2d (v := S 13 l) (by omega) (by omega)).div (i2d_pos c32 (by omega)) (by omega) (by omega) (by omega)
      refine aw_ddiv dX10_speed_50 (dn.n64 (by omega)) ?_
      refine aw_goto (tgt := 57) dX10_speed_51 rfl ?_
      first | refine aw_sd (a := spD S l) (by rw [spD, if_pos (by omega)]) ?_ | refine aw_sd (a := spD S l) (by rw [spD, if_neg (by omega)]) ?_
      refine aw_callS (As := [_]) (ρ := (_, 0, 0)) (kn' := (0, 0)) cs_X10_177 dX10_speed_57 rfl rfl (Nat.le_of_ble_eq_true rfl) (rmR _ _ _) ⟨Nat.le_refl _, Nat.le_refl _⟩ rfl (c_X10_bitsOf hnx (sp) ?_)
      exact aw_lreturn dX10_speed_60 rfl ⟨Nat.le_refl _, Nat.le_refl _⟩ (hQ _ (by unfold aSpeed; rw [if_pos (by simp only [isL]; omega)]))
  · skip
    refine aw_if_ne (tgt := 18) dX10_speed_11 rfl (by decide) (fun c => absurd c (by decide)) (fun _ => ?_)
    refine aw_ldc2 dX10_speed_14 qk_X10_171 ?_
    refine aw_st (st' := vl (-1) :: _) rfl ?_
    exact aw_lreturn dX10_speed_17 rfl ⟨Nat.le_refl _, Nat.le_refl _⟩ (hQ _ (by unfold aSpeed; rw [if_neg (by simp only [isL]; omega)]))

set_option maxHeartbeats 1000000 in
theorem c_X10_focus {Γ : GT} {S T U V : St} {G : Gw} {nx d : Nat} {Q : QT} (hnx : 52 ≤ nx) {j : Int} {c : Int} (hI : Inv c S) (hj : inI j) (hQ : ∀ r : Int64, r = aFocus S j → Q (some (.long r)) (hp Γ S T U V G) nx) : AM Γ MX10_focus (d + 2, 0, 0) [rf Γ 0, vi j] (hp Γ S T U V G) nx Q := by
  refine am_of (by decide) (Nat.le_of_ble_eq_true rfl) (ls := [some (rf Γ 0), some _, none, none, none, none, none, none]) rfl ?_
  have hR := hI.R
  have i1 := hI.i1
  have hz : 0 ≤ S 28 0 ∧ S 28 0 ≤ 60 := i1.2.2.1
  have hkS : nS S = (S 28 0).toNat := rfl
  have hkI : nIm S = (S 27 0).toNat := rfl
  have hkO : nOr S = (S 26 0).toNat := rfl
  refine aw_aload_n dX10_focus_0 rfl ?_
  refine aw_getf fg_X10_26 dX10_focus_1 (hc0 hnx) rfl ?_
  refine aw_iload_n dX10_focus_4 rfl ?_
  refine aw_callV (As := [_]) (ρ := (_, 0, 0)) (kn' := (0, 0)) cv_X10_191 dX10_focus_5 rfl rfl (hc9 hnx) rfl rfl (Nat.le_of_ble_eq_true rfl) (rmR _ _ _) ⟨Nat.le_refl _, Nat.le_refl _⟩ rfl (c_X7_hasOrigin hnx hR (by omega) (fun r5 h5 => ?_))
  rcases h5 with ⟨rfl, h5⟩ | ⟨rfl, h5⟩
  · skip
    refine aw_if_ne (tgt := 15) dX10_focus_8 rfl (by decide) (fun _ => ?_) (fun c => absurd c (by decide))
    refine aw_aload_n dX10_focus_15 rfl ?_
    refine aw_getf fg_X10_26 dX10_focus_16 (hc0 hnx) rfl ?_
    refine aw_getf fg_X10_156 dX10_focus_19 (hc9 hnx) rfl ?_
    refine aw_iload_n dX10_focus_22 rfl ?_
    refine aw_iconst dX10_focus_23 ?_
    refine aw_callV (As := [_, _]) (ρ := (_, 0, 0)) (kn' := (0, 0)) cv_X10_217 dX10_focus_24 rfl rfl (hc25 hnx) rfl rfl (Nat.le_of_ble_eq_true rfl) (rmR _ _ _) ⟨Nat.le_refl _, Nat.le_refl _⟩ rfl (c_X3_figure hnx hR (by omega) (fun r24 h24 => ?_))
    subst h24
    have fg := hI.fg (o := j) (by omega)
    refine aw_istore_n (ls' := [some (rf Γ 0), some _, some _, none, none, none, none, none]) dX10_focus_27 (by decide) rfl ?_
    refine aw_dconst0 dX10_focus_28 ?_
    refine aw_nmD (fun x3_29 hx3_29 => ?_)
    refine aw_dstore_n (ls' := [some (rf Γ 0), some _, some _, some _, none, none, none, none]) dX10_focus_29 (by decide) rfl ?_
    subst hx3_29
    refine aw_iconst dX10_focus_30 ?_
    refine aw_istore (ls' := [some (rf Γ 0), some _, some _, some _, none, some _, none, none]) dX10_focus_31 (by decide) rfl ?_
    refine loopN (nIm S) (P := fun k => ∀ (s : UInt64) , s = fcD S j k → k = 0 ∨ 0 < S 14 (j * 8 + 4) →  AW Γ MX10_focus _ _ (0, 0) 33 [some (rf Γ 0), some (vi j), some (vi (S 14 (j * 8 + 4))), some (Value.double s), none, some (vi (k : Int)), none, none] [] (hp Γ S T U V G) nx) (fun k hk ih => ?_) 0 (Nat.zero_le _) _ rfl (Or.inl rfl)
    intro s i33_0 i33_1
    refine aw_iload dX10_focus_33 rfl ?_
    refine aw_aload_n dX10_focus_35 rfl ?_
    refine aw_getf fg_X10_26 dX10_focus_36 (hc0 hnx) rfl ?_
    refine aw_getf fg_X10_81 dX10_focus_39 (hc9 hnx) rfl ?_
    refine aw_getf fg_X10_281 dX10_focus_42 (hc10 hnx) rfl ?_
    refine aw_icmp_ge (tgt := 89) dX10_focus_45 rfl (by omega) (fun c45 => ?_) (fun c45 => ?_)
    · skip
      have ea : aFocus S j = s.toInt64 := by
        unfold aFocus; rw [if_pos (by simp only [isO]; omega), i33_0]
        split
        · rw [show k = nIm S by omega]
        · rw [show k = 0 by omega]; rfl
      have dd : Dn 1 2047 s := by
        rw [i33_0]
        by_cases hp : 0 < S 14 (j * 8 + 4)
        · exact (hI.fcDn (o := j) (by omega) hp k (by omega)).mono (by omega) (by omega)
        · rw [show k = 0 by omega]; exact Or.inl rfl
      refine aw_dload_n dX10_focus_89 rfl ?_
      refine aw_callS (As := [_]) (ρ := (_, 0, 0)) (kn' := (0, 0)) cs_X10_177 dX10_focus_90 rfl rfl (Nat.le_of_ble_eq_true rfl) (rmR _ _ _) ⟨Nat.le_refl _, Nat.le_refl _⟩ rfl (c_X10_bitsOf hnx (Or.inl dd) ?_)
      exact aw_lreturn dX10_focus_93 rfl ⟨Nat.le_refl _, Nat.le_refl _⟩ (hQ _ (ea.symm))
    · skip
      refine aw_iload_n dX10_focus_48 rfl ?_
      refine aw_if_le (tgt := 89) dX10_focus_49 rfl (by omega) (fun c49 => ?_) (fun c49 => ?_)
      · skip
        have ea : aFocus S j = s.toInt64 := by
          unfold aFocus; rw [if_pos (by simp only [isO]; omega), i33_0]
          split
          · rw [show k = nIm S by omega]
          · rw [show k = 0 by omega]; rfl
        have dd : Dn 1 2047 s := by
          rw [i33_0]
          by_cases hp : 0 < S 14 (j * 8 + 4)
          · exact (hI.fcDn (o := j) (by omega) hp k (by omega)).mono (by omega) (by omega)
          · rw [show k = 0 by omega]; exact Or.inl rfl
        refine aw_dload_n dX10_focus_89 rfl ?_
        refine aw_callS (As := [_]) (ρ := (_, 0, 0)) (kn' := (0, 0)) cs_X10_177 dX10_focus_90 rfl rfl (Nat.le_of_ble_eq_true rfl) (rmR _ _ _) ⟨Nat.le_refl _, Nat.le_refl _⟩ rfl (c_X10_bitsOf hnx (Or.inl dd) ?_)
        exact aw_lreturn dX10_focus_93 rfl ⟨Nat.le_refl _, Nat.le_refl _⟩ (hQ _ (ea.symm))
      · skip
        have pr := hI.pr (i := (k : Int)) (o := j) (by omega) (by omega)
        have dp := hI.fcPn (o := j) (by omega) (i := (k : Int)) (by omega) c49
        have ds := hI.fcDn (o := j) (by omega) c49 k (by omega)
        have dm : Dn 957 (1092 + 2 * k) (FP.dmul (fcP S j k) (fcP S j k)) := dp.mul dp (by omega) (by omega) (by omega)
        have da := ds.add dm (hi := 1092 + 2 * (k + 1)) (by omega)
        refine aw_aload_n dX10_focus_52 rfl ?_
        refine aw_getf fg_X10_26 dX10_focus_53 (hc0 hnx) rfl ?_
        refine aw_getf fg_X10_156 dX10_focus_56 (hc9 hnx) rfl ?_
        refine aw_getf fg_X10_287 dX10_focus_59 (hc25 hnx) rfl ?_
        refine aw_iload dX10_focus_62 rfl ?_
        refine aw_iload_n dX10_focus_64 rfl ?_
        refine aw_callS (As := [_, _]) (ρ := (_, 0, 0)) (kn' := (0, 0)) cs_X10_160 dX10_focus_65 rfl rfl (Nat.le_of_ble_eq_true rfl) (rmR _ _ _) ⟨Nat.le_refl _, Nat.le_refl _⟩ rfl (c_X10_pairOf hnx  (fun r65 h65 => ?_))
        refine aw_ialdr dX10_focus_68 (hc30 hnx) (by omega) (by decide) (hR 18 (by decide)) (fun q68 => ?_)
        refine aw_i2d dX10_focus_69 ?_
        refine aw_iload_n dX10_focus_70 rfl ?_
        refine aw_i2d dX10_focus_71 ?_
        refine aw_ddiv dX10_focus_72 (by rw [h65]; exact dp.n64 (by omega)) ?_
        refine aw_nmD (fun x6_73 hx6_73 => ?_)
        refine aw_dstore (ls' := [some (rf Γ 0), some _, some _, some _, none, some _, some _, none]) dX10_focus_73 (by decide) rfl ?_
        refine aw_dload_n dX10_focus_75 rfl ?_
        refine aw_dload dX10_focus_76 rfl ?_
        refine aw_dload dX10_focus_78 rfl ?_
        refine aw_dmul dX10_focus_80 (by rw [hx6_73, h65]; exact dm.n64 (by omega)) ?_
        refine aw_dadd dX10_focus_81 (by rw [hx6_73, h65, i33_0]; exact da.n64 (by omega)) ?_
        refine aw_nmD (fun x3_82 hx3_82 => ?_)
        refine aw_dstore_n (ls' := [some (rf Γ 0), some _, some _, some _, none, some _, some _, none]) dX10_focus_82 (by decide) rfl ?_
        refine aw_iinc (ls' := [some (rf Γ 0), some _, some _, some _, none, some _, some _, none]) dX10_focus_83 rfl (by decide) rfl ?_
        refine aw_goto (tgt := 33) dX10_focus_86 rfl ?_
        refine aw_fg [true, true, true, true, true, true, false, true] (ls' := [some (rf Γ 0), some _, some _, some _, none, some _, none, none]) rfl ?_
        exact ih (by omega) x3_82  (by rw [hx3_82, hx6_73, i33_0, h65]; rfl) (Or.inr c49)
  · skip
    refine aw_if_ne (tgt := 15) dX10_focus_8 rfl (by decide) (fun c => absurd c (by decide)) (fun _ => ?_)
    refine aw_ldc2 dX10_focus_11 qk_X10_171 ?_
    refine aw_st (st' := vl (-1) :: _) rfl ?_
    exact aw_lreturn dX10_focus_14 rfl ⟨Nat.le_refl _, Nat.le_refl _⟩ (hQ _ (by unfold aFocus; rw [if_neg (by simp only [isO]; omega)]))

set_option maxHeartbeats 1000000 in
theorem c_X10_likely {Γ : GT} {S T U V : St} {G : Gw} {nx d : Nat} {Q : QT} (hnx : 52 ≤ nx) {j : Int} {c : Int} (hI : Inv c S) (hj : inI j) (hQ : ∀ r : Int64, r = aLikely S j → Q (some (.long r)) (hp Γ S T U V G) nx) : AM Γ MX10_likely (d + 2, 0, 0) [rf Γ 0, vi j] (hp Γ S T U V G) nx Q := by
  refine am_of (by decide) (Nat.le_of_ble_eq_true rfl) (ls := [some (rf Γ 0), some _, none, none, none, none, none, none]) rfl ?_
  have hR := hI.R
  have i1 := hI.i1
  have hz : 0 ≤ S 28 0 ∧ S 28 0 ≤ 60 := i1.2.2.1
  have hkS : nS S = (S 28 0).toNat := rfl
  have hkI : nIm S = (S 27 0).toNat := rfl
  have hkO : nOr S = (S 26 0).toNat := rfl
  refine aw_aload_n dX10_likely_0 rfl ?_
  refine aw_getf fg_X10_26 dX10_likely_1 (hc0 hnx) rfl ?_
  refine aw_iload_n dX10_likely_4 rfl ?_
  refine aw_callV (As := [_]) (ρ := (_, 0, 0)) (kn' := (0, 0)) cv_X10_191 dX10_likely_5 rfl rfl (hc9 hnx) rfl rfl (Nat.le_of_ble_eq_true rfl) (rmR _ _ _) ⟨Nat.le_refl _, Nat.le_refl _⟩ rfl (c_X7_hasOrigin hnx hR (by omega) (fun r5 h5 => ?_))
  rcases h5 with ⟨rfl, h5⟩ | ⟨rfl, h5⟩
  · skip
    refine aw_if_ne (tgt := 15) dX10_likely_8 rfl (by decide) (fun _ => ?_) (fun c => absurd c (by decide))
    refine aw_aload_n dX10_likely_15 rfl ?_
    refine aw_getf fg_X10_26 dX10_likely_16 (hc0 hnx) rfl ?_
    refine aw_getf fg_X10_106 dX10_likely_19 (hc9 hnx) rfl ?_
    refine aw_astore_n (ls' := [some (rf Γ 0), some _, some (rf Γ 14), none, none, none, none, none]) dX10_likely_22 (by decide) rfl ?_
    refine aw_dconst0 dX10_likely_23 ?_
    refine aw_nmD (fun x3_24 hx3_24 => ?_)
    refine aw_dstore_n (ls' := [some (rf Γ 0), some _, some (rf Γ 14), some _, none, none, none, none]) dX10_likely_24 (by decide) rfl ?_
    subst hx3_24
    refine aw_iconst dX10_likely_25 ?_
    refine aw_istore (ls' := [some (rf Γ 0), some _, some (rf Γ 14), some _, none, some _, none, none]) dX10_likely_26 (by decide) rfl ?_
    refine loopN (nS S) (P := fun k => ∀ (s : UInt64) , s = lkD S j k →  AW Γ MX10_likely _ _ (0, 0) 28 [some (rf Γ 0), some (vi j), some (rf Γ 14), some (Value.double s), none, some (vi (k : Int)), none, none] [] (hp Γ S T U V G) nx) (fun k hk ih => ?_) 0 (Nat.zero_le _) _ rfl
    intro s i28_0
    refine aw_iload dX10_likely_28 rfl ?_
    refine aw_aload_n dX10_likely_30 rfl ?_
    refine aw_getf fg_X10_139 dX10_likely_31 (hc14 hnx) rfl ?_
    refine aw_icmp_ge (tgt := 100) dX10_likely_34 rfl (by omega) (fun c34 => ?_) (fun c34 => ?_)
    · skip
      obtain rfl : k = nS S := by omega
      refine aw_dload_n dX10_likely_100 rfl ?_
      refine aw_callS (As := [_]) (ρ := (_, 0, 0)) (kn' := (0, 0)) cs_X10_177 dX10_likely_101 rfl rfl (Nat.le_of_ble_eq_true rfl) (rmR _ _ _) ⟨Nat.le_refl _, Nat.le_refl _⟩ rfl (c_X10_bitsOf hnx (Or.inl (by rw [i28_0]; exact (hI.lkDn j (nS S) (Nat.le_refl _)).mono (by omega) (by omega))) ?_)
      exact aw_lreturn dX10_likely_104 rfl ⟨Nat.le_refl _, Nat.le_refl _⟩ (hQ _ (by unfold aLikely; rw [if_pos (by simp only [isO]; omega), i28_0]))
    · skip
      refine aw_aload_n dX10_likely_37 rfl ?_
      refine aw_iload dX10_likely_38 rfl ?_
      refine aw_callV (As := [_]) (ρ := (_, 0, 0)) (kn' := (0, 0)) cv_X10_115 dX10_likely_40 rfl rfl (hc14 hnx) rfl rfl (Nat.le_of_ble_eq_true rfl) (rmR _ _ _) ⟨Nat.le_refl _, Nat.le_refl _⟩ rfl (c_X1_isOpen hnx hR (by omega) (fun r40 h40 => ?_))
      rcases h40 with ⟨rfl, h40⟩ | ⟨rfl, h40⟩
      · skip
        refine aw_if_eq (tgt := 94) dX10_likely_43 rfl (by decide) (fun c => absurd c (by decide)) (fun _ => ?_)
        refine aw_aload_n dX10_likely_46 rfl ?_
        refine aw_getf fg_X10_243 dX10_likely_47 (hc14 hnx) rfl ?_
        refine aw_iload dX10_likely_50 rfl ?_
        refine aw_ialdr dX10_likely_52 (hc16 hnx) (by omega) (by decide) (hR 5 (by decide)) (fun q52 => ?_)
        refine aw_iload_n dX10_likely_53 rfl ?_
        refine aw_icmp_ne (tgt := 94) dX10_likely_54 rfl (by omega) (fun c54 => ?_) (fun c54 => ?_)
        · skip
          first | have e91a : x3_93 = FP.dadd (lkD S j k) (lkT S k) := by rw [hx3_93, i28_0] | skip
          refine aw_iinc (ls' := [some (rf Γ 0), some _, some (rf Γ 14), some _, none, some _, none, none]) dX10_likely_94 rfl (by decide) rfl ?_
          refine aw_goto (tgt := 28) dX10_likely_97 rfl ?_
          exact ih (by omega) s  (by rw [lkD]; first | (rw [if_neg (by omega)]; exact i28_0) | (rw [if_pos (by omega)]; first | exact e91a | exact e91b))
        · skip
          have li := hI.li (l := (k : Int)) (by omega)
          have lt := hI.lkTn (l := (k : Int)) (by omega)
          have ld := hI.lkDn j k (by omega)
          have la := ld.add (lt.mono (Nat.le_refl _) (show 1091 ≤ 1091 + 2 * k by omega)) (hi := 1091 + 2 * (k + 1)) (by omega)
          have rn := rneg_iff S (S 4 k) (nS S)
          refine aw_aload_n dX10_likely_57 rfl ?_
          refine aw_aload_n dX10_likely_58 rfl ?_
          refine aw_getf fg_X10_136 dX10_likely_59 (hc14 hnx) rfl ?_
          refine aw_iload dX10_likely_62 rfl ?_
          refine aw_ialdr dX10_likely_64 (hc15 hnx) (by omega) (by decide) (hR 4 (by decide)) (fun q64 => ?_)
          refine aw_callV (As := [_]) (ρ := (_, 0, 0)) (kn' := (0, 0)) cv_X10_264 dX10_likely_65 rfl rfl (hc14 hnx) rfl rfl (Nat.le_of_ble_eq_true rfl) (rmR _ _ _) ⟨Nat.le_refl _, Nat.le_refl _⟩ rfl (c_X1_rateOf hnx hI (by omega) ?_)
          refine aw_nmD (fun x6_68 hx6_68 => ?_)
          refine aw_dstore (ls' := [some (rf Γ 0), some _, some (rf Γ 14), some _, none, some _, some _, none]) dX10_likely_68 (by decide) rfl ?_
          refine aw_dload_n dX10_likely_70 rfl ?_
          refine aw_aload_n dX10_likely_71 rfl ?_
          refine aw_iload dX10_likely_72 rfl ?_
          refine aw_callV (As := [_]) (ρ := (_, 0, 0)) (kn' := (0, 0)) cv_X10_118 dX10_likely_74 rfl rfl (hc14 hnx) rfl rfl (Nat.le_of_ble_eq_true rfl) (rmR _ _ _) ⟨Nat.le_refl _, Nat.le_refl _⟩ rfl (c_X1_remains hnx hR (by omega) (fun r74 h74 => ?_))
          refine aw_i2d dX10_likely_77 ?_
          refine aw_dload dX10_likely_78 rfl ?_
          refine aw_dconst0 dX10_likely_80 ?_
          refine aw_dcmp dX10_likely_81 ?_
          refine aw_si (a := I (rneg S (S 4 k) (nS S))) (by rw [hx6_68]; exact (hI.cmpRate (S 4 k)).symm) ?_
          refine aw_if_ge (tgt := 89) dX10_likely_82 rfl (by omega) (fun c82 => ?_) (fun c82 => ?_)
          · skip
            refine aw_dload dX10_likely_89 rfl ?_
            first | refine aw_sd (a := rateP S (S 4 k) (nS S)) (by rw [rateP, if_neg (by omega)]) ?_ | refine aw_sd (a := rateP S (S 4 k) (nS S)) (by rw [rateP, if_pos (by omega), hx6_68]) ?_
            refine aw_dmul dX10_likely_91 (by rw [h74]; exact lt.n64 (by omega)) ?_
            refine aw_sd (a := lkT S k) (by rw [h74]; rfl) ?_
            refine aw_dadd dX10_likely_92 (by rw [i28_0]; exact la.n64 (by omega)) ?_
            refine aw_nmD (fun x3_93 hx3_93 => ?_)
            refine aw_dstore_n (ls' := [some (rf Γ 0), some _, some (rf Γ 14), some _, none, some _, some _, none]) dX10_likely_93 (by decide) rfl ?_
            first | have e91a : x3_93 = FP.dadd (lkD S j k) (lkT S k) := by rw [hx3_93, i28_0] | skip
            refine aw_iinc (ls' := [some (rf Γ 0), some _, some (rf Γ 14), some _, none, some _, some _, none]) dX10_likely_94 rfl (by decide) rfl ?_
            refine aw_goto (tgt := 28) dX10_likely_97 rfl ?_
            refine aw_fg [true, true, true, true, true, true, false, true] (ls' := [some (rf Γ 0), some _, some (rf Γ 14), some _, none, some _, none, none]) rfl ?_
            exact ih (by omega) x3_93  (by rw [lkD]; first | (rw [if_neg (by omega)]; exact i28_0) | (rw [if_pos (by omega)]; first | exact e91a | exact e91b))
          · skip
            refine aw_dconst1 dX10_likely_85 ?_
            refine aw_goto (tgt := 91) dX10_likely_86 rfl ?_
            first | refine aw_sd (a := rateP S (S 4 k) (nS S)) (by rw [rateP, if_neg (by omega)]) ?_ | refine aw_sd (a := rateP S (S 4 k) (nS S)) (by rw [rateP, if_pos (by omega), hx6_68]) ?_
            refine aw_dmul dX10_likely_91 (by rw [h74]; exact lt.n64 (by omega)) ?_
            refine aw_sd (a := lkT S k) (by rw [h74]; rfl) ?_
            refine aw_dadd dX10_likely_92 (by rw [i28_0]; exact la.n64 (by omega)) ?_
            refine aw_nmD (fun x3_93 hx3_93 => ?_)
            refine aw_dstore_n (ls' := [some (rf Γ 0), some _, some (rf Γ 14), some _, none, some _, some _, none]) dX10_likely_93 (by decide) rfl ?_
            first | have e91a : x3_93 = FP.dadd (lkD S j k) (lkT S k) := by rw [hx3_93, i28_0] | skip
            refine aw_iinc (ls' := [some (rf Γ 0), some _, some (rf Γ 14), some _, none, some _, some _, none]) dX10_likely_94 rfl (by decide) rfl ?_
            refine aw_goto (tgt := 28) dX10_likely_97 rfl ?_
            refine aw_fg [true, true, true, true, true, true, false, true] (ls' := [some (rf Γ 0), some _, some (rf Γ 14), some _, none, some _, none, none]) rfl ?_
            exact ih (by omega) x3_93  (by rw [lkD]; first | (rw [if_neg (by omega)]; exact i28_0) | (rw [if_pos (by omega)]; first | exact e91a | exact e91b))
      · skip
        refine aw_if_eq (tgt := 94) dX10_likely_43 rfl (by decide) (fun _ => ?_) (fun c => absurd c (by decide))
        first | have e91a : x3_93 = FP.dadd (lkD S j k) (lkT S k) := by rw [hx3_93, i28_0] | skip
        refine aw_iinc (ls' := [some (rf Γ 0), some _, some (rf Γ 14), some _, none, some _, none, none]) dX10_likely_94 rfl (by decide) rfl ?_
        refine aw_goto (tgt := 28) dX10_likely_97 rfl ?_
        exact ih (by omega) s  (by rw [lkD]; first | (rw [if_neg (by omega)]; exact i28_0) | (rw [if_pos (by omega)]; first | exact e91a | exact e91b))
  · skip
    refine aw_if_ne (tgt := 15) dX10_likely_8 rfl (by decide) (fun c => absurd c (by decide)) (fun _ => ?_)
    refine aw_ldc2 dX10_likely_11 qk_X10_171 ?_
    refine aw_st (st' := vl (-1) :: _) rfl ?_
    exact aw_lreturn dX10_likely_14 rfl ⟨Nat.le_refl _, Nat.le_refl _⟩ (hQ _ (by unfold aLikely; rw [if_neg (by simp only [isO]; omega)]))


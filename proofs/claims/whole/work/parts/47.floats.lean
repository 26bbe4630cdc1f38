/-! floats -/
theorem val32_norm {y : UInt32} (h1 : 8388608 ≤ y.toNat) (h2 : y.toNat < 255 * 8388608) : FP.Core.val32 y = .fin false (8388608 + y.toNat % 8388608) (((y.toNat / 8388608 : Nat) : Int) - 150) := by
  unfold FP.Core.val32 FP.Core.decode FP.Core.fieldE FP.Core.fieldT FP.Core.fieldS
  rw [show FP.Core.b32.tails = 8388608 from by decide, show FP.Core.b32.exps = 256 from by decide, FP.Core.qmin_b32]
  rw [if_neg (by omega), if_neg (by omega)]
  have e1 : (y.toNat / 8388608 / 256 % 2 == 1) = false := by
    rw [show y.toNat / 8388608 / 256 = 0 by omega]; rfl
  have e2 : (-149 : Int) + (((y.toNat / 8388608 % 256 : Nat) : Int) - 1) = ((y.toNat / 8388608 : Nat) : Int) - 150 := by
    rw [show y.toNat / 8388608 % 256 = y.toNat / 8388608 by omega]; omega
  rw [e1, e2]
theorem f2d_norm {y : UInt32} (h1 : 8388608 ≤ y.toNat) (h2 : y.toNat < 255 * 8388608) : FP.f2d y = UInt64.ofNat (4503599627370496 * (y.toNat / 8388608 + 896) + y.toNat % 8388608 * 536870912) := by
  have e1 := val32_norm h1 h2
  have hnn : FP.Core.fIsNaN y = false := by
    rw [FP.Core.notNaN_iff32, e1]; exact FP.Core.Datum.noConfusion
  have hn : (UInt64.ofNat (4503599627370496 * (y.toNat / 8388608 + 896) + y.toNat % 8388608 * 536870912)).toNat = 4503599627370496 * (y.toNat / 8388608 + 896) + y.toNat % 8388608 * 536870912 := oN_toNat (by omega)
  have e2 := val64_norm (x := UInt64.ofNat (4503599627370496 * (y.toNat / 8388608 + 896) + y.toNat % 8388608 * 536870912)) (by omega) (by omega)
  rw [hn, show (4503599627370496 * (y.toNat / 8388608 + 896) + y.toNat % 8388608 * 536870912) % 4503599627370496 = y.toNat % 8388608 * 536870912 by omega, show (4503599627370496 * (y.toNat / 8388608 + 896) + y.toNat % 8388608 * 536870912) / 4503599627370496 = y.toNat / 8388608 + 896 by omega] at e2
  have e3 : FP.Core.val64 (FP.Core.f2d y) = .fin false (4503599627370496 + y.toNat % 8388608 * 536870912) (((y.toNat / 8388608 + 896 : Nat) : Int) - 1075) := by
    rw [FP.Core.val64_f2d, e1]
    show FP.Core.roundRatio FP.Core.b64 false (8388608 + y.toNat % 8388608) 1 (((y.toNat / 8388608 : Nat) : Int) - 150) = _
    refine FP.Core.roundRatio_exact FP.Core.good_b64 (by decide) (fits_norm (by omega) (by omega)) ?_
    rw [show (((y.toNat / 8388608 : Nat) : Int) - 150 - (((y.toNat / 8388608 + 896 : Nat) : Int) - 1075)).toNat = 29 by omega, show (((y.toNat / 8388608 + 896 : Nat) : Int) - 1075 - (((y.toNat / 8388608 : Nat) : Int) - 150)).toNat = 0 by omega]
    omega
  have e4 : FP.f2d y = FP.Core.f2d y := by
    unfold FP.f2d
    rw [hnn]; rfl
  rw [e4]
  exact FP.Core.val64_inj (by rw [e3]; exact FP.Core.Datum.noConfusion) (e3.trans e2.symm)
theorem UI_toInt {x : UInt64} (h : x.toNat < 9223372036854775808) : x.toInt64 = L (x.toNat : Int) := by
  have e : (L (x.toNat : Int)).toUInt64 = x := by
    apply UInt64.toNat_inj.mp
    rw [LU_toNat (by omega)]; omega
  exact (congrArg UInt64.toInt64 e).symm
theorem L_shr {b : Int} {D : Int64} {k : Nat} (h : inL b) (hD : (D.toBitVec.smod 64).toNat = k) : L b >>> D = L (b / ((2 ^ k : Nat) : Int)) := by
  have e : (L b >>> D).toInt = b / ((2 ^ k : Nat) : Int) := by
    show ((L b >>> D).toBitVec).toInt = _
    rw [Int64.toBitVec_shiftRight, BitVec.sshiftRight_eq', BitVec.toInt_sshiftRight, hD]
    show (L b).toInt >>> k = _
    rw [L_toInt h, Int.shiftRight_eq_div_pow]
  rw [← L_of (L b >>> D), e]
theorem L_and_low {b : Nat} (h : b < 9223372036854775808) : L (b : Int) &&& L 4503599627370495 = L ((b % 4503599627370496 : Nat) : Int) := by
  apply Int64.toBitVec_inj.mp
  rw [Int64.toBitVec_and]
  apply BitVec.eq_of_toNat_eq
  rw [BitVec.toNat_and]
  have a1 : ∀ n : Nat, n < 18446744073709551616 → (L (n : Int)).toBitVec.toNat = n := fun n hn => by
    show (BitVec.ofInt 64 (n : Int)).toNat = n
    rw [BitVec.ofInt_natCast, BitVec.toNat_ofNat]
    exact Nat.mod_eq_of_lt hn
  rw [a1 b (by omega), a1 _ (by omega), show (L 4503599627370495).toBitVec.toNat = 2 ^ 52 - 1 by decide, Nat.and_two_pow_sub_one_eq_mod]
theorem I_join {e t : Nat} (he : e < 256) (ht : t < 8388608) : (I (e : Int) <<< ((I 23) &&& 31)) ||| I (t : Int) = (UInt32.ofNat (8388608 * e + t)).toInt32 := by
  have a1 : (I (e : Int)).toBitVec = BitVec.ofNat 32 e := by
    show (BitVec.ofInt 32 (e : Int)) = _
    exact BitVec.ofInt_natCast 32 e
  have a2 : (I (t : Int)).toBitVec = BitVec.ofNat 32 t := by
    show (BitVec.ofInt 32 (t : Int)) = _
    exact BitVec.ofInt_natCast 32 t
  apply Int32.toBitVec_inj.mp
  rw [Int32.toBitVec_or, Int32.toBitVec_shiftLeft, a1, a2]
  apply BitVec.eq_of_toNat_eq
  rw [BitVec.toNat_or, BitVec.shiftLeft_eq', BitVec.toNat_shiftLeft, show ((((I 23) &&& 31).toBitVec.smod 32).toNat) = 23 by decide, BitVec.toNat_ofNat, BitVec.toNat_ofNat]
  show _ = (UInt32.ofNat (8388608 * e + t)).toNat
  rw [UInt32.toNat_ofNat', Nat.mod_eq_of_lt (show 8388608 * e + t < 2 ^ 32 by omega), Nat.mod_eq_of_lt (show e < 2 ^ 32 by omega), Nat.mod_eq_of_lt (show t < 2 ^ 32 by omega), Nat.shiftLeft_eq, Nat.mod_eq_of_lt (show e * 2 ^ 23 < 2 ^ 32 by omega), Nat.mul_comm e, ← Nat.two_pow_add_eq_or_of_lt (show t < 2 ^ 23 by omega)]
/-! the float of a whole number by another -/
def paF (v t : Int) : UInt32 := FP.fdiv (FP.i2f (I v)) (FP.i2f (I t))
theorem l2f_i {v : Int} (h : inI v) : FP.l2f (L v) = FP.i2f (I v) := by
  show FP.Core.l2f (L v) = FP.Core.i2f (I v)
  rw [FP.Core.i2f_l2f, I_l h]
theorem i2f_pos {v : Int} (h0 : 0 ≤ v) (h : inI v) : (FP.i2f (I v)).toNat < 2147483648 := by
  obtain ⟨c, q, e⟩ := FP.Core.l2f_shape (I v).toInt64
  rw [← FP.Core.i2f_l2f] at e
  have hd : decide ((I v).toInt64.toInt < 0) = false := decide_eq_false (by rw [Int32.toInt_toInt64, I_toInt h]; omega)
  rw [hd] at e
  have hs := FP.Core.sign_bits32 (a := FP.i2f (I v)) (Or.inl ⟨c, q, e⟩)
  have : ¬ 2 ^ 31 ≤ (FP.i2f (I v)).toNat := fun z => absurd (hs.mpr z) (by decide)
  omega
theorem fin_pos32 {x : UInt32} (h : x.toNat < 255 * 8388608) : ∃ c q, FP.Core.val32 x = .fin false c q := by
  obtain ⟨s, c, q, e⟩ : FP.Core.FFin x := by rw [FP.Core.fin_bits32]; omega
  have hs := FP.Core.sign_bits32 (Or.inl ⟨c, q, e⟩)
  cases s with
  | false => exact ⟨c, q, e⟩
  | true => have := hs.mp rfl; omega
theorem paF_ok {v t : Int} (hv : 0 ≤ v ∧ v < 2147483648) (ht : 1 ≤ t ∧ t ≤ 360) : paF v t = 0 ∨ (8388608 ≤ (paF v t).toNat ∧ (paF v t).toNat < 255 * 8388608) := by
  have iv : inI v := by omega
  have it : inI t := by omega
  have v1 := FP.Core.i2f_mag (I v)
  have v2 := i2f_pos hv.1 iv
  have t2 := i2f_pos (v := t) (by omega) it
  have t1 := FP.Core.fromInt_mag32 (a := FP.i2f (I t)) (FP.Core.toNat_i2f (I t)) (j := 9) (K := 136) (by rw [I_toInt it]; omega) (by omega) (by omega)
  have t3 := (FP.Core.i2f_big (v := I t) (by rw [I_toInt it]; omega)).1
  rw [show FP.Core.i2f (I v) = FP.i2f (I v) from rfl] at v1
  rw [show FP.Core.i2f (I t) = FP.i2f (I t) from rfl] at t3
  obtain ⟨d, r, hb1⟩ := fin_pos32 (x := FP.i2f (I t)) (by omega)
  obtain ⟨c, q, ha1⟩ := fin_pos32 (x := FP.i2f (I v)) (by omega)
  have hz := FP.Core.zero_bits232 (FP.i2f (I t))
  have hd0 : d ≠ 0 := by
    rintro rfl
    have := hz.mp ⟨false, r, hb1⟩
    omega
  have hq : FP.Core.val32 (paF v t) = FP.Core.roundRatio FP.Core.b32 false c d (q - r) := by
    show FP.Core.val32 (FP.fdiv (FP.i2f (I v)) (FP.i2f (I t))) = _
    rw [FP.Core.val32_fdiv, ha1, hb1]
    simp only [FP.Core.quotient, if_neg hd0]
    rfl
  by_cases z : v = 0
  · left
    have h0 : FP.i2f (I v) = 0 := by rw [z]; decide +kernel
    rw [h0, show FP.Core.val32 0 = .fin false 0 FP.Core.b32.qmin from FP.Core.val32_fconst0] at ha1
    cases ha1
    have hq2 : FP.Core.val32 (paF v t) = .fin false 0 FP.Core.b32.qmin := hq
    exact FP.Core.val32_inj (by rw [hq2]; exact FP.Core.Datum.noConfusion) (hq2.trans FP.Core.val32_fconst0.symm)
  · right
    have v3 := (FP.Core.i2f_big (v := I v) (by rw [I_toInt iv]; exact z)).1
    rw [show FP.Core.i2f (I v) = FP.i2f (I v) from rfl] at v3
    have h1 := FP.Core.sgn_roundRatio FP.Core.b32 false c d (q - r)
    rw [← hq, FP.Core.sgn_bits32 (by rw [hq]; exact FP.Core.roundRatio_ne_nan _ _ _ _ _)] at h1
    have s := of_decide_eq_false h1
    have m1 := FP.Core.fdiv_mag (a := FP.i2f (I v)) (b := FP.i2f (I t)) (K := 160) (L := 127) (by omega) (by omega) (by omega) (by omega) (by omega)
    have e1 : (paF v t).toNat = FP.Core.div FP.Core.b32 (FP.i2f (I v)).toNat (FP.i2f (I t)).toNat := FP.Core.toNat_of32 (FP.Core.quotient_fits FP.Core.good_b32 _ _)
    have m2 := div_ge FP.Core.good_b32 (x := (FP.i2f (I v)).toNat) (y := (FP.i2f (I t)).toNat) (Ka := 127) (L := 137) (K := 117) (by rw [FP.Core.mag_toNat32, FP.Core.tails_b32]; omega) (by rw [FP.Core.mag_toNat32, FP.Core.infBits_b32]; omega) (by rw [FP.Core.mag_toNat32, FP.Core.tails_b32]; omega) (by rw [FP.Core.mag_toNat32, FP.Core.infBits_b32]; omega) (by rw [FP.Core.mag_toNat32]; omega) (by omega) (by omega) (by rw [FP.Core.exps_b32]; omega) (by rw [FP.Core.p_b32, FP.Core.qmin_b32]; omega)
    rw [← e1, FP.Core.mag_toNat32, FP.Core.tails_b32] at m2
    rw [show FP.Core.fdiv (FP.i2f (I v)) (FP.i2f (I t)) = paF v t from rfl] at m1
    omega
theorem n32_of {x : UInt32} (h : x.toNat < 255 * 8388608) : vf_n32 x := by
  unfold vf_n32
  rw [UInt32.le_iff_toNat_le, UInt32.toNat_and, show (0x7fffffff : UInt32).toNat = 2 ^ 31 - 1 from rfl, Nat.and_two_pow_sub_one_eq_mod, show (0x7f800000 : UInt32).toNat = 2139095040 from rfl]
  omega

set_option maxHeartbeats 1000000 in
theorem c_X10_bitsOfFloatZ {Γ : GT} {S T U V : St} {G : Gw} {nx d : Nat} {Q : QT} (hnx : 52 ≤ nx)  (hQ : Q (some (.int (UInt32.toInt32 0))) (hp Γ S T U V G) nx) : AM Γ MX10_bitsOfFloat (d + 1, 0, 0) [.float 0] (hp Γ S T U V G) nx Q := by
  refine am_of (by decide) (Nat.le_of_ble_eq_true rfl) (ls := [some _, none, none, none]) rfl ?_
  refine aw_fload_n dX10_bitsOfFloat_0 rfl ?_
  refine aw_f2d dX10_bitsOfFloat_1 (n64_of (by decide +kernel)) ?_
  refine aw_sd (a := 0) (by decide +kernel) ?_
  refine aw_callS (As := [_]) (ρ := (_, 0, 0)) (kn' := (0, 0)) cs_X10_177 dX10_bitsOfFloat_2 rfl rfl (Nat.le_of_ble_eq_true rfl) (rmR _ _ _) ⟨Nat.le_refl _, Nat.le_refl _⟩ rfl (c_X10_bitsOf hnx (Or.inl (Or.inl rfl)) ?_)
  refine aw_slg (a := L 0) (by decide +kernel) ?_
  refine aw_lstore_n (ls' := [some _, some _, none, none]) dX10_bitsOfFloat_5 (by decide) rfl ?_
  refine aw_lload_n dX10_bitsOfFloat_6 rfl ?_
  refine aw_lconst0 dX10_bitsOfFloat_7 ?_
  refine aw_lif_ne (tgt := 14) dX10_bitsOfFloat_8 dX10_bitsOfFloat_9 rfl (by omega) (fun c8 => ?_) (fun c8 => ?_)
  · skip
    exact absurd rfl c8
  · skip
    refine aw_iconst dX10_bitsOfFloat_12 ?_
    exact aw_ireturn dX10_bitsOfFloat_13 rfl rfl ⟨Nat.le_refl _, Nat.le_refl _⟩ hQ

set_option maxHeartbeats 1000000 in
theorem c_X10_bitsOfFloatP {Γ : GT} {S T U V : St} {G : Gw} {nx d : Nat} {Q : QT} (hnx : 52 ≤ nx) {y : UInt32} (hy : 8388608 ≤ y.toNat ∧ y.toNat < 255 * 8388608) (hQ : Q (some (.int (UInt32.toInt32 y))) (hp Γ S T U V G) nx) : AM Γ MX10_bitsOfFloat (d + 1, 0, 0) [.float y] (hp Γ S T U V G) nx Q := by
  refine am_of (by decide) (Nat.le_of_ble_eq_true rfl) (ls := [some _, none, none, none]) rfl ?_
  have fd := f2d_norm hy.1 hy.2
  obtain ⟨b, hb⟩ : ∃ b : Nat, b = 4503599627370496 * (y.toNat / 8388608 + 896) + y.toNat % 8388608 * 536870912 := ⟨_, rfl⟩
  rw [← hb] at fd
  have bn : (UInt64.ofNat b).toNat = b := oN_toNat (by omega)
  have bl : 4503599627370496 ≤ b ∧ b < 2047 * 4503599627370496 := by omega
  refine aw_fload_n dX10_bitsOfFloat_0 rfl ?_
  refine aw_f2d dX10_bitsOfFloat_1 (by rw [fd]; exact n64_of (by omega)) ?_
  refine aw_sd (a := UInt64.ofNat b) fd.symm ?_
  refine aw_callS (As := [_]) (ρ := (_, 0, 0)) (kn' := (0, 0)) cs_X10_177 dX10_bitsOfFloat_2 rfl rfl (Nat.le_of_ble_eq_true rfl) (rmR _ _ _) ⟨Nat.le_refl _, Nat.le_refl _⟩ rfl (c_X10_bitsOf hnx (Or.inl (Or.inr (by omega))) ?_)
  refine aw_slg (a := L (b : Int)) (by rw [UI_toInt (by omega), bn]) ?_
  refine aw_lstore_n (ls' := [some _, some _, none, none]) dX10_bitsOfFloat_5 (by decide) rfl ?_
  refine aw_lload_n dX10_bitsOfFloat_6 rfl ?_
  refine aw_lconst0 dX10_bitsOfFloat_7 ?_
  refine aw_lif_ne (tgt := 14) dX10_bitsOfFloat_8 dX10_bitsOfFloat_9 rfl (by omega) (fun c8 => ?_) (fun c8 => ?_)
  · skip
    refine aw_lload_n dX10_bitsOfFloat_14 rfl ?_
    refine aw_bipush dX10_bitsOfFloat_15 rfl ?_
    refine aw_lshr dX10_bitsOfFloat_17 rfl ?_
    refine aw_slg (a := L ((b : Int) / ((2 ^ 52 : Nat) : Int))) (by exact (L_shr (by omega) (by decide)).symm) ?_
    refine aw_l2i dX10_bitsOfFloat_18 ?_
    refine aw_sipush dX10_bitsOfFloat_19 rfl ?_
    refine aw_isub dX10_bitsOfFloat_22 ?_
    refine aw_bipush dX10_bitsOfFloat_23 rfl ?_
    refine aw_iadd dX10_bitsOfFloat_25 ?_
    refine aw_nmI (fun x3_26 hx3_26 => ?_)
    refine aw_istore_n (ls' := [some _, some _, none, some _]) dX10_bitsOfFloat_26 (by decide) rfl ?_
    refine aw_iload_n dX10_bitsOfFloat_27 rfl ?_
    refine aw_bipush dX10_bitsOfFloat_28 rfl ?_
    refine aw_ishl dX10_bitsOfFloat_30 rfl ?_
    refine aw_lload_n dX10_bitsOfFloat_31 rfl ?_
    refine aw_ldc2 dX10_bitsOfFloat_32 qk_X10_405 ?_
    refine aw_st (st' := vl 4503599627370495 :: _) rfl ?_
    refine aw_land dX10_bitsOfFloat_35 rfl ?_
    refine aw_slg (a := L ((b % 4503599627370496 : Nat) : Int)) (by exact (L_and_low (by omega)).symm) ?_
    refine aw_bipush dX10_bitsOfFloat_36 rfl ?_
    refine aw_lshr dX10_bitsOfFloat_38 rfl ?_
    refine aw_slg (a := L (((b % 4503599627370496 : Nat) : Int) / ((2 ^ 29 : Nat) : Int))) (L_shr (by omega) (by decide)).symm ?_
    refine aw_l2i dX10_bitsOfFloat_39 ?_
    refine aw_ior dX10_bitsOfFloat_40 rfl ?_
    refine aw_si (a := I y.toInt32.toInt) (by rw [I_of, show x3_26 = ((y.toNat / 8388608 : Nat) : Int) by omega, show ((b % 4503599627370496 : Nat) : Int) / ((2 ^ 29 : Nat) : Int) = ((y.toNat % 8388608 : Nat) : Int) by omega, I_join (by omega) (by omega), show 8388608 * (y.toNat / 8388608) + y.toNat % 8388608 = y.toNat by omega, UInt32.ofNat_toNat]) ?_
    exact aw_ireturn dX10_bitsOfFloat_41 rfl rfl ⟨Nat.le_refl _, Nat.le_refl _⟩ (show Q (some (Value.int (I y.toInt32.toInt))) _ _ by rw [I_of]; exact hQ)
  · skip
    exact absurd c8 (by omega)

theorem c_X10_bitsOfFloat {Γ : GT} {S T U V : St} {G : Gw} {nx d : Nat} {Q : QT} (hnx : 52 ≤ nx) {y : UInt32} (hy : y = 0 ∨ (8388608 ≤ y.toNat ∧ y.toNat < 255 * 8388608)) (hQ : Q (some (.int y.toInt32)) (hp Γ S T U V G) nx) : AM Γ MX10_bitsOfFloat (d + 1, 0, 0) [.float y] (hp Γ S T U V G) nx Q := by
  rcases hy with hy | hy
  · subst hy; exact c_X10_bitsOfFloatZ hnx hQ
  · exact c_X10_bitsOfFloatP hnx hy hQ
def aPace (S : St) (i : Int) : Int32 := if isI S i then (paF (imI S i 12) (S 25 0 % 360 + 1)).toInt32 else I (-1)

set_option maxHeartbeats 1000000 in
theorem c_X10_pace {Γ : GT} {S T U V : St} {G : Gw} {nx d : Nat} {Q : QT} (hnx : 52 ≤ nx) {i : Int} {c : Int} (hI : Inv c S) (hi : inI i) (hQ : ∀ r : Int32, r = aPace S i → Q (some (.int r)) (hp Γ S T U V G) nx) : AM Γ MX10_pace (d + 3, 0, 0) [rf Γ 0, vi i] (hp Γ S T U V G) nx Q := by
  refine am_of (by decide) (Nat.le_of_ble_eq_true rfl) (ls := [some (rf Γ 0), some _, none]) rfl ?_
  have hR := hI.R
  have i1 := hI.i1
  have hz : 0 ≤ S 28 0 ∧ S 28 0 ≤ 60 := i1.2.2.1
  have hkS : nS S = (S 28 0).toNat := rfl
  have hkI : nIm S = (S 27 0).toNat := rfl
  have hkO : nOr S = (S 26 0).toNat := rfl
  refine aw_aload_n dX10_pace_0 rfl ?_
  refine aw_getf fg_X10_26 dX10_pace_1 (hc0 hnx) rfl ?_
  refine aw_iload_n dX10_pace_4 rfl ?_
  refine aw_callV (As := [_]) (ρ := (_, 0, 0)) (kn' := (0, 0)) cv_X10_133 dX10_pace_5 rfl rfl (hc9 hnx) rfl rfl (Nat.le_of_ble_eq_true rfl) (rmR _ _ _) ⟨Nat.le_refl _, Nat.le_refl _⟩ rfl (c_X7_hasImporter hnx hR (by omega) (fun r5 h5 => ?_))
  rcases h5 with ⟨rfl, h5⟩ | ⟨rfl, h5⟩
  · skip
    refine aw_if_ne (tgt := 13) dX10_pace_8 rfl (by decide) (fun _ => ?_) (fun c => absurd c (by decide))
    refine aw_aload_n dX10_pace_13 rfl ?_
    refine aw_getf fg_X10_26 dX10_pace_14 (hc0 hnx) rfl ?_
    refine aw_getf fg_X10_142 dX10_pace_17 (hc9 hnx) rfl ?_
    refine aw_sipush dX10_pace_20 rfl ?_
    refine aw_irem dX10_pace_23 (by omega) (by omega) ?_
    refine aw_iconst dX10_pace_24 ?_
    refine aw_iadd dX10_pace_25 ?_
    refine aw_nmI (fun x2_26 hx2_26 => ?_)
    refine aw_istore_n (ls' := [some (rf Γ 0), some _, some _]) dX10_pace_26 (by decide) rfl ?_
    subst hx2_26
    refine aw_aload_n dX10_pace_27 rfl ?_
    refine aw_getf fg_X10_26 dX10_pace_28 (hc0 hnx) rfl ?_
    refine aw_getf fg_X10_220 dX10_pace_31 (hc9 hnx) rfl ?_
    refine aw_iload_n dX10_pace_34 rfl ?_
    refine aw_callV (As := [_]) (ρ := (_, 0, 0)) (kn' := (0, 0)) cv_X10_331 dX10_pace_35 rfl rfl (hc32 hnx) rfl rfl (Nat.le_of_ble_eq_true rfl) (rmR _ _ _) ⟨Nat.le_refl _, Nat.le_refl _⟩ rfl (c_X9_importedBy hnx hR (by omega) (fun r35 h35 => ?_))
    subst h35
    have im := hI.imI (i := i) (by omega) 12 (by omega)
    have pk := paF_ok (v := imI S i 12) (t := S 25 0 % 360 + 1) (by omega) (by omega)
    refine aw_i2f dX10_pace_38 ?_
    refine aw_iload_n dX10_pace_39 rfl ?_
    refine aw_i2f dX10_pace_40 ?_
    refine aw_fdiv dX10_pace_41 (n32_of (show (paF (imI S i 12) (S 25 0 % 360 + 1)).toNat < _ by rcases pk with pk | pk <;> first | (rw [pk]; decide) | exact pk.2)) ?_
    refine aw_callS (As := [_]) (ρ := (_, 0, 0)) (kn' := (0, 0)) cs_X10_334 dX10_pace_42 rfl rfl (Nat.le_of_ble_eq_true rfl) (rmR _ _ _) ⟨Nat.le_refl _, Nat.le_refl _⟩ rfl (c_X10_bitsOfFloat hnx pk ?_)
    refine aw_si (a := I (paF (imI S i 12) (S 25 0 % 360 + 1)).toInt32.toInt) (by rw [I_of]; rfl) ?_
    exact aw_ireturn dX10_pace_45 rfl rfl ⟨Nat.le_refl _, Nat.le_refl _⟩ (hQ _ (by unfold aPace; rw [if_pos (by simp only [isI]; omega), I_of]))
  · skip
    refine aw_if_ne (tgt := 13) dX10_pace_8 rfl (by decide) (fun c => absurd c (by decide)) (fun _ => ?_)
    refine aw_iconst dX10_pace_11 ?_
    exact aw_ireturn dX10_pace_12 rfl rfl ⟨Nat.le_refl _, Nat.le_refl _⟩ (hQ _ (by unfold aPace; rw [if_neg (by simp only [isI]; omega)]))


/-! the bits of a double, worked out -/
theorem val64_norm {x : UInt64} (h1 : 4503599627370496 ≤ x.toNat) (h2 : x.toNat < 2047 * 4503599627370496) : FP.Core.val64 x = .fin false (4503599627370496 + x.toNat % 4503599627370496) (((x.toNat / 4503599627370496 : Nat) : Int) - 1075) := by
  unfold FP.Core.val64 FP.Core.decode FP.Core.fieldE FP.Core.fieldT FP.Core.fieldS
  rw [show FP.Core.b64.tails = 4503599627370496 from by decide, show FP.Core.b64.exps = 2048 from by decide, FP.Core.qmin_b64]
  rw [if_neg (by omega), if_neg (by omega)]
  have e1 : (x.toNat / 4503599627370496 / 2048 % 2 == 1) = false := by
    rw [show x.toNat / 4503599627370496 / 2048 = 0 by omega]; rfl
  have e2 : (-1074 : Int) + (((x.toNat / 4503599627370496 % 2048 : Nat) : Int) - 1) = ((x.toNat / 4503599627370496 : Nat) : Int) - 1075 := by
    rw [show x.toNat / 4503599627370496 % 2048 = x.toNat / 4503599627370496 by omega]; omega
  rw [e1, e2]
theorem val64_two : FP.Core.val64 4611686018427387904 = .fin false 4503599627370496 (-51) := by decide +kernel
theorem val64_p52 : FP.Core.val64 4841369599423283200 = .fin false 4503599627370496 0 := by decide +kernel
theorem val64_one : FP.Core.val64 4607182418800017408 = .fin false 4503599627370496 (-52) := by decide +kernel
theorem fits_norm {c : Nat} {q : Int} (h1 : 4503599627370496 ≤ c ∧ c < 9007199254740992) (h2 : -1074 ≤ q ∧ q ≤ 971) : FP.Core.fits FP.Core.b64 (.fin false c q) := by
  refine ⟨?_, ?_, ?_, Or.inr ?_⟩
  · show c < 2 ^ 53; omega
  · rw [FP.Core.qmin_b64]; omega
  · rw [show FP.Core.b64.qmax = 971 from by decide]; omega
  · rw [show FP.Core.b64.tails = 4503599627370496 from by decide]; omega
theorem oN_toNat {n : Nat} (h : n < 18446744073709551616) : (UInt64.ofNat n).toNat = n := by
  rw [UInt64.toNat_ofNat']; exact Nat.mod_eq_of_lt h
theorem ddiv_two {x : UInt64} (h1 : 2 * 4503599627370496 ≤ x.toNat) (h2 : x.toNat < 2047 * 4503599627370496) : FP.ddiv x 4611686018427387904 = UInt64.ofNat (x.toNat - 4503599627370496) := by
  have hn : (UInt64.ofNat (x.toNat - 4503599627370496)).toNat = x.toNat - 4503599627370496 := oN_toNat (by omega)
  have e1 := val64_norm (x := x) (by omega) h2
  have e2 := val64_norm (x := UInt64.ofNat (x.toNat - 4503599627370496)) (by omega) (by omega)
  rw [hn, show (x.toNat - 4503599627370496) % 4503599627370496 = x.toNat % 4503599627370496 by omega, show (x.toNat - 4503599627370496) / 4503599627370496 = x.toNat / 4503599627370496 - 1 by omega] at e2
  have e3 : FP.Core.val64 (FP.ddiv x 4611686018427387904) = .fin false (4503599627370496 + x.toNat % 4503599627370496) (((x.toNat / 4503599627370496 - 1 : Nat) : Int) - 1075) := by
    rw [FP.Core.val64_ddiv, e1, val64_two]
    show FP.Core.roundRatio FP.Core.b64 false (4503599627370496 + x.toNat % 4503599627370496) 4503599627370496 (((x.toNat / 4503599627370496 : Nat) : Int) - 1075 - -51) = _
    refine FP.Core.roundRatio_exact FP.Core.good_b64 (by decide) (fits_norm (by omega) (by omega)) ?_
    rw [show (((x.toNat / 4503599627370496 : Nat) : Int) - 1075 - -51 - (((x.toNat / 4503599627370496 - 1 : Nat) : Int) - 1075)).toNat = 52 by omega, show (((x.toNat / 4503599627370496 - 1 : Nat) : Int) - 1075 - (((x.toNat / 4503599627370496 : Nat) : Int) - 1075 - -51)).toNat = 0 by omega]
    omega
  exact FP.Core.val64_inj (by rw [e3]; exact FP.Core.Datum.noConfusion) (e3.trans e2.symm)
theorem dmul_two {x : UInt64} (h1 : 4503599627370496 ≤ x.toNat) (h2 : x.toNat < 2046 * 4503599627370496) : FP.dmul x 4611686018427387904 = UInt64.ofNat (x.toNat + 4503599627370496) := by
  have hn : (UInt64.ofNat (x.toNat + 4503599627370496)).toNat = x.toNat + 4503599627370496 := oN_toNat (by omega)
  have e1 := val64_norm (x := x) (by omega) (by omega)
  have e2 := val64_norm (x := UInt64.ofNat (x.toNat + 4503599627370496)) (by omega) (by omega)
  rw [hn, show (x.toNat + 4503599627370496) % 4503599627370496 = x.toNat % 4503599627370496 by omega, show (x.toNat + 4503599627370496) / 4503599627370496 = x.toNat / 4503599627370496 + 1 by omega] at e2
  have e3 : FP.Core.val64 (FP.dmul x 4611686018427387904) = .fin false (4503599627370496 + x.toNat % 4503599627370496) (((x.toNat / 4503599627370496 + 1 : Nat) : Int) - 1075) := by
    rw [FP.Core.val64_dmul, e1, val64_two]
    show FP.Core.roundRatio FP.Core.b64 false ((4503599627370496 + x.toNat % 4503599627370496) * 4503599627370496) 1 (((x.toNat / 4503599627370496 : Nat) : Int) - 1075 + -51) = _
    refine FP.Core.roundRatio_exact FP.Core.good_b64 (by decide) (fits_norm (by omega) (by omega)) ?_
    rw [show (((x.toNat / 4503599627370496 : Nat) : Int) - 1075 + -51 - (((x.toNat / 4503599627370496 + 1 : Nat) : Int) - 1075)).toNat = 0 by omega, show (((x.toNat / 4503599627370496 + 1 : Nat) : Int) - 1075 - (((x.toNat / 4503599627370496 : Nat) : Int) - 1075 + -51)).toNat = 52 by omega]
    omega
  exact FP.Core.val64_inj (by rw [e3]; exact FP.Core.Datum.noConfusion) (e3.trans e2.symm)
theorem pow_go {c t : Nat} {q : Int} (hq : -1074 ≤ q) (h : c * 2 ^ (q - -1074).toNat = t * 2 ^ (-52 - -1074 : Int).toNat) : c * 4503599627370496 * 2 ^ q.toNat = t * 2 ^ (-q).toNat := by
  rw [show (-52 - -1074 : Int).toNat = 1022 by decide] at h
  have h52 : (4503599627370496 : Nat) = 2 ^ 52 := by decide
  rw [h52]
  by_cases h0 : 0 ≤ q
  · rw [show (-q).toNat = 0 by omega, Nat.pow_zero, Nat.mul_one]
    rw [show (q - -1074).toNat = (52 + q.toNat) + 1022 by omega, Nat.pow_add, ← Nat.mul_assoc] at h
    have := Nat.eq_of_mul_eq_mul_right (Nat.two_pow_pos 1022) h
    rw [← this, Nat.pow_add, Nat.mul_assoc]
  · rw [show q.toNat = 0 by omega, Nat.pow_zero, Nat.mul_one]
    refine Nat.eq_of_mul_eq_mul_right (Nat.two_pow_pos 1022) ?_
    have h2 := congrArg (fun z => z * 2 ^ (-q).toNat) h
    simp only [Nat.mul_assoc, ← Nat.pow_add] at h2 ⊢
    rw [show (q - -1074).toNat + (-q).toNat = 52 + 1022 by omega] at h2
    rw [h2, show 1022 + (-q).toNat = (-q).toNat + 1022 by omega]
/-- the fraction of an ordinary double between 1 and 2 -/
theorem frac_of {x : UInt64} (h1 : 1023 * 4503599627370496 ≤ x.toNat) (h2 : x.toNat < 1024 * 4503599627370496) :
    (FP.dsub x 4607182418800017408).toNat < 2047 * 4503599627370496 ∧ (FP.dmul (FP.dsub x 4607182418800017408) 4841369599423283200).toNat % 9223372036854775808 < 2047 * 4503599627370496 ∧ FP.d2l (FP.dmul (FP.dsub x 4607182418800017408) 4841369599423283200) = L ((x.toNat - 1023 * 4503599627370496 : Nat) : Int) := by
  have ht : x.toNat % 4503599627370496 = x.toNat - 1023 * 4503599627370496 := by omega
  have e1 := val64_norm (x := x) (by omega) (by omega)
  rw [ht, show x.toNat / 4503599627370496 = 1023 by omega] at e1
  have hv : FP.Core.val64 (FP.dsub x 4607182418800017408) = FP.Core.round FP.Core.b64 (.fin false (x.toNat - 1023 * 4503599627370496) (-52)) := by
    rw [FP.Core.val64_dsub, e1, val64_one]
    show FP.Core.round FP.Core.b64 (FP.Core.exactSum (.fin false (4503599627370496 + (x.toNat - 1023 * 4503599627370496)) (-52)) (.fin true 4503599627370496 (-52))) = _
    have e : FP.Core.sumUnits false (4503599627370496 + (x.toNat - 1023 * 4503599627370496)) (-52) true 4503599627370496 (-52) (-52) = ((x.toNat - 1023 * 4503599627370496 : Nat) : Int) := by
      show (((4503599627370496 + (x.toNat - 1023 * 4503599627370496)) * 2 ^ ((-52 : Int) - -52).toNat : Nat) : Int) + -((4503599627370496 * 2 ^ ((-52 : Int) - -52).toNat : Nat) : Int) = _
      rw [show ((-52 : Int) - -52).toNat = 0 from rfl]
      omega
    have e2 : FP.Core.sumSign false true ((x.toNat - 1023 * 4503599627370496 : Nat) : Int) = false := by
      unfold FP.Core.sumSign
      split
      · rfl
      · exact decide_eq_false (by omega)
    have e3 : FP.Core.exactSum (.fin false (4503599627370496 + (x.toNat - 1023 * 4503599627370496)) (-52)) (.fin true 4503599627370496 (-52)) = .fin false (x.toNat - 1023 * 4503599627370496) (-52) := by
      show FP.Core.Datum.fin (FP.Core.sumSign false true (FP.Core.sumUnits false (4503599627370496 + (x.toNat - 1023 * 4503599627370496)) (-52) true 4503599627370496 (-52) (-52))) (FP.Core.sumUnits false (4503599627370496 + (x.toNat - 1023 * 4503599627370496)) (-52) true 4503599627370496 (-52) (-52)).natAbs (-52) = _
      rw [e, e2, Int.natAbs_natCast]
    rw [e3]
  obtain ⟨c', q', r1, r2⟩ := FP.Core.round_exact FP.Core.good_b64 false (c := x.toNat - 1023 * 4503599627370496) (q := -52) (by show _ < 2 ^ 53; omega) (by rw [FP.Core.qmin_b64]; omega) (by rw [show FP.Core.b64.qmax = 971 from by decide]; omega)
  rw [r1] at hv
  have hf := FP.Core.val64_fits (FP.dsub x 4607182418800017408)
  rw [hv] at hf
  have hq := hf.2.1
  rw [FP.Core.qmin_b64] at hq r2
  have hw : FP.Core.Whole ((x.toNat - 1023 * 4503599627370496 : Nat) : Int) (.fin false (c' * 4503599627370496) q') := by
    have := pow_go hq r2
    show (((c' * 4503599627370496) * 2 ^ q'.toNat : Nat) : Int) = _
    rw [this]
    exact Int.natCast_mul _ _
  have hm : FP.Core.val64 (FP.dmul (FP.dsub x 4607182418800017408) 4841369599423283200) = FP.Core.round FP.Core.b64 (.fin false (c' * 4503599627370496) q') := by
    rw [FP.Core.val64_dmul, hv, val64_p52]
    show FP.Core.round FP.Core.b64 (.fin (false != false) (c' * 4503599627370496) (q' + 0)) = _
    rw [Int.add_zero]
    rfl
  have hr := FP.Core.whole_round FP.Core.good_b64 FP.Core.wide_b64 (i := ((x.toNat - 1023 * 4503599627370496 : Nat) : Int)) (by rw [Int.natAbs_natCast]; show _ ≤ 2 ^ 53; omega) hw
  rw [← hm] at hr
  have hL : (L ((x.toNat - 1023 * 4503599627370496 : Nat) : Int)).toInt = ((x.toNat - 1023 * 4503599627370496 : Nat) : Int) := L_toInt ⟨by omega, by omega⟩
  refine ⟨?_, ?_, FP.Core.d2l_int (by rw [hL]; exact hr)⟩
  · have hs := FP.Core.sign_bits (a := FP.dsub x 4607182418800017408) (Or.inl ⟨c', q', hv⟩)
    have h3 : ¬ 2 ^ 63 ≤ (FP.dsub x 4607182418800017408).toNat := fun z => absurd (hs.mpr z) (by decide)
    have h4 := (FP.Core.fin_bits (FP.dsub x 4607182418800017408)).mp ⟨false, c', q', hv⟩
    omega
  · have h4 := (FP.Core.fin_bits (FP.dmul (FP.dsub x 4607182418800017408) 4841369599423283200)).mp (by
      cases hd : FP.Core.val64 (FP.dmul (FP.dsub x 4607182418800017408) 4841369599423283200) with
      | nan => rw [hd] at hr; exact hr.elim
      | inf s => rw [hd] at hr; exact hr.elim
      | fin s c q => exact ⟨s, c, q, hd⟩)
    omega
def cmpN (a b : Nat) : Int := if a < b then -1 else if a = b then 0 else 1
theorem cmpN_iff (a b : Nat) : (cmpN a b < 0 ↔ a < b) ∧ (cmpN a b = 0 ↔ a = b) ∧ (0 < cmpN a b ↔ b < a) ∧ -1 ≤ cmpN a b ∧ cmpN a b ≤ 1 := by
  unfold cmpN; (repeat' split) <;> omega
theorem cmpV_N {x y : UInt64} {op : CmpOp} (hx : x.toNat < 2047 * 4503599627370496) (hy : y.toNat < 2047 * 4503599627370496) : Op.cmpValue (FP.dcmp x y) op = I (cmpN x.toNat y.toNat) := by
  have h := FP.Core.mono_bits (a := x) (b := y) (by obtain ⟨c, q, e⟩ := fin_pos hx; rw [e]; exact FP.Core.Datum.noConfusion) (by obtain ⟨c, q, e⟩ := fin_pos hy; rw [e]; exact FP.Core.Datum.noConfusion) (by omega) (by omega)
  unfold cmpN
  by_cases h1 : x.toNat < y.toNat
  · rw [show FP.dcmp x y = some .lt from h.1.mpr h1, if_pos h1]; rfl
  · rw [if_neg h1]
    by_cases h2 : x.toNat = y.toNat
    · rw [show FP.dcmp x y = some .eq from h.2.1.mpr h2, if_pos h2]; rfl
    · rw [show FP.dcmp x y = some .gt from h.2.2.mpr (by omega), if_neg h2]; rfl
theorem bits_join {e t : Nat} (he : e < 2048) (ht : t < 4503599627370496) : (L 0 ||| (L (e : Int) <<< ((I 52).toInt64 &&& 63))) ||| L (t : Int) = (UInt64.ofNat (4503599627370496 * e + t)).toInt64 := by
  have a1 : (L (e : Int)).toBitVec = BitVec.ofNat 64 e := by
    show (BitVec.ofInt 64 (e : Int)) = _
    exact BitVec.ofInt_natCast 64 e
  have a2 : (L (t : Int)).toBitVec = BitVec.ofNat 64 t := by
    show (BitVec.ofInt 64 (t : Int)) = _
    exact BitVec.ofInt_natCast 64 t
  apply Int64.toBitVec_inj.mp
  rw [Int64.toBitVec_or, Int64.toBitVec_or, Int64.toBitVec_shiftLeft, a1, a2]
  apply BitVec.eq_of_toNat_eq
  rw [BitVec.toNat_or, BitVec.toNat_or, BitVec.shiftLeft_eq', BitVec.toNat_shiftLeft, show ((((I 52).toInt64 &&& 63).toBitVec.smod 64).toNat) = 52 by decide, BitVec.toNat_ofNat, BitVec.toNat_ofNat, show (L 0).toBitVec.toNat = 0 by decide, Nat.zero_or]
  show _ = (UInt64.ofNat (4503599627370496 * e + t)).toNat
  rw [oN_toNat (by omega), Nat.mod_eq_of_lt (show e < 2 ^ 64 by omega), Nat.mod_eq_of_lt (show t < 2 ^ 64 by omega), Nat.shiftLeft_eq, Nat.mod_eq_of_lt (show e * 2 ^ 52 < 2 ^ 64 by omega), Nat.mul_comm e, ← Nat.two_pow_add_eq_or_of_lt (show t < 2 ^ 52 by omega)]
section AWB
variable {Γ : GT} {M : MD} {R : Room} {Φ : PH} {kn : Nat × Nat} {pc : Nat} {ls : List (Option Value)} {st : List Value} {h : Nat → AC} {nx : Nat}
theorem aw_dcmpN {x y : UInt64} {op : CmpOp} (hd : decode M.2.1 pc = .ok (.dcmp op, 1)) (hx : x.toNat < 2047 * 4503599627370496) (hy : y.toNat < 2047 * 4503599627370496) (k : AW Γ M R Φ kn (pc + 1) ls (vi (cmpN x.toNat y.toNat) :: st) h nx) : AW Γ M R Φ kn pc ls (.double y :: .double x :: st) h nx :=
  aw_dcmp hd (cmpV_N (op := op) hx hy ▸ k)
theorem aw_sd {a b : UInt64} (e : a = b) (k : AW Γ M R Φ kn pc ls (.double a :: st) h nx) : AW Γ M R Φ kn pc ls (.double b :: st) h nx := e ▸ k
theorem aw_slg {a b : Int64} (e : a = b) (k : AW Γ M R Φ kn pc ls (.long a :: st) h nx) : AW Γ M R Φ kn pc ls (.long b :: st) h nx := e ▸ k
theorem aw_nmll {a : Int64} (k : ∀ x : Int, inL x → x = a.toInt → AW Γ M R Φ kn pc ls (vl x :: st) h nx) : AW Γ M R Φ kn pc ls (.long a :: st) h nx := by
  have e : vl a.toInt = Value.long a := congrArg Value.long (L_of a)
  exact e ▸ k a.toInt (inL_of a) rfl
end AWB

section AWB
variable {Γ : GT} {M : MD} {R : Room} {Φ : PH} {kn : Nat × Nat} {pc : Nat} {ls : List (Option Value)} {st : List Value} {h : Nat → AC} {nx : Nat}
theorem aw_si {a b : Int32} (e : a = b) (k : AW Γ M R Φ kn pc ls (.int a :: st) h nx) : AW Γ M R Φ kn pc ls (.int b :: st) h nx := e ▸ k
end AWB

set_option maxHeartbeats 1000000 in
theorem c_X10_bitsOfZ {Γ : GT} {S T U V : St} {G : Gw} {nx d : Nat} {Q : QT} (hnx : 52 ≤ nx)  (hQ : Q (some (.long (UInt64.toInt64 0))) (hp Γ S T U V G) nx) : AM Γ MX10_bitsOf (d, 0, 0) [.double 0] (hp Γ S T U V G) nx Q := by
  refine am_of (by decide) (Nat.le_of_ble_eq_true rfl) (ls := [some _, none, none, none, none, none, none, none]) rfl ?_
  refine aw_dload_n dX10_bitsOf_0 rfl ?_
  refine aw_dconst0 dX10_bitsOf_1 ?_
  refine aw_dcmpN dX10_bitsOf_2 (by decide) (by decide) ?_
  have cN : cmpN (0 : UInt64).toNat FP.dconst0.toNat = 0 := by decide
  refine aw_if_ne (tgt := 8) dX10_bitsOf_3 rfl (by omega) (fun c3 => ?_) (fun c3 => ?_)
  · skip
    exact absurd cN c3
  · skip
    refine aw_lconst0 dX10_bitsOf_6 ?_
    exact aw_lreturn dX10_bitsOf_7 rfl ⟨Nat.le_refl _, Nat.le_refl _⟩ hQ

set_option maxHeartbeats 1000000 in
theorem c_X10_bitsOfM {Γ : GT} {S T U V : St} {G : Gw} {nx d : Nat} {Q : QT} (hnx : 52 ≤ nx)  (hQ : Q (some (.long (UInt64.toInt64 13830554455654793216))) (hp Γ S T U V G) nx) : AM Γ MX10_bitsOf (d, 0, 0) [.double 13830554455654793216] (hp Γ S T U V G) nx Q := by
  refine am_of (by decide) (Nat.le_of_ble_eq_true rfl) (ls := [some _, none, none, none, none, none, none, none]) rfl ?_
  refine aw_dload_n dX10_bitsOf_0 rfl ?_
  refine aw_dconst0 dX10_bitsOf_1 ?_
  refine aw_dcmp dX10_bitsOf_2 ?_
  refine aw_si (a := I (-1)) (by decide +kernel) ?_
  refine aw_if_ne (tgt := 8) dX10_bitsOf_3 rfl (by omega) (fun c3 => ?_) (fun c3 => ?_)
  · skip
    refine aw_dload_n dX10_bitsOf_8 rfl ?_
    refine aw_dconst0 dX10_bitsOf_9 ?_
    refine aw_dcmp dX10_bitsOf_10 ?_
    refine aw_si (a := I (-1)) (by decide +kernel) ?_
    refine aw_if_ge (tgt := 19) dX10_bitsOf_11 rfl (by omega) (fun c11 => ?_) (fun c11 => ?_)
    · skip
      exact absurd c11 (by decide)
    · skip
      refine aw_dload_n dX10_bitsOf_14 rfl ?_
      refine aw_dneg dX10_bitsOf_15 ?_
      refine aw_goto (tgt := 20) dX10_bitsOf_16 rfl ?_
      refine aw_sd (a := 4607182418800017408) (by decide +kernel) ?_
      refine aw_nmD (fun x2_20 hx2_20 => ?_)
      refine aw_dstore_n (ls' := [some _, none, some _, none, none, none, none, none]) dX10_bitsOf_20 (by decide) rfl ?_
      subst hx2_20
      refine aw_ldc2 dX10_bitsOf_21 qk_X10_397 ?_
      refine aw_st (st' := vl 1023 :: _) rfl ?_
      refine aw_nmL (fun x4_24 hx4_24 => ?_)
      refine aw_lstore (ls' := [some _, none, some _, none, some _, none, none, none]) dX10_bitsOf_24 (by decide) rfl ?_
      subst hx4_24
      refine aw_iconst dX10_bitsOf_26 ?_
      refine aw_istore (ls' := [some _, none, some _, none, some _, none, some _, none]) dX10_bitsOf_27 (by decide) rfl ?_
      refine aw_iload dX10_bitsOf_29 rfl ?_
      refine aw_sipush dX10_bitsOf_31 rfl ?_
      refine aw_icmp_ge (tgt := 63) dX10_bitsOf_34 rfl (by omega) (fun c34 => ?_) (fun c34 => ?_)
      · skip
        exact absurd c34 (by decide)
      · skip
        refine aw_dload_n dX10_bitsOf_37 rfl ?_
        refine aw_ldc2d dX10_bitsOf_38 qk_X10_399 ?_
        refine aw_dcmp dX10_bitsOf_41 ?_
        refine aw_si (a := I (-1)) (by decide +kernel) ?_
        refine aw_if_lt (tgt := 63) dX10_bitsOf_42 rfl (by omega) (fun c42 => ?_) (fun c42 => ?_)
        · skip
          refine aw_iconst dX10_bitsOf_63 ?_
          refine aw_istore (ls' := [some _, none, some _, none, some _, none, some _, none]) dX10_bitsOf_64 (by decide) rfl ?_
          refine aw_iload dX10_bitsOf_66 rfl ?_
          refine aw_sipush dX10_bitsOf_68 rfl ?_
          refine aw_icmp_ge (tgt := 98) dX10_bitsOf_71 rfl (by omega) (fun c71 => ?_) (fun c71 => ?_)
          · skip
            exact absurd c71 (by decide)
          · skip
            refine aw_dload_n dX10_bitsOf_74 rfl ?_
            refine aw_dconst1 dX10_bitsOf_75 ?_
            refine aw_dcmp dX10_bitsOf_76 ?_
            refine aw_si (a := I 0) (by decide +kernel) ?_
            refine aw_if_ge (tgt := 98) dX10_bitsOf_77 rfl (by omega) (fun c77 => ?_) (fun c77 => ?_)
            · skip
              refine aw_dload_n dX10_bitsOf_98 rfl ?_
              refine aw_dconst1 dX10_bitsOf_99 ?_
              refine aw_dsub dX10_bitsOf_100 (n64_of (by decide +kernel)) ?_
              refine aw_sd (a := 0) (by decide +kernel) ?_
              refine aw_ldc2d dX10_bitsOf_101 qk_X10_401 ?_
              refine aw_dmul dX10_bitsOf_104 (n64_of (by decide +kernel)) ?_
              refine aw_sd (a := 0) (by decide +kernel) ?_
              refine aw_d2l dX10_bitsOf_105 ?_
              refine aw_slg (a := L 0) (by decide +kernel) ?_
              refine aw_nmL (fun x6_106 hx6_106 => ?_)
              refine aw_lstore (ls' := [some _, none, some _, none, some _, none, some _, none]) dX10_bitsOf_106 (by decide) rfl ?_
              subst hx6_106
              refine aw_dload_n dX10_bitsOf_108 rfl ?_
              refine aw_dconst0 dX10_bitsOf_109 ?_
              refine aw_dcmp dX10_bitsOf_110 ?_
              refine aw_si (a := I (-1)) (by decide +kernel) ?_
              refine aw_if_ge (tgt := 120) dX10_bitsOf_111 rfl (by omega) (fun c111 => ?_) (fun c111 => ?_)
              · skip
                exact absurd c111 (by decide)
              · skip
                refine aw_ldc2 dX10_bitsOf_114 qk_X10_403 ?_
                refine aw_st (st' := vl (-9223372036854775808) :: _) rfl ?_
                refine aw_goto (tgt := 121) dX10_bitsOf_117 rfl ?_
                refine aw_lload dX10_bitsOf_121 rfl ?_
                refine aw_bipush dX10_bitsOf_123 rfl ?_
                refine aw_lshl dX10_bitsOf_125 rfl ?_
                refine aw_lor dX10_bitsOf_126 rfl ?_
                refine aw_lload dX10_bitsOf_127 rfl ?_
                refine aw_lor dX10_bitsOf_129 rfl ?_
                refine aw_slg (a := UInt64.toInt64 13830554455654793216) (by decide +kernel) ?_
                exact aw_lreturn dX10_bitsOf_130 rfl ⟨Nat.le_refl _, Nat.le_refl _⟩ hQ
            · skip
              exact absurd c77 (by decide)
        · skip
          exact absurd c42 (by decide)
  · skip
    exact absurd c3 (by decide)

set_option maxHeartbeats 2000000 in
theorem c_X10_bitsOfP {Γ : GT} {S T U V : St} {G : Gw} {nx d : Nat} {Q : QT} (hnx : 52 ≤ nx) {x : UInt64} (hx : 4503599627370496 ≤ x.toNat ∧ x.toNat < 2047 * 4503599627370496) (hQ : Q (some (.long (UInt64.toInt64 x))) (hp Γ S T U V G) nx) : AM Γ MX10_bitsOf (d, 0, 0) [.double x] (hp Γ S T U V G) nx Q := by
  refine am_of (by decide) (Nat.le_of_ble_eq_true rfl) (ls := [some _, none, none, none, none, none, none, none]) rfl ?_
  have z0 : FP.dconst0.toNat = 0 := rfl
  have z1 : FP.dconst1.toNat = 4607182418800017408 := rfl
  have z2 : (4611686018427387904 : UInt64).toNat = 4611686018427387904 := rfl
  have c0 := cmpN_iff x.toNat FP.dconst0.toNat
  refine aw_dload_n dX10_bitsOf_0 rfl ?_
  refine aw_dconst0 dX10_bitsOf_1 ?_
  refine aw_dcmpN dX10_bitsOf_2 (by omega) (by omega) ?_
  refine aw_if_ne (tgt := 8) dX10_bitsOf_3 rfl (by omega) (fun c3 => ?_) (fun c3 => ?_)
  · skip
    refine aw_dload_n dX10_bitsOf_8 rfl ?_
    refine aw_dconst0 dX10_bitsOf_9 ?_
    refine aw_dcmpN dX10_bitsOf_10 (by omega) (by omega) ?_
    refine aw_if_ge (tgt := 19) dX10_bitsOf_11 rfl (by omega) (fun c11 => ?_) (fun c11 => ?_)
    · skip
      refine aw_dload_n dX10_bitsOf_19 rfl ?_
      refine aw_nmD (fun x2_20 hx2_20 => ?_)
      refine aw_dstore_n (ls' := [some _, none, some _, none, none, none, none, none]) dX10_bitsOf_20 (by decide) rfl ?_
      refine aw_ldc2 dX10_bitsOf_21 qk_X10_397 ?_
      refine aw_st (st' := vl 1023 :: _) rfl ?_
      refine aw_nmL (fun x4_24 hx4_24 => ?_)
      refine aw_lstore (ls' := [some _, none, some _, none, some _, none, none, none]) dX10_bitsOf_24 (by decide) rfl ?_
      refine aw_iconst dX10_bitsOf_26 ?_
      refine aw_istore (ls' := [some _, none, some _, none, some _, none, some _, none]) dX10_bitsOf_27 (by decide) rfl ?_
      refine loopN (1100) (P := fun k => ∀ (r : UInt64) (e : Int) , r = UInt64.ofNat (x.toNat - 4503599627370496 * k) → e = 1023 + (k : Int) → 4503599627370496 * k ≤ x.toNat ∧ (k = 0 ∨ 1023 * 4503599627370496 + 4503599627370496 * k ≤ x.toNat) →  AW Γ MX10_bitsOf _ _ (0, 0) 29 [some (Value.double x), none, some (Value.double r), none, some (vl e), none, some (vi (k : Int)), none] [] (hp Γ S T U V G) nx) (fun k hk ih => ?_) 0 (Nat.zero_le _) _ _ (by rw [hx2_20, Nat.mul_zero, Nat.sub_zero, UInt64.ofNat_toNat]) (by omega) (by omega)
      intro r e i29_0 i29_1 i29_2
      refine aw_iload dX10_bitsOf_29 rfl ?_
      have hr : r.toNat = x.toNat - 4503599627370496 * k := by rw [i29_0]; exact oN_toNat (by omega)
      refine aw_sipush dX10_bitsOf_31 rfl ?_
      refine aw_icmp_ge (tgt := 63) dX10_bitsOf_34 rfl (by omega) (fun c34 => ?_) (fun c34 => ?_)
      · skip
        exact absurd c34 (by omega)
      · skip
        refine aw_dload_n dX10_bitsOf_37 rfl ?_
        refine aw_ldc2d dX10_bitsOf_38 qk_X10_399 ?_
        refine aw_dcmpN dX10_bitsOf_41 (by omega) (by omega) ?_
        have c1 := cmpN_iff r.toNat (4611686018427387904 : UInt64).toNat
        refine aw_if_lt (tgt := 63) dX10_bitsOf_42 rfl (by omega) (fun c42 => ?_) (fun c42 => ?_)
        · skip
          obtain ⟨y, hy⟩ : ∃ y : Nat, y = x.toNat - 4503599627370496 * k := ⟨_, rfl⟩
          have hyl : 4503599627370496 ≤ y ∧ y < 1024 * 4503599627370496 := by omega
          refine aw_iconst dX10_bitsOf_63 ?_
          refine aw_istore (ls' := [some _, none, some _, none, some _, none, some _, none]) dX10_bitsOf_64 (by decide) rfl ?_
          refine loopN (1100) (P := fun k2 => ∀ (r2 : UInt64) (e2 : Int) , r2 = UInt64.ofNat (y + 4503599627370496 * k2) → e2 = 1023 + (k : Int) - (k2 : Int) → y + 4503599627370496 * k2 < 1024 * 4503599627370496 →  AW Γ MX10_bitsOf _ _ (0, 0) 66 [some (Value.double x), none, some (Value.double r2), none, some (vl e2), none, some (vi (k2 : Int)), none] [] (hp Γ S T U V G) nx) (fun k2 hk2 ihk2 => ?_) 0 (Nat.zero_le _) _ _ (by rw [i29_0, hy, Nat.mul_zero, Nat.add_zero]) (by omega) (by omega)
          intro r2 e2 i66_0 i66_1 i66_2
          refine aw_iload dX10_bitsOf_66 rfl ?_
          have hr2 : r2.toNat = y + 4503599627370496 * k2 := by rw [i66_0]; exact oN_toNat (by omega)
          refine aw_sipush dX10_bitsOf_68 rfl ?_
          refine aw_icmp_ge (tgt := 98) dX10_bitsOf_71 rfl (by omega) (fun c71 => ?_) (fun c71 => ?_)
          · skip
            exact absurd c71 (by omega)
          · skip
            refine aw_dload_n dX10_bitsOf_74 rfl ?_
            refine aw_dconst1 dX10_bitsOf_75 ?_
            refine aw_dcmpN dX10_bitsOf_76 (by omega) (by omega) ?_
            have c2 := cmpN_iff r2.toNat FP.dconst1.toNat
            refine aw_if_ge (tgt := 98) dX10_bitsOf_77 rfl (by omega) (fun c77 => ?_) (fun c77 => ?_)
            · skip
              have fo := frac_of (x := r2) (by omega) (by omega)
              refine aw_dload_n dX10_bitsOf_98 rfl ?_
              refine aw_dconst1 dX10_bitsOf_99 ?_
              refine aw_dsub dX10_bitsOf_100 (n64_of fo.1) ?_
              refine aw_ldc2d dX10_bitsOf_101 qk_X10_401 ?_
              refine aw_dmul dX10_bitsOf_104 (n64_of' fo.2.1) ?_
              refine aw_d2l dX10_bitsOf_105 ?_
              refine aw_slg (a := L ((r2.toNat - 1023 * 4503599627370496 : Nat) : Int)) fo.2.2.symm ?_
              refine aw_nmL (fun x6_106 hx6_106 => ?_)
              refine aw_lstore (ls' := [some _, none, some _, none, some _, none, some _, none]) dX10_bitsOf_106 (by decide) rfl ?_
              refine aw_dload_n dX10_bitsOf_108 rfl ?_
              refine aw_dconst0 dX10_bitsOf_109 ?_
              refine aw_dcmpN dX10_bitsOf_110 (by omega) (by omega) ?_
              refine aw_if_ge (tgt := 120) dX10_bitsOf_111 rfl (by omega) (fun c111 => ?_) (fun c111 => ?_)
              · skip
                refine aw_lconst0 dX10_bitsOf_120 ?_
                refine aw_lload dX10_bitsOf_121 rfl ?_
                refine aw_bipush dX10_bitsOf_123 rfl ?_
                refine aw_lshl dX10_bitsOf_125 rfl ?_
                refine aw_lor dX10_bitsOf_126 rfl ?_
                refine aw_lload dX10_bitsOf_127 rfl ?_
                refine aw_lor dX10_bitsOf_129 rfl ?_
                refine aw_slg (a := x.toInt64) (by rw [show e2 = ((1023 + k - k2 : Nat) : Int) by omega, hx6_106, bits_join (by omega) (by omega), show 4503599627370496 * (1023 + k - k2) + (r2.toNat - 1023 * 4503599627370496) = x.toNat by omega, UInt64.ofNat_toNat]) ?_
                exact aw_lreturn dX10_bitsOf_130 rfl ⟨Nat.le_refl _, Nat.le_refl _⟩ hQ
              · skip
                exact absurd c111 (by omega)
            · skip
              refine aw_dload_n dX10_bitsOf_80 rfl ?_
              refine aw_ldc2d dX10_bitsOf_81 qk_X10_399 ?_
              refine aw_dmul dX10_bitsOf_84 (by rw [dmul_two (by omega) (by omega)]; exact n64_of (by rw [oN_toNat (by omega)]; omega)) ?_
              refine aw_nmD (fun x2_85 hx2_85 => ?_)
              refine aw_dstore_n (ls' := [some _, none, some _, none, some _, none, some _, none]) dX10_bitsOf_85 (by decide) rfl ?_
              refine aw_lload dX10_bitsOf_86 rfl ?_
              refine aw_lconst1 dX10_bitsOf_88 ?_
              refine aw_lsub dX10_bitsOf_89 ?_
              refine aw_nmL (fun x4_90 hx4_90 => ?_)
              refine aw_lstore (ls' := [some _, none, some _, none, some _, none, some _, none]) dX10_bitsOf_90 (by decide) rfl ?_
              refine aw_iinc (ls' := [some _, none, some _, none, some _, none, some _, none]) dX10_bitsOf_92 rfl (by decide) rfl ?_
              refine aw_goto (tgt := 66) dX10_bitsOf_95 rfl ?_
              exact ihk2 (by omega) x2_85 x4_90  (by rw [hx2_85, dmul_two (by omega) (by omega), hr2]; exact congrArg UInt64.ofNat (by omega)) (by omega) (by omega)
        · skip
          refine aw_dload_n dX10_bitsOf_45 rfl ?_
          refine aw_ldc2d dX10_bitsOf_46 qk_X10_399 ?_
          refine aw_ddiv dX10_bitsOf_49 (by rw [ddiv_two (by omega) (by omega)]; exact n64_of (by rw [oN_toNat (by omega)]; omega)) ?_
          refine aw_nmD (fun x2_50 hx2_50 => ?_)
          refine aw_dstore_n (ls' := [some _, none, some _, none, some _, none, some _, none]) dX10_bitsOf_50 (by decide) rfl ?_
          refine aw_lload dX10_bitsOf_51 rfl ?_
          refine aw_lconst1 dX10_bitsOf_53 ?_
          refine aw_ladd dX10_bitsOf_54 ?_
          refine aw_nmL (fun x4_55 hx4_55 => ?_)
          refine aw_lstore (ls' := [some _, none, some _, none, some _, none, some _, none]) dX10_bitsOf_55 (by decide) rfl ?_
          refine aw_iinc (ls' := [some _, none, some _, none, some _, none, some _, none]) dX10_bitsOf_57 rfl (by decide) rfl ?_
          refine aw_goto (tgt := 29) dX10_bitsOf_60 rfl ?_
          exact ih (by omega) x2_50 x4_55  (by rw [hx2_50, ddiv_two (by omega) (by omega), hr]; exact congrArg UInt64.ofNat (by omega)) (by omega) (by omega)
    · skip
      exact absurd c11 (by omega)
  · skip
    exact absurd c3 (by omega)

theorem c_X10_bitsOf {Γ : GT} {S T U V : St} {G : Gw} {nx d : Nat} {Q : QT} (hnx : 52 ≤ nx) {x : UInt64} (hx : Dn 1 2047 x ∨ x = 13830554455654793216) (hQ : Q (some (.long x.toInt64)) (hp Γ S T U V G) nx) : AM Γ MX10_bitsOf (d, 0, 0) [.double x] (hp Γ S T U V G) nx Q := by
  rcases hx with (hx | hx) | hx
  · subst hx; exact c_X10_bitsOfZ hnx hQ
  · exact c_X10_bitsOfP hnx (by omega) hQ
  · subst hx; exact c_X10_bitsOfM hnx hQ


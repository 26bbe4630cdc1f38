/-! doubles that are 0, or ordinary and not below 0 -/
def Dn (lo hi : Nat) (x : UInt64) : Prop := x = 0 ∨ (4503599627370496 * lo ≤ x.toNat ∧ x.toNat < 4503599627370496 * hi)
theorem Dn.mono {lo hi lo' hi' : Nat} {x : UInt64} (h : Dn lo hi x) (h1 : lo' ≤ lo) (h2 : hi ≤ hi') : Dn lo' hi' x := by
  rcases h with h | h
  · exact Or.inl h
  · right; omega
theorem Dn.lt {lo hi : Nat} {x : UInt64} (h : Dn lo hi x) (h0 : 1 ≤ hi) : x.toNat < 4503599627370496 * hi := by
  rcases h with h | h
  · subst h; show 0 < _; omega
  · exact h.2
theorem dfin_of {x : UInt64} (h : x.toNat < 2047 * 4503599627370496) : FP.Core.DFin x := by
  rw [FP.Core.fin_bits]; omega
theorem n64_of {x : UInt64} (h : x.toNat < 2047 * 4503599627370496) : vf_n64 x := by
  unfold vf_n64
  rw [UInt64.le_iff_toNat_le, UInt64.toNat_and, show (0x7fffffffffffffff : UInt64).toNat = 2 ^ 63 - 1 from rfl, Nat.and_two_pow_sub_one_eq_mod, show (0x7ff0000000000000 : UInt64).toNat = 9218868437227405312 from rfl]
  omega
theorem n64_of' {x : UInt64} (h : x.toNat % 9223372036854775808 < 2047 * 4503599627370496) : vf_n64 x := by
  unfold vf_n64
  rw [UInt64.le_iff_toNat_le, UInt64.toNat_and, show (0x7fffffffffffffff : UInt64).toNat = 2 ^ 63 - 1 from rfl, Nat.and_two_pow_sub_one_eq_mod, show (0x7ff0000000000000 : UInt64).toNat = 9218868437227405312 from rfl]
  omega
theorem Dn.n64 {lo hi : Nat} {x : UInt64} (h : Dn lo hi x) (h0 : 1 ≤ hi ∧ hi ≤ 2047) : vf_n64 x := n64_of (by have := h.lt h0.1; omega)
theorem fin_pos {x : UInt64} (h : x.toNat < 2047 * 4503599627370496) : ∃ c q, FP.Core.val64 x = .fin false c q := by
  obtain ⟨s, c, q, e⟩ := dfin_of h
  have hs := FP.Core.sign_bits (Or.inl ⟨c, q, e⟩)
  cases s with
  | false => exact ⟨c, q, e⟩
  | true => have := hs.mp rfl; omega
theorem sgn_pos {x : UInt64} {A B : Nat} {e : Int} (h : FP.Core.val64 x = FP.Core.roundRatio FP.Core.b64 false A B e) : x.toNat < 9223372036854775808 := by
  have h1 := FP.Core.sgn_roundRatio FP.Core.b64 false A B e
  rw [← h, FP.Core.sgn_bits (by rw [h]; exact FP.Core.roundRatio_ne_nan _ _ _ _ _)] at h1
  have := of_decide_eq_false h1
  omega
theorem zero_of {x : UInt64} (h : FP.Core.val64 x = .fin false 0 FP.Core.b64.qmin) : x = 0 :=
  FP.Core.val64_inj (by rw [h]; exact FP.Core.Datum.noConfusion) (h.trans FP.Core.val64_dconst0.symm)
theorem val64_0 : FP.Core.val64 0 = .fin false 0 FP.Core.b64.qmin := FP.Core.val64_dconst0
theorem div_ge {f : FP.Core.Fmt} (hf : FP.Core.Good f) {x y Ka L K : Nat} (hx : Ka * f.tails ≤ FP.Core.mag f x) (hxf : FP.Core.mag f x < FP.Core.infBits f) (hy : FP.Core.mag f y < L * f.tails) (hyf : FP.Core.mag f y < FP.Core.infBits f) (hy0 : FP.Core.mag f y ≠ 0) (hKa : 1 ≤ Ka) (hK : 1 ≤ K) (hK2 : K ≤ f.exps - 1) (h : f.p - 1 + K + L ≤ Ka + (-f.qmin).toNat + 1) : K * f.tails ≤ FP.Core.mag f (FP.Core.div f x y) := by
  obtain ⟨s, c, q, x1, x2, x3⟩ := FP.Core.fin_of_mag hf hxf
  obtain ⟨t, d, r, y1, y2, y3⟩ := FP.Core.fin_of_mag hf hyf
  have hq := FP.Core.qmin_neg hf
  have hd0 : d ≠ 0 := by
    rintro rfl
    have h1 : FP.Core.zmag f (.fin t 0 r) = 0 := Nat.zero_mul _
    rw [h1] at y3
    exact hy0 (FP.Core.unitsOf_eq_zero.mp y3.symm)
  have hd : FP.Core.decode f (FP.Core.div f x y) = FP.Core.roundRatio f (s != t) c d (q - r) := by
    unfold FP.Core.div
    rw [FP.Core.decode_enc hf (FP.Core.quotient_fits hf _ _), x1, y1]
    simp only [FP.Core.quotient, if_neg hd0]
  have hx1 := x2.2.1
  have hy1 := y2.2.1
  refine FP.Core.mag_ge hf hd (by omega) (e0 := 2 * f.qmin - r) (by omega) (by omega) (Nat.mul_le_mul_right _ hK2) ?_
  obtain ⟨k1, l1⟩ := FP.Core.units_lt_start hy
  have l2 : f.tails * 2 ^ (Ka - 1) ≤ FP.Core.unitsOf f (FP.Core.mag f x) := by
    rw [← FP.Core.unitsOf_start hKa]; exact FP.Core.unitsOf_le_iff.mpr hx
  rw [FP.Core.unitsOf_start hK]
  have e1 : FP.Core.inUnits c (q - r) (2 * f.qmin - r) = FP.Core.zmag f (.fin s c q) * 2 ^ (-f.qmin).toNat := by
    show c * _ = c * _ * _
    rw [Nat.mul_assoc, ← Nat.pow_add]; congr 2; omega
  have e2 : 2 ^ (f.qmin - (2 * f.qmin - r)).toNat * d = FP.Core.zmag f (.fin t d r) := by
    show _ = d * _
    rw [Nat.mul_comm]; congr 2; omega
  rw [e1, Nat.mul_assoc, e2, x3, y3]
  calc f.tails * 2 ^ (K - 1) * FP.Core.unitsOf f (FP.Core.mag f y) ≤ f.tails * 2 ^ (K - 1) * (f.tails * 2 ^ (L - 1)) := Nat.mul_le_mul_left _ (Nat.le_of_lt l1)
    _ = f.tails * 2 ^ (f.p - 1 + (K - 1) + (L - 1)) := by rw [Nat.pow_add, Nat.pow_add, show 2 ^ (f.p - 1) = f.tails from rfl]; ac_rfl
    _ ≤ f.tails * 2 ^ (Ka - 1 + (-f.qmin).toNat) := Nat.mul_le_mul_left _ (Nat.pow_le_pow_right (by decide) (by omega))
    _ = f.tails * 2 ^ (Ka - 1) * 2 ^ (-f.qmin).toNat := by rw [Nat.pow_add, Nat.mul_assoc]
    _ ≤ FP.Core.unitsOf f (FP.Core.mag f x) * 2 ^ (-f.qmin).toNat := Nat.mul_le_mul_right _ l2
theorem mul_ge {x y Ka Kb K : Nat} (hx : Ka * FP.Core.b64.tails ≤ FP.Core.mag FP.Core.b64 x) (hxf : FP.Core.mag FP.Core.b64 x < FP.Core.infBits FP.Core.b64) (hy : Kb * FP.Core.b64.tails ≤ FP.Core.mag FP.Core.b64 y) (hyf : FP.Core.mag FP.Core.b64 y < FP.Core.infBits FP.Core.b64) (hKa : 1 ≤ Ka) (hKb : 1 ≤ Kb) (hK : 1 ≤ K) (hK2 : K ≤ 2047) (h : K + 1023 ≤ Ka + Kb) : K * FP.Core.b64.tails ≤ FP.Core.mag FP.Core.b64 (FP.Core.mul FP.Core.b64 x y) := by
  obtain ⟨s, c, q, x1, x2, x3⟩ := FP.Core.fin_of_mag FP.Core.good_b64 hxf
  obtain ⟨t, d, r, y1, y2, y3⟩ := FP.Core.fin_of_mag FP.Core.good_b64 hyf
  obtain ⟨p1, p2, p3⟩ := FP.Core.product_units x2 y2
  have hq := FP.Core.qmin_b64
  have hd : FP.Core.decode FP.Core.b64 (FP.Core.mul FP.Core.b64 x y) = FP.Core.roundRatio FP.Core.b64 (s != t) (c * d) 1 (q + r) := by
    unfold FP.Core.mul
    rw [FP.Core.decode_enc FP.Core.good_b64 (FP.Core.round_fits FP.Core.good_b64 _), x1, y1, p1]; rfl
  refine FP.Core.mag_ge FP.Core.good_b64 hd (by decide) (e0 := 2 * FP.Core.b64.qmin) (by omega) p2 (Nat.mul_le_mul_right _ (by rw [FP.Core.exps_b64]; exact hK2)) ?_
  have l1 : FP.Core.b64.tails * 2 ^ (Ka - 1) ≤ FP.Core.unitsOf FP.Core.b64 (FP.Core.mag FP.Core.b64 x) := by
    rw [← FP.Core.unitsOf_start hKa]; exact FP.Core.unitsOf_le_iff.mpr hx
  have l2 : FP.Core.b64.tails * 2 ^ (Kb - 1) ≤ FP.Core.unitsOf FP.Core.b64 (FP.Core.mag FP.Core.b64 y) := by
    rw [← FP.Core.unitsOf_start hKb]; exact FP.Core.unitsOf_le_iff.mpr hy
  rw [p3, x3, y3, FP.Core.unitsOf_start hK, Nat.mul_one]
  calc FP.Core.b64.tails * 2 ^ (K - 1) * 2 ^ (FP.Core.b64.qmin - 2 * FP.Core.b64.qmin).toNat = FP.Core.b64.tails * 2 ^ (K - 1 + (FP.Core.b64.qmin - 2 * FP.Core.b64.qmin).toNat) := by rw [Nat.pow_add, Nat.mul_assoc]
    _ ≤ FP.Core.b64.tails * 2 ^ (52 + (Ka - 1) + (Kb - 1)) := Nat.mul_le_mul_left _ (Nat.pow_le_pow_right (by decide) (by rw [hq]; omega))
    _ = FP.Core.b64.tails * 2 ^ (Ka - 1) * (FP.Core.b64.tails * 2 ^ (Kb - 1)) := by rw [Nat.pow_add, Nat.pow_add, ← FP.Core.tails_b64]; ac_rfl
    _ ≤ _ := Nat.mul_le_mul l1 l2
theorem Dn.div {la ha lb hb lo hi : Nat} {a b : UInt64} (h : Dn la ha a) (k : 4503599627370496 * lb ≤ b.toNat ∧ b.toNat < 4503599627370496 * hb) (hn : 1 ≤ la ∧ 1 ≤ ha ∧ ha ≤ 2047 ∧ 1 ≤ lb ∧ hb ≤ 2047 ∧ 1 ≤ lo ∧ lo ≤ 2047 ∧ hi ≤ 2047) (h1 : lo + hb ≤ la + 1023) (h2 : ha + 1024 ≤ hi + lb) : Dn lo hi (FP.ddiv a b) := by
  obtain ⟨d, r, hb1⟩ := fin_pos (x := b) (by omega)
  have hz := FP.Core.zero_bits2 b
  have hd0 : d ≠ 0 := by
    rintro rfl
    have := hz.mp ⟨false, r, hb1⟩
    omega
  rcases h with h | h
  · subst h
    left
    refine zero_of ?_
    rw [FP.Core.val64_ddiv, val64_0, hb1]
    simp only [FP.Core.quotient, if_neg hd0]
    rfl
  · right
    obtain ⟨c, q, ha1⟩ := fin_pos (x := a) (by omega)
    have hv : FP.Core.val64 (FP.ddiv a b) = FP.Core.roundRatio FP.Core.b64 false c d (q - r) := by
      rw [FP.Core.val64_ddiv, ha1, hb1]
      simp only [FP.Core.quotient, if_neg hd0]
      rfl
    have s := sgn_pos hv
    have m1 := FP.Core.ddiv_mag (a := a) (b := b) (K := ha) (L := lb) (by rw [Nat.mul_comm]; omega) (by rw [Nat.mul_comm]; omega) (by omega) (by omega) (by omega)
    rw [Nat.mul_comm, show FP.Core.ddiv a b = FP.ddiv a b from rfl] at m1
    have e1 : (FP.ddiv a b).toNat = FP.Core.div FP.Core.b64 a.toNat b.toNat := FP.Core.toNat_of64 (FP.Core.quotient_fits FP.Core.good_b64 _ _)
    have m2 := div_ge FP.Core.good_b64 (x := a.toNat) (y := b.toNat) (Ka := la) (L := hb) (K := lo) (by rw [FP.Core.mag_toNat64, FP.Core.tails_b64, Nat.mul_comm]; omega) (by rw [FP.Core.mag_toNat64, FP.Core.infBits_b64]; omega) (by rw [FP.Core.mag_toNat64, FP.Core.tails_b64, Nat.mul_comm]; omega) (by rw [FP.Core.mag_toNat64, FP.Core.infBits_b64]; omega) (by rw [FP.Core.mag_toNat64]; omega) (by omega) (by omega) (by rw [FP.Core.exps_b64]; omega) (by rw [FP.Core.p_b64, FP.Core.qmin_b64]; omega)
    rw [← e1, FP.Core.mag_toNat64, FP.Core.tails_b64, Nat.mul_comm] at m2
    omega
theorem Dn.mul {la ha lb hb lo hi : Nat} {a b : UInt64} (h : Dn la ha a) (k : Dn lb hb b) (hn : 1 ≤ la ∧ 1 ≤ ha ∧ ha ≤ 2047 ∧ 1 ≤ lb ∧ 1 ≤ hb ∧ hb ≤ 2047 ∧ 1 ≤ lo ∧ lo ≤ 2047 ∧ hi ≤ 2047) (h1 : lo + 1023 ≤ la + lb) (h2 : ha + hb ≤ hi + 1022 ∧ 1025 ≤ ha + hb) : Dn lo hi (FP.dmul a b) := by
  obtain ⟨d, r, hb1⟩ := fin_pos (x := b) (by have := k.lt (by omega); omega)
  obtain ⟨c, q, ha1⟩ := fin_pos (x := a) (by have := h.lt (by omega); omega)
  have hv : FP.Core.val64 (FP.dmul a b) = FP.Core.roundRatio FP.Core.b64 false (c * d) 1 (q + r) := by
    rw [FP.Core.val64_dmul, ha1, hb1]
    rfl
  by_cases z : a = 0 ∨ b = 0
  · left
    refine zero_of ?_
    have hc : c * d = 0 := by
      rcases z with z | z
      · rw [z, val64_0] at ha1
        cases ha1
        exact Nat.zero_mul _
      · rw [z, val64_0] at hb1
        cases hb1
        exact Nat.mul_zero _
    rw [hv, hc]
    rfl
  · have h' := h.resolve_left (fun e => z (Or.inl e))
    have k' := k.resolve_left (fun e => z (Or.inr e))
    right
    have s := sgn_pos hv
    have m1 := FP.Core.dmul_mag (a := a) (b := b) (Ka := ha) (Kb := hb) (by rw [Nat.mul_comm]; omega) (by rw [Nat.mul_comm]; omega) (by omega) (by omega)
    rw [Nat.mul_comm, show FP.Core.dmul a b = FP.dmul a b from rfl] at m1
    have e1 : (FP.dmul a b).toNat = FP.Core.mul FP.Core.b64 a.toNat b.toNat := FP.Core.toNat_of64 (FP.Core.round_fits FP.Core.good_b64 _)
    have m2 := mul_ge (x := a.toNat) (y := b.toNat) (Ka := la) (Kb := lb) (K := lo) (by rw [FP.Core.mag_toNat64, FP.Core.tails_b64, Nat.mul_comm]; omega) (by rw [FP.Core.mag_toNat64, FP.Core.infBits_b64]; omega) (by rw [FP.Core.mag_toNat64, FP.Core.tails_b64, Nat.mul_comm]; omega) (by rw [FP.Core.mag_toNat64, FP.Core.infBits_b64]; omega) (by omega) (by omega) (by omega) (by omega) h1
    rw [← e1, FP.Core.mag_toNat64, FP.Core.tails_b64, Nat.mul_comm] at m2
    omega
theorem dadd_val {a b : UInt64} (ha : a.toNat < 2047 * 4503599627370496) (hb : b.toNat < 2047 * 4503599627370496) : ∃ (N : Nat) (e : Int), FP.Core.val64 (FP.dadd a b) = FP.Core.roundRatio FP.Core.b64 false N 1 e ∧ FP.Core.b64.qmin ≤ e ∧ FP.Core.inUnits N e FP.Core.b64.qmin = FP.Core.unitsOf FP.Core.b64 a.toNat + FP.Core.unitsOf FP.Core.b64 b.toNat := by
  obtain ⟨c, q, ha1⟩ := fin_pos ha
  obtain ⟨d, r, hb1⟩ := fin_pos hb
  have fa := FP.Core.val64_fits a
  have fb := FP.Core.val64_fits b
  have za := FP.Core.zmag_bits (a := a) (by rw [ha1]; exact FP.Core.Datum.noConfusion)
  have zb := FP.Core.zmag_bits (a := b) (by rw [hb1]; exact FP.Core.Datum.noConfusion)
  rw [ha1] at fa za
  rw [hb1] at fb zb
  have hs : FP.Core.exactSum (.fin false c q) (.fin false d r) = .fin false (FP.Core.inUnits c q (min q r) + FP.Core.inUnits d r (min q r)) (min q r) := by
    have e : FP.Core.sumUnits false c q false d r (min q r) = ((FP.Core.inUnits c q (min q r) + FP.Core.inUnits d r (min q r) : Nat) : Int) := rfl
    show FP.Core.Datum.fin (FP.Core.sumSign false false (FP.Core.sumUnits false c q false d r (min q r))) (FP.Core.sumUnits false c q false d r (min q r)).natAbs (min q r) = _
    rw [e, Int.natAbs_natCast]
    have e2 : FP.Core.sumSign false false ((FP.Core.inUnits c q (min q r) + FP.Core.inUnits d r (min q r) : Nat) : Int) = false := by
      unfold FP.Core.sumSign
      split
      · rfl
      · exact decide_eq_false (by omega)
    rw [e2]
  have q1 := fa.2.1
  have q2 := fb.2.1
  refine ⟨FP.Core.inUnits c q (min q r) + FP.Core.inUnits d r (min q r), min q r, ?_, by omega, ?_⟩
  · rw [FP.Core.val64_dadd, ha1, hb1, hs]
    rfl
  · rw [show a.toNat % 2 ^ 63 = a.toNat by omega] at za
    rw [show b.toNat % 2 ^ 63 = b.toNat by omega] at zb
    rw [← za, ← zb]
    show (c * 2 ^ (q - min q r).toNat + d * 2 ^ (r - min q r).toNat) * 2 ^ (min q r - FP.Core.b64.qmin).toNat = c * 2 ^ (q - FP.Core.b64.qmin).toNat + d * 2 ^ (r - FP.Core.b64.qmin).toNat
    rw [Nat.add_mul, Nat.mul_assoc, Nat.mul_assoc, ← Nat.pow_add, ← Nat.pow_add, show (q - min q r).toNat + (min q r - FP.Core.b64.qmin).toNat = (q - FP.Core.b64.qmin).toNat by omega, show (r - min q r).toNat + (min q r - FP.Core.b64.qmin).toNat = (r - FP.Core.b64.qmin).toNat by omega]
theorem dadd_ge {a b : UInt64} (ha : a.toNat < 2047 * 4503599627370496) (hb : b.toNat < 2047 * 4503599627370496) : a.toNat ≤ (FP.dadd a b).toNat % 9223372036854775808 ∧ (FP.dadd a b).toNat < 9223372036854775808 := by
  obtain ⟨N, e, hv, q1, hu⟩ := dadd_val ha hb
  refine ⟨?_, sgn_pos hv⟩
  have hm := FP.Core.mag_ge FP.Core.good_b64 (n := (FP.dadd a b).toNat) (m := a.toNat) hv (by decide) (e0 := FP.Core.b64.qmin) (by omega) q1 (by rw [FP.Core.infBits_b64]; omega) (by
    rw [Int.sub_self, Int.toNat_zero, Nat.pow_zero, Nat.mul_one, Nat.mul_one, hu]
    exact Nat.le_add_right _ _)
  rw [FP.Core.mag_toNat64] at hm
  omega
theorem dadd_lt {a b : UInt64} {K : Nat} (ha : a.toNat < 4503599627370496 * (K + 1)) (hb : b.toNat < 4503599627370496 * K) (hK : 1 ≤ K ∧ K ≤ 2045) : (FP.dadd a b).toNat % 9223372036854775808 < 4503599627370496 * (K + 2) := by
  obtain ⟨N, e, hv, q1, hu⟩ := dadd_val (a := a) (b := b) (by omega) (by omega)
  have t64 : FP.Core.b64.tails = 4503599627370496 := by decide
  have l1 := (FP.Core.units_lt_start (f := FP.Core.b64) (m := a.toNat) (K := K + 1) (by rw [t64, Nat.mul_comm]; exact ha)).2
  have l2 := (FP.Core.units_lt_start (f := FP.Core.b64) (m := b.toNat) (K := K) (by rw [t64, Nat.mul_comm]; exact hb)).2
  rw [t64] at l1 l2
  have e2 : 2 ^ (K + 1 - 1) = 2 * 2 ^ (K - 1) := by
    rw [show K + 1 - 1 = (K - 1) + 1 by omega, Nat.pow_succ]; omega
  rw [e2] at l1
  have hm := FP.Core.mag_le FP.Core.good_b64 (n := (FP.dadd a b).toNat) (m := 4503599627370496 * (K + 1) + 2251799813685248) hv (by decide) (e0 := FP.Core.b64.qmin) (by omega) q1 (by
    rw [Int.sub_self, Int.toNat_zero, Nat.pow_zero, Nat.mul_one, Nat.mul_one, hu]
    unfold FP.Core.unitsOf at l1 l2 ⊢
    rw [t64] at l1 l2 ⊢
    rw [if_neg (show ¬ 4503599627370496 * (K + 1) + 2251799813685248 < 4503599627370496 by omega), show (4503599627370496 * (K + 1) + 2251799813685248) % 4503599627370496 = 2251799813685248 by omega, show (4503599627370496 * (K + 1) + 2251799813685248) / 4503599627370496 - 1 = K + 1 - 1 by omega, e2]
    omega)
  rw [FP.Core.mag_toNat64] at hm
  omega
theorem Dn.add {lo h hi : Nat} {a b : UInt64} (ha : Dn lo h a) (hb : Dn lo h b) (hn : 1 ≤ h ∧ h + 2 ≤ hi ∧ hi ≤ 2047) : Dn lo hi (FP.dadd a b) := by
  by_cases za : a = 0
  · by_cases zb : b = 0
    · left
      subst za; subst zb
      decide +kernel
    · have hb' := hb.resolve_left zb
      right
      have m := dadd_ge (a := b) (b := a) (by omega) (by have := ha.lt (by omega); omega)
      have u := FP.Core.dadd_mag (a := b) (b := a) (K := h) (by rw [Nat.mul_comm]; omega) (by rw [Nat.mul_comm]; have := ha.lt (by omega); omega) (by omega)
      rw [Nat.mul_comm] at u
      rw [show FP.dadd a b = FP.dadd b a from FP.Core.dadd_comm a b]
      rw [show FP.Core.dadd b a = FP.dadd b a from rfl] at u
      omega
  · have ha' := ha.resolve_left za
    right
    have m := dadd_ge (a := a) (b := b) (by omega) (by have := hb.lt (by omega); omega)
    have u := FP.Core.dadd_mag (a := a) (b := b) (K := h) (by rw [Nat.mul_comm]; omega) (by rw [Nat.mul_comm]; have := hb.lt (by omega); omega) (by omega)
    rw [Nat.mul_comm] at u
    rw [show FP.Core.dadd a b = FP.dadd a b from rfl] at u
    omega
theorem Dn_i2d {v : Int} (h0 : 0 ≤ v) (h : inI v) : Dn 1023 1056 (FP.i2d (I v)) := by
  have hv : (I v).toInt = v := I_toInt h
  by_cases z : v = 0
  · subst z
    left
    decide +kernel
  · right
    have m1 := FP.Core.i2d_mag (I v)
    have m2 := FP.Core.i2d_big (v := I v) (by rw [hv]; exact z)
    have s : (FP.i2d (I v)).toNat < 9223372036854775808 := by
      obtain ⟨c, q, e⟩ := FP.Core.l2d_shape (I v).toInt64
      rw [← FP.Core.i2d_l2d] at e
      have hd : decide ((I v).toInt64.toInt < 0) = false := decide_eq_false (by rw [Int32.toInt_toInt64, hv]; omega)
      rw [hd] at e
      have hs := FP.Core.sign_bits (a := FP.i2d (I v)) (Or.inl ⟨c, q, e⟩)
      have : ¬ 2 ^ 63 ≤ (FP.i2d (I v)).toNat := fun z => absurd (hs.mpr z) (by decide)
      omega
    rw [show FP.Core.i2d (I v) = FP.i2d (I v) from rfl] at m1 m2
    omega
theorem l2d_i {v : Int} (h : inI v) : FP.l2d (L v) = FP.i2d (I v) := by
  show FP.Core.l2d (L v) = FP.Core.i2d (I v)
  rw [FP.Core.i2d_l2d, I_l h]
theorem i2d_pos {v : Int} (h0 : 0 < v) (h : inI v) : 4503599627370496 * 1023 ≤ (FP.i2d (I v)).toNat ∧ (FP.i2d (I v)).toNat < 4503599627370496 * 1056 := by
  rcases Dn_i2d (by omega) h with e | e
  · have m2 := FP.Core.i2d_big (v := I v) (by rw [I_toInt h]; omega)
    rw [show FP.Core.i2d (I v) = FP.i2d (I v) from rfl, e] at m2
    exact absurd m2.1 (by decide)
  · exact e
theorem i2d_up {v : Int} {j : Nat} (h0 : 0 ≤ v) (h : inI v) (hj : v ≤ ((2 ^ j : Nat) : Int)) : (FP.i2d (I v)).toNat ≤ 4503599627370496 * (j + 1023) := by
  have m := FP.Core.fromInt_mag (a := FP.i2d (I v)) (FP.Core.toNat_i2d (I v)) (j := j) (K := j + 1023) (by rw [I_toInt h]; omega) (by omega) (by omega)
  rw [Nat.mul_comm] at m
  have := (Dn_i2d h0 h).lt (by omega)
  omega
theorem LU_toNat {x : Int} (h : 0 ≤ x ∧ x < 9223372036854775808) : (L x).toUInt64.toNat = x.toNat := by
  show (BitVec.ofInt 64 x).toNat = x.toNat
  rw [BitVec.toNat_ofInt]
  omega
theorem LU_L (x : Int) : (L x).toUInt64.toInt64 = L x := rfl
theorem U_LU (y : UInt64) : (L y.toInt64.toInt).toUInt64 = y := by rw [L_of]; rfl

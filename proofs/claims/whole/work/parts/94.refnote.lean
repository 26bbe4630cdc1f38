/-! the reference: notes -/
theorem flz_0 (a : Int → Int) (v : Int) : fl a 0 v = a := by funext j; unfold fl; rw [if_neg (by omega)]
theorem flz_s (a : Int → Int) (k : Nat) (v : Int) : uz (fl a k v) (k : Int) v = fl a (k + 1) v := by
  funext j; unfold uz fl
  by_cases e : j = (k : Int)
  · rw [if_pos e, if_pos (by omega)]
  · rw [if_neg e]
    by_cases e2 : 0 ≤ j ∧ j < (k : Int)
    · rw [if_pos e2, if_pos (by omega)]
    · rw [if_neg e2, if_neg (by omega)]
def rwN (V : St) (s n : Int) (k : Nat) : St := sset (u0 (u0 V 15 s) 16 n) 7 (fl (V 7) k 0)
theorem rwN_0 (V : St) (s n : Int) : rwN V s n 0 = u0 (u0 V 15 s) 16 n := by
  unfold rwN; rw [flz_0]
  funext f j; unfold u0 sset
  by_cases h : f = 7
  · simp [h]
  · simp [h]
theorem rwN_s (V : St) (s n : Int) (k : Nat) : u1 (rwN V s n k) 7 (k : Int) 0 = rwN V s n (k + 1) := by
  unfold rwN; rw [u1_sset, flz_s]
theorem rwN_L {V : St} (hL : RgL V) {s n : Int} (hs : inI s ∧ inI n) (k : Nat) : RgL (rwN V s n k) := by
  refine ((hL.u0 (by omega)).u0 (by omega)).sset (fun j => ?_)
  unfold fl; split
  · exact ⟨by omega, by omega⟩
  · exact hL 7 j
def rNoteV (V : St) (k s v : Int) : Int := if ¬ (0 ≤ s ∧ s < 4) then -1 else if V 15 0 = -1 then -2 else if ¬ (0 ≤ k ∧ k < V 16 0) then -3 else if ¬ s = V 15 0 then -4 else if (V 15 0 = 0 ∧ ¬ (-2147483648 ≤ v ∧ v ≤ 2147483647)) ∨ (V 15 0 = 3 ∧ ¬ (-32768 ≤ v ∧ v ≤ 32767)) then -5 else k
def aNotedV (V : St) (k : Int) : Int := if ¬ V 15 0 = -1 ∧ 0 ≤ k ∧ k < V 16 0 then V 7 k else -9000000000

set_option maxHeartbeats 1000000 in
theorem c_X11_row {Γ : GT} {S T U V : St} {G : Gw} {nx d : Nat} {Q : QT} (hnx : 52 ≤ nx) {s n : Int} (hs : inI s ∧ inI n) (hL : RgL V) (hQ : ∀ r, r = (if 0 ≤ s ∧ s < 4 ∧ 0 ≤ n ∧ n ≤ 40 then n else -1) → RgL (if 0 ≤ s ∧ s < 4 ∧ 0 ≤ n ∧ n ≤ 40 then rwN V s n 40 else V) → Q (some (vi r)) (hp Γ S T U (if 0 ≤ s ∧ s < 4 ∧ 0 ≤ n ∧ n ≤ 40 then rwN V s n 40 else V) G) nx) : AM Γ MX11_row (d + 1, 0, 0) [rf Γ 43, vi s, vi n] (hp Γ S T U V G) nx Q := by
  refine am_of (by decide) (Nat.le_of_ble_eq_true rfl) (ls := [some (rf Γ 43), some _, some _, none]) rfl ?_
  have hL0 := hL
  refine aw_iload_n dX11_row_0 rfl ?_
  refine aw_i2l dX11_row_1 (by omega) ?_
  refine aw_lconst0 dX11_row_2 ?_
  refine aw_ldc2 dX11_row_3 qk_X11_301 ?_
  refine aw_st (st' := vl 3 :: _) rfl ?_
  refine aw_callS (As := [_, _, _]) (ρ := (_, 0, 0)) (kn' := (0, 0)) cs_X11_51 dX11_row_6 rfl rfl (Nat.le_of_ble_eq_true rfl) (rmR _ _ _) ⟨Nat.le_refl _, Nat.le_refl _⟩ rfl (c_X11_in hnx (by omega) (fun r6 h6 => ?_))
  rcases h6 with ⟨rfl, h6⟩ | ⟨rfl, h6⟩
  · skip
    refine aw_if_eq (tgt := 24) dX11_row_9 rfl (by decide) (fun c => absurd c (by decide)) (fun _ => ?_)
    refine aw_iload_n dX11_row_12 rfl ?_
    refine aw_i2l dX11_row_13 (by omega) ?_
    refine aw_lconst0 dX11_row_14 ?_
    refine aw_ldc2 dX11_row_15 qk_X11_351 ?_
    refine aw_st (st' := vl 40 :: _) rfl ?_
    refine aw_callS (As := [_, _, _]) (ρ := (_, 0, 0)) (kn' := (0, 0)) cs_X11_51 dX11_row_18 rfl rfl (Nat.le_of_ble_eq_true rfl) (rmR _ _ _) ⟨Nat.le_refl _, Nat.le_refl _⟩ rfl (c_X11_in hnx (by omega) (fun r18 h18 => ?_))
    rcases h18 with ⟨rfl, h18⟩ | ⟨rfl, h18⟩
    · skip
      refine aw_if_ne (tgt := 26) dX11_row_21 rfl (by decide) (fun _ => ?_) (fun c => absurd c (by decide))
      refine aw_aload_n dX11_row_26 rfl ?_
      refine aw_iload_n dX11_row_27 rfl ?_
      refine aw_putV fp_X11_36 dX11_row_28 (hc43 hnx) (Nat.le_of_ble_eq_true rfl) hL (by omega) hu43_15 (fun hL => ?_)
      refine aw_aload_n dX11_row_31 rfl ?_
      refine aw_iload_n dX11_row_32 rfl ?_
      refine aw_putV fp_X11_353 dX11_row_33 (hc43 hnx) (Nat.le_of_ble_eq_true rfl) hL (by omega) hu43_16 (fun hL => ?_)
      refine aw_iconst dX11_row_36 ?_
      refine aw_istore_n (ls' := [some (rf Γ 43), some _, some _, some _]) dX11_row_37 (by decide) rfl ?_
      refine aw_hp (V' := rwN V s n 0) rfl rfl rfl (rwN_0 V s n) rfl ?_
      refine loopN (40) (P := fun k =>  AW Γ MX11_row _ _ (0, 0) 38 [some (rf Γ 43), some (vi s), some (vi n), some (vi (k : Int))] [] (hp Γ S T U (rwN V s n k) G) nx) (fun k hk ih => ?_) 0 (Nat.zero_le _) 
      refine aw_iload_n dX11_row_38 rfl ?_
      replace hL := rwN_L hL0 hs k
      refine aw_bipush dX11_row_39 rfl ?_
      refine aw_icmp_ge (tgt := 57) dX11_row_41 rfl (by omega) (fun c41 => ?_) (fun c41 => ?_)
      · skip
        obtain rfl : k = 40 := by omega
        refine aw_iload_n dX11_row_57 rfl ?_
        exact aw_ireturn dX11_row_58 rfl rfl ⟨Nat.le_refl _, Nat.le_refl _⟩ (by have q := hQ n (by rw [if_pos (by omega)]); rw [if_pos (by omega)] at q; exact q hL)
      · skip
        refine aw_aload_n dX11_row_44 rfl ?_
        refine aw_getf fg_X11_33 dX11_row_45 (hc43 hnx) rfl ?_
        refine aw_iload_n dX11_row_48 rfl ?_
        refine aw_lconst0 dX11_row_49 ?_
        refine aw_lastV dX11_row_50 (hc51 hnx) (by omega) (by decide) hL (by omega) (fun _ => hu51) (fun hL => ?_)
        refine aw_hp (V' := rwN V s n (k + 1)) rfl rfl rfl (rwN_s V s n k).symm rfl ?_
        refine aw_iinc (ls' := [some (rf Γ 43), some _, some _, some _]) dX11_row_51 rfl (by decide) rfl ?_
        refine aw_goto (tgt := 38) dX11_row_54 rfl ?_
        exact ih (by omega)   
    · skip
      refine aw_if_ne (tgt := 26) dX11_row_21 rfl (by decide) (fun c => absurd c (by decide)) (fun _ => ?_)
      refine aw_iconst dX11_row_24 ?_
      exact aw_ireturn dX11_row_25 rfl rfl ⟨Nat.le_refl _, Nat.le_refl _⟩ (by have q := hQ (-1) (by rw [if_neg (by omega)]); rw [if_neg (by omega)] at q; exact q hL)
  · skip
    refine aw_if_eq (tgt := 24) dX11_row_9 rfl (by decide) (fun _ => ?_) (fun c => absurd c (by decide))
    refine aw_iconst dX11_row_24 ?_
    exact aw_ireturn dX11_row_25 rfl rfl ⟨Nat.le_refl _, Nat.le_refl _⟩ (by have q := hQ (-1) (by rw [if_neg (by omega)]); rw [if_neg (by omega)] at q; exact q hL)

set_option maxHeartbeats 1000000 in
theorem c_X11_noted {Γ : GT} {S T U V : St} {G : Gw} {nx d : Nat} {Q : QT} (hnx : 52 ≤ nx) {k : Int} (hL : RgL V) (h15 : -1 ≤ V 15 0 ∧ V 15 0 ≤ 3) (h16 : 0 ≤ V 16 0 ∧ V 16 0 ≤ 40) (hk : inI k) (hQ : ∀ r, r = aNotedV V k → Q (some (vl r)) (hp Γ S T U V G) nx) : AM Γ MX11_noted (d + 1, 0, 0) [rf Γ 43, vi k] (hp Γ S T U V G) nx Q := by
  refine am_of (by decide) (Nat.le_of_ble_eq_true rfl) (ls := [some (rf Γ 43), some _]) rfl ?_
  refine aw_aload_n dX11_noted_0 rfl ?_
  refine aw_getf fg_X11_36 dX11_noted_1 (hc43 hnx) rfl ?_
  refine aw_iconst dX11_noted_4 ?_
  refine aw_icmp_eq (tgt := 33) dX11_noted_5 rfl (by omega) (fun c5 => ?_) (fun c5 => ?_)
  · skip
    refine aw_ldc2 dX11_noted_33 qk_X11_366 ?_
    refine aw_st (st' := vl (-9000000000) :: _) rfl ?_
    exact aw_lreturn dX11_noted_36 rfl ⟨Nat.le_refl _, Nat.le_refl _⟩ (hQ _ (by unfold aNotedV; first | rw [if_pos (by omega)] | rw [if_neg (by omega)]))
  · skip
    refine aw_iload_n dX11_noted_8 rfl ?_
    refine aw_i2l dX11_noted_9 (by omega) ?_
    refine aw_lconst0 dX11_noted_10 ?_
    refine aw_aload_n dX11_noted_11 rfl ?_
    refine aw_getf fg_X11_353 dX11_noted_12 (hc43 hnx) rfl ?_
    refine aw_iconst dX11_noted_15 ?_
    refine aw_isub dX11_noted_16 ?_
    refine aw_i2l dX11_noted_17 (by omega) ?_
    refine aw_callS (As := [_, _, _]) (ρ := (_, 0, 0)) (kn' := (0, 0)) cs_X11_51 dX11_noted_18 rfl rfl (Nat.le_of_ble_eq_true rfl) (rmR _ _ _) ⟨Nat.le_refl _, Nat.le_refl _⟩ rfl (c_X11_in hnx (by omega) (fun r18 h18 => ?_))
    rcases h18 with ⟨rfl, h18⟩ | ⟨rfl, h18⟩
    · skip
      refine aw_if_eq (tgt := 33) dX11_noted_21 rfl (by decide) (fun c => absurd c (by decide)) (fun _ => ?_)
      refine aw_aload_n dX11_noted_24 rfl ?_
      refine aw_getf fg_X11_33 dX11_noted_25 (hc43 hnx) rfl ?_
      refine aw_iload_n dX11_noted_28 rfl ?_
      refine aw_laldr dX11_noted_29 (hc51 hnx) (by omega) (by decide) (hL 7) (fun q29 => ?_)
      refine aw_goto (tgt := 36) dX11_noted_30 rfl ?_
      exact aw_lreturn dX11_noted_36 rfl ⟨Nat.le_refl _, Nat.le_refl _⟩ (hQ _ (by unfold aNotedV; first | rw [if_pos (by omega)] | rw [if_neg (by omega)]))
    · skip
      refine aw_if_eq (tgt := 33) dX11_noted_21 rfl (by decide) (fun _ => ?_) (fun c => absurd c (by decide))
      refine aw_ldc2 dX11_noted_33 qk_X11_366 ?_
      refine aw_st (st' := vl (-9000000000) :: _) rfl ?_
      exact aw_lreturn dX11_noted_36 rfl ⟨Nat.le_refl _, Nat.le_refl _⟩ (hQ _ (by unfold aNotedV; first | rw [if_pos (by omega)] | rw [if_neg (by omega)]))

/-! NaN: the bits of one -/
theorem c_isNaN1 {Γ : GT} {S T U V : St} {G : Gw} {nx d : Nat} {Q : QT} (hnx : 52 ≤ nx) {x : UInt64} (hx : FP.Core.val64 x = .nan) (hQ : Q (some (vi 1)) (hp Γ S T U V G) nx) : AM Γ MJxe99ae_isNaN_b9ae7 (d, 0, 0) [.double x] (hp Γ S T U V G) nx Q := by
  refine am_of (by decide) (Nat.le_of_ble_eq_true rfl) (ls := [some _, none]) rfl ?_
  refine aw_dload_n dJxe99ae_isNaN_b9ae7_0 rfl ?_
  refine aw_dload_n dJxe99ae_isNaN_b9ae7_1 rfl ?_
  refine aw_dcmp dJxe99ae_isNaN_b9ae7_2 ?_
  refine aw_si (a := I (-1)) (by rw [show FP.dcmp x x = none from by show FP.Core.order (FP.Core.val64 x) (FP.Core.val64 x) = none; rw [hx]; rfl]; rfl) ?_
  refine aw_if_eq (tgt := 10) dJxe99ae_isNaN_b9ae7_3 rfl (by decide) (fun c => absurd c (by decide)) (fun _ => ?_)
  refine aw_iconst dJxe99ae_isNaN_b9ae7_6 ?_
  refine aw_goto (tgt := 11) dJxe99ae_isNaN_b9ae7_7 rfl ?_
  exact aw_zreturn dJxe99ae_isNaN_b9ae7_11 rfl (by omega) ⟨Nat.le_refl _, Nat.le_refl _⟩ hQ
set_option maxHeartbeats 1000000 in
theorem c_dtl1 {Γ : GT} {S T U V : St} {G : Gw} {nx d : Nat} {Q : QT} (hnx : 52 ≤ nx) {x : UInt64} (hx : FP.Core.val64 x = .nan) (hQ : Q (some (vl 9221120237041090560)) (hp Γ S T U V G) nx) : AM Γ MJxe99ae_doubleToLongBits_ccdee (d + 1, 0, 0) [.double x] (hp Γ S T U V G) nx Q := by
  refine am_of (by decide) (Nat.le_of_ble_eq_true rfl) (ls := [some _, none]) rfl ?_
  refine aw_dload_n dJxe99ae_doubleToLongBits_ccdee_0 rfl ?_
  refine aw_callS (As := [_]) (ρ := (_, 0, 0)) (kn' := (0, 0)) cs_Jxe99ae_122 dJxe99ae_doubleToLongBits_ccdee_1 rfl rfl (Nat.le_of_ble_eq_true rfl) (rmR _ _ _) ⟨Nat.le_refl _, Nat.le_refl _⟩ rfl (c_isNaN1 hnx hx ?_)
  refine aw_if_ne (tgt := 12) dJxe99ae_doubleToLongBits_ccdee_4 rfl (by decide) (fun _ => ?_) (fun c => absurd c (by decide))
  refine aw_ldc2 dJxe99ae_doubleToLongBits_ccdee_12 qk_Jxe99ae_137 ?_
  exact aw_lreturn dJxe99ae_doubleToLongBits_ccdee_15 rfl ⟨Nat.le_refl _, Nat.le_refl _⟩ hQ
theorem msk_hi (n : Nat) : (n &&& 9218868437227405312 = 9218868437227405312) ↔ n / 4503599627370496 % 2048 = 2047 := by
  rw [show (9218868437227405312 : Nat) = 2047 <<< 52 by decide]
  have e : n &&& 2047 <<< 52 = (n / 4503599627370496 % 2048) <<< 52 := by
    apply Nat.eq_of_testBit_eq
    intro i
    rw [Nat.testBit_and, Nat.testBit_shiftLeft, Nat.testBit_shiftLeft, show (4503599627370496 : Nat) = 2 ^ 52 by decide, show (2048 : Nat) = 2 ^ 11 by decide, Nat.testBit_mod_two_pow, Nat.testBit_div_two_pow, show (2047 : Nat) = 2 ^ 11 - 1 by decide, Nat.testBit_two_pow_sub_one]
    by_cases h : 52 ≤ i
    · rw [show i - 52 + 52 = i by omega]
      simp [h, Bool.and_comm]
    · simp [h]
  rw [e, Nat.shiftLeft_eq, Nat.shiftLeft_eq]
  constructor
  · intro h; omega
  · intro h; rw [h]
theorem msk_lo (n : Nat) : n &&& 4503599627370495 = n % 4503599627370496 := by
  rw [show (4503599627370495 : Nat) = 2 ^ 52 - 1 by decide, Nat.and_two_pow_sub_one_eq_mod]
theorem L_nat (b : Int) (m : Nat) : ((L b &&& L (m : Int)).toUInt64).toNat = (L b).toUInt64.toNat &&& (L (m : Int)).toUInt64.toNat := by
  rw [Int64.toUInt64_and, UInt64.toNat_and]
theorem nanP_val {b : Int} : nanP b ↔ FP.Core.val64 (L b).toUInt64 = .nan := by
  have e1 : (L 9218868437227405312).toUInt64.toNat = 9218868437227405312 := by decide +kernel
  have e2 : (L 4503599627370495).toUInt64.toNat = 4503599627370495 := by decide +kernel
  have e0 : (L 0).toUInt64.toNat = 0 := by decide +kernel
  have inj : ∀ x y : Int64, x = y ↔ x.toUInt64.toNat = y.toUInt64.toNat := fun x y => ⟨fun h => by rw [h], fun h => congrArg UInt64.toInt64 (UInt64.toNat_inj.mp h)⟩
  have q1 : (L b &&& L 9218868437227405312 = L 9218868437227405312) ↔ (L b).toUInt64.toNat / 4503599627370496 % 2048 = 2047 := by
    rw [inj, Int64.toUInt64_and, UInt64.toNat_and, e1]; exact msk_hi _
  have q2 : (L b &&& L 4503599627370495 = L 0) ↔ (L b).toUInt64.toNat % 4503599627370496 = 0 := by
    rw [inj, Int64.toUInt64_and, UInt64.toNat_and, e2, e0, msk_lo]
  have hE : FP.Core.fieldE FP.Core.b64 (L b).toUInt64.toNat = (L b).toUInt64.toNat / 4503599627370496 % 2048 := rfl
  have hT : FP.Core.fieldT FP.Core.b64 (L b).toUInt64.toNat = (L b).toUInt64.toNat % 4503599627370496 := rfl
  have hX : FP.Core.b64.exps - 1 = 2047 := rfl
  unfold nanP FP.Core.val64 FP.Core.decode
  rw [q1, q2, hE, hT, hX]
  constructor
  · intro h; rw [if_pos h.1, if_neg h.2]
  · intro h
    by_cases c : (L b).toUInt64.toNat / 4503599627370496 % 2048 = 2047
    · refine ⟨c, fun z => ?_⟩
      rw [if_pos c, if_pos z] at h; cases h
    · rw [if_neg c] at h
      split at h <;> cases h
def cn (s v : Int) : Int := if s = 2 ∧ nanP v then 9221120237041090560 else v
theorem cn_in {s v : Int} (h : inL v) : inL (cn s v) := by unfold cn; split <;> omega
theorem c_dtl2 {Γ : GT} {S T U V : St} {G : Gw} {nx d : Nat} {Q : QT} (hnx : 52 ≤ nx) {v : Int} (hQ : Q (some (vl (cn 2 v))) (hp Γ S T U V G) nx) : AM Γ MJxe99ae_doubleToLongBits_ccdee (d + 1, 0, 0) [.double (L v).toUInt64] (hp Γ S T U V G) nx Q := by
  by_cases h : nanP v
  · refine c_dtl1 hnx (nanP_val.mp h) ?_
    have e : cn 2 v = 9221120237041090560 := by unfold cn; rw [if_pos ⟨rfl, h⟩]
    rw [e] at hQ; exact hQ
  · refine c_dtl hnx (fun z => h (nanP_val.mpr z)) ?_
    have e : cn 2 v = v := by unfold cn; rw [if_neg (fun z => h z.2)]
    rw [e] at hQ
    rw [show (L v).toUInt64.toInt64 = L v from rfl]
    exact hQ

set_option maxHeartbeats 1000000 in
theorem c_X11_note {Γ : GT} {S T U V : St} {G : Gw} {nx d : Nat} {Q : QT} (hnx : 52 ≤ nx) {k s v : Int} (hL : RgL V) (h15 : -1 ≤ V 15 0 ∧ V 15 0 ≤ 3) (h16 : 0 ≤ V 16 0 ∧ V 16 0 ≤ 40) (hk : inI k ∧ inI s) (hv : inL v) (hz : s = 2 → V 15 0 = 2 → 0 ≤ k → k < V 16 0 → vn_snl2d (L v) = false) (hQ : ∀ r, r = rNoteV V k s v → RgL (if 0 ≤ r then u1 V 7 k (cn s v) else V) → Q (some (vi r)) (hp Γ S T U (if 0 ≤ r then u1 V 7 k (cn s v) else V) G) nx) : AM Γ MX11_note (d + 2, 0, 0) [rf Γ 43, vi k, vi s, vl v] (hp Γ S T U V G) nx Q := by
  refine am_of (by decide) (Nat.le_of_ble_eq_true rfl) (ls := [some (rf Γ 43), some _, some _, some _, none]) rfl ?_
  have cv := cn_in (s := s) hv
  refine aw_iload_n dX11_note_0 rfl ?_
  refine aw_i2l dX11_note_1 (by omega) ?_
  refine aw_lconst0 dX11_note_2 ?_
  refine aw_ldc2 dX11_note_3 qk_X11_301 ?_
  refine aw_st (st' := vl 3 :: _) rfl ?_
  refine aw_callS (As := [_, _, _]) (ρ := (_, 0, 0)) (kn' := (0, 0)) cs_X11_51 dX11_note_6 rfl rfl (Nat.le_of_ble_eq_true rfl) (rmR _ _ _) ⟨Nat.le_refl _, Nat.le_refl _⟩ rfl (c_X11_in hnx (by omega) (fun r6 h6 => ?_))
  rcases h6 with ⟨rfl, h6⟩ | ⟨rfl, h6⟩
  · skip
    refine aw_if_ne (tgt := 14) dX11_note_9 rfl (by decide) (fun _ => ?_) (fun c => absurd c (by decide))
    refine aw_aload_n dX11_note_14 rfl ?_
    refine aw_getf fg_X11_36 dX11_note_15 (hc43 hnx) rfl ?_
    refine aw_iconst dX11_note_18 ?_
    refine aw_icmp_ne (tgt := 25) dX11_note_19 rfl (by omega) (fun c19 => ?_) (fun c19 => ?_)
    · skip
      refine aw_iload_n dX11_note_25 rfl ?_
      refine aw_i2l dX11_note_26 (by omega) ?_
      refine aw_lconst0 dX11_note_27 ?_
      refine aw_aload_n dX11_note_28 rfl ?_
      refine aw_getf fg_X11_353 dX11_note_29 (hc43 hnx) rfl ?_
      refine aw_iconst dX11_note_32 ?_
      refine aw_isub dX11_note_33 ?_
      refine aw_i2l dX11_note_34 (by omega) ?_
      refine aw_callS (As := [_, _, _]) (ρ := (_, 0, 0)) (kn' := (0, 0)) cs_X11_51 dX11_note_35 rfl rfl (Nat.le_of_ble_eq_true rfl) (rmR _ _ _) ⟨Nat.le_refl _, Nat.le_refl _⟩ rfl (c_X11_in hnx (by omega) (fun r35 h35 => ?_))
      rcases h35 with ⟨rfl, h35⟩ | ⟨rfl, h35⟩
      · skip
        refine aw_if_ne (tgt := 44) dX11_note_38 rfl (by decide) (fun _ => ?_) (fun c => absurd c (by decide))
        refine aw_iload_n dX11_note_44 rfl ?_
        refine aw_aload_n dX11_note_45 rfl ?_
        refine aw_getf fg_X11_36 dX11_note_46 (hc43 hnx) rfl ?_
        refine aw_icmp_eq (tgt := 55) dX11_note_49 rfl (by omega) (fun c49 => ?_) (fun c49 => ?_)
        · skip
          refine aw_iload_n dX11_note_55 rfl ?_
          refine aw_if_ne (tgt := 72) dX11_note_56 rfl (by omega) (fun c56 => ?_) (fun c56 => ?_)
          · skip
            refine aw_iload_n dX11_note_72 rfl ?_
            refine aw_iconst dX11_note_73 ?_
            refine aw_icmp_ne (tgt := 93) dX11_note_74 rfl (by omega) (fun c74 => ?_) (fun c74 => ?_)
            · skip
              refine aw_aload_n dX11_note_93 rfl ?_
              refine aw_getf fg_X11_33 dX11_note_94 (hc43 hnx) rfl ?_
              refine aw_iload_n dX11_note_97 rfl ?_
              refine aw_iload_n dX11_note_98 rfl ?_
              refine aw_iconst dX11_note_99 ?_
              refine aw_icmp_ne (tgt := 113) dX11_note_100 rfl (by omega) (fun c100 => ?_) (fun c100 => ?_)
              · skip
                refine aw_lload_n dX11_note_113 rfl ?_
                first | (refine aw_svl (a := cn s v) (by unfold cn; rw [if_neg (fun z => absurd z.1 (by omega))]) ?_) | skip
                refine aw_lastV dX11_note_114 (hc51 hnx) (by omega) (by decide) hL cv (fun _ => hu51) (fun hL => ?_)
                refine aw_iload_n dX11_note_115 rfl ?_
                exact aw_ireturn dX11_note_116 rfl rfl ⟨Nat.le_refl _, Nat.le_refl _⟩ (by have q := hQ k (by unfold rNoteV; (repeat' split) <;> omega); rw [if_pos (by omega)] at q; exact q hL)
              · skip
                have c100 : s = 2 := by omega
                refine aw_lload_n dX11_note_103 rfl ?_
                refine aw_l2dbits qm_X11_260 qv_java_lang_Double_longBitsToDouble qt_java_lang_Double_longBitsToDouble qn_Jxe99ae (hz c100 (by omega) (by omega) (by omega)) (rmN _ _ _ (Nat.le_of_ble_eq_true rfl)) dX11_note_104 ?_
                refine aw_callS (As := [_]) (ρ := (_, 0, 0)) (kn' := (0, 0)) cs_X11_276 dX11_note_107 rfl rfl (Nat.le_of_ble_eq_true rfl) (rmR _ _ _) ⟨Nat.le_refl _, Nat.le_refl _⟩ rfl (c_dtl2 hnx ?_)
                refine aw_svl (a := cn s v) (by rw [c100]) ?_
                refine aw_goto (tgt := 114) dX11_note_110 rfl ?_
                first | (refine aw_svl (a := cn s v) (by unfold cn; rw [if_neg (fun z => absurd z.1 (by omega))]) ?_) | skip
                refine aw_lastV dX11_note_114 (hc51 hnx) (by omega) (by decide) hL cv (fun _ => hu51) (fun hL => ?_)
                refine aw_iload_n dX11_note_115 rfl ?_
                exact aw_ireturn dX11_note_116 rfl rfl ⟨Nat.le_refl _, Nat.le_refl _⟩ (by have q := hQ k (by unfold rNoteV; (repeat' split) <;> omega); rw [if_pos (by omega)] at q; exact q hL)
            · skip
              refine aw_lload_n dX11_note_77 rfl ?_
              refine aw_ldc2 dX11_note_78 qk_X11_362 ?_
              refine aw_st (st' := vl (-32768) :: _) rfl ?_
              refine aw_ldc2 dX11_note_81 qk_X11_364 ?_
              refine aw_st (st' := vl 32767 :: _) rfl ?_
              refine aw_callS (As := [_, _, _]) (ρ := (_, 0, 0)) (kn' := (0, 0)) cs_X11_51 dX11_note_84 rfl rfl (Nat.le_of_ble_eq_true rfl) (rmR _ _ _) ⟨Nat.le_refl _, Nat.le_refl _⟩ rfl (c_X11_in hnx (by omega) (fun r84 h84 => ?_))
              rcases h84 with ⟨rfl, h84⟩ | ⟨rfl, h84⟩
              · skip
                refine aw_if_ne (tgt := 93) dX11_note_87 rfl (by decide) (fun _ => ?_) (fun c => absurd c (by decide))
                refine aw_aload_n dX11_note_93 rfl ?_
                refine aw_getf fg_X11_33 dX11_note_94 (hc43 hnx) rfl ?_
                refine aw_iload_n dX11_note_97 rfl ?_
                refine aw_iload_n dX11_note_98 rfl ?_
                refine aw_iconst dX11_note_99 ?_
                refine aw_icmp_ne (tgt := 113) dX11_note_100 rfl (by omega) (fun c100 => ?_) (fun c100 => ?_)
                · skip
                  refine aw_lload_n dX11_note_113 rfl ?_
                  first | (refine aw_svl (a := cn s v) (by unfold cn; rw [if_neg (fun z => absurd z.1 (by omega))]) ?_) | skip
                  refine aw_lastV dX11_note_114 (hc51 hnx) (by omega) (by decide) hL cv (fun _ => hu51) (fun hL => ?_)
                  refine aw_iload_n dX11_note_115 rfl ?_
                  exact aw_ireturn dX11_note_116 rfl rfl ⟨Nat.le_refl _, Nat.le_refl _⟩ (by have q := hQ k (by unfold rNoteV; (repeat' split) <;> omega); rw [if_pos (by omega)] at q; exact q hL)
                · skip
                  have c100 : s = 2 := by omega
                  refine aw_lload_n dX11_note_103 rfl ?_
                  refine aw_l2dbits qm_X11_260 qv_java_lang_Double_longBitsToDouble qt_java_lang_Double_longBitsToDouble qn_Jxe99ae (hz c100 (by omega) (by omega) (by omega)) (rmN _ _ _ (Nat.le_of_ble_eq_true rfl)) dX11_note_104 ?_
                  refine aw_callS (As := [_]) (ρ := (_, 0, 0)) (kn' := (0, 0)) cs_X11_276 dX11_note_107 rfl rfl (Nat.le_of_ble_eq_true rfl) (rmR _ _ _) ⟨Nat.le_refl _, Nat.le_refl _⟩ rfl (c_dtl2 hnx ?_)
                  refine aw_svl (a := cn s v) (by rw [c100]) ?_
                  refine aw_goto (tgt := 114) dX11_note_110 rfl ?_
                  first | (refine aw_svl (a := cn s v) (by unfold cn; rw [if_neg (fun z => absurd z.1 (by omega))]) ?_) | skip
                  refine aw_lastV dX11_note_114 (hc51 hnx) (by omega) (by decide) hL cv (fun _ => hu51) (fun hL => ?_)
                  refine aw_iload_n dX11_note_115 rfl ?_
                  exact aw_ireturn dX11_note_116 rfl rfl ⟨Nat.le_refl _, Nat.le_refl _⟩ (by have q := hQ k (by unfold rNoteV; (repeat' split) <;> omega); rw [if_pos (by omega)] at q; exact q hL)
              · skip
                refine aw_if_ne (tgt := 93) dX11_note_87 rfl (by decide) (fun c => absurd c (by decide)) (fun _ => ?_)
                refine aw_bipush dX11_note_90 rfl ?_
                exact aw_ireturn dX11_note_92 rfl rfl ⟨Nat.le_refl _, Nat.le_refl _⟩ (by have q := hQ (-5) (by unfold rNoteV; (repeat' split) <;> omega); rw [if_neg (by omega)] at q; exact q hL)
          · skip
            refine aw_lload_n dX11_note_59 rfl ?_
            refine aw_ldc2 dX11_note_60 qk_X11_358 ?_
            refine aw_st (st' := vl (-2147483648) :: _) rfl ?_
            refine aw_ldc2 dX11_note_63 qk_X11_360 ?_
            refine aw_st (st' := vl 2147483647 :: _) rfl ?_
            refine aw_callS (As := [_, _, _]) (ρ := (_, 0, 0)) (kn' := (0, 0)) cs_X11_51 dX11_note_66 rfl rfl (Nat.le_of_ble_eq_true rfl) (rmR _ _ _) ⟨Nat.le_refl _, Nat.le_refl _⟩ rfl (c_X11_in hnx (by omega) (fun r66 h66 => ?_))
            rcases h66 with ⟨rfl, h66⟩ | ⟨rfl, h66⟩
            · skip
              refine aw_if_eq (tgt := 90) dX11_note_69 rfl (by decide) (fun c => absurd c (by decide)) (fun _ => ?_)
              refine aw_iload_n dX11_note_72 rfl ?_
              refine aw_iconst dX11_note_73 ?_
              refine aw_icmp_ne (tgt := 93) dX11_note_74 rfl (by omega) (fun c74 => ?_) (fun c74 => ?_)
              · skip
                refine aw_aload_n dX11_note_93 rfl ?_
                refine aw_getf fg_X11_33 dX11_note_94 (hc43 hnx) rfl ?_
                refine aw_iload_n dX11_note_97 rfl ?_
                refine aw_iload_n dX11_note_98 rfl ?_
                refine aw_iconst dX11_note_99 ?_
                refine aw_icmp_ne (tgt := 113) dX11_note_100 rfl (by omega) (fun c100 => ?_) (fun c100 => ?_)
                · skip
                  refine aw_lload_n dX11_note_113 rfl ?_
                  first | (refine aw_svl (a := cn s v) (by unfold cn; rw [if_neg (fun z => absurd z.1 (by omega))]) ?_) | skip
                  refine aw_lastV dX11_note_114 (hc51 hnx) (by omega) (by decide) hL cv (fun _ => hu51) (fun hL => ?_)
                  refine aw_iload_n dX11_note_115 rfl ?_
                  exact aw_ireturn dX11_note_116 rfl rfl ⟨Nat.le_refl _, Nat.le_refl _⟩ (by have q := hQ k (by unfold rNoteV; (repeat' split) <;> omega); rw [if_pos (by omega)] at q; exact q hL)
                · skip
                  have c100 : s = 2 := by omega
                  refine aw_lload_n dX11_note_103 rfl ?_
                  refine aw_l2dbits qm_X11_260 qv_java_lang_Double_longBitsToDouble qt_java_lang_Double_longBitsToDouble qn_Jxe99ae (hz c100 (by omega) (by omega) (by omega)) (rmN _ _ _ (Nat.le_of_ble_eq_true rfl)) dX11_note_104 ?_
                  refine aw_callS (As := [_]) (ρ := (_, 0, 0)) (kn' := (0, 0)) cs_X11_276 dX11_note_107 rfl rfl (Nat.le_of_ble_eq_true rfl) (rmR _ _ _) ⟨Nat.le_refl _, Nat.le_refl _⟩ rfl (c_dtl2 hnx ?_)
                  refine aw_svl (a := cn s v) (by rw [c100]) ?_
                  refine aw_goto (tgt := 114) dX11_note_110 rfl ?_
                  first | (refine aw_svl (a := cn s v) (by unfold cn; rw [if_neg (fun z => absurd z.1 (by omega))]) ?_) | skip
                  refine aw_lastV dX11_note_114 (hc51 hnx) (by omega) (by decide) hL cv (fun _ => hu51) (fun hL => ?_)
                  refine aw_iload_n dX11_note_115 rfl ?_
                  exact aw_ireturn dX11_note_116 rfl rfl ⟨Nat.le_refl _, Nat.le_refl _⟩ (by have q := hQ k (by unfold rNoteV; (repeat' split) <;> omega); rw [if_pos (by omega)] at q; exact q hL)
              · skip
                refine aw_lload_n dX11_note_77 rfl ?_
                refine aw_ldc2 dX11_note_78 qk_X11_362 ?_
                refine aw_st (st' := vl (-32768) :: _) rfl ?_
                refine aw_ldc2 dX11_note_81 qk_X11_364 ?_
                refine aw_st (st' := vl 32767 :: _) rfl ?_
                refine aw_callS (As := [_, _, _]) (ρ := (_, 0, 0)) (kn' := (0, 0)) cs_X11_51 dX11_note_84 rfl rfl (Nat.le_of_ble_eq_true rfl) (rmR _ _ _) ⟨Nat.le_refl _, Nat.le_refl _⟩ rfl (c_X11_in hnx (by omega) (fun r84 h84 => ?_))
                rcases h84 with ⟨rfl, h84⟩ | ⟨rfl, h84⟩
                · skip
                  refine aw_if_ne (tgt := 93) dX11_note_87 rfl (by decide) (fun _ => ?_) (fun c => absurd c (by decide))
                  refine aw_aload_n dX11_note_93 rfl ?_
                  refine aw_getf fg_X11_33 dX11_note_94 (hc43 hnx) rfl ?_
                  refine aw_iload_n dX11_note_97 rfl ?_
                  refine aw_iload_n dX11_note_98 rfl ?_
                  refine aw_iconst dX11_note_99 ?_
                  refine aw_icmp_ne (tgt := 113) dX11_note_100 rfl (by omega) (fun c100 => ?_) (fun c100 => ?_)
                  · skip
                    refine aw_lload_n dX11_note_113 rfl ?_
                    first | (refine aw_svl (a := cn s v) (by unfold cn; rw [if_neg (fun z => absurd z.1 (by omega))]) ?_) | skip
                    refine aw_lastV dX11_note_114 (hc51 hnx) (by omega) (by decide) hL cv (fun _ => hu51) (fun hL => ?_)
                    refine aw_iload_n dX11_note_115 rfl ?_
                    exact aw_ireturn dX11_note_116 rfl rfl ⟨Nat.le_refl _, Nat.le_refl _⟩ (by have q := hQ k (by unfold rNoteV; (repeat' split) <;> omega); rw [if_pos (by omega)] at q; exact q hL)
                  · skip
                    have c100 : s = 2 := by omega
                    refine aw_lload_n dX11_note_103 rfl ?_
                    refine aw_l2dbits qm_X11_260 qv_java_lang_Double_longBitsToDouble qt_java_lang_Double_longBitsToDouble qn_Jxe99ae (hz c100 (by omega) (by omega) (by omega)) (rmN _ _ _ (Nat.le_of_ble_eq_true rfl)) dX11_note_104 ?_
                    refine aw_callS (As := [_]) (ρ := (_, 0, 0)) (kn' := (0, 0)) cs_X11_276 dX11_note_107 rfl rfl (Nat.le_of_ble_eq_true rfl) (rmR _ _ _) ⟨Nat.le_refl _, Nat.le_refl _⟩ rfl (c_dtl2 hnx ?_)
                    refine aw_svl (a := cn s v) (by rw [c100]) ?_
                    refine aw_goto (tgt := 114) dX11_note_110 rfl ?_
                    first | (refine aw_svl (a := cn s v) (by unfold cn; rw [if_neg (fun z => absurd z.1 (by omega))]) ?_) | skip
                    refine aw_lastV dX11_note_114 (hc51 hnx) (by omega) (by decide) hL cv (fun _ => hu51) (fun hL => ?_)
                    refine aw_iload_n dX11_note_115 rfl ?_
                    exact aw_ireturn dX11_note_116 rfl rfl ⟨Nat.le_refl _, Nat.le_refl _⟩ (by have q := hQ k (by unfold rNoteV; (repeat' split) <;> omega); rw [if_pos (by omega)] at q; exact q hL)
                · skip
                  refine aw_if_ne (tgt := 93) dX11_note_87 rfl (by decide) (fun c => absurd c (by decide)) (fun _ => ?_)
                  refine aw_bipush dX11_note_90 rfl ?_
                  exact aw_ireturn dX11_note_92 rfl rfl ⟨Nat.le_refl _, Nat.le_refl _⟩ (by have q := hQ (-5) (by unfold rNoteV; (repeat' split) <;> omega); rw [if_neg (by omega)] at q; exact q hL)
            · skip
              refine aw_if_eq (tgt := 90) dX11_note_69 rfl (by decide) (fun _ => ?_) (fun c => absurd c (by decide))
              refine aw_bipush dX11_note_90 rfl ?_
              exact aw_ireturn dX11_note_92 rfl rfl ⟨Nat.le_refl _, Nat.le_refl _⟩ (by have q := hQ (-5) (by unfold rNoteV; (repeat' split) <;> omega); rw [if_neg (by omega)] at q; exact q hL)
        · skip
          refine aw_bipush dX11_note_52 rfl ?_
          exact aw_ireturn dX11_note_54 rfl rfl ⟨Nat.le_refl _, Nat.le_refl _⟩ (by have q := hQ (-4) (by unfold rNoteV; (repeat' split) <;> omega); rw [if_neg (by omega)] at q; exact q hL)
      · skip
        refine aw_if_ne (tgt := 44) dX11_note_38 rfl (by decide) (fun c => absurd c (by decide)) (fun _ => ?_)
        refine aw_bipush dX11_note_41 rfl ?_
        exact aw_ireturn dX11_note_43 rfl rfl ⟨Nat.le_refl _, Nat.le_refl _⟩ (by have q := hQ (-3) (by unfold rNoteV; (repeat' split) <;> omega); rw [if_neg (by omega)] at q; exact q hL)
    · skip
      refine aw_bipush dX11_note_22 rfl ?_
      exact aw_ireturn dX11_note_24 rfl rfl ⟨Nat.le_refl _, Nat.le_refl _⟩ (by have q := hQ (-2) (by unfold rNoteV; (repeat' split) <;> omega); rw [if_neg (by omega)] at q; exact q hL)
  · skip
    refine aw_if_ne (tgt := 14) dX11_note_9 rfl (by decide) (fun c => absurd c (by decide)) (fun _ => ?_)
    refine aw_iconst dX11_note_12 ?_
    exact aw_ireturn dX11_note_13 rfl rfl ⟨Nat.le_refl _, Nat.le_refl _⟩ (by have q := hQ (-1) (by unfold rNoteV; (repeat' split) <;> omega); rw [if_neg (by omega)] at q; exact q hL)


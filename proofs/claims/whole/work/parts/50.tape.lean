/-! the tape -/
def by8 (v s : Int) : Int := ((I v >>> (I s &&& 31)).toInt8.toInt32).toInt
theorem by8_in (v s : Int) : -128 ≤ by8 v s ∧ by8 v s ≤ 127 := by
  unfold by8
  rw [Int8.toInt_toInt32]
  have h1 := Int8.le_toInt (I v >>> (I s &&& 31)).toInt8
  have h2 := Int8.toInt_lt (I v >>> (I s &&& 31)).toInt8
  omega
theorem by8_I (v s : Int) : (I v >>> (I s &&& 31)).toInt8.toInt32 = I (by8 v s) := (I_of _).symm
theorem by8_n (v s : Int) : narrow .byte (vi (by8 v s)) = vi (by8 v s) := by
  have e : (I (by8 v s)).toInt8.toInt32 = I (by8 v s) := by
    rw [← by8_I, Int8.toInt8_toInt32]
  exact congrArg Value.int e
def tk1 (U : St) (b : Int) : St := u0 (u1 U 0 (U 10 0) b) 10 (U 10 0 + 1)
def tkN (U : St) (v : Int) : Nat → St
  | 0 => U
  | k + 1 => tk1 (tkN U v k) (by8 v (24 - 8 * (k : Int)))
theorem tkN_10 (U : St) (v : Int) : ∀ k : Nat, tkN U v k 10 0 = U 10 0 + k
  | 0 => by show U 10 0 = U 10 0 + 0; omega
  | k + 1 => by show tkN U v k 10 0 + 1 = _; rw [tkN_10 U v k]; omega
def feedU (U : St) (a b c d e : Int) : St := tkN (tkN (tkN (tkN (tkN U a 4) b 4) c 4) d 4) e 4
section AWL
variable {Γ : GT} {M : MD} {R : Room} {Φ : PH} {kn : Nat × Nat} {pc : Nat} {ls ls' : List (Option Value)} {st : List Value} {h : Nat → AC} {nx : Nat}
theorem aw_ls2 (e : ls = ls') (k : AW Γ M R Φ kn pc ls' st h nx) : AW Γ M R Φ kn pc ls st h nx := e ▸ k
end AWL

set_option maxHeartbeats 1000000 in
theorem c_X8_takeFour {Γ : GT} {S T U V : St} {G : Gw} {nx d : Nat} {Q : QT} (hnx : 52 ≤ nx) {v : Int} (hl : 0 ≤ U 10 0 ∧ U 10 0 + 4 ≤ 400) (hv : inI v) (hQ : Q none (hp Γ S T (tkN U v 4) V G) nx) : AM Γ MX8_takeFour (d, 0, 0) [rf Γ 2, vi v] (hp Γ S T U V G) nx Q := by
  refine am_of (by decide) (Nat.le_of_ble_eq_true rfl) (ls := [some (rf Γ 2), some _, none]) rfl ?_
  refine aw_bipush dX8_takeFour_0 rfl ?_
  refine aw_istore_n (ls' := [some (rf Γ 2), some _, some _]) dX8_takeFour_2 (by decide) rfl ?_
  refine aw_hp (U' := tkN U v 0) rfl rfl rfl rfl rfl ?_
  refine loopN (4) (P := fun k =>  AW Γ MX8_takeFour _ _ (0, 0) 3 [some (rf Γ 2), some (vi v), some (vi (24 - 8 * (k : Int)))] [] (hp Γ S T (tkN U v k) V G) nx) (fun k hk ih => ?_) 0 (Nat.zero_le _) 
  refine aw_iload_n dX8_takeFour_3 rfl ?_
  have e10 := tkN_10 U v k
  refine aw_if_lt (tgt := 46) dX8_takeFour_4 rfl (by omega) (fun c4 => ?_) (fun c4 => ?_)
  · skip
    obtain rfl : k = 4 := by omega
    exact aw_return dX8_takeFour_46 rfl ⟨Nat.le_refl _, Nat.le_refl _⟩ hQ
  · skip
    refine aw_aload_n dX8_takeFour_7 rfl ?_
    refine aw_getf fg_X8_15 dX8_takeFour_8 (hc2 hnx) rfl ?_
    refine aw_sv (a := U 10 0 + (k : Int)) (e10.symm) ?_
    refine aw_sipush dX8_takeFour_11 rfl ?_
    refine aw_icmp_ge (tgt := 46) dX8_takeFour_14 rfl (by omega) (fun c14 => ?_) (fun c14 => ?_)
    · skip
      obtain rfl : k = 4 := by omega
      exact aw_return dX8_takeFour_46 rfl ⟨Nat.le_refl _, Nat.le_refl _⟩ hQ
    · skip
      refine aw_aload_n dX8_takeFour_17 rfl ?_
      refine aw_getf fg_X8_9 dX8_takeFour_18 (hc2 hnx) rfl ?_
      refine aw_aload_n dX8_takeFour_21 rfl ?_
      refine aw_getf fg_X8_15 dX8_takeFour_22 (hc2 hnx) rfl ?_
      refine aw_sv (a := U 10 0 + (k : Int)) (e10.symm) ?_
      refine aw_iload_n dX8_takeFour_25 rfl ?_
      refine aw_iload_n dX8_takeFour_26 rfl ?_
      refine aw_ishr dX8_takeFour_27 rfl ?_
      refine aw_i2b dX8_takeFour_28 rfl ?_
      refine aw_si (a := I (by8 v (24 - 8 * (k : Int)))) (by8_I _ _).symm ?_
      refine aw_bastU dX8_takeFour_29 (hc3 hnx) (by omega) (by decide) (by8_n _ _) (fun _ => hu3) ?_
      refine aw_aload_n dX8_takeFour_30 rfl ?_
      refine aw_dup dX8_takeFour_31 rfl ?_
      refine aw_getf fg_X8_15 dX8_takeFour_32 (hc2 hnx) rfl ?_
      refine aw_sv (a := U 10 0 + (k : Int)) (e10.symm) ?_
      refine aw_iconst dX8_takeFour_35 ?_
      refine aw_iadd dX8_takeFour_36 ?_
      refine aw_putU fp_X8_15 dX8_takeFour_37 (hc2 hnx) (Nat.le_of_ble_eq_true rfl) hu2_10 ?_
      refine aw_hp (U' := tkN U v (k + 1)) rfl rfl (by show tk1 (tkN U v k) _ = _; unfold tk1; rw [e10]) rfl rfl ?_
      refine aw_iinc (ls' := [some (rf Γ 2), some _, some _]) dX8_takeFour_40 rfl (by decide) rfl ?_
      refine aw_goto (tgt := 3) dX8_takeFour_43 rfl ?_
      exact aw_ls2 (by rw [show 24 - 8 * (k : Int) + -8 = 24 - 8 * ((k + 1 : Nat) : Int) by omega]) (ih (by omega))

def aFeed (U : St) : Int := if 380 < U 10 0 then -1 else U 10 0 + 20

set_option maxHeartbeats 1000000 in
theorem c_X8_takeIn {Γ : GT} {S T U V : St} {G : Gw} {nx d : Nat} {Q : QT} (hnx : 52 ≤ nx) {a b c e f : Int} (hl : 0 ≤ U 10 0 ∧ U 10 0 ≤ 400) (ha : inI a ∧ inI b ∧ inI c ∧ inI e ∧ inI f) (hQ : ∀ r, r = aFeed U → Q (some (vi r)) (hp Γ S T (if 380 < U 10 0 then U else feedU U a b c e f) V G) nx) : AM Γ MX8_takeIn (d + 1, 0, 0) [rf Γ 2, vi a, vi b, vi c, vi e, vi f] (hp Γ S T U V G) nx Q := by
  refine am_of (by decide) (Nat.le_of_ble_eq_true rfl) (ls := [some (rf Γ 2), some _, some _, some _, some _, some _]) rfl ?_
  refine aw_aload_n dX8_takeIn_0 rfl ?_
  refine aw_getf fg_X8_15 dX8_takeIn_1 (hc2 hnx) rfl ?_
  refine aw_bipush dX8_takeIn_4 rfl ?_
  refine aw_iadd dX8_takeIn_6 ?_
  refine aw_sipush dX8_takeIn_7 rfl ?_
  refine aw_icmp_le (tgt := 15) dX8_takeIn_10 rfl (by omega) (fun c10 => ?_) (fun c10 => ?_)
  · skip
    refine aw_aload_n dX8_takeIn_15 rfl ?_
    refine aw_iload_n dX8_takeIn_16 rfl ?_
    refine aw_callV (As := [_]) (ρ := (_, 0, 0)) (kn' := (0, 0)) cv_X8_19 dX8_takeIn_17 rfl rfl (hc2 hnx) rfl rfl (Nat.le_of_ble_eq_true rfl) (rmR _ _ _) ⟨Nat.le_refl _, Nat.le_refl _⟩ rfl (c_X8_takeFour hnx (show 0 ≤ (U) 10 0 ∧ (U) 10 0 + 4 ≤ 400 by (try simp only [tkN_10]); omega) (by omega) ?_)
    refine aw_aload_n dX8_takeIn_20 rfl ?_
    refine aw_iload_n dX8_takeIn_21 rfl ?_
    refine aw_callV (As := [_]) (ρ := (_, 0, 0)) (kn' := (0, 0)) cv_X8_19 dX8_takeIn_22 rfl rfl (hc2 hnx) rfl rfl (Nat.le_of_ble_eq_true rfl) (rmR _ _ _) ⟨Nat.le_refl _, Nat.le_refl _⟩ rfl (c_X8_takeFour hnx (show 0 ≤ (tkN (U) a 4) 10 0 ∧ (tkN (U) a 4) 10 0 + 4 ≤ 400 by (try simp only [tkN_10]); omega) (by omega) ?_)
    refine aw_aload_n dX8_takeIn_25 rfl ?_
    refine aw_iload_n dX8_takeIn_26 rfl ?_
    refine aw_callV (As := [_]) (ρ := (_, 0, 0)) (kn' := (0, 0)) cv_X8_19 dX8_takeIn_27 rfl rfl (hc2 hnx) rfl rfl (Nat.le_of_ble_eq_true rfl) (rmR _ _ _) ⟨Nat.le_refl _, Nat.le_refl _⟩ rfl (c_X8_takeFour hnx (show 0 ≤ (tkN (tkN (U) a 4) b 4) 10 0 ∧ (tkN (tkN (U) a 4) b 4) 10 0 + 4 ≤ 400 by (try simp only [tkN_10]); omega) (by omega) ?_)
    refine aw_aload_n dX8_takeIn_30 rfl ?_
    refine aw_iload dX8_takeIn_31 rfl ?_
    refine aw_callV (As := [_]) (ρ := (_, 0, 0)) (kn' := (0, 0)) cv_X8_19 dX8_takeIn_33 rfl rfl (hc2 hnx) rfl rfl (Nat.le_of_ble_eq_true rfl) (rmR _ _ _) ⟨Nat.le_refl _, Nat.le_refl _⟩ rfl (c_X8_takeFour hnx (show 0 ≤ (tkN (tkN (tkN (U) a 4) b 4) c 4) 10 0 ∧ (tkN (tkN (tkN (U) a 4) b 4) c 4) 10 0 + 4 ≤ 400 by (try simp only [tkN_10]); omega) (by omega) ?_)
    refine aw_aload_n dX8_takeIn_36 rfl ?_
    refine aw_iload dX8_takeIn_37 rfl ?_
    refine aw_callV (As := [_]) (ρ := (_, 0, 0)) (kn' := (0, 0)) cv_X8_19 dX8_takeIn_39 rfl rfl (hc2 hnx) rfl rfl (Nat.le_of_ble_eq_true rfl) (rmR _ _ _) ⟨Nat.le_refl _, Nat.le_refl _⟩ rfl (c_X8_takeFour hnx (show 0 ≤ (tkN (tkN (tkN (tkN (U) a 4) b 4) c 4) e 4) 10 0 ∧ (tkN (tkN (tkN (tkN (U) a 4) b 4) c 4) e 4) 10 0 + 4 ≤ 400 by (try simp only [tkN_10]); omega) (by omega) ?_)
    refine aw_aload_n dX8_takeIn_42 rfl ?_
    refine aw_getf fg_X8_15 dX8_takeIn_43 (hc2 hnx) rfl ?_
    refine aw_sv (a := U 10 0 + 20) ((by show U 10 0 + 20 = feedU U a b c e f 10 0; unfold feedU; simp only [tkN_10]; omega)) ?_
    exact aw_ireturn dX8_takeIn_46 rfl rfl ⟨Nat.le_refl _, Nat.le_refl _⟩ (by have q := hQ (U 10 0 + 20) (by unfold aFeed; rw [if_neg (by omega)]); rw [if_neg (by omega)] at q; exact q)
  · skip
    refine aw_iconst dX8_takeIn_13 ?_
    exact aw_ireturn dX8_takeIn_14 rfl rfl ⟨Nat.le_refl _, Nat.le_refl _⟩ (by have q := hQ (-1) (by unfold aFeed; rw [if_pos (by omega)]); rw [if_pos (by omega)] at q; exact q)

set_option maxHeartbeats 1000000 in
theorem c_X8_cutTo {Γ : GT} {S T U V : St} {G : Gw} {nx d : Nat} {Q : QT} (hnx : 52 ≤ nx) {n : Int} (hl : 0 ≤ U 10 0 ∧ U 10 0 ≤ 400) (hn : inI n) (hQ : ∀ r, r = (if n < 0 ∨ U 10 0 < n then -1 else n) → Q (some (vi r)) (hp Γ S T (if n < 0 ∨ U 10 0 < n then U else u0 U 10 n) V G) nx) : AM Γ MX8_cutTo (d, 0, 0) [rf Γ 2, vi n] (hp Γ S T U V G) nx Q := by
  refine am_of (by decide) (Nat.le_of_ble_eq_true rfl) (ls := [some (rf Γ 2), some _]) rfl ?_
  refine aw_iload_n dX8_cutTo_0 rfl ?_
  refine aw_if_lt (tgt := 12) dX8_cutTo_1 rfl (by omega) (fun c1 => ?_) (fun c1 => ?_)
  · skip
    refine aw_iconst dX8_cutTo_12 ?_
    exact aw_ireturn dX8_cutTo_13 rfl rfl ⟨Nat.le_refl _, Nat.le_refl _⟩ (by have q := hQ (-1) (by rw [if_pos (by omega)]); rw [if_pos (by omega)] at q; exact q)
  · skip
    refine aw_iload_n dX8_cutTo_4 rfl ?_
    refine aw_aload_n dX8_cutTo_5 rfl ?_
    refine aw_getf fg_X8_15 dX8_cutTo_6 (hc2 hnx) rfl ?_
    refine aw_icmp_le (tgt := 14) dX8_cutTo_9 rfl (by omega) (fun c9 => ?_) (fun c9 => ?_)
    · skip
      refine aw_aload_n dX8_cutTo_14 rfl ?_
      refine aw_iload_n dX8_cutTo_15 rfl ?_
      refine aw_putU fp_X8_15 dX8_cutTo_16 (hc2 hnx) (Nat.le_of_ble_eq_true rfl) hu2_10 ?_
      refine aw_iload_n dX8_cutTo_19 rfl ?_
      exact aw_ireturn dX8_cutTo_20 rfl rfl ⟨Nat.le_refl _, Nat.le_refl _⟩ (by have q := hQ n (by rw [if_neg (by omega)]); rw [if_neg (by omega)] at q; exact q)
    · skip
      refine aw_iconst dX8_cutTo_12 ?_
      exact aw_ireturn dX8_cutTo_13 rfl rfl ⟨Nat.le_refl _, Nat.le_refl _⟩ (by have q := hQ (-1) (by rw [if_pos (by omega)]); rw [if_pos (by omega)] at q; exact q)

set_option maxHeartbeats 1000000 in
theorem c_X10_feed {Γ : GT} {S T U V : St} {G : Gw} {nx d : Nat} {Q : QT} (hnx : 52 ≤ nx) {a b c e f : Int} (hl : 0 ≤ U 10 0 ∧ U 10 0 ≤ 400) (ha : inI a ∧ inI b ∧ inI c ∧ inI e ∧ inI f) (hQ : ∀ r, r = aFeed U → Q (some (vi r)) (hp Γ S T (if 380 < U 10 0 then U else feedU U a b c e f) V G) nx) : AM Γ MX10_feed (d + 2, 0, 0) [rf Γ 0, vi a, vi b, vi c, vi e, vi f] (hp Γ S T U V G) nx Q := by
  refine am_of (by decide) (Nat.le_of_ble_eq_true rfl) (ls := [some (rf Γ 0), some _, some _, some _, some _, some _]) rfl ?_
  refine aw_aload_n dX10_feed_0 rfl ?_
  refine aw_getf fg_X10_10 dX10_feed_1 (hc0 hnx) rfl ?_
  refine aw_getf fg_X10_48 dX10_feed_4 (hc1 hnx) rfl ?_
  refine aw_iload_n dX10_feed_7 rfl ?_
  refine aw_iload_n dX10_feed_8 rfl ?_
  refine aw_iload_n dX10_feed_9 rfl ?_
  refine aw_iload dX10_feed_10 rfl ?_
  refine aw_iload dX10_feed_12 rfl ?_
  refine aw_callV (As := [_, _, _, _, _]) (ρ := (_, 0, 0)) (kn' := (0, 0)) cv_X10_52 dX10_feed_14 rfl rfl (hc2 hnx) rfl rfl (Nat.le_of_ble_eq_true rfl) (rmR _ _ _) ⟨Nat.le_refl _, Nat.le_refl _⟩ rfl (c_X8_takeIn hnx (by omega) (by omega) (fun r14 h14 => ?_))
  exact aw_ireturn dX10_feed_17 rfl rfl ⟨Nat.le_refl _, Nat.le_refl _⟩ (hQ _ h14)

set_option maxHeartbeats 1000000 in
theorem c_X10_end {Γ : GT} {S T U V : St} {G : Gw} {nx d : Nat} {Q : QT} (hnx : 52 ≤ nx) {n : Int} (hl : 0 ≤ U 10 0 ∧ U 10 0 ≤ 400) (hn : inI n) (hQ : ∀ r, r = (if n < 0 ∨ U 10 0 < n then -1 else n) → Q (some (vi r)) (hp Γ S T (if n < 0 ∨ U 10 0 < n then U else u0 U 10 n) V G) nx) : AM Γ MX10_end (d + 1, 0, 0) [rf Γ 0, vi n] (hp Γ S T U V G) nx Q := by
  refine am_of (by decide) (Nat.le_of_ble_eq_true rfl) (ls := [some (rf Γ 0), some _]) rfl ?_
  refine aw_aload_n dX10_end_0 rfl ?_
  refine aw_getf fg_X10_10 dX10_end_1 (hc0 hnx) rfl ?_
  refine aw_getf fg_X10_48 dX10_end_4 (hc1 hnx) rfl ?_
  refine aw_iload_n dX10_end_7 rfl ?_
  refine aw_callV (As := [_]) (ρ := (_, 0, 0)) (kn' := (0, 0)) cv_X10_58 dX10_end_8 rfl rfl (hc2 hnx) rfl rfl (Nat.le_of_ble_eq_true rfl) (rmR _ _ _) ⟨Nat.le_refl _, Nat.le_refl _⟩ rfl (c_X8_cutTo hnx (by omega) (by omega) (fun r8 h8 => ?_))
  exact aw_ireturn dX10_end_11 rfl rfl ⟨Nat.le_refl _, Nat.le_refl _⟩ (hQ _ h8)


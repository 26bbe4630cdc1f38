/-! told; notes -/
theorem rdF_in {n : Int} {p : Int × Int × St} (hn : 0 ≤ n ∧ n ≤ 400) (h : PIn n p) : 0 ≤ rdF n p ∧ rdF n p ≤ 4000 := by
  have := h.2.1
  unfold rdF; split <;> omega
theorem st0_26 (T S : St) : begS T S 26 0 = T 26 0 := rfl
def rowU (U : St) (s n : Int) : St := sset (u0 (u0 U 18 s) 19 n) 2 (fl (U 2) 40 0)
def rNote (U : St) (k s v : Int) : Int := if ¬ (0 ≤ s ∧ s < 4) then -1 else if U 18 0 = -1 then -2 else if ¬ (0 ≤ k ∧ k < U 19 0) then -3 else if ¬ s = U 18 0 then -4 else if (U 18 0 = 0 ∧ ¬ (-2147483648 ≤ v ∧ v ≤ 2147483647)) ∨ (U 18 0 = 3 ∧ ¬ (-32768 ≤ v ∧ v ≤ 32767)) then -5 else k
abbrev nanP (b : Int) : Prop := (L b &&& L 9218868437227405312) = L 9218868437227405312 ∧ ¬ (L b &&& L 4503599627370495) = L 0
def aNoted (U : St) (k : Int) : Int := if 0 ≤ k ∧ k < U 19 0 then (if U 18 0 = 2 ∧ nanP (U 2 k) then 9221120237041090560 else U 2 k) else -9000000000
theorem I_same (v : Int) : v = (I v).toInt ↔ (-2147483648 ≤ v ∧ v ≤ 2147483647) := by
  constructor
  · intro h
    have := inI_of (I v)
    omega
  · intro h
    rw [I_toInt (by omega)]
theorem S_same (v : Int) : v = ((I v).toInt16.toInt32).toInt ↔ (-32768 ≤ v ∧ v ≤ 32767) := by
  rw [Int16.toInt_toInt32]
  constructor
  · intro h
    have h1 := Int16.le_toInt (I v).toInt16
    have h2 := Int16.toInt_lt (I v).toInt16
    omega
  · intro h
    rw [Int32.toInt_toInt16, I_toInt (by omega)]
    exact (Int.bmod_eq_of_le (by omega) (by omega)).symm
theorem L_eqI {x : Int64} {a : Int} (ha : inL a) : x.toInt = a ↔ x = L a := by
  constructor
  · intro h; rw [← L_of x, h]
  · intro h; rw [h, L_toInt ha]

set_option maxHeartbeats 1000000 in
theorem c_X10_tell {Γ : GT} {S T U V : St} {G : Gw} {nx d : Nat} {Q : QT} (hnx : 52 ≤ nx) (hR : Rg S) (hB : ∀ j : Int, -128 ≤ U 0 j ∧ U 0 j ≤ 127) (hn : 0 ≤ U 10 0 ∧ U 10 0 ≤ 400) (hT : Rg T) (hP : ∀ p : Int × Int × St, p = rtx (U 0) (U 10 0) T → PIn (U 10 0) p → rdF (U 10 0) p = 0 → InvP (st0S p.2.2 S)) (hN : ∀ p : Int × Int × St, p = rtx (U 0) (U 10 0) T → PIn (U 10 0) p → rdF (U 10 0) p ≠ 0 → Q (some (vi (-2 - rdF (U 10 0) p))) (hp Γ S p.2.2 (u0 (ua U p.1 (rdF (U 10 0) p)) 10 0) V G) nx) (hQ : ∀ p : Int × Int × St, p = rtx (U 0) (U 10 0) T → PIn (U 10 0) p → rdF (U 10 0) p = 0 → Rg (begS p.2.2 S) → Q (some (vi (p.2.2 26 0))) (hp Γ (begS p.2.2 S) p.2.2 (u0 (u0 (ua U p.1 (rdF (U 10 0) p)) 10 0) 17 0) V G) nx) : AM Γ MX10_tell (d + 7, 0, 0) [rf Γ 0] (hp Γ S T U V G) nx Q := by
  refine am_of (by decide) (Nat.le_of_ble_eq_true rfl) (ls := [some (rf Γ 0), none]) rfl ?_
  refine aw_aload_n dX10_tell_0 rfl ?_
  refine aw_getf fg_X10_10 dX10_tell_1 (hc0 hnx) rfl ?_
  refine aw_callV (As := []) (ρ := (_, 0, 0)) (kn' := (0, 0)) cv_X10_62 dX10_tell_4 rfl rfl (hc1 hnx) rfl rfl (Nat.le_of_ble_eq_true rfl) (rmR _ _ _) ⟨Nat.le_refl _, Nat.le_refl _⟩ rfl (c_X4_readText hnx hB hn hT (fun p4 h4 hP4 => ?_))
  refine aw_istore_n (ls' := [some (rf Γ 0), some _]) dX10_tell_7 (by decide) rfl ?_
  refine aw_aload_n dX10_tell_8 rfl ?_
  refine aw_getf fg_X10_10 dX10_tell_9 (hc0 hnx) rfl ?_
  refine aw_getf fg_X10_48 dX10_tell_12 (hc1 hnx) rfl ?_
  refine aw_iconst dX10_tell_15 ?_
  refine aw_putU fp_X10_66 dX10_tell_16 (hc2 hnx) (Nat.le_of_ble_eq_true rfl) hu2_10 ?_
  have rd := rdF_in hn hP4
  refine aw_iload_n dX10_tell_19 rfl ?_
  refine aw_if_eq (tgt := 28) dX10_tell_20 rfl (by omega) (fun c20 => ?_) (fun c20 => ?_)
  · skip
    refine aw_aload_n dX10_tell_28 rfl ?_
    refine aw_getf fg_X10_26 dX10_tell_29 (hc0 hnx) rfl ?_
    refine aw_aload_n dX10_tell_32 rfl ?_
    refine aw_getf fg_X10_10 dX10_tell_33 (hc0 hnx) rfl ?_
    refine aw_getf fg_X10_70 dX10_tell_36 (hc1 hnx) rfl ?_
    refine aw_callV (As := [_]) (ρ := (_, 0, 0)) (kn' := (0, 0)) cv_X10_74 dX10_tell_39 rfl rfl (hc9 hnx) rfl rfl (Nat.le_of_ble_eq_true rfl) (rmR _ _ _) ⟨Nat.le_refl _, Nat.le_refl _⟩ rfl (c_X7_startWith hnx hR hP4.2.2.1 (hP p4 h4 hP4 c20) (fun hR => ?_))
    refine aw_aload_n dX10_tell_42 rfl ?_
    refine aw_getf fg_X10_33 dX10_tell_43 (hc0 hnx) rfl ?_
    refine aw_callV (As := []) (ρ := (_, 0, 0)) (kn' := (0, 0)) cv_X10_78 dX10_tell_46 rfl rfl (hc38 hnx) rfl rfl (Nat.le_of_ble_eq_true rfl) (rmR _ _ _) ⟨Nat.le_refl _, Nat.le_refl _⟩ rfl (c_X0_forget hnx ?_)
    refine aw_aload_n dX10_tell_49 rfl ?_
    refine aw_getf fg_X10_26 dX10_tell_50 (hc0 hnx) rfl ?_
    refine aw_getf fg_X10_81 dX10_tell_53 (hc9 hnx) rfl ?_
    refine aw_getf fg_X10_82 dX10_tell_56 (hc10 hnx) rfl ?_
    exact aw_ireturn dX10_tell_59 rfl rfl ⟨Nat.le_refl _, Nat.le_refl _⟩ (hQ p4 h4 hP4 c20 hR)
  · skip
    refine aw_bipush dX10_tell_23 rfl ?_
    refine aw_iload_n dX10_tell_25 rfl ?_
    refine aw_isub dX10_tell_26 ?_
    exact aw_ireturn dX10_tell_27 rfl rfl ⟨Nat.le_refl _, Nat.le_refl _⟩ (hN p4 h4 hP4 c20)

set_option maxHeartbeats 1000000 in
theorem c_X2_makeRow {Γ : GT} {S T U V : St} {G : Gw} {nx d : Nat} {Q : QT} (hnx : 52 ≤ nx) {s n : Int} (hs : inI s ∧ inI n) (hQ : ∀ r, r = (if 0 ≤ s ∧ s < 4 ∧ 0 ≤ n ∧ n ≤ 40 then n else -1) → Q (some (vi r)) (hp Γ S T (if 0 ≤ s ∧ s < 4 ∧ 0 ≤ n ∧ n ≤ 40 then rowU U s n else U) V G) nx) : AM Γ MX2_makeRow (d + 1, 0, 0) [rf Γ 41, vi s, vi n] (hp Γ S T U V G) nx Q := by
  refine am_of (by decide) (Nat.le_of_ble_eq_true rfl) (ls := [some (rf Γ 41), some _, some _]) rfl ?_
  refine aw_iload_n dX2_makeRow_0 rfl ?_
  refine aw_if_lt (tgt := 19) dX2_makeRow_1 rfl (by omega) (fun c1 => ?_) (fun c1 => ?_)
  · skip
    refine aw_iconst dX2_makeRow_19 ?_
    exact aw_ireturn dX2_makeRow_20 rfl rfl ⟨Nat.le_refl _, Nat.le_refl _⟩ (by have q := hQ (-1) (by rw [if_neg (by omega)]); rw [if_neg (by omega)] at q; exact q)
  · skip
    refine aw_iload_n dX2_makeRow_4 rfl ?_
    refine aw_iconst dX2_makeRow_5 ?_
    refine aw_icmp_ge (tgt := 19) dX2_makeRow_6 rfl (by omega) (fun c6 => ?_) (fun c6 => ?_)
    · skip
      refine aw_iconst dX2_makeRow_19 ?_
      exact aw_ireturn dX2_makeRow_20 rfl rfl ⟨Nat.le_refl _, Nat.le_refl _⟩ (by have q := hQ (-1) (by rw [if_neg (by omega)]); rw [if_neg (by omega)] at q; exact q)
    · skip
      refine aw_iload_n dX2_makeRow_9 rfl ?_
      refine aw_if_lt (tgt := 19) dX2_makeRow_10 rfl (by omega) (fun c10 => ?_) (fun c10 => ?_)
      · skip
        refine aw_iconst dX2_makeRow_19 ?_
        exact aw_ireturn dX2_makeRow_20 rfl rfl ⟨Nat.le_refl _, Nat.le_refl _⟩ (by have q := hQ (-1) (by rw [if_neg (by omega)]); rw [if_neg (by omega)] at q; exact q)
      · skip
        refine aw_iload_n dX2_makeRow_13 rfl ?_
        refine aw_bipush dX2_makeRow_14 rfl ?_
        refine aw_icmp_le (tgt := 21) dX2_makeRow_16 rfl (by omega) (fun c16 => ?_) (fun c16 => ?_)
        · skip
          refine aw_aload_n dX2_makeRow_21 rfl ?_
          refine aw_iload_n dX2_makeRow_22 rfl ?_
          refine aw_putU fp_X2_15 dX2_makeRow_23 (hc41 hnx) (Nat.le_of_ble_eq_true rfl) hu41_18 ?_
          refine aw_aload_n dX2_makeRow_26 rfl ?_
          refine aw_iload_n dX2_makeRow_27 rfl ?_
          refine aw_putU fp_X2_19 dX2_makeRow_28 (hc41 hnx) (Nat.le_of_ble_eq_true rfl) hu41_19 ?_
          refine aw_aload_n dX2_makeRow_31 rfl ?_
          refine aw_getf fg_X2_9 dX2_makeRow_32 (hc41 hnx) rfl ?_
          refine aw_lconst0 dX2_makeRow_35 ?_
          refine aw_callS (As := [_, _]) (ρ := (_, 0, 0)) (kn' := (0, 0)) cs_X2_22 dX2_makeRow_36 rfl rfl (Nat.le_of_ble_eq_true rfl) (rmR _ _ _) ⟨Nat.le_refl _, Nat.le_refl _⟩ rfl (c_fill_l (hc42 hnx) (by decide) hu42 ?_)
          refine aw_iload_n dX2_makeRow_39 rfl ?_
          exact aw_ireturn dX2_makeRow_40 rfl rfl ⟨Nat.le_refl _, Nat.le_refl _⟩ (by have q := hQ n (by rw [if_pos (by omega)]); rw [if_pos (by omega)] at q; exact q)
        · skip
          refine aw_iconst dX2_makeRow_19 ?_
          exact aw_ireturn dX2_makeRow_20 rfl rfl ⟨Nat.le_refl _, Nat.le_refl _⟩ (by have q := hQ (-1) (by rw [if_neg (by omega)]); rw [if_neg (by omega)] at q; exact q)

set_option maxHeartbeats 1000000 in
theorem c_X2_put {Γ : GT} {S T U V : St} {G : Gw} {nx d : Nat} {Q : QT} (hnx : 52 ≤ nx) {k s v : Int} (h18 : -1 ≤ U 18 0 ∧ U 18 0 ≤ 3) (h19 : 0 ≤ U 19 0 ∧ U 19 0 ≤ 40) (hk : inI k ∧ inI s) (hv : inL v) (hQ : ∀ r, r = rNote U k s v → Q (some (vi r)) (hp Γ S T (if 0 ≤ r then u1 U 2 k v else U) V G) nx) : AM Γ MX2_put (d, 0, 0) [rf Γ 41, vi k, vi s, vl v] (hp Γ S T U V G) nx Q := by
  refine am_of (by decide) (Nat.le_of_ble_eq_true rfl) (ls := [some (rf Γ 41), some _, some _, some _, none]) rfl ?_
  have is1 := I_same v
  have is2 := S_same v
  refine aw_iload_n dX2_put_0 rfl ?_
  refine aw_if_lt (tgt := 9) dX2_put_1 rfl (by omega) (fun c1 => ?_) (fun c1 => ?_)
  · skip
    refine aw_iconst dX2_put_9 ?_
    exact aw_ireturn dX2_put_10 rfl rfl ⟨Nat.le_refl _, Nat.le_refl _⟩ (by have q := hQ (-1) (by unfold rNote; (repeat' split) <;> omega); rw [if_neg (by omega)] at q; exact q)
  · skip
    refine aw_iload_n dX2_put_4 rfl ?_
    refine aw_iconst dX2_put_5 ?_
    refine aw_icmp_lt (tgt := 11) dX2_put_6 rfl (by omega) (fun c6 => ?_) (fun c6 => ?_)
    · skip
      refine aw_aload_n dX2_put_11 rfl ?_
      refine aw_getf fg_X2_15 dX2_put_12 (hc41 hnx) rfl ?_
      refine aw_iconst dX2_put_15 ?_
      refine aw_icmp_ne (tgt := 22) dX2_put_16 rfl (by omega) (fun c16 => ?_) (fun c16 => ?_)
      · skip
        refine aw_iload_n dX2_put_22 rfl ?_
        refine aw_if_lt (tgt := 34) dX2_put_23 rfl (by omega) (fun c23 => ?_) (fun c23 => ?_)
        · skip
          refine aw_bipush dX2_put_34 rfl ?_
          exact aw_ireturn dX2_put_36 rfl rfl ⟨Nat.le_refl _, Nat.le_refl _⟩ (by have q := hQ (-3) (by unfold rNote; (repeat' split) <;> omega); rw [if_neg (by omega)] at q; exact q)
        · skip
          refine aw_iload_n dX2_put_26 rfl ?_
          refine aw_aload_n dX2_put_27 rfl ?_
          refine aw_getf fg_X2_19 dX2_put_28 (hc41 hnx) rfl ?_
          refine aw_icmp_lt (tgt := 37) dX2_put_31 rfl (by omega) (fun c31 => ?_) (fun c31 => ?_)
          · skip
            refine aw_iload_n dX2_put_37 rfl ?_
            refine aw_aload_n dX2_put_38 rfl ?_
            refine aw_getf fg_X2_15 dX2_put_39 (hc41 hnx) rfl ?_
            refine aw_icmp_eq (tgt := 48) dX2_put_42 rfl (by omega) (fun c42 => ?_) (fun c42 => ?_)
            · skip
              refine aw_aload_n dX2_put_48 rfl ?_
              refine aw_getf fg_X2_15 dX2_put_49 (hc41 hnx) rfl ?_
              refine aw_if_ne (tgt := 63) dX2_put_52 rfl (by omega) (fun c52 => ?_) (fun c52 => ?_)
              · skip
                refine aw_aload_n dX2_put_63 rfl ?_
                refine aw_getf fg_X2_15 dX2_put_64 (hc41 hnx) rfl ?_
                refine aw_iconst dX2_put_67 ?_
                refine aw_icmp_ne (tgt := 83) dX2_put_68 rfl (by omega) (fun c68 => ?_) (fun c68 => ?_)
                · skip
                  refine aw_aload_n dX2_put_83 rfl ?_
                  refine aw_getf fg_X2_9 dX2_put_84 (hc41 hnx) rfl ?_
                  refine aw_iload_n dX2_put_87 rfl ?_
                  refine aw_lload_n dX2_put_88 rfl ?_
                  refine aw_lastU dX2_put_89 (hc42 hnx) (by omega) (by decide) (fun _ => hu42) ?_
                  refine aw_iload_n dX2_put_90 rfl ?_
                  exact aw_ireturn dX2_put_91 rfl rfl ⟨Nat.le_refl _, Nat.le_refl _⟩ (by have q := hQ k (by unfold rNote; (repeat' split) <;> omega); rw [if_pos (by omega)] at q; exact q)
                · skip
                  refine aw_lload_n dX2_put_71 rfl ?_
                  refine aw_lload_n dX2_put_72 rfl ?_
                  refine aw_l2i dX2_put_73 ?_
                  refine aw_i2s dX2_put_74 rfl ?_
                  refine aw_nmi (fun y75 hy75 ey75 => ?_)
                  refine aw_i2l dX2_put_75 (by omega) ?_
                  rw [← ey75] at is2
                  refine aw_lif_eq (tgt := 83) dX2_put_76 dX2_put_77 rfl (by omega) (fun c76 => ?_) (fun c76 => ?_)
                  · skip
                    refine aw_aload_n dX2_put_83 rfl ?_
                    refine aw_getf fg_X2_9 dX2_put_84 (hc41 hnx) rfl ?_
                    refine aw_iload_n dX2_put_87 rfl ?_
                    refine aw_lload_n dX2_put_88 rfl ?_
                    refine aw_lastU dX2_put_89 (hc42 hnx) (by omega) (by decide) (fun _ => hu42) ?_
                    refine aw_iload_n dX2_put_90 rfl ?_
                    exact aw_ireturn dX2_put_91 rfl rfl ⟨Nat.le_refl _, Nat.le_refl _⟩ (by have q := hQ k (by unfold rNote; (repeat' split) <;> omega); rw [if_pos (by omega)] at q; exact q)
                  · skip
                    refine aw_bipush dX2_put_80 rfl ?_
                    exact aw_ireturn dX2_put_82 rfl rfl ⟨Nat.le_refl _, Nat.le_refl _⟩ (by have q := hQ (-5) (by unfold rNote; (repeat' split) <;> omega); rw [if_neg (by omega)] at q; exact q)
              · skip
                refine aw_lload_n dX2_put_55 rfl ?_
                refine aw_lload_n dX2_put_56 rfl ?_
                refine aw_l2i dX2_put_57 ?_
                refine aw_nmi (fun y58 hy58 ey58 => ?_)
                refine aw_i2l dX2_put_58 (by omega) ?_
                rw [← ey58] at is1
                refine aw_lif_ne (tgt := 80) dX2_put_59 dX2_put_60 rfl (by omega) (fun c59 => ?_) (fun c59 => ?_)
                · skip
                  refine aw_bipush dX2_put_80 rfl ?_
                  exact aw_ireturn dX2_put_82 rfl rfl ⟨Nat.le_refl _, Nat.le_refl _⟩ (by have q := hQ (-5) (by unfold rNote; (repeat' split) <;> omega); rw [if_neg (by omega)] at q; exact q)
                · skip
                  refine aw_aload_n dX2_put_63 rfl ?_
                  refine aw_getf fg_X2_15 dX2_put_64 (hc41 hnx) rfl ?_
                  refine aw_iconst dX2_put_67 ?_
                  refine aw_icmp_ne (tgt := 83) dX2_put_68 rfl (by omega) (fun c68 => ?_) (fun c68 => ?_)
                  · skip
                    refine aw_aload_n dX2_put_83 rfl ?_
                    refine aw_getf fg_X2_9 dX2_put_84 (hc41 hnx) rfl ?_
                    refine aw_iload_n dX2_put_87 rfl ?_
                    refine aw_lload_n dX2_put_88 rfl ?_
                    refine aw_lastU dX2_put_89 (hc42 hnx) (by omega) (by decide) (fun _ => hu42) ?_
                    refine aw_iload_n dX2_put_90 rfl ?_
                    exact aw_ireturn dX2_put_91 rfl rfl ⟨Nat.le_refl _, Nat.le_refl _⟩ (by have q := hQ k (by unfold rNote; (repeat' split) <;> omega); rw [if_pos (by omega)] at q; exact q)
                  · skip
                    refine aw_lload_n dX2_put_71 rfl ?_
                    refine aw_lload_n dX2_put_72 rfl ?_
                    refine aw_l2i dX2_put_73 ?_
                    refine aw_i2s dX2_put_74 rfl ?_
                    refine aw_nmi (fun y75 hy75 ey75 => ?_)
                    refine aw_i2l dX2_put_75 (by omega) ?_
                    rw [← ey75] at is2
                    refine aw_lif_eq (tgt := 83) dX2_put_76 dX2_put_77 rfl (by omega) (fun c76 => ?_) (fun c76 => ?_)
                    · skip
                      refine aw_aload_n dX2_put_83 rfl ?_
                      refine aw_getf fg_X2_9 dX2_put_84 (hc41 hnx) rfl ?_
                      refine aw_iload_n dX2_put_87 rfl ?_
                      refine aw_lload_n dX2_put_88 rfl ?_
                      refine aw_lastU dX2_put_89 (hc42 hnx) (by omega) (by decide) (fun _ => hu42) ?_
                      refine aw_iload_n dX2_put_90 rfl ?_
                      exact aw_ireturn dX2_put_91 rfl rfl ⟨Nat.le_refl _, Nat.le_refl _⟩ (by have q := hQ k (by unfold rNote; (repeat' split) <;> omega); rw [if_pos (by omega)] at q; exact q)
                    · skip
                      refine aw_bipush dX2_put_80 rfl ?_
                      exact aw_ireturn dX2_put_82 rfl rfl ⟨Nat.le_refl _, Nat.le_refl _⟩ (by have q := hQ (-5) (by unfold rNote; (repeat' split) <;> omega); rw [if_neg (by omega)] at q; exact q)
            · skip
              refine aw_bipush dX2_put_45 rfl ?_
              exact aw_ireturn dX2_put_47 rfl rfl ⟨Nat.le_refl _, Nat.le_refl _⟩ (by have q := hQ (-4) (by unfold rNote; (repeat' split) <;> omega); rw [if_neg (by omega)] at q; exact q)
          · skip
            refine aw_bipush dX2_put_34 rfl ?_
            exact aw_ireturn dX2_put_36 rfl rfl ⟨Nat.le_refl _, Nat.le_refl _⟩ (by have q := hQ (-3) (by unfold rNote; (repeat' split) <;> omega); rw [if_neg (by omega)] at q; exact q)
      · skip
        refine aw_bipush dX2_put_19 rfl ?_
        exact aw_ireturn dX2_put_21 rfl rfl ⟨Nat.le_refl _, Nat.le_refl _⟩ (by have q := hQ (-2) (by unfold rNote; (repeat' split) <;> omega); rw [if_neg (by omega)] at q; exact q)
    · skip
      refine aw_iconst dX2_put_9 ?_
      exact aw_ireturn dX2_put_10 rfl rfl ⟨Nat.le_refl _, Nat.le_refl _⟩ (by have q := hQ (-1) (by unfold rNote; (repeat' split) <;> omega); rw [if_neg (by omega)] at q; exact q)

set_option maxHeartbeats 1000000 in
theorem c_X2_at {Γ : GT} {S T U V : St} {G : Gw} {nx d : Nat} {Q : QT} (hnx : 52 ≤ nx) {k : Int} (h18 : -1 ≤ U 18 0 ∧ U 18 0 ≤ 3) (h19 : 0 ≤ U 19 0 ∧ U 19 0 ≤ 40) (hk : inI k) (hN : ∀ j : Int, inL (U 2 j)) (hQ : ∀ r, r = aNoted U k → Q (some (vl r)) (hp Γ S T U V G) nx) : AM Γ MX2_at (d, 0, 0) [rf Γ 41, vi k] (hp Γ S T U V G) nx Q := by
  refine am_of (by decide) (Nat.le_of_ble_eq_true rfl) (ls := [some (rf Γ 41), some _, none]) rfl ?_
  refine aw_iload_n dX2_at_0 rfl ?_
  refine aw_if_lt (tgt := 12) dX2_at_1 rfl (by omega) (fun c1 => ?_) (fun c1 => ?_)
  · skip
    refine aw_ldc2 dX2_at_12 qk_X2_28 ?_
    refine aw_st (st' := vl (-9000000000) :: _) rfl ?_
    exact aw_lreturn dX2_at_15 rfl ⟨Nat.le_refl _, Nat.le_refl _⟩ (hQ _ (by unfold aNoted; rw [if_neg (by omega)]))
  · skip
    refine aw_iload_n dX2_at_4 rfl ?_
    refine aw_aload_n dX2_at_5 rfl ?_
    refine aw_getf fg_X2_19 dX2_at_6 (hc41 hnx) rfl ?_
    refine aw_icmp_lt (tgt := 16) dX2_at_9 rfl (by omega) (fun c9 => ?_) (fun c9 => ?_)
    · skip
      refine aw_aload_n dX2_at_16 rfl ?_
      refine aw_getf fg_X2_15 dX2_at_17 (hc41 hnx) rfl ?_
      refine aw_iconst dX2_at_20 ?_
      refine aw_icmp_ne (tgt := 60) dX2_at_21 rfl (by omega) (fun c21 => ?_) (fun c21 => ?_)
      · skip
        refine aw_iconst dX2_at_60 ?_
        refine aw_istore_n (ls' := [some (rf Γ 41), some _, some _]) dX2_at_61 (by decide) rfl ?_
        first | subst hx2_61 | skip
        refine aw_iload_n dX2_at_62 rfl ?_
        refine aw_if_eq (tgt := 72) dX2_at_63 rfl (by omega) (fun c63 => ?_) (fun c63 => ?_)
        · skip
          refine aw_aload_n dX2_at_72 rfl ?_
          refine aw_getf fg_X2_9 dX2_at_73 (hc41 hnx) rfl ?_
          refine aw_iload_n dX2_at_76 rfl ?_
          refine aw_laldr dX2_at_77 (hc42 hnx) (by omega) (by decide) (hN) (fun q77 => ?_)
          exact aw_lreturn dX2_at_78 rfl ⟨Nat.le_refl _, Nat.le_refl _⟩ (hQ _ (by unfold aNoted; rw [if_pos (by omega)]; first | (exfalso; omega) | (rw [if_neg (fun z => by first | exact absurd z.1 (by omega) | exact absurd ((L_eqI (a := 9218868437227405312) (by omega)).mpr z.2.1) (by omega) | exact absurd ((L_eqI (a := 0) (by omega)).mp (ey51.symm.trans c52)) z.2.2)]) | (rw [if_pos ⟨by omega, n1, fun z => absurd ((L_eqI (a := 0) (by omega)).mpr z) (by omega)⟩])))
        · skip
          refine aw_ldc2 dX2_at_66 qk_X2_34 ?_
          refine aw_st (st' := vl 9221120237041090560 :: _) rfl ?_
          refine aw_goto (tgt := 78) dX2_at_69 rfl ?_
          exact aw_lreturn dX2_at_78 rfl ⟨Nat.le_refl _, Nat.le_refl _⟩ (hQ _ (by unfold aNoted; rw [if_pos (by omega)]; first | (exfalso; omega) | (rw [if_neg (fun z => by first | exact absurd z.1 (by omega) | exact absurd ((L_eqI (a := 9218868437227405312) (by omega)).mpr z.2.1) (by omega) | exact absurd ((L_eqI (a := 0) (by omega)).mp (ey51.symm.trans c52)) z.2.2)]) | (rw [if_pos ⟨by omega, n1, fun z => absurd ((L_eqI (a := 0) (by omega)).mpr z) (by omega)⟩])))
      · skip
        refine aw_aload_n dX2_at_24 rfl ?_
        refine aw_getf fg_X2_9 dX2_at_25 (hc41 hnx) rfl ?_
        refine aw_iload_n dX2_at_28 rfl ?_
        refine aw_laldr dX2_at_29 (hc42 hnx) (by omega) (by decide) (hN) (fun q29 => ?_)
        refine aw_ldc2 dX2_at_30 qk_X2_30 ?_
        refine aw_st (st' := vl 9218868437227405312 :: _) rfl ?_
        refine aw_land dX2_at_33 rfl ?_
        refine aw_nmll (fun y34 hy34 ey34 => ?_)
        refine aw_ldc2 dX2_at_34 qk_X2_30 ?_
        refine aw_st (st' := vl 9218868437227405312 :: _) rfl ?_
        refine aw_lif_ne (tgt := 60) dX2_at_37 dX2_at_38 rfl (by omega) (fun c37 => ?_) (fun c37 => ?_)
        · skip
          refine aw_iconst dX2_at_60 ?_
          refine aw_istore_n (ls' := [some (rf Γ 41), some _, some _]) dX2_at_61 (by decide) rfl ?_
          first | subst hx2_61 | skip
          refine aw_iload_n dX2_at_62 rfl ?_
          refine aw_if_eq (tgt := 72) dX2_at_63 rfl (by omega) (fun c63 => ?_) (fun c63 => ?_)
          · skip
            refine aw_aload_n dX2_at_72 rfl ?_
            refine aw_getf fg_X2_9 dX2_at_73 (hc41 hnx) rfl ?_
            refine aw_iload_n dX2_at_76 rfl ?_
            refine aw_laldr dX2_at_77 (hc42 hnx) (by omega) (by decide) (hN) (fun q77 => ?_)
            exact aw_lreturn dX2_at_78 rfl ⟨Nat.le_refl _, Nat.le_refl _⟩ (hQ _ (by unfold aNoted; rw [if_pos (by omega)]; first | (exfalso; omega) | (rw [if_neg (fun z => by first | exact absurd z.1 (by omega) | exact absurd ((L_eqI (a := 9218868437227405312) (by omega)).mpr z.2.1) (by omega) | exact absurd ((L_eqI (a := 0) (by omega)).mp (ey51.symm.trans c52)) z.2.2)]) | (rw [if_pos ⟨by omega, n1, fun z => absurd ((L_eqI (a := 0) (by omega)).mpr z) (by omega)⟩])))
          · skip
            refine aw_ldc2 dX2_at_66 qk_X2_34 ?_
            refine aw_st (st' := vl 9221120237041090560 :: _) rfl ?_
            refine aw_goto (tgt := 78) dX2_at_69 rfl ?_
            exact aw_lreturn dX2_at_78 rfl ⟨Nat.le_refl _, Nat.le_refl _⟩ (hQ _ (by unfold aNoted; rw [if_pos (by omega)]; first | (exfalso; omega) | (rw [if_neg (fun z => by first | exact absurd z.1 (by omega) | exact absurd ((L_eqI (a := 9218868437227405312) (by omega)).mpr z.2.1) (by omega) | exact absurd ((L_eqI (a := 0) (by omega)).mp (ey51.symm.trans c52)) z.2.2)]) | (rw [if_pos ⟨by omega, n1, fun z => absurd ((L_eqI (a := 0) (by omega)).mpr z) (by omega)⟩])))
        · skip
          have n1 := (L_eqI (a := 9218868437227405312) (by omega)).mp (ey34.symm.trans c37)
          refine aw_aload_n dX2_at_41 rfl ?_
          refine aw_getf fg_X2_9 dX2_at_42 (hc41 hnx) rfl ?_
          refine aw_iload_n dX2_at_45 rfl ?_
          refine aw_laldr dX2_at_46 (hc42 hnx) (by omega) (by decide) (hN) (fun q46 => ?_)
          refine aw_ldc2 dX2_at_47 qk_X2_32 ?_
          refine aw_st (st' := vl 4503599627370495 :: _) rfl ?_
          refine aw_land dX2_at_50 rfl ?_
          refine aw_nmll (fun y51 hy51 ey51 => ?_)
          refine aw_lconst0 dX2_at_51 ?_
          refine aw_lif_eq (tgt := 60) dX2_at_52 dX2_at_53 rfl (by omega) (fun c52 => ?_) (fun c52 => ?_)
          · skip
            refine aw_iconst dX2_at_60 ?_
            refine aw_istore_n (ls' := [some (rf Γ 41), some _, some _]) dX2_at_61 (by decide) rfl ?_
            first | subst hx2_61 | skip
            refine aw_iload_n dX2_at_62 rfl ?_
            refine aw_if_eq (tgt := 72) dX2_at_63 rfl (by omega) (fun c63 => ?_) (fun c63 => ?_)
            · skip
              refine aw_aload_n dX2_at_72 rfl ?_
              refine aw_getf fg_X2_9 dX2_at_73 (hc41 hnx) rfl ?_
              refine aw_iload_n dX2_at_76 rfl ?_
              refine aw_laldr dX2_at_77 (hc42 hnx) (by omega) (by decide) (hN) (fun q77 => ?_)
              exact aw_lreturn dX2_at_78 rfl ⟨Nat.le_refl _, Nat.le_refl _⟩ (hQ _ (by unfold aNoted; rw [if_pos (by omega)]; first | (exfalso; omega) | (rw [if_neg (fun z => by first | exact absurd z.1 (by omega) | exact absurd ((L_eqI (a := 9218868437227405312) (by omega)).mpr z.2.1) (by omega) | exact absurd ((L_eqI (a := 0) (by omega)).mp (ey51.symm.trans c52)) z.2.2)]) | (rw [if_pos ⟨by omega, n1, fun z => absurd ((L_eqI (a := 0) (by omega)).mpr z) (by omega)⟩])))
            · skip
              refine aw_ldc2 dX2_at_66 qk_X2_34 ?_
              refine aw_st (st' := vl 9221120237041090560 :: _) rfl ?_
              refine aw_goto (tgt := 78) dX2_at_69 rfl ?_
              exact aw_lreturn dX2_at_78 rfl ⟨Nat.le_refl _, Nat.le_refl _⟩ (hQ _ (by unfold aNoted; rw [if_pos (by omega)]; first | (exfalso; omega) | (rw [if_neg (fun z => by first | exact absurd z.1 (by omega) | exact absurd ((L_eqI (a := 9218868437227405312) (by omega)).mpr z.2.1) (by omega) | exact absurd ((L_eqI (a := 0) (by omega)).mp (ey51.symm.trans c52)) z.2.2)]) | (rw [if_pos ⟨by omega, n1, fun z => absurd ((L_eqI (a := 0) (by omega)).mpr z) (by omega)⟩])))
          · skip
            refine aw_iconst dX2_at_56 ?_
            refine aw_goto (tgt := 61) dX2_at_57 rfl ?_
            refine aw_istore_n (ls' := [some (rf Γ 41), some _, some _]) dX2_at_61 (by decide) rfl ?_
            first | subst hx2_61 | skip
            refine aw_iload_n dX2_at_62 rfl ?_
            refine aw_if_eq (tgt := 72) dX2_at_63 rfl (by omega) (fun c63 => ?_) (fun c63 => ?_)
            · skip
              refine aw_aload_n dX2_at_72 rfl ?_
              refine aw_getf fg_X2_9 dX2_at_73 (hc41 hnx) rfl ?_
              refine aw_iload_n dX2_at_76 rfl ?_
              refine aw_laldr dX2_at_77 (hc42 hnx) (by omega) (by decide) (hN) (fun q77 => ?_)
              exact aw_lreturn dX2_at_78 rfl ⟨Nat.le_refl _, Nat.le_refl _⟩ (hQ _ (by unfold aNoted; rw [if_pos (by omega)]; first | (exfalso; omega) | (rw [if_neg (fun z => by first | exact absurd z.1 (by omega) | exact absurd ((L_eqI (a := 9218868437227405312) (by omega)).mpr z.2.1) (by omega) | exact absurd ((L_eqI (a := 0) (by omega)).mp (ey51.symm.trans c52)) z.2.2)]) | (rw [if_pos ⟨by omega, n1, fun z => absurd ((L_eqI (a := 0) (by omega)).mpr z) (by omega)⟩])))
            · skip
              refine aw_ldc2 dX2_at_66 qk_X2_34 ?_
              refine aw_st (st' := vl 9221120237041090560 :: _) rfl ?_
              refine aw_goto (tgt := 78) dX2_at_69 rfl ?_
              exact aw_lreturn dX2_at_78 rfl ⟨Nat.le_refl _, Nat.le_refl _⟩ (hQ _ (by unfold aNoted; rw [if_pos (by omega)]; first | (exfalso; omega) | (rw [if_neg (fun z => by first | exact absurd z.1 (by omega) | exact absurd ((L_eqI (a := 9218868437227405312) (by omega)).mpr z.2.1) (by omega) | exact absurd ((L_eqI (a := 0) (by omega)).mp (ey51.symm.trans c52)) z.2.2)]) | (rw [if_pos ⟨by omega, n1, fun z => absurd ((L_eqI (a := 0) (by omega)).mpr z) (by omega)⟩])))
    · skip
      refine aw_ldc2 dX2_at_12 qk_X2_28 ?_
      refine aw_st (st' := vl (-9000000000) :: _) rfl ?_
      exact aw_lreturn dX2_at_15 rfl ⟨Nat.le_refl _, Nat.le_refl _⟩ (hQ _ (by unfold aNoted; rw [if_neg (by omega)]))

set_option maxHeartbeats 1000000 in
theorem c_X10_row {Γ : GT} {S T U V : St} {G : Gw} {nx d : Nat} {Q : QT} (hnx : 52 ≤ nx) {s n : Int} (hs : inI s ∧ inI n) (hQ : ∀ r, r = (if 0 ≤ s ∧ s < 4 ∧ 0 ≤ n ∧ n ≤ 40 then n else -1) → Q (some (vi r)) (hp Γ S T (if 0 ≤ s ∧ s < 4 ∧ 0 ≤ n ∧ n ≤ 40 then rowU U s n else U) V G) nx) : AM Γ MX10_row (d + 2, 0, 0) [rf Γ 0, vi s, vi n] (hp Γ S T U V G) nx Q := by
  refine am_of (by decide) (Nat.le_of_ble_eq_true rfl) (ls := [some (rf Γ 0), some _, some _]) rfl ?_
  refine aw_aload_n dX10_row_0 rfl ?_
  refine aw_getf fg_X10_44 dX10_row_1 (hc0 hnx) rfl ?_
  refine aw_iload_n dX10_row_4 rfl ?_
  refine aw_iload_n dX10_row_5 rfl ?_
  refine aw_callV (As := [_, _]) (ρ := (_, 0, 0)) (kn' := (0, 0)) cv_X10_374 dX10_row_6 rfl rfl (hc41 hnx) rfl rfl (Nat.le_of_ble_eq_true rfl) (rmR _ _ _) ⟨Nat.le_refl _, Nat.le_refl _⟩ rfl (c_X2_makeRow hnx (by omega) (fun r6 h6 => ?_))
  exact aw_ireturn dX10_row_9 rfl rfl ⟨Nat.le_refl _, Nat.le_refl _⟩ (hQ _ h6)

set_option maxHeartbeats 1000000 in
theorem c_X10_note {Γ : GT} {S T U V : St} {G : Gw} {nx d : Nat} {Q : QT} (hnx : 52 ≤ nx) {k s v : Int} (h18 : -1 ≤ U 18 0 ∧ U 18 0 ≤ 3) (h19 : 0 ≤ U 19 0 ∧ U 19 0 ≤ 40) (hk : inI k ∧ inI s) (hv : inL v) (hQ : ∀ r, r = rNote U k s v → Q (some (vi r)) (hp Γ S T (if 0 ≤ r then u1 U 2 k v else U) V G) nx) : AM Γ MX10_note (d + 1, 0, 0) [rf Γ 0, vi k, vi s, vl v] (hp Γ S T U V G) nx Q := by
  refine am_of (by decide) (Nat.le_of_ble_eq_true rfl) (ls := [some (rf Γ 0), some _, some _, some _, none]) rfl ?_
  refine aw_aload_n dX10_note_0 rfl ?_
  refine aw_getf fg_X10_44 dX10_note_1 (hc0 hnx) rfl ?_
  refine aw_iload_n dX10_note_4 rfl ?_
  refine aw_iload_n dX10_note_5 rfl ?_
  refine aw_lload_n dX10_note_6 rfl ?_
  refine aw_callV (As := [_, _, _]) (ρ := (_, 0, 0)) (kn' := (0, 0)) cv_X10_377 dX10_note_7 rfl rfl (hc41 hnx) rfl rfl (Nat.le_of_ble_eq_true rfl) (rmR _ _ _) ⟨Nat.le_refl _, Nat.le_refl _⟩ rfl (c_X2_put hnx h18 h19 (by omega) (by omega) (fun r7 h7 => ?_))
  exact aw_ireturn dX10_note_10 rfl rfl ⟨Nat.le_refl _, Nat.le_refl _⟩ (hQ _ h7)

set_option maxHeartbeats 1000000 in
theorem c_X10_noted {Γ : GT} {S T U V : St} {G : Gw} {nx d : Nat} {Q : QT} (hnx : 52 ≤ nx) {k : Int} (h18 : -1 ≤ U 18 0 ∧ U 18 0 ≤ 3) (h19 : 0 ≤ U 19 0 ∧ U 19 0 ≤ 40) (hk : inI k) (hN : ∀ j : Int, inL (U 2 j)) (hQ : ∀ r, r = aNoted U k → Q (some (vl r)) (hp Γ S T U V G) nx) : AM Γ MX10_noted (d + 1, 0, 0) [rf Γ 0, vi k] (hp Γ S T U V G) nx Q := by
  refine am_of (by decide) (Nat.le_of_ble_eq_true rfl) (ls := [some (rf Γ 0), some _]) rfl ?_
  refine aw_aload_n dX10_noted_0 rfl ?_
  refine aw_getf fg_X10_44 dX10_noted_1 (hc0 hnx) rfl ?_
  refine aw_iload_n dX10_noted_4 rfl ?_
  refine aw_callV (As := [_]) (ρ := (_, 0, 0)) (kn' := (0, 0)) cv_X10_381 dX10_noted_5 rfl rfl (hc41 hnx) rfl rfl (Nat.le_of_ble_eq_true rfl) (rmR _ _ _) ⟨Nat.le_refl _, Nat.le_refl _⟩ rfl (c_X2_at hnx h18 h19 (by omega) hN (fun r5 h5 => ?_))
  exact aw_lreturn dX10_noted_8 rfl ⟨Nat.le_refl _, Nat.le_refl _⟩ (hQ _ h5)


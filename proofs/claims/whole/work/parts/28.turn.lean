/-! the log, the year's turn -/
def lg1 (S : St) (n : Nat) : Int → Int := fun j => if 160 - (n : Int) ≤ j ∧ j < 160 then S 19 (j - 20) else S 19 j
def LG (w : Int) : Int := if w = 0 then 1 else if w = 1 then 2 else if w = 2 then 4 else if w = 3 then 5 else 6
def lg2 (S : St) (n : Nat) : Int → Int := fun j => if 0 ≤ j ∧ j < (n : Int) then S 14 (j / 5 * 8 + LG (j % 5)) else lg1 S 140 j
def logS (S : St) : St := u0 (sset S 19 (lg2 S 20)) 29 (min (S 29 0 + 1) 8)
theorem lg1_0 (S : St) : sset S 19 (lg1 S 0) = S := by
  funext f j; unfold sset lg1
  by_cases h : f = 19
  · subst h; rw [if_pos rfl, if_neg (by omega)]
  · rw [if_neg h]
theorem lg2_0 (S : St) : lg2 S 0 = lg1 S 140 := by
  funext j; unfold lg2; rw [if_neg (by omega)]
theorem u1_sset (S : St) (f : Nat) (a : Int → Int) (i v : Int) : u1 (sset S f a) f i v = sset S f (uz a i v) := by
  funext f' j; unfold u1 sset
  by_cases h : f' = f <;> simp [h]
theorem lg1_s (S : St) (k : Nat) (hk : k < 140) : u1 (sset S 19 (lg1 S k)) 19 (159 - (k : Int)) (sset S 19 (lg1 S k) 19 (159 - (k : Int) - 20)) = sset S 19 (lg1 S (k + 1)) := by
  rw [u1_sset]
  congr 1
  funext j
  show uz (lg1 S k) (159 - (k : Int)) (lg1 S k (159 - (k : Int) - 20)) j = _
  unfold uz lg1
  by_cases h : j = 159 - (k : Int)
  · subst h; rw [if_pos rfl, if_neg (by omega), if_pos (by omega)]
  · rw [if_neg h]
    by_cases h2 : 160 - (k : Int) ≤ j ∧ j < 160
    · rw [if_pos h2, if_pos (by omega)]
    · rw [if_neg h2, if_neg (by omega)]
theorem lg2_s (S : St) (k q : Nat) (hk : k < 4) (hq : q < 5) : u1 (sset S 19 (lg2 S (5 * k + q))) 19 ((0 * 4 + (k : Int)) * 5 + (q : Int)) (S 14 ((k : Int) * 8 + LG q)) = sset S 19 (lg2 S (5 * k + (q + 1))) := by
  rw [u1_sset]
  congr 1
  funext j
  unfold uz lg2
  by_cases h : j = (0 * 4 + (k : Int)) * 5 + (q : Int)
  · subst h
    rw [if_pos rfl, if_pos (by omega), show ((0 * 4 + (k : Int)) * 5 + (q : Int)) / 5 = k by omega, show ((0 * 4 + (k : Int)) * 5 + (q : Int)) % 5 = q by omega]
  · rw [if_neg h]
    by_cases h2 : 0 ≤ j ∧ j < ((5 * k + q : Nat) : Int)
    · rw [if_pos h2, if_pos (by omega)]
    · rw [if_neg h2, if_neg (by omega)]
theorem lg1_in {S : St} (hR : Rg S) (n : Nat) (j : Int) : inI (lg1 S n j) := by
  unfold lg1; split <;> exact hR 19 (by decide) _
theorem lg2_in {S : St} (hR : Rg S) (n : Nat) (j : Int) : inI (lg2 S n j) := by
  unfold lg2; split
  · exact hR 14 (by decide) _
  · exact lg1_in hR _ _
theorem LG_in (q : Int) : 1 ≤ LG q ∧ LG q ≤ 6 := by unfold LG; (repeat' split) <;> omega
theorem LG_l (q : Nat) (hq : q < 5) : LG (q : Int) = ([1, 2, 4, 5, 6] : List Int).getD ((q : Int)).toNat 0 := by
  rcases (show q = 0 ∨ q = 1 ∨ q = 2 ∨ q = 3 ∨ q = 4 by omega) with rfl | rfl | rfl | rfl | rfl <;> rfl
/-- the years, one on -/
def tyS (S : St) : Nat → St
  | 0 => S
  | n + 1 => growS (tyS S n) n (tyS S n 20 n)
def turnS (S : St) : St := yclS (tyS S 32)
theorem Rg.grow {S : St} (hR : Rg S) {p v : Int} (hv : inI v) : Rg (growS S p v) := ((hR.u1 (hR 2 (by decide) _)).u1 (hR 2 (by decide) _)).u1 hv
theorem Rg.ty {S : St} (hR : Rg S) : ∀ n : Nat, Rg (tyS S n)
  | 0 => hR
  | n + 1 => (Rg.ty hR n).grow (Rg.ty hR n 20 (by decide) _)

set_option maxHeartbeats 1000000 in
theorem c_X3_writeLog {Γ : GT} {S T U V : St} {G : Gw} {nx d : Nat} {Q : QT} (hnx : 52 ≤ nx) (hR : Rg S) (h29 : 0 ≤ S 29 0 ∧ S 29 0 ≤ 8) (hQ : Rg (logS S) → Q none (hp Γ (logS S) T U V G) nx) : AM Γ MX3_writeLog (d + 1, 0, 0) [rf Γ 25] (hp Γ S T U V G) nx Q := by
  refine am_of (by decide) (Nat.le_of_ble_eq_true rfl) (ls := [some (rf Γ 25), none, none, none]) rfl ?_
  have hR0 := hR
  refine aw_bipush dX3_writeLog_0 rfl ?_
  refine aw_istore_n (ls' := [some (rf Γ 25), some _, none, none]) dX3_writeLog_2 (by decide) rfl ?_
  refine aw_aload_n dX3_writeLog_3 rfl ?_
  refine aw_getf fg_X3_27 dX3_writeLog_4 (hc25 hnx) rfl ?_
  refine aw_alen dX3_writeLog_7 (hc31 hnx) rfl ?_
  refine aw_iconst dX3_writeLog_8 ?_
  refine aw_isub dX3_writeLog_9 ?_
  refine aw_nmI (fun x2_10 hx2_10 => ?_)
  refine aw_istore_n (ls' := [some (rf Γ 25), some _, some _, none]) dX3_writeLog_10 (by decide) rfl ?_
  refine aw_hp (S' := sset S 19 (lg1 S 0)) (lg1_0 S) rfl rfl rfl rfl ?_
  refine loopN (140) (P := fun k => ∀ (m : Int) , m = 159 - (k : Int) →  AW Γ MX3_writeLog _ _ (0, 0) 11 [some (rf Γ 25), some (vi 20), some (vi m), none] [] (hp Γ (sset S 19 (lg1 S k)) T U V G) nx) (fun k hk ih => ?_) 0 (Nat.zero_le _) _ (by omega)
  intro m i11_0
  refine aw_iload_n dX3_writeLog_11 rfl ?_
  replace hR := hR0.sset (f := 19) (lg1_in hR0 k)
  refine aw_iload_n dX3_writeLog_12 rfl ?_
  refine aw_icmp_lt (tgt := 36) dX3_writeLog_13 rfl (by omega) (fun c13 => ?_) (fun c13 => ?_)
  · skip
    obtain rfl : k = 140 := by omega
    refine aw_iconst dX3_writeLog_36 ?_
    refine aw_istore_n (ls' := [some (rf Γ 25), some _, some _, none]) dX3_writeLog_37 (by decide) rfl ?_
    refine aw_hp (S' := sset S 19 (lg2 S (5 * 0))) (by rw [Nat.mul_zero, lg2_0]) rfl rfl rfl rfl ?_
    refine loopN (4) (P := fun k =>  AW Γ MX3_writeLog _ _ (0, 0) 38 [some (rf Γ 25), some (vi 20), some (vi (k : Int)), none] [] (hp Γ (sset S 19 (lg2 S (5 * k))) T U V G) nx) (fun k hk ih => ?_) 0 (Nat.zero_le _) 
    refine aw_iload_n dX3_writeLog_38 rfl ?_
    replace hR := hR0.sset (f := 19) (lg2_in hR0 (5 * k))
    refine aw_iconst dX3_writeLog_39 ?_
    refine aw_icmp_ge (tgt := 83) dX3_writeLog_40 rfl (by omega) (fun c40 => ?_) (fun c40 => ?_)
    · skip
      obtain rfl : k = 4 := by omega
      refine aw_aload_n dX3_writeLog_83 rfl ?_
      refine aw_aload_n dX3_writeLog_84 rfl ?_
      refine aw_getf fg_X3_36 dX3_writeLog_85 (hc25 hnx) rfl ?_
      refine aw_sv (a := S 29 0) (rfl) ?_
      refine aw_iconst dX3_writeLog_88 ?_
      refine aw_iadd dX3_writeLog_89 ?_
      refine aw_bipush dX3_writeLog_90 rfl ?_
      refine aw_mmin qm_X3_51 dX3_writeLog_92 (by omega) (rmN13 _ _ _ (Nat.le_of_ble_eq_true rfl)) ⟨Nat.le_refl _, Nat.le_refl _⟩ (fun r92 h92 => ?_)
      have eM : r92 = min (S 29 0 + 1) 8 := by omega
      subst eM
      refine aw_putS fp_X3_36 dX3_writeLog_95 (hc25 hnx) (Nat.le_of_ble_eq_true rfl) hR (by omega) hu25_29 (fun hR => ?_)
      exact aw_return dX3_writeLog_98 rfl ⟨Nat.le_refl _, Nat.le_refl _⟩ (hQ hR)
    · skip
      refine aw_iconst dX3_writeLog_43 ?_
      refine aw_istore_n (ls' := [some (rf Γ 25), some _, some _, some _]) dX3_writeLog_44 (by decide) rfl ?_
      refine aw_hp (S' := sset S 19 (lg2 S (5 * k + 0))) rfl rfl rfl rfl rfl ?_
      refine loopN (5) (P := fun q =>  AW Γ MX3_writeLog _ _ (0, 0) 45 [some (rf Γ 25), some (vi 20), some (vi (k : Int)), some (vi (q : Int))] [] (hp Γ (sset S 19 (lg2 S (5 * k + q))) T U V G) nx) (fun q hq ihq => ?_) 0 (Nat.zero_le _) 
      refine aw_iload_n dX3_writeLog_45 rfl ?_
      replace hR := hR0.sset (f := 19) (lg2_in hR0 (5 * k + q))
      refine aw_iconst dX3_writeLog_46 ?_
      refine aw_icmp_ge (tgt := 77) dX3_writeLog_47 rfl (by omega) (fun c47 => ?_) (fun c47 => ?_)
      · skip
        obtain rfl : q = 5 := by omega
        refine aw_iinc (ls' := [some (rf Γ 25), some _, some _, some _]) dX3_writeLog_77 rfl (by decide) rfl ?_
        refine aw_goto (tgt := 38) dX3_writeLog_80 rfl ?_
        refine aw_fg [true, true, true, false] (ls' := [some (rf Γ 25), some _, some _, none]) rfl ?_
        exact ih (by omega)   
      · skip
        refine aw_aload_n dX3_writeLog_50 rfl ?_
        refine aw_getf fg_X3_27 dX3_writeLog_51 (hc25 hnx) rfl ?_
        refine aw_iconst dX3_writeLog_54 ?_
        refine aw_iload_n dX3_writeLog_55 rfl ?_
        refine aw_iload_n dX3_writeLog_56 rfl ?_
        refine aw_callSN (As := [_, _, _]) (ρ := (_, 0, 0)) (kn' := (0, 0)) cs_X3_40 dX3_writeLog_57 rfl rfl (Nat.le_of_ble_eq_true rfl) (rmR _ _ _) ⟨Nat.le_refl _, Nat.le_refl _⟩ rfl (c_X10_logPlace hnx  (fun r57 h57 => ?_))
        refine aw_aload_n dX3_writeLog_60 rfl ?_
        refine aw_iload_n dX3_writeLog_61 rfl ?_
        refine aw_sT (i := 2) gz2 (Or.inr (List.mem_of_getElem? (i := 18) rfl)) dX3_writeLog_62 ?_
        refine aw_iload_n dX3_writeLog_65 rfl ?_
        refine aw_tald0 gt2 (by omega) (by decide) rfl dX3_writeLog_66 ?_
        have lgq := LG_in q
        refine aw_sv (a := LG q) (LG_l q (by omega)) ?_
        refine aw_callV (As := [_, _]) (ρ := (_, 0, 0)) (kn' := (0, 0)) cv_X3_47 dX3_writeLog_67 rfl rfl (hc25 hnx) rfl rfl (Nat.le_of_ble_eq_true rfl) (rmR _ _ _) ⟨Nat.le_refl _, Nat.le_refl _⟩ rfl (c_X3_figure hnx hR (by omega) (fun r67 h67 => ?_))
        subst h57
        subst h67
        refine aw_sv (a := S 14 ((k : Int) * 8 + LG q)) (rfl) ?_
        have r14 := hR0 14 (by decide) ((k : Int) * 8 + LG q)
        refine aw_iastS dX3_writeLog_70 (hc31 hnx) (by omega) (by decide) hR (by omega) (fun _ => hu31) (fun hR => ?_)
        refine aw_iinc (ls' := [some (rf Γ 25), some _, some _, some _]) dX3_writeLog_71 rfl (by decide) rfl ?_
        rw [lg2_s S k q (by omega) (by omega)]
        refine aw_goto (tgt := 45) dX3_writeLog_74 rfl ?_
        exact ihq (by omega)   
  · skip
    refine aw_aload_n dX3_writeLog_16 rfl ?_
    refine aw_getf fg_X3_27 dX3_writeLog_17 (hc25 hnx) rfl ?_
    refine aw_iload_n dX3_writeLog_20 rfl ?_
    refine aw_aload_n dX3_writeLog_21 rfl ?_
    refine aw_getf fg_X3_27 dX3_writeLog_22 (hc25 hnx) rfl ?_
    refine aw_iload_n dX3_writeLog_25 rfl ?_
    refine aw_iload_n dX3_writeLog_26 rfl ?_
    refine aw_isub dX3_writeLog_27 ?_
    refine aw_ialdr dX3_writeLog_28 (hc31 hnx) (by omega) (by decide) (hR 19 (by decide)) (fun q28 => ?_)
    subst i11_0
    refine aw_iastS dX3_writeLog_29 (hc31 hnx) (by omega) (by decide) hR (by omega) (fun _ => hu31) (fun hR => ?_)
    refine aw_iinc (ls' := [some (rf Γ 25), some _, some _, none]) dX3_writeLog_30 rfl (by decide) rfl ?_
    rw [lg1_s S k (by omega)]
    refine aw_goto (tgt := 11) dX3_writeLog_33 rfl ?_
    exact ih (by omega) _  (by omega)

set_option maxHeartbeats 1000000 in
theorem c_X7_turnYear {Γ : GT} {S T U V : St} {G : Gw} {nx d : Nat} {Q : QT} (hnx : 52 ≤ nx) (hR : Rg S) (hQ : Rg (turnS S) → Q none (hp Γ (turnS S) T U V G) nx) : AM Γ MX7_turnYear (d + 2, 0, 0) [rf Γ 9] (hp Γ S T U V G) nx Q := by
  refine am_of (by decide) (Nat.le_of_ble_eq_true rfl) (ls := [some (rf Γ 9), none]) rfl ?_
  have hR0 := hR
  refine aw_iconst dX7_turnYear_0 ?_
  refine aw_istore_n (ls' := [some (rf Γ 9), some _]) dX7_turnYear_1 (by decide) rfl ?_
  refine aw_hp (S' := tyS S 0) rfl rfl rfl rfl rfl ?_
  refine loopN (32) (P := fun k =>  AW Γ MX7_turnYear _ _ (0, 0) 2 [some (rf Γ 9), some (vi (k : Int))] [] (hp Γ (tyS S k) T U V G) nx) (fun k hk ih => ?_) 0 (Nat.zero_le _) 
  refine aw_iload_n dX7_turnYear_2 rfl ?_
  replace hR := hR0.ty k
  refine aw_bipush dX7_turnYear_3 rfl ?_
  refine aw_icmp_ge (tgt := 31) dX7_turnYear_5 rfl (by omega) (fun c5 => ?_) (fun c5 => ?_)
  · skip
    obtain rfl : k = 32 := by omega
    refine aw_aload_n dX7_turnYear_31 rfl ?_
    refine aw_getf fg_X7_35 dX7_turnYear_32 (hc9 hnx) rfl ?_
    refine aw_callV (As := []) (ρ := (_, 0, 0)) (kn' := (0, 0)) cv_X7_76 dX7_turnYear_35 rfl rfl (hc32 hnx) rfl rfl (Nat.le_of_ble_eq_true rfl) (rmR _ _ _) ⟨Nat.le_refl _, Nat.le_refl _⟩ rfl (c_X9_clear hnx hR (fun hR => ?_))
    exact aw_return dX7_turnYear_38 rfl ⟨Nat.le_refl _, Nat.le_refl _⟩ (hQ hR)
  · skip
    refine aw_aload_n dX7_turnYear_8 rfl ?_
    refine aw_getf fg_X7_12 dX7_turnYear_9 (hc9 hnx) rfl ?_
    refine aw_iload_n dX7_turnYear_12 rfl ?_
    refine aw_aload_n dX7_turnYear_13 rfl ?_
    refine aw_getf fg_X7_35 dX7_turnYear_14 (hc9 hnx) rfl ?_
    refine aw_getf fg_X7_161 dX7_turnYear_17 (hc32 hnx) rfl ?_
    refine aw_iload_n dX7_turnYear_20 rfl ?_
    refine aw_ialdr dX7_turnYear_21 (hc33 hnx) (by omega) (by decide) (hR 20 (by decide)) (fun q21 => ?_)
    refine aw_callV (As := [_, _]) (ρ := (_, 0, 0)) (kn' := (0, 0)) cv_X7_185 dX7_turnYear_22 rfl rfl (hc10 hnx) rfl rfl (Nat.le_of_ble_eq_true rfl) (rmR _ _ _) ⟨Nat.le_refl _, Nat.le_refl _⟩ rfl (c_X5_growOlder hnx hR (by omega) (by omega) (fun hR => ?_))
    refine aw_iinc (ls' := [some (rf Γ 9), some _]) dX7_turnYear_25 rfl (by decide) rfl ?_
    refine aw_goto (tgt := 2) dX7_turnYear_28 rfl ?_
    exact ih (by omega)   


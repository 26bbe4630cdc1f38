/-! all origins' periods begin -/
def cr (S : St) (o : Int) : Int := if S 25 0 % 360 = 0 then 0 else leftI S o
def figF (S : St) (o w : Int) : Int := if w = 1 then S 1 o else if w = 2 then cr S o else if w = 3 then S 1 o - prt S o (S 1 o) (nIm S) + cr S o else 0
abbrev incn (n m : Nat) (j : Int) : Prop := (0 ≤ j ∧ j < 4 * (m : Int)) ∧ j % 4 < (n : Int)
def prdF (S : St) (n : Nat) : St := fun f j => if f = 14 then (if 0 ≤ j ∧ j < 8 * (n : Int) then figF S (j / 8) (j % 8) else S 14 j) else if f = 15 then (if incn n (nIm S) j then srt S j else S 15 j) else if f = 18 then (if incn n (nIm S) j then 0 else S 18 j) else if f = 16 then (if incn n (nIm S) j then shp S (j % 4) (S 1 (j % 4)) j else S 16 j) else if f = 17 then (if incn n (nIm S) j then shp S (j % 4) (S 1 (j % 4)) j else S 17 j) else S f j
theorem prd_0 (S : St) : prdF S 0 = S := by
  funext f j; unfold prdF
  by_cases h1 : f = 14
  · subst h1; rw [if_pos rfl, if_neg (by omega)]
  · rw [if_neg h1]
    by_cases h2 : f = 15
    · subst h2; rw [if_pos rfl, if_neg (by unfold incn; omega)]
    · rw [if_neg h2]
      by_cases h3 : f = 18
      · subst h3; rw [if_pos rfl, if_neg (by unfold incn; omega)]
      · rw [if_neg h3]
        by_cases h4 : f = 16
        · subst h4; rw [if_pos rfl, if_neg (by unfold incn; omega)]
        · rw [if_neg h4]
          by_cases h5 : f = 17
          · subst h5; rw [if_pos rfl, if_neg (by unfold incn; omega)]
          · rw [if_neg h5]
theorem cf_at (S : St) (o : Int) (n : Nat) (j : Int) : cfS S o n 14 j = if o * 8 ≤ j ∧ j < o * 8 + n then 0 else S 14 j := rfl
def perA (P : St) (k q c : Int) : St := addS (addS (cfS P k 8) k 1 q) k 2 c
theorem perA_at (P : St) (k q c j : Int) : perA P k q c 14 j = if j = k * 8 + 2 then c else if j = k * 8 + 1 then q else if k * 8 ≤ j ∧ j < k * 8 + 8 then 0 else P 14 j := by
  unfold perA
  rw [add_at, add_at, add_at, cf_at, cf_at, cf_at]
  by_cases h1 : j = k * 8 + 2
  · subst h1
    rw [if_pos ⟨rfl, rfl⟩, if_neg (by omega), if_pos (by omega), if_pos rfl]; omega
  · rw [if_neg (by omega), if_neg h1]
    by_cases h2 : j = k * 8 + 1
    · subst h2
      rw [if_pos ⟨rfl, rfl⟩, if_pos (by omega), if_pos rfl]; omega
    · rw [if_neg (by omega), if_neg h2]
      by_cases h3 : k * 8 ≤ j ∧ j < k * 8 + 8
      · rw [if_pos (by omega), if_pos h3]
      · rw [if_neg (by omega), if_neg h3]
theorem prd_s (S : St) (k : Nat) (hk : k < 4) : addS (pr2S (perA (prdF S k) k (S 1 k) (cr S k)) k (S 1 k) (nIm S)) k 3 (S 1 k - prt S k (S 1 k) (nIm S) + cr S k) = prdF S (k + 1) := by
  funext f j
  rw [add_at]
  by_cases h14 : f = 14
  · subst h14
    rw [show ∀ j, pr2S (perA (prdF S k) k (S 1 k) (cr S k)) k (S 1 k) (nIm S) 14 j = perA (prdF S k) k (S 1 k) (cr S k) 14 j from fun _ => rfl, show ∀ j, pr2S (perA (prdF S k) k (S 1 k) (cr S k)) k (S 1 k) (nIm S) 14 j = perA (prdF S k) k (S 1 k) (cr S k) 14 j from fun _ => rfl, perA_at, perA_at]
    show _ = if 0 ≤ j ∧ j < 8 * ((k + 1 : Nat) : Int) then figF S (j / 8) (j % 8) else S 14 j
    rw [show prdF S k 14 j = if 0 ≤ j ∧ j < 8 * (k : Int) then figF S (j / 8) (j % 8) else S 14 j from rfl]
    by_cases h3 : j = (k : Int) * 8 + 3
    · subst h3
      rw [if_pos ⟨rfl, rfl⟩, if_neg (by omega), if_neg (by omega), if_pos (by omega), if_pos (by omega), show ((k : Int) * 8 + 3) / 8 = k by omega, show ((k : Int) * 8 + 3) % 8 = 3 by omega]
      simp [figF]
    · rw [if_neg (by omega)]
      by_cases h2 : j = (k : Int) * 8 + 2
      · subst h2
        rw [if_pos rfl, if_pos (by omega), show ((k : Int) * 8 + 2) / 8 = k by omega, show ((k : Int) * 8 + 2) % 8 = 2 by omega]
        simp [figF]
      · rw [if_neg h2]
        by_cases h1 : j = (k : Int) * 8 + 1
        · subst h1
          rw [if_pos rfl, if_pos (by omega), show ((k : Int) * 8 + 1) / 8 = k by omega, show ((k : Int) * 8 + 1) % 8 = 1 by omega]
          simp [figF]
        · rw [if_neg h1]
          by_cases h4 : (k : Int) * 8 ≤ j ∧ j < (k : Int) * 8 + 8
          · rw [if_pos h4, if_pos (by omega)]
            unfold figF; rw [if_neg (by omega), if_neg (by omega), if_neg (by omega)]
          · rw [if_neg h4]
            by_cases h5 : 0 ≤ j ∧ j < 8 * (k : Int)
            · rw [if_pos h5, if_pos (by omega)]
            · rw [if_neg h5, if_neg (by omega)]
  · rw [if_neg (by omega)]
    by_cases h15 : f = 15
    · subst h15
      by_cases a : inc (nIm S) k j
      · have eL : pr2S (perA (prdF S k) k (S 1 k) (cr S k)) k (S 1 k) (nIm S) 15 j = srt S j := by unfold pr2S pr1S; rw [if_neg (by omega), if_pos ⟨rfl, a⟩]; rfl
        rw [eL]; show _ = if incn (k + 1) (nIm S) j then srt S j else S 15 j
        rw [if_pos (by unfold inc at a; unfold incn; omega)]
      · have eL : pr2S (perA (prdF S k) k (S 1 k) (cr S k)) k (S 1 k) (nIm S) 15 j = if incn k (nIm S) j then srt S j else S 15 j := by unfold pr2S pr1S; rw [if_neg (by omega), if_neg (fun x => a x.2), if_neg (by omega)]; rfl
        rw [eL]; show _ = if incn (k + 1) (nIm S) j then srt S j else S 15 j
        by_cases b : incn k (nIm S) j
        · rw [if_pos b, if_pos (by unfold incn at *; omega)]
        · rw [if_neg b, if_neg (by unfold inc incn at *; omega)]
    · by_cases h18 : f = 18
      · subst h18
        by_cases a : inc (nIm S) k j
        · have eL : pr2S (perA (prdF S k) k (S 1 k) (cr S k)) k (S 1 k) (nIm S) 18 j = 0 := by unfold pr2S pr1S; rw [if_neg (by omega), if_neg (by omega), if_pos ⟨rfl, a⟩]
          rw [eL]; show _ = if incn (k + 1) (nIm S) j then 0 else S 18 j
          rw [if_pos (by unfold inc at a; unfold incn; omega)]
        · have eL : pr2S (perA (prdF S k) k (S 1 k) (cr S k)) k (S 1 k) (nIm S) 18 j = if incn k (nIm S) j then 0 else S 18 j := by unfold pr2S pr1S; rw [if_neg (by omega), if_neg (by omega), if_neg (fun x => a x.2)]; rfl
          rw [eL]; show _ = if incn (k + 1) (nIm S) j then 0 else S 18 j
          by_cases b : incn k (nIm S) j
          · rw [if_pos b, if_pos (by unfold incn at *; omega)]
          · rw [if_neg b, if_neg (by unfold inc incn at *; omega)]
      · by_cases h16 : f = 16
        · subst h16
          by_cases a : inc (nIm S) k j
          · have eL : pr2S (perA (prdF S k) k (S 1 k) (cr S k)) k (S 1 k) (nIm S) 16 j = shp S k (S 1 k) j := by unfold pr2S pr1S; rw [if_pos ⟨by omega, a⟩]; rfl
            rw [eL]; show _ = if incn (k + 1) (nIm S) j then shp S (j % 4) (S 1 (j % 4)) j else S 16 j
            rw [if_pos (by unfold inc at a; unfold incn; omega), a.2]
          · have eL : pr2S (perA (prdF S k) k (S 1 k) (cr S k)) k (S 1 k) (nIm S) 16 j = if incn k (nIm S) j then shp S (j % 4) (S 1 (j % 4)) j else S 16 j := by unfold pr2S pr1S; rw [if_neg (fun x => a x.2), if_neg (by omega), if_neg (by omega)]; rfl
            rw [eL]; show _ = if incn (k + 1) (nIm S) j then shp S (j % 4) (S 1 (j % 4)) j else S 16 j
            by_cases b : incn k (nIm S) j
            · rw [if_pos b, if_pos (by unfold incn at *; omega)]
            · rw [if_neg b, if_neg (by unfold inc incn at *; omega)]
        · by_cases h17 : f = 17
          · subst h17
            by_cases a : inc (nIm S) k j
            · have eL : pr2S (perA (prdF S k) k (S 1 k) (cr S k)) k (S 1 k) (nIm S) 17 j = shp S k (S 1 k) j := by unfold pr2S pr1S; rw [if_pos ⟨by omega, a⟩]; rfl
              rw [eL]; show _ = if incn (k + 1) (nIm S) j then shp S (j % 4) (S 1 (j % 4)) j else S 17 j
              rw [if_pos (by unfold inc at a; unfold incn; omega), a.2]
            · have eL : pr2S (perA (prdF S k) k (S 1 k) (cr S k)) k (S 1 k) (nIm S) 17 j = if incn k (nIm S) j then shp S (j % 4) (S 1 (j % 4)) j else S 17 j := by unfold pr2S pr1S; rw [if_neg (fun x => a x.2), if_neg (by omega), if_neg (by omega)]; rfl
              rw [eL]; show _ = if incn (k + 1) (nIm S) j then shp S (j % 4) (S 1 (j % 4)) j else S 17 j
              by_cases b : incn k (nIm S) j
              · rw [if_pos b, if_pos (by unfold incn at *; omega)]
              · rw [if_neg b, if_neg (by unfold inc incn at *; omega)]
          · unfold pr2S pr1S perA addS cfS u1 sset prdF
            simp [h14, h15, h16, h17, h18]
theorem prt_in {S : St} (h : Inv0 S) {o q : Int} (ho : 0 ≤ o ∧ o < 4) (ht : 0 ≤ S 0 0 ∧ S 0 0 ≤ 100) (hq : 0 ≤ q ∧ q ≤ 99999) : 0 ≤ prt S o q (nIm S) ∧ prt S o q (nIm S) ≤ 799992 := by
  have h27 := h.2.2.1
  have hk : nIm S = (S 27 0).toNat := rfl
  have h1 := sm_rg (f := fun i => shp S o q (4 * i + o)) (B := 99999) (nIm S) (fun k hk2 => by
    have := h.shp (q := q) (j := 4 * (k : Int) + o) ho (by unfold inc; omega) ht hq
    exact ⟨this.1, by omega⟩)
  unfold prt; omega
/-- what must hold for a period to begin -/
def InvP (S : St) : Prop := Inv0 S ∧ (0 ≤ S 0 0 ∧ S 0 0 ≤ 100) ∧ (∀ o : Int, 0 ≤ o → o < S 26 0 → 0 ≤ S 1 o ∧ S 1 o ≤ 99999) ∧ (0 ≤ S 25 0 ∧ S 25 0 ≤ 3600) ∧ (∀ o : Int, 0 ≤ o → o < S 26 0 → 0 ≤ cr S o ∧ cr S o ≤ 1000000000)
theorem prd_in {S : St} (h : InvP S) {n : Nat} (hn : (n : Int) ≤ S 26 0) : Rg (prdF S n) := by
  obtain ⟨h0, ht, hq, h25, hc⟩ := h
  have hR := h0.1
  have h26 := h0.2.1
  intro f hf j
  unfold prdF
  have sj := srt_in S j
  have r14 := hR 14 (by decide) j; have r15 := hR 15 (by decide) j; have r16 := hR 16 (by decide) j; have r17 := hR 17 (by decide) j; have r18 := hR 18 (by decide) j
  have sp : incn n (nIm S) j → inI (shp S (j % 4) (S 1 (j % 4)) j) := fun a => by
    have a' := a; unfold incn at a'
    have := h0.shp (o := j % 4) (q := S 1 (j % 4)) (j := j) (by omega) (by unfold inc; omega) ht (hq _ (by omega) (by omega))
    have := hq (j % 4) (by omega) (by omega)
    omega
  split
  · split
    · have a1 := hq (j / 8) (by omega) (by omega); have a2 := hc (j / 8) (by omega) (by omega)
      have a3 := prt_in h0 (o := j / 8) (q := S 1 (j / 8)) (by omega) ht a1
      unfold figF; (repeat' split) <;> omega
    · exact r14
  · split
    · split
      · omega
      · exact r15
    · split
      · split
        · omega
        · exact r18
      · split
        · split
          · exact sp (by assumption)
          · exact r16
        · split
          · split
            · exact sp (by assumption)
            · exact r17
          · exact hR f hf j
theorem prd_left (S : St) (k : Nat) (hk : k < 4) : leftI (prdF S k) k = leftI S k := by
  unfold leftI lefts
  rw [show prdF S k 14 ((k : Int) * 8 + 3) = if 0 ≤ (k : Int) * 8 + 3 ∧ (k : Int) * 8 + 3 < 8 * (k : Int) then figF S (((k : Int) * 8 + 3) / 8) (((k : Int) * 8 + 3) % 8) else S 14 ((k : Int) * 8 + 3) from rfl, if_neg (by omega)]
  congr 1
  refine sm_congr _ (fun i hi => ?_)
  show (if incn k (nIm S) (4 * (i : Int) + k) then shp S ((4 * (i : Int) + k) % 4) (S 1 ((4 * (i : Int) + k) % 4)) (4 * (i : Int) + k) else S 17 (4 * (i : Int) + k)) = _
  rw [if_neg (by unfold incn; omega)]

set_option maxHeartbeats 1000000 in
theorem c_X7_startPeriod {Γ : GT} {S T U V : St} {G : Gw} {nx d : Nat} {Q : QT} (hnx : 52 ≤ nx) (hP : InvP S) (hQ : Rg (prdF S (nOr S)) → Q none (hp Γ (prdF S (nOr S)) T U V G) nx) : AM Γ MX7_startPeriod (d + 5, 0, 0) [rf Γ 9] (hp Γ S T U V G) nx Q := by
  refine am_of (by decide) (Nat.le_of_ble_eq_true rfl) (ls := [some (rf Γ 9), none, none, none]) rfl ?_
  have hI := hP.1
  have ht := hP.2.1
  have h25 := hP.2.2.2.1
  have hR := hI.1
  have i1 := hI.2.1
  have i2 := hI.2.2.1
  have hkS : nS S = (S 28 0).toNat := rfl
  have hkI : nIm S = (S 27 0).toNat := rfl
  have hkO : nOr S = (S 26 0).toNat := rfl
  have hR0 := hR
  refine aw_iconst dX7_startPeriod_0 ?_
  refine aw_istore_n (ls' := [some (rf Γ 9), some _, none, none]) dX7_startPeriod_1 (by decide) rfl ?_
  refine aw_hp (S' := prdF S 0) (prd_0 S) rfl rfl rfl rfl ?_
  refine loopN (nOr S) (P := fun k =>  AW Γ MX7_startPeriod _ _ (0, 0) 2 [some (rf Γ 9), some (vi (k : Int)), none, none] [] (hp Γ (prdF S k) T U V G) nx) (fun k hk ih => ?_) 0 (Nat.zero_le _) 
  refine aw_iload_n dX7_startPeriod_2 rfl ?_
  replace hR := prd_in hP (n := k) (by omega)
  refine aw_aload_n dX7_startPeriod_3 rfl ?_
  refine aw_getf fg_X7_12 dX7_startPeriod_4 (hc9 hnx) rfl ?_
  refine aw_getf fg_X7_91 dX7_startPeriod_7 (hc10 hnx) rfl ?_
  refine aw_sv (a := S 26 0) (rfl) ?_
  refine aw_icmp_ge (tgt := 97) dX7_startPeriod_10 rfl (by omega) (fun c10 => ?_) (fun c10 => ?_)
  · skip
    obtain rfl : k = nOr S := by omega
    exact aw_return dX7_startPeriod_97 rfl ⟨Nat.le_refl _, Nat.le_refl _⟩ (hQ hR)
  · skip
    have hk4 : k < 4 := by omega
    have hq := hP.2.2.1 k (by omega) (by omega)
    have hc := hP.2.2.2.2 k (by omega) (by omega)
    have hpt := prt_in hI (o := k) (q := S 1 k) (by omega) ht hq
    refine aw_aload_n dX7_startPeriod_13 rfl ?_
    refine aw_getf fg_X7_66 dX7_startPeriod_14 (hc9 hnx) rfl ?_
    refine aw_sv (a := S 25 0) (rfl) ?_
    refine aw_sipush dX7_startPeriod_17 rfl ?_
    refine aw_irem dX7_startPeriod_20 (by omega) (by omega) ?_
    refine aw_if_ne (tgt := 28) dX7_startPeriod_21 rfl (by omega) (fun c21 => ?_) (fun c21 => ?_)
    · skip
      refine aw_aload_n dX7_startPeriod_28 rfl ?_
      refine aw_iload_n dX7_startPeriod_29 rfl ?_
      refine aw_callV (As := [_]) (ρ := (_, 0, 0)) (kn' := (0, 0)) cv_X7_104 dX7_startPeriod_30 rfl rfl (hc9 hnx) rfl rfl (Nat.le_of_ble_eq_true rfl) (rmR _ _ _) ⟨Nat.le_refl _, Nat.le_refl _⟩ rfl (c_X7_leftIn hnx (S := prdF S k) ⟨hR, hI.2.1, hI.2.2.1, hI.2.2.2⟩ (show 0 ≤ (k : Int) ∧ (k : Int) < S 26 0 by omega) (fun r30 h30 => ?_))
      first | refine aw_sv (a := cr S k) (by unfold cr; rw [if_pos c21]) ?_ | refine aw_sv (a := cr S k) (by rw [h30, prd_left S k hk4]; unfold cr; rw [if_neg c21]) ?_
      refine aw_istore_n (ls' := [some (rf Γ 9), some _, some _, none]) dX7_startPeriod_33 (by decide) rfl ?_
      refine aw_aload_n dX7_startPeriod_34 rfl ?_
      refine aw_getf fg_X7_12 dX7_startPeriod_35 (hc9 hnx) rfl ?_
      refine aw_getf fg_X7_108 dX7_startPeriod_38 (hc10 hnx) rfl ?_
      refine aw_iload_n dX7_startPeriod_41 rfl ?_
      refine aw_ialdr dX7_startPeriod_42 (hc12 hnx) (by omega) (by decide) (hR 1 (by decide)) (fun q42 => ?_)
      refine aw_sv (a := S 1 k) (rfl) ?_
      refine aw_nmI (fun x3_43 hx3_43 => ?_)
      refine aw_istore_n (ls' := [some (rf Γ 9), some _, some _, some _]) dX7_startPeriod_43 (by decide) rfl ?_
      subst hx3_43
      refine aw_aload_n dX7_startPeriod_44 rfl ?_
      refine aw_getf fg_X7_28 dX7_startPeriod_45 (hc9 hnx) rfl ?_
      refine aw_iload_n dX7_startPeriod_48 rfl ?_
      refine aw_callV (As := [_]) (ρ := (_, 0, 0)) (kn' := (0, 0)) cv_X7_111 dX7_startPeriod_49 rfl rfl (hc25 hnx) rfl rfl (Nat.le_of_ble_eq_true rfl) (rmR _ _ _) ⟨Nat.le_refl _, Nat.le_refl _⟩ rfl (c_X3_clearFigures hnx hR (by omega) (fun hR => ?_))
      refine aw_aload_n dX7_startPeriod_52 rfl ?_
      refine aw_getf fg_X7_28 dX7_startPeriod_53 (hc9 hnx) rfl ?_
      refine aw_iload_n dX7_startPeriod_56 rfl ?_
      refine aw_iconst dX7_startPeriod_57 ?_
      refine aw_iload_n dX7_startPeriod_58 rfl ?_
      have z1 : cfS (prdF S k) k 8 14 ((k : Int) * 8 + 1) = 0 := by rw [cf_at, if_pos (by omega)]
      refine aw_callV (As := [_, _, _]) (ρ := (_, 0, 0)) (kn' := (0, 0)) cv_X7_115 dX7_startPeriod_59 rfl rfl (hc25 hnx) rfl rfl (Nat.le_of_ble_eq_true rfl) (rmR _ _ _) ⟨Nat.le_refl _, Nat.le_refl _⟩ rfl (c_X3_add hnx hR (by omega) (by rw [z1]; omega) (fun hR => ?_))
      refine aw_aload_n dX7_startPeriod_62 rfl ?_
      refine aw_getf fg_X7_28 dX7_startPeriod_63 (hc9 hnx) rfl ?_
      refine aw_iload_n dX7_startPeriod_66 rfl ?_
      refine aw_iconst dX7_startPeriod_67 ?_
      refine aw_iload_n dX7_startPeriod_68 rfl ?_
      have z2 : addS (cfS (prdF S k) k 8) k 1 (S 1 k) 14 ((k : Int) * 8 + 2) = 0 := by rw [add_at, if_neg (by omega), cf_at, if_pos (by omega)]
      refine aw_callV (As := [_, _, _]) (ρ := (_, 0, 0)) (kn' := (0, 0)) cv_X7_115 dX7_startPeriod_69 rfl rfl (hc25 hnx) rfl rfl (Nat.le_of_ble_eq_true rfl) (rmR _ _ _) ⟨Nat.le_refl _, Nat.le_refl _⟩ rfl (c_X3_add hnx hR (by omega) (by rw [z2]; omega) (fun hR => ?_))
      refine aw_aload_n dX7_startPeriod_72 rfl ?_
      refine aw_getf fg_X7_28 dX7_startPeriod_73 (hc9 hnx) rfl ?_
      refine aw_iload_n dX7_startPeriod_76 rfl ?_
      refine aw_iconst dX7_startPeriod_77 ?_
      refine aw_iload_n dX7_startPeriod_78 rfl ?_
      refine aw_aload_n dX7_startPeriod_79 rfl ?_
      refine aw_iload_n dX7_startPeriod_80 rfl ?_
      refine aw_iload_n dX7_startPeriod_81 rfl ?_
      refine aw_callV (As := [_, _]) (ρ := (_, 0, 0)) (kn' := (0, 0)) cv_X7_119 dX7_startPeriod_82 rfl rfl (hc9 hnx) rfl rfl (Nat.le_of_ble_eq_true rfl) (rmR _ _ _) ⟨Nat.le_refl _, Nat.le_refl _⟩ rfl (c_X7_partOut hnx (S := perA (prdF S k) k (S 1 k) (cr S k)) ⟨hR, hI.2.1, hI.2.2.1, hI.2.2.2⟩ (show 0 ≤ (k : Int) ∧ (k : Int) < S 26 0 by omega) ht hq (fun r82 h82 hR => ?_))
      have h82b : r82 = prt S k (S 1 k) (nIm S) := h82
      subst h82b
      refine aw_isub dX7_startPeriod_85 ?_
      refine aw_iload_n dX7_startPeriod_86 rfl ?_
      refine aw_iadd dX7_startPeriod_87 ?_
      have z3 : pr2S (perA (prdF S k) k (S 1 k) (cr S k)) k (S 1 k) (nIm S) 14 ((k : Int) * 8 + 3) = 0 := by rw [show ∀ j, pr2S (perA (prdF S k) k (S 1 k) (cr S k)) k (S 1 k) (nIm S) 14 j = perA (prdF S k) k (S 1 k) (cr S k) 14 j from fun _ => rfl, perA_at, if_neg (by omega), if_neg (by omega), if_pos (by omega)]
      refine aw_callV (As := [_, _, _]) (ρ := (_, 0, 0)) (kn' := (0, 0)) cv_X7_115 dX7_startPeriod_88 rfl rfl (hc25 hnx) rfl rfl (Nat.le_of_ble_eq_true rfl) (rmR _ _ _) ⟨Nat.le_refl _, Nat.le_refl _⟩ rfl (c_X3_add hnx hR (by omega) (by have z3 := z3; change inI (pr2S (perA (prdF S k) k (S 1 k) (cr S k)) k (S 1 k) (nIm S) 14 ((k : Int) * 8 + 3) + _); rw [z3]; omega) (fun hR => ?_))
      refine aw_iinc (ls' := [some (rf Γ 9), some _, some _, some _]) dX7_startPeriod_91 rfl (by decide) rfl ?_
      refine aw_hp (prd_s S k hk4).symm rfl rfl rfl rfl ?_
      refine aw_goto (tgt := 2) dX7_startPeriod_94 rfl ?_
      refine aw_fg [true, true, false, false] (ls' := [some (rf Γ 9), some _, none, none]) rfl ?_
      exact ih (by omega)   
    · skip
      refine aw_iconst dX7_startPeriod_24 ?_
      refine aw_goto (tgt := 33) dX7_startPeriod_25 rfl ?_
      first | refine aw_sv (a := cr S k) (by unfold cr; rw [if_pos c21]) ?_ | refine aw_sv (a := cr S k) (by rw [h30, prd_left S k hk4]; unfold cr; rw [if_neg c21]) ?_
      refine aw_istore_n (ls' := [some (rf Γ 9), some _, some _, none]) dX7_startPeriod_33 (by decide) rfl ?_
      refine aw_aload_n dX7_startPeriod_34 rfl ?_
      refine aw_getf fg_X7_12 dX7_startPeriod_35 (hc9 hnx) rfl ?_
      refine aw_getf fg_X7_108 dX7_startPeriod_38 (hc10 hnx) rfl ?_
      refine aw_iload_n dX7_startPeriod_41 rfl ?_
      refine aw_ialdr dX7_startPeriod_42 (hc12 hnx) (by omega) (by decide) (hR 1 (by decide)) (fun q42 => ?_)
      refine aw_sv (a := S 1 k) (rfl) ?_
      refine aw_nmI (fun x3_43 hx3_43 => ?_)
      refine aw_istore_n (ls' := [some (rf Γ 9), some _, some _, some _]) dX7_startPeriod_43 (by decide) rfl ?_
      subst hx3_43
      refine aw_aload_n dX7_startPeriod_44 rfl ?_
      refine aw_getf fg_X7_28 dX7_startPeriod_45 (hc9 hnx) rfl ?_
      refine aw_iload_n dX7_startPeriod_48 rfl ?_
      refine aw_callV (As := [_]) (ρ := (_, 0, 0)) (kn' := (0, 0)) cv_X7_111 dX7_startPeriod_49 rfl rfl (hc25 hnx) rfl rfl (Nat.le_of_ble_eq_true rfl) (rmR _ _ _) ⟨Nat.le_refl _, Nat.le_refl _⟩ rfl (c_X3_clearFigures hnx hR (by omega) (fun hR => ?_))
      refine aw_aload_n dX7_startPeriod_52 rfl ?_
      refine aw_getf fg_X7_28 dX7_startPeriod_53 (hc9 hnx) rfl ?_
      refine aw_iload_n dX7_startPeriod_56 rfl ?_
      refine aw_iconst dX7_startPeriod_57 ?_
      refine aw_iload_n dX7_startPeriod_58 rfl ?_
      have z1 : cfS (prdF S k) k 8 14 ((k : Int) * 8 + 1) = 0 := by rw [cf_at, if_pos (by omega)]
      refine aw_callV (As := [_, _, _]) (ρ := (_, 0, 0)) (kn' := (0, 0)) cv_X7_115 dX7_startPeriod_59 rfl rfl (hc25 hnx) rfl rfl (Nat.le_of_ble_eq_true rfl) (rmR _ _ _) ⟨Nat.le_refl _, Nat.le_refl _⟩ rfl (c_X3_add hnx hR (by omega) (by rw [z1]; omega) (fun hR => ?_))
      refine aw_aload_n dX7_startPeriod_62 rfl ?_
      refine aw_getf fg_X7_28 dX7_startPeriod_63 (hc9 hnx) rfl ?_
      refine aw_iload_n dX7_startPeriod_66 rfl ?_
      refine aw_iconst dX7_startPeriod_67 ?_
      refine aw_iload_n dX7_startPeriod_68 rfl ?_
      have z2 : addS (cfS (prdF S k) k 8) k 1 (S 1 k) 14 ((k : Int) * 8 + 2) = 0 := by rw [add_at, if_neg (by omega), cf_at, if_pos (by omega)]
      refine aw_callV (As := [_, _, _]) (ρ := (_, 0, 0)) (kn' := (0, 0)) cv_X7_115 dX7_startPeriod_69 rfl rfl (hc25 hnx) rfl rfl (Nat.le_of_ble_eq_true rfl) (rmR _ _ _) ⟨Nat.le_refl _, Nat.le_refl _⟩ rfl (c_X3_add hnx hR (by omega) (by rw [z2]; omega) (fun hR => ?_))
      refine aw_aload_n dX7_startPeriod_72 rfl ?_
      refine aw_getf fg_X7_28 dX7_startPeriod_73 (hc9 hnx) rfl ?_
      refine aw_iload_n dX7_startPeriod_76 rfl ?_
      refine aw_iconst dX7_startPeriod_77 ?_
      refine aw_iload_n dX7_startPeriod_78 rfl ?_
      refine aw_aload_n dX7_startPeriod_79 rfl ?_
      refine aw_iload_n dX7_startPeriod_80 rfl ?_
      refine aw_iload_n dX7_startPeriod_81 rfl ?_
      refine aw_callV (As := [_, _]) (ρ := (_, 0, 0)) (kn' := (0, 0)) cv_X7_119 dX7_startPeriod_82 rfl rfl (hc9 hnx) rfl rfl (Nat.le_of_ble_eq_true rfl) (rmR _ _ _) ⟨Nat.le_refl _, Nat.le_refl _⟩ rfl (c_X7_partOut hnx (S := perA (prdF S k) k (S 1 k) (cr S k)) ⟨hR, hI.2.1, hI.2.2.1, hI.2.2.2⟩ (show 0 ≤ (k : Int) ∧ (k : Int) < S 26 0 by omega) ht hq (fun r82 h82 hR => ?_))
      have h82b : r82 = prt S k (S 1 k) (nIm S) := h82
      subst h82b
      refine aw_isub dX7_startPeriod_85 ?_
      refine aw_iload_n dX7_startPeriod_86 rfl ?_
      refine aw_iadd dX7_startPeriod_87 ?_
      have z3 : pr2S (perA (prdF S k) k (S 1 k) (cr S k)) k (S 1 k) (nIm S) 14 ((k : Int) * 8 + 3) = 0 := by rw [show ∀ j, pr2S (perA (prdF S k) k (S 1 k) (cr S k)) k (S 1 k) (nIm S) 14 j = perA (prdF S k) k (S 1 k) (cr S k) 14 j from fun _ => rfl, perA_at, if_neg (by omega), if_neg (by omega), if_pos (by omega)]
      refine aw_callV (As := [_, _, _]) (ρ := (_, 0, 0)) (kn' := (0, 0)) cv_X7_115 dX7_startPeriod_88 rfl rfl (hc25 hnx) rfl rfl (Nat.le_of_ble_eq_true rfl) (rmR _ _ _) ⟨Nat.le_refl _, Nat.le_refl _⟩ rfl (c_X3_add hnx hR (by omega) (by have z3 := z3; change inI (pr2S (perA (prdF S k) k (S 1 k) (cr S k)) k (S 1 k) (nIm S) 14 ((k : Int) * 8 + 3) + _); rw [z3]; omega) (fun hR => ?_))
      refine aw_iinc (ls' := [some (rf Γ 9), some _, some _, some _]) dX7_startPeriod_91 rfl (by decide) rfl ?_
      refine aw_hp (prd_s S k hk4).symm rfl rfl rfl rfl ?_
      refine aw_goto (tgt := 2) dX7_startPeriod_94 rfl ?_
      refine aw_fg [true, true, false, false] (ls' := [some (rf Γ 9), some _, none, none]) rfl ?_
      exact ih (by omega)   


/-! a period begins -/
def srt (S : St) (p : Int) : Int := if S 0 5 ≤ yws S p then 1 else 0
abbrev inc (n : Nat) (o j : Int) : Prop := (0 ≤ j ∧ j < 4 * (n : Int)) ∧ j % 4 = o
def allP (S : St) (o : Int) (n : Nat) : Int := sm (fun i => if srt S (4 * i + o) = 1 then old S (4 * i + o) else 0) n
def shp (S : St) (o q j : Int) : Int := if srt S j = 1 then poa (S 0 0 * q / 100) (old S j) (allP S o (nIm S)) else 0
def prt (S : St) (o q : Int) (n : Nat) : Int := sm (fun i => shp S o q (4 * i + o)) n
def pr1S (S : St) (o : Int) (n : Nat) : St := fun f j => if f = 15 ∧ inc n o j then srt S j else if f = 18 ∧ inc n o j then 0 else S f j
def pr2S (S : St) (o q : Int) (n : Nat) : St := fun f j => if (f = 16 ∨ f = 17) ∧ inc n o j then shp S o q j else pr1S S o (nIm S) f j
theorem srt_in (S : St) (p : Int) : srt S p = 0 ∨ srt S p = 1 := by unfold srt; split <;> simp
theorem pr1_0 (S : St) (o : Int) : pr1S S o 0 = S := by
  funext f j; unfold pr1S; rw [if_neg (by omega), if_neg (by omega)]
theorem pr1_s (S : St) (o : Int) (k : Nat) {v : Int} (ho : 0 ≤ o ∧ o < 4) (hv : v = srt S (4 * (k : Int) + o)) : u1 (u1 (pr1S S o k) 15 (4 * (k : Int) + o) v) 18 (4 * (k : Int) + o) 0 = pr1S S o (k + 1) := by
  funext f j
  rw [u1_at, u1_at]; unfold pr1S
  by_cases hj : j = 4 * (k : Int) + o
  · subst hj
    by_cases h1 : f = 18
    · subst h1; rw [if_pos ⟨rfl, rfl⟩, if_neg (by omega), if_pos (by omega)]
    · rw [if_neg (by omega)]
      by_cases h2 : f = 15
      · subst h2; rw [if_pos ⟨rfl, rfl⟩, if_pos (by omega)]; exact hv
      · rw [if_neg (by omega), if_neg (by omega), if_neg (by omega), if_neg (by omega), if_neg (by omega)]
  · have e : inc (k + 1) o j ↔ inc k o j := by unfold inc; omega
    rw [if_neg (by omega), if_neg (by omega)]
    simp only [e]
theorem pr2_0 (S : St) (o q : Int) : pr2S S o q 0 = pr1S S o (nIm S) := by
  funext f j; unfold pr2S; rw [if_neg (by omega)]
theorem pr2_s (S : St) (o q : Int) (k : Nat) {v : Int} (ho : 0 ≤ o ∧ o < 4) (hv : v = shp S o q (4 * (k : Int) + o)) : u1 (u1 (pr2S S o q k) 16 (4 * (k : Int) + o) v) 17 (4 * (k : Int) + o) v = pr2S S o q (k + 1) := by
  funext f j
  rw [u1_at, u1_at]; unfold pr2S
  by_cases hj : j = 4 * (k : Int) + o
  · subst hj
    by_cases h1 : f = 17
    · subst h1; rw [if_pos ⟨rfl, rfl⟩, if_pos (by omega)]; exact hv
    · rw [if_neg (by omega)]
      by_cases h2 : f = 16
      · subst h2; rw [if_pos ⟨rfl, rfl⟩, if_pos (by omega)]; exact hv
      · rw [if_neg (by omega), if_neg (by omega), if_neg (by omega)]
  · have e : inc (k + 1) o j ↔ inc k o j := by unfold inc; omega
    rw [if_neg (by omega), if_neg (by omega)]
    simp only [e]
theorem poa_in {w b a : Int} (hw : 0 ≤ w) (hb : 0 ≤ b ∧ b ≤ a) : 0 ≤ poa w b a ∧ poa w b a ≤ w := by
  unfold poa; split
  · rename_i h
    have h1 : 0 ≤ w * b := Int.mul_nonneg hw hb.1
    have h2 : w * b ≤ w * a := Int.mul_le_mul_of_nonneg_left hb.2 hw
    exact ⟨Int.ediv_nonneg h1 (by omega), Int.ediv_le_of_le_mul h h2⟩
  · exact ⟨Int.le_refl _, hw⟩
theorem Inv0.allP {S : St} (h : Inv0 S) {o : Int} (ho : 0 ≤ o ∧ o < 4) (n : Nat) (hn : n ≤ 8) : 0 ≤ Jvm.Pilot.@@N@@.allP S o n ∧ Jvm.Pilot.@@N@@.allP S o n ≤ 1228787712 := by
  have h1 := sm_rg (f := fun i => if srt S (4 * i + o) = 1 then Jvm.Pilot.@@N@@.old S (4 * i + o) else 0) (B := 153598464) n (fun k hk => by
    have h2 := h.old (p := 4 * (k : Int) + o) (by omega)
    split <;> omega)
  unfold Jvm.Pilot.@@N@@.allP; omega
theorem Inv0.shp {S : St} (h : Inv0 S) {o q j : Int} (ho : 0 ≤ o ∧ o < 4) (hj : inc (nIm S) o j) (ht : 0 ≤ S 0 0 ∧ S 0 0 ≤ 100) (hq : 0 ≤ q ∧ q ≤ 99999) : 0 ≤ Jvm.Pilot.@@N@@.shp S o q j ∧ Jvm.Pilot.@@N@@.shp S o q j ≤ q := by
  have hm := mul_rg ht hq
  have hm2 : S 0 0 * q ≤ 100 * q := Int.mul_le_mul_of_nonneg_right ht.2 hq.1
  unfold Jvm.Pilot.@@N@@.shp; split
  · rename_i e
    have h27 := h.2.2.1
    have hk : nIm S = (S 27 0).toNat := rfl
    unfold inc at hj
    have h1 := sm_one (f := fun i => if srt S (4 * i + o) = 1 then Jvm.Pilot.@@N@@.old S (4 * i + o) else 0) (nIm S) (fun k hk => by
      have h2 := h.old (p := 4 * (k : Int) + o) (by omega)
      split <;> omega) (j / 4).toNat (by omega)
    have ej : 4 * (((j / 4).toNat : Nat) : Int) + o = j := by omega
    simp only [ej, e, if_true] at h1
    have h3 := h.old (p := j) (by omega)
    have h4 := poa_in (w := S 0 0 * q / 100) (b := Jvm.Pilot.@@N@@.old S j) (a := Jvm.Pilot.@@N@@.allP S o (nIm S)) (by omega) ⟨h3.1, h1⟩
    omega
  · omega
theorem pr1_in {S : St} (hR : Rg S) (o : Int) (n : Nat) : Rg (pr1S S o n) := by
  intro f hf j
  unfold pr1S
  have := srt_in S j
  split
  · omega
  · split
    · omega
    · exact hR f hf j
theorem pr2_in {S : St} (h : Inv0 S) {o q : Int} (ho : 0 ≤ o ∧ o < 4) (ht : 0 ≤ S 0 0 ∧ S 0 0 ≤ 100) (hq : 0 ≤ q ∧ q ≤ 99999) {n : Nat} (hn : n ≤ nIm S) : Rg (pr2S S o q n) := by
  intro f hf j
  unfold pr2S
  split
  · rename_i e
    have := h.shp (q := q) (j := j) ho (by have := e.2; unfold inc at *; omega) ht hq
    omega
  · exact pr1_in h.1 o _ f hf j
theorem pr2_z {S : St} (h : Inv0 S) {o q : Int} (ho : 0 ≤ o ∧ o < 4) (ht : 0 ≤ S 0 0 ∧ S 0 0 ≤ 100) (hq : 0 ≤ q ∧ q ≤ 99999) {n : Nat} (hn : n ≤ nIm S) : Inv0 (pr2S S o q n) := ⟨pr2_in h ho ht hq hn, h.2.1, h.2.2.1, h.2.2.2⟩
theorem shr_pr2 {S : St} {o q i : Int} {n : Nat} (ho : 0 ≤ o ∧ o < 4) (hi : 0 ≤ i ∧ i < (nIm S : Int)) : shr (pr2S S o q n) i o (S 0 0) q = shp S o q (4 * i + o) := by
  have e15 : ∀ k : Int, 0 ≤ k → k < (nIm S : Int) → pr2S S o q n 15 (4 * k + o) = srt S (4 * k + o) := by
    intro k h0 h1
    unfold pr2S; rw [if_neg (by omega)]; unfold pr1S; rw [if_pos (by unfold inc; omega)]
  have ea : allT (pr2S S o q n) o (nIm S) = allP S o (nIm S) := by
    unfold allT allP
    refine sm_congr _ (fun k hk => ?_)
    rw [e15 k (by omega) (by omega)]; rfl
  unfold shr shp
  rw [e15 i hi.1 hi.2]
  show (if _ then poa _ (old S (4 * i + o)) (allT (pr2S S o q n) o (nIm S)) else 0) = _
  rw [ea]

set_option maxHeartbeats 1000000 in
theorem c_X7_partOut {Γ : GT} {S T U V : St} {G : Gw} {nx d : Nat} {Q : QT} (hnx : 52 ≤ nx) {j q : Int} (hI : Inv0 S) (hj : 0 ≤ j ∧ j < S 26 0) (ht : 0 ≤ S 0 0 ∧ S 0 0 ≤ 100) (hq : 0 ≤ q ∧ q ≤ 99999) (hQ : ∀ r, r = prt S j q (nIm S) → Rg (pr2S S j q (nIm S)) → Q (some (vi r)) (hp Γ (pr2S S j q (nIm S)) T U V G) nx) : AM Γ MX7_partOut (d + 4, 0, 0) [rf Γ 9, vi j, vi q] (hp Γ S T U V G) nx Q := by
  refine am_of (by decide) (Nat.le_of_ble_eq_true rfl) (ls := [some (rf Γ 9), some _, some _, none, none, none, none]) rfl ?_
  have hR := hI.1
  have i1 := hI.2.1
  have i2 := hI.2.2.1
  have hkS : nS S = (S 28 0).toNat := rfl
  have hkI : nIm S = (S 27 0).toNat := rfl
  have hkO : nOr S = (S 26 0).toNat := rfl
  have hR0 := hR
  have hj4 : 0 ≤ j ∧ j < 4 := by omega
  have r5 := hR 0 (by decide) 5
  refine aw_iconst dX7_partOut_0 ?_
  refine aw_istore_n (ls' := [some (rf Γ 9), some _, some _, some _, none, none, none]) dX7_partOut_1 (by decide) rfl ?_
  refine aw_hp (S' := pr1S S j 0) (pr1_0 S j) rfl rfl rfl rfl ?_
  refine loopN (nIm S) (P := fun k =>  AW Γ MX7_partOut _ _ (0, 0) 2 [some (rf Γ 9), some (vi j), some (vi q), some (vi (k : Int)), none, none, none] [] (hp Γ (pr1S S j k) T U V G) nx) (fun k hk ih => ?_) 0 (Nat.zero_le _) 
  refine aw_iload_n dX7_partOut_2 rfl ?_
  replace hR := pr1_in hR0 j k
  refine aw_aload_n dX7_partOut_3 rfl ?_
  refine aw_getf fg_X7_12 dX7_partOut_4 (hc9 hnx) rfl ?_
  refine aw_getf fg_X7_94 dX7_partOut_7 (hc10 hnx) rfl ?_
  refine aw_sv (a := S 27 0) (rfl) ?_
  refine aw_icmp_ge (tgt := 73) dX7_partOut_10 rfl (by omega) (fun c10 => ?_) (fun c10 => ?_)
  · skip
    obtain rfl : k = nIm S := by omega
    refine aw_iconst dX7_partOut_73 ?_
    refine aw_istore_n (ls' := [some (rf Γ 9), some _, some _, some _, none, none, none]) dX7_partOut_74 (by decide) rfl ?_
    refine aw_iconst dX7_partOut_75 ?_
    refine aw_istore (ls' := [some (rf Γ 9), some _, some _, some _, some _, none, none]) dX7_partOut_76 (by decide) rfl ?_
    refine aw_hp (S' := pr2S S j q 0) (pr2_0 S j q) rfl rfl rfl rfl ?_
    refine loopN (nIm S) (P := fun k => ∀ (x : Int) , x = prt S j q k →  AW Γ MX7_partOut _ _ (0, 0) 78 [some (rf Γ 9), some (vi j), some (vi q), some (vi x), some (vi (k : Int)), none, none] [] (hp Γ (pr2S S j q k) T U V G) nx) (fun k hk ih => ?_) 0 (Nat.zero_le _) _ rfl
    intro x i78_0
    refine aw_iload dX7_partOut_78 rfl ?_
    replace hR := pr2_in hI hj4 ht hq hk
    have hz2 := pr2_z hI hj4 ht hq hk
    refine aw_aload_n dX7_partOut_80 rfl ?_
    refine aw_getf fg_X7_12 dX7_partOut_81 (hc9 hnx) rfl ?_
    refine aw_getf fg_X7_94 dX7_partOut_84 (hc10 hnx) rfl ?_
    refine aw_sv (a := S 27 0) (rfl) ?_
    refine aw_icmp_ge (tgt := 152) dX7_partOut_87 rfl (by omega) (fun c87 => ?_) (fun c87 => ?_)
    · skip
      obtain rfl : k = nIm S := by omega
      refine aw_iload_n dX7_partOut_152 rfl ?_
      exact aw_ireturn dX7_partOut_153 rfl rfl ⟨Nat.le_refl _, Nat.le_refl _⟩ (hQ _ i78_0 hR)
    · skip
      refine aw_iload dX7_partOut_90 rfl ?_
      refine aw_iload_n dX7_partOut_92 rfl ?_
      refine aw_callSN (As := [_, _]) (ρ := (_, 0, 0)) (kn' := (0, 0)) cs_X7_123 dX7_partOut_93 rfl rfl (Nat.le_of_ble_eq_true rfl) (rmR _ _ _) ⟨Nat.le_refl _, Nat.le_refl _⟩ rfl (c_X10_pairOf hnx  (fun r93 h93 => ?_))
      subst h93
      refine aw_istore (ls' := [some (rf Γ 9), some _, some _, some _, some _, some _, none]) dX7_partOut_96 (by decide) rfl ?_
      refine aw_aload_n dX7_partOut_98 rfl ?_
      refine aw_iload dX7_partOut_99 rfl ?_
      refine aw_iload_n dX7_partOut_101 rfl ?_
      refine aw_aload_n dX7_partOut_102 rfl ?_
      refine aw_getf fg_X7_12 dX7_partOut_103 (hc9 hnx) rfl ?_
      refine aw_getf fg_X7_132 dX7_partOut_106 (hc10 hnx) rfl ?_
      refine aw_iconst dX7_partOut_109 ?_
      refine aw_ialdr dX7_partOut_110 (hc11 hnx) (by omega) (by decide) (hR 0 (by decide)) (fun q110 => ?_)
      refine aw_sv (a := S 0 0) (rfl) ?_
      refine aw_iload_n dX7_partOut_111 rfl ?_
      refine aw_callV (As := [_, _, _, _]) (ρ := (_, 0, 0)) (kn' := (0, 0)) cv_X7_138 dX7_partOut_112 rfl rfl (hc9 hnx) rfl rfl (Nat.le_of_ble_eq_true rfl) (rmR _ _ _) ⟨Nat.le_refl _, Nat.le_refl _⟩ rfl (c_X7_shareBy hnx hz2 (show 0 ≤ (k : Int) ∧ (k : Int) < S 27 0 by omega) (show 0 ≤ j ∧ j < S 26 0 from hj) ⟨ht, hq⟩ (fun r112 h112 => ?_))
      rw [shr_pr2 hj4 ⟨by omega, by omega⟩] at h112
      have sh := hI.shp (q := q) (j := 4 * (k : Int) + j) hj4 (by unfold inc; omega) ht hq
      refine aw_istore (ls' := [some (rf Γ 9), some _, some _, some _, some _, some _, some _]) dX7_partOut_115 (by decide) rfl ?_
      refine aw_aload_n dX7_partOut_117 rfl ?_
      refine aw_getf fg_X7_28 dX7_partOut_118 (hc9 hnx) rfl ?_
      refine aw_getf fg_X7_142 dX7_partOut_121 (hc25 hnx) rfl ?_
      refine aw_iload dX7_partOut_124 rfl ?_
      refine aw_iload dX7_partOut_126 rfl ?_
      refine aw_iastS dX7_partOut_128 (hc28 hnx) (by omega) (by decide) hR (by omega) (fun _ => hu28) (fun hR => ?_)
      refine aw_aload_n dX7_partOut_129 rfl ?_
      refine aw_getf fg_X7_28 dX7_partOut_130 (hc9 hnx) rfl ?_
      refine aw_getf fg_X7_145 dX7_partOut_133 (hc25 hnx) rfl ?_
      refine aw_iload dX7_partOut_136 rfl ?_
      refine aw_iload dX7_partOut_138 rfl ?_
      refine aw_iastS dX7_partOut_140 (hc29 hnx) (by omega) (by decide) hR (by omega) (fun _ => hu29) (fun hR => ?_)
      refine aw_iload_n dX7_partOut_141 rfl ?_
      refine aw_iload dX7_partOut_142 rfl ?_
      refine aw_iadd dX7_partOut_144 ?_
      refine aw_nmI (fun x3_145 hx3_145 => ?_)
      refine aw_istore_n (ls' := [some (rf Γ 9), some _, some _, some _, some _, some _, some _]) dX7_partOut_145 (by decide) rfl ?_
      refine aw_iinc (ls' := [some (rf Γ 9), some _, some _, some _, some _, some _, some _]) dX7_partOut_146 rfl (by decide) rfl ?_
      rw [pr2_s S j q k hj4 h112]
      refine aw_goto (tgt := 78) dX7_partOut_149 rfl ?_
      refine aw_fg [true, true, true, true, true, false, false] (ls' := [some (rf Γ 9), some _, some _, some _, some _, none, none]) rfl ?_
      exact ih (by omega) x3_145  (by subst i78_0; subst hx3_145; subst h112; rfl)
  · skip
    refine aw_iload_n dX7_partOut_13 rfl ?_
    refine aw_iload_n dX7_partOut_14 rfl ?_
    refine aw_callSN (As := [_, _]) (ρ := (_, 0, 0)) (kn' := (0, 0)) cs_X7_123 dX7_partOut_15 rfl rfl (Nat.le_of_ble_eq_true rfl) (rmR _ _ _) ⟨Nat.le_refl _, Nat.le_refl _⟩ rfl (c_X10_pairOf hnx  (fun r15 h15 => ?_))
    subst h15
    refine aw_istore (ls' := [some (rf Γ 9), some _, some _, some _, some _, none, none]) dX7_partOut_18 (by decide) rfl ?_
    refine aw_aload_n dX7_partOut_20 rfl ?_
    refine aw_getf fg_X7_28 dX7_partOut_21 (hc9 hnx) rfl ?_
    refine aw_getf fg_X7_126 dX7_partOut_24 (hc25 hnx) rfl ?_
    refine aw_iload dX7_partOut_27 rfl ?_
    refine aw_aload_n dX7_partOut_29 rfl ?_
    refine aw_getf fg_X7_12 dX7_partOut_30 (hc9 hnx) rfl ?_
    refine aw_iload dX7_partOut_33 rfl ?_
    refine aw_callV (As := [_]) (ρ := (_, 0, 0)) (kn' := (0, 0)) cv_X7_129 dX7_partOut_35 rfl rfl (hc10 hnx) rfl rfl (Nat.le_of_ble_eq_true rfl) (rmR _ _ _) ⟨Nat.le_refl _, Nat.le_refl _⟩ rfl (c_X5_yearsWithSome hnx hR (by omega) (fun r35 h35 => ?_))
    subst h35
    refine aw_sv (a := yws S (4 * (k : Int) + j)) (rfl) ?_
    have yw : 0 ≤ yws S (4 * (k : Int) + j) ∧ yws S (4 * (k : Int) + j) ≤ 3 := by unfold yws b1; (repeat' split) <;> omega
    refine aw_aload_n dX7_partOut_38 rfl ?_
    refine aw_getf fg_X7_12 dX7_partOut_39 (hc9 hnx) rfl ?_
    refine aw_getf fg_X7_132 dX7_partOut_42 (hc10 hnx) rfl ?_
    refine aw_iconst dX7_partOut_45 ?_
    refine aw_ialdr dX7_partOut_46 (hc11 hnx) (by omega) (by decide) (hR 0 (by decide)) (fun q46 => ?_)
    refine aw_sv (a := S 0 5) (rfl) ?_
    refine aw_icmp_lt (tgt := 54) dX7_partOut_47 rfl (by omega) (fun c47 => ?_) (fun c47 => ?_)
    · skip
      refine aw_iconst dX7_partOut_54 ?_
      refine aw_iastS dX7_partOut_55 (hc27 hnx) (by omega) (by decide) hR (by omega) (fun _ => hu27) (fun hR => ?_)
      refine aw_aload_n dX7_partOut_56 rfl ?_
      refine aw_getf fg_X7_28 dX7_partOut_57 (hc9 hnx) rfl ?_
      refine aw_getf fg_X7_135 dX7_partOut_60 (hc25 hnx) rfl ?_
      refine aw_iload dX7_partOut_63 rfl ?_
      refine aw_iconst dX7_partOut_65 ?_
      refine aw_iastS dX7_partOut_66 (hc30 hnx) (by omega) (by decide) hR (by omega) (fun _ => hu30) (fun hR => ?_)
      refine aw_iinc (ls' := [some (rf Γ 9), some _, some _, some _, some _, none, none]) dX7_partOut_67 rfl (by decide) rfl ?_
      first | rw [pr1_s S j k (v := 1) hj4 (by unfold srt; rw [if_pos (by omega)])] | rw [pr1_s S j k (v := 0) hj4 (by unfold srt; rw [if_neg (by omega)])]
      refine aw_goto (tgt := 2) dX7_partOut_70 rfl ?_
      refine aw_fg [true, true, true, true, false, true, true] (ls' := [some (rf Γ 9), some _, some _, some _, none, none, none]) rfl ?_
      exact ih (by omega)   
    · skip
      refine aw_iconst dX7_partOut_50 ?_
      refine aw_goto (tgt := 55) dX7_partOut_51 rfl ?_
      refine aw_iastS dX7_partOut_55 (hc27 hnx) (by omega) (by decide) hR (by omega) (fun _ => hu27) (fun hR => ?_)
      refine aw_aload_n dX7_partOut_56 rfl ?_
      refine aw_getf fg_X7_28 dX7_partOut_57 (hc9 hnx) rfl ?_
      refine aw_getf fg_X7_135 dX7_partOut_60 (hc25 hnx) rfl ?_
      refine aw_iload dX7_partOut_63 rfl ?_
      refine aw_iconst dX7_partOut_65 ?_
      refine aw_iastS dX7_partOut_66 (hc30 hnx) (by omega) (by decide) hR (by omega) (fun _ => hu30) (fun hR => ?_)
      refine aw_iinc (ls' := [some (rf Γ 9), some _, some _, some _, some _, none, none]) dX7_partOut_67 rfl (by decide) rfl ?_
      first | rw [pr1_s S j k (v := 1) hj4 (by unfold srt; rw [if_pos (by omega)])] | rw [pr1_s S j k (v := 0) hj4 (by unfold srt; rw [if_neg (by omega)])]
      refine aw_goto (tgt := 2) dX7_partOut_70 rfl ?_
      refine aw_fg [true, true, true, true, false, true, true] (ls' := [some (rf Γ 9), some _, some _, some _, none, none, none]) rfl ?_
      exact ih (by omega)   


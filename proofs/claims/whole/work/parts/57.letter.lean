/-! the whole text -/
def trmL (S : St) : Nat → List Int
  | 0 => []
  | k + 1 => trmL S k ++ txN (S 0 k)
def orgL (S : St) : Nat → List Int
  | 0 => []
  | k + 1 => orgL S k ++ (sB 5 ++ txN (S 1 k))
def impL : Nat → List Int
  | 0 => []
  | k + 1 => impL k ++ sB 6
def pst0 (S : St) (i o : Int) : List Int := sB 7 ++ txN i ++ txN o ++ txN (S 2 ((4 * i + o) * 3 + 2)) ++ txN (S 2 ((4 * i + o) * 3 + 1)) ++ txN (S 2 ((4 * i + o) * 3 + 0))
def pstL (S : St) (i o : Int) : List Int := if yws S (4 * i + o) = 0 then [] else pst0 S i o
def rowL (S : St) (i : Int) : Nat → List Int
  | 0 => []
  | k + 1 => rowL S i k ++ pstL S i k
def allL (S : St) : Nat → List Int
  | 0 => []
  | k + 1 => allL S k ++ rowL S k (nOr S)
def texL (S : St) : List Int := if S 26 0 = 0 then [] else sB 4 ++ trmL S 6 ++ orgL S (nOr S) ++ impL (nIm S) ++ allL S (nIm S)
theorem trmL_len (S : St) : ∀ k : Nat, (trmL S k).length ≤ 11 * k
  | 0 => by simp [trmL]
  | k + 1 => by have := trmL_len S k; have := txN_len (S 0 k); rw [trmL, List.length_append]; omega
theorem orgL_len (S : St) : ∀ k : Nat, (orgL S k).length ≤ 18 * k
  | 0 => by simp [orgL]
  | k + 1 => by
    have := orgL_len S k; have := txN_len (S 1 k); have : (sB 5).length = 7 := by decide
    rw [orgL, List.length_append, List.length_append]; omega
theorem impL_len : ∀ k : Nat, (impL k).length ≤ 9 * k
  | 0 => by simp [impL]
  | k + 1 => by have := impL_len k; have : (sB 6).length = 9 := by decide
                rw [impL, List.length_append]; omega
theorem pstL_len (S : St) (i o : Int) : (pstL S i o).length ≤ 60 := by
  have := txN_len i; have := txN_len o; have := txN_len (S 2 ((4 * i + o) * 3 + 2)); have := txN_len (S 2 ((4 * i + o) * 3 + 1)); have := txN_len (S 2 ((4 * i + o) * 3 + 0))
  have : (sB 7).length = 5 := by decide
  unfold pstL pst0; split
  · simp
  · simp only [List.length_append]; omega
theorem rowL_len (S : St) (i : Int) : ∀ k : Nat, (rowL S i k).length ≤ 60 * k
  | 0 => by simp [rowL]
  | k + 1 => by have := rowL_len S i k; have := pstL_len S i k; rw [rowL, List.length_append]; omega
theorem allL_len (S : St) (h : nOr S ≤ 4) : ∀ k : Nat, (allL S k).length ≤ 240 * k
  | 0 => by simp [allL]
  | k + 1 => by have := allL_len S h k; have := rowL_len S k (nOr S); rw [allL, List.length_append]; omega
theorem yws_in (S : St) (p : Int) : 0 ≤ yws S p ∧ yws S p ≤ 3 := by unfold yws b1; (repeat' split) <;> omega
def pyL (S : St) (i o : Int) (ws : List Int) : Nat → List Int
  | 0 => ws
  | k + 1 => pyL S i o ws k ++ txN (S 2 ((4 * i + o) * 3 + (2 - (k : Int))))
theorem pyL_len (S : St) (i o : Int) (ws : List Int) : ∀ k : Nat, (pyL S i o ws k).length ≤ ws.length + 11 * k
  | 0 => by simp [pyL]
  | k + 1 => by have := pyL_len S i o ws k; have := txN_len (S 2 ((4 * i + o) * 3 + (2 - (k : Int)))); rw [pyL, List.length_append]; omega

set_option maxHeartbeats 1000000 in
theorem c_X6_putPast {Γ : GT} {S T U V : St} {G : Gw} {nx d : Nat} {Q : QT} (hnx : 52 ≤ nx) {i j q : Int} {ws : List Int} {c : Int} (hI : Inv c S) (hi : 0 ≤ i ∧ i < S 27 0) (hj : 0 ≤ j ∧ j < S 26 0) (hl : ws.length ≤ 80000) (hq : inI q) (hQ : Q none (hp Γ S T (spw U q (ws ++ pstL S i j)) V G) nx) : AM Γ MX6_putPast (d + 5, 0, 0) [rf Γ 8, rf Γ 10, vi i, vi j] (hp Γ S T (spw U q ws) V G) nx Q := by
  refine am_of (by decide) (Nat.le_of_ble_eq_true rfl) (ls := [some (rf Γ 8), some (rf Γ 10), some _, some _, none, none]) rfl ?_
  have hR := hI.R
  have i1 := hI.i1
  have hz : 0 ≤ S 28 0 ∧ S 28 0 ≤ 60 := i1.2.2.1
  have hkS : nS S = (S 28 0).toNat := rfl
  have hkI : nIm S = (S 27 0).toNat := rfl
  have hkO : nOr S = (S 26 0).toNat := rfl
  have yw := yws_in S (4 * i + j)
  have t1 := txN_len i
  have t2 := txN_len j
  have hs7 : (sB 7).length = 5 := by decide
  refine aw_iload_n dX6_putPast_0 rfl ?_
  refine aw_iload_n dX6_putPast_1 rfl ?_
  refine aw_callSN (As := [_, _]) (ρ := (_, 0, 0)) (kn' := (0, 0)) cs_X6_54 dX6_putPast_2 rfl rfl (Nat.le_of_ble_eq_true rfl) (rmR _ _ _) ⟨Nat.le_refl _, Nat.le_refl _⟩ rfl (c_X10_pairOf hnx  (fun r2 h2 => ?_))
  subst h2
  refine aw_istore (ls' := [some (rf Γ 8), some (rf Γ 10), some _, some _, some _, none]) dX6_putPast_5 (by decide) rfl ?_
  refine aw_aload_n dX6_putPast_7 rfl ?_
  refine aw_iload dX6_putPast_8 rfl ?_
  refine aw_callV (As := [_]) (ρ := (_, 0, 0)) (kn' := (0, 0)) cv_X6_58 dX6_putPast_10 rfl rfl (hc10 hnx) rfl rfl (Nat.le_of_ble_eq_true rfl) (rmR _ _ _) ⟨Nat.le_refl _, Nat.le_refl _⟩ rfl (c_X5_yearsWithSome hnx hR (by omega) (fun r10 h10 => ?_))
  subst h10
  refine aw_if_ne (tgt := 17) dX6_putPast_13 rfl (by omega) (fun c13 => ?_) (fun c13 => ?_)
  · skip
    refine aw_aload_n dX6_putPast_17 rfl ?_
    refine aw_ldcS dX6_putPast_18 7 rfl rfl rfl ?_
    refine aw_callV (As := [_]) (ρ := (_, 0, 0)) (kn' := (0, 0)) cv_X6_28 dX6_putPast_20 rfl rfl (hc8 hnx) rfl rfl (Nat.le_of_ble_eq_true rfl) (rmR _ _ _) ⟨Nat.le_refl _, Nat.le_refl _⟩ rfl (c_X6_putWord hnx (i := 7) (by decide) (by omega) hq ?_)
    refine aw_aload_n dX6_putPast_23 rfl ?_
    refine aw_iload_n dX6_putPast_24 rfl ?_
    refine aw_callV (As := [_]) (ρ := (_, 0, 0)) (kn' := (0, 0)) cv_X6_36 dX6_putPast_25 rfl rfl (hc8 hnx) rfl rfl (Nat.le_of_ble_eq_true rfl) (rmR _ _ _) ⟨Nat.le_refl _, Nat.le_refl _⟩ rfl (c_X6_putNumber hnx (by omega) (by simp only [List.length_append]; omega) hq ?_)
    refine aw_aload_n dX6_putPast_28 rfl ?_
    refine aw_iload_n dX6_putPast_29 rfl ?_
    refine aw_callV (As := [_]) (ρ := (_, 0, 0)) (kn' := (0, 0)) cv_X6_36 dX6_putPast_30 rfl rfl (hc8 hnx) rfl rfl (Nat.le_of_ble_eq_true rfl) (rmR _ _ _) ⟨Nat.le_refl _, Nat.le_refl _⟩ rfl (c_X6_putNumber hnx (by omega) (by simp only [List.length_append]; omega) hq ?_)
    refine aw_iconst dX6_putPast_33 ?_
    refine aw_istore (ls' := [some (rf Γ 8), some (rf Γ 10), some _, some _, some _, some _]) dX6_putPast_34 (by decide) rfl ?_
    refine aw_hp (U' := spw U q (pyL S i j (ws ++ sB 7 ++ txN i ++ txN j) 0)) rfl rfl rfl rfl rfl ?_
    refine loopN (3) (P := fun k =>  AW Γ MX6_putPast _ _ (0, 0) 36 [some (rf Γ 8), some (rf Γ 10), some (vi i), some (vi j), some (vi (4 * i + j)), some (vi (2 - (k : Int)))] [] (hp Γ S T (spw U q (pyL S i j (ws ++ sB 7 ++ txN i ++ txN j) k)) V G) nx) (fun k hk ih => ?_) 0 (Nat.zero_le _) 
    refine aw_iload dX6_putPast_36 rfl ?_
    refine aw_if_lt (tgt := 59) dX6_putPast_38 rfl (by omega) (fun c38 => ?_) (fun c38 => ?_)
    · skip
      obtain rfl : k = 3 := by omega
      rw [show ws ++ pstL S i j = pyL S i j (ws ++ sB 7 ++ txN i ++ txN j) 3 by unfold pstL pst0; rw [if_neg (by omega)]; simp only [pyL, List.append_assoc]; rfl] at hQ
      exact aw_return dX6_putPast_59 rfl ⟨Nat.le_refl _, Nat.le_refl _⟩ hQ
    · skip
      refine aw_aload_n dX6_putPast_41 rfl ?_
      refine aw_aload_n dX6_putPast_42 rfl ?_
      refine aw_iload dX6_putPast_43 rfl ?_
      refine aw_iload dX6_putPast_45 rfl ?_
      refine aw_callV (As := [_, _]) (ρ := (_, 0, 0)) (kn' := (0, 0)) cv_X6_64 dX6_putPast_47 rfl rfl (hc10 hnx) rfl rfl (Nat.le_of_ble_eq_true rfl) (rmR _ _ _) ⟨Nat.le_refl _, Nat.le_refl _⟩ rfl (c_X5_inYear hnx hR (by omega) (by omega) (fun r47 h47 => ?_))
      have ps := hI.ps (k := (4 * i + j) * 3 + (2 - (k : Int))) (by omega)
      refine aw_callV (As := [_]) (ρ := (_, 0, 0)) (kn' := (0, 0)) cv_X6_36 dX6_putPast_50 rfl rfl (hc8 hnx) rfl rfl (Nat.le_of_ble_eq_true rfl) (rmR _ _ _) ⟨Nat.le_refl _, Nat.le_refl _⟩ rfl (c_X6_putNumber hnx (by omega) (by have := pyL_len S i j (ws ++ sB 7 ++ txN i ++ txN j) k; simp only [List.length_append] at this; omega) hq ?_)
      subst h47
      refine aw_hp (U' := spw U q (pyL S i j (ws ++ sB 7 ++ txN i ++ txN j) (k + 1))) rfl rfl rfl rfl rfl ?_
      refine aw_iinc (ls' := [some (rf Γ 8), some (rf Γ 10), some _, some _, some _, some _]) dX6_putPast_53 rfl (by decide) rfl ?_
      refine aw_goto (tgt := 36) dX6_putPast_56 rfl ?_
      exact aw_ls2 (by rw [show 2 - (k : Int) + -1 = 2 - ((k + 1 : Nat) : Int) by omega]) (ih (by omega))
  · skip
    rw [show pstL S i j = [] by unfold pstL; rw [if_pos (by omega)], List.append_nil] at hQ
    exact aw_return dX6_putPast_16 rfl ⟨Nat.le_refl _, Nat.le_refl _⟩ hQ

set_option maxHeartbeats 1000000 in
theorem c_X6_spell {Γ : GT} {S T U V : St} {G : Gw} {nx d : Nat} {Q : QT} (hnx : 52 ≤ nx) {q : Int} {c : Int} (hI : Inv c S) (hq : inI q) (hQ : Q none (hp Γ S T (spw U q (texL S)) V G) nx) : AM Γ MX6_spell (d + 6, 0, 0) [rf Γ 8, rf Γ 10, vi q] (hp Γ S T U V G) nx Q := by
  refine am_of (by decide) (Nat.le_of_ble_eq_true rfl) (ls := [some (rf Γ 8), some (rf Γ 10), some _, none, none]) rfl ?_
  have hR := hI.R
  have i1 := hI.i1
  have hz : 0 ≤ S 28 0 ∧ S 28 0 ≤ 60 := i1.2.2.1
  have hkS : nS S = (S 28 0).toNat := rfl
  have hkI : nIm S = (S 27 0).toNat := rfl
  have hkO : nOr S = (S 26 0).toNat := rfl
  have r26 := hR 26 (by decide) 0
  have hs4 : (sB 4).length = 6 := by decide
  have hs5 : (sB 5).length = 7 := by decide
  have hs6 : (sB 6).length = 9 := by decide
  have l1 := trmL_len S 6
  have l2 := orgL_len S (nOr S)
  have l3 := impL_len (nIm S)
  refine aw_aload_n dX6_spell_0 rfl ?_
  refine aw_iconst dX6_spell_1 ?_
  refine aw_putU fp_X6_9 dX6_spell_2 (hc8 hnx) (Nat.le_of_ble_eq_true rfl) hu8_13 ?_
  refine aw_aload_n dX6_spell_5 rfl ?_
  refine aw_iconst dX6_spell_6 ?_
  refine aw_putU fp_X6_15 dX6_spell_7 (hc8 hnx) (Nat.le_of_ble_eq_true rfl) hu8_14 ?_
  refine aw_aload_n dX6_spell_10 rfl ?_
  refine aw_iload_n dX6_spell_11 rfl ?_
  refine aw_putU fp_X6_18 dX6_spell_12 (hc8 hnx) (Nat.le_of_ble_eq_true rfl) hu8_15 ?_
  refine aw_hp (U' := spw U q []) rfl rfl (spw_0 U q) rfl rfl ?_
  refine aw_aload_n dX6_spell_15 rfl ?_
  refine aw_getf fg_X6_21 dX6_spell_16 (hc10 hnx) rfl ?_
  refine aw_if_ne (tgt := 23) dX6_spell_19 rfl (by omega) (fun c19 => ?_) (fun c19 => ?_)
  · skip
    refine aw_aload_n dX6_spell_23 rfl ?_
    refine aw_ldcS dX6_spell_24 4 rfl rfl rfl ?_
    refine aw_callV (As := [_]) (ρ := (_, 0, 0)) (kn' := (0, 0)) cv_X6_28 dX6_spell_26 rfl rfl (hc8 hnx) rfl rfl (Nat.le_of_ble_eq_true rfl) (rmR _ _ _) ⟨Nat.le_refl _, Nat.le_refl _⟩ rfl (c_X6_putWord hnx (i := 4) (by decide) (by simp) hq ?_)
    refine aw_hp (U' := spw U q (sB 4 ++ trmL S 0)) rfl rfl (by rw [trmL, List.append_nil, List.nil_append]) rfl rfl ?_
    refine aw_iconst dX6_spell_29 ?_
    refine aw_istore_n (ls' := [some (rf Γ 8), some (rf Γ 10), some _, some _, none]) dX6_spell_30 (by decide) rfl ?_
    refine loopN (6) (P := fun k =>  AW Γ MX6_spell _ _ (0, 0) 31 [some (rf Γ 8), some (rf Γ 10), some (vi q), some (vi (k : Int)), none] [] (hp Γ S T (spw U q (sB 4 ++ trmL S k)) V G) nx) (fun k hk ih => ?_) 0 (Nat.zero_le _) 
    refine aw_iload_n dX6_spell_31 rfl ?_
    refine aw_iconst dX6_spell_32 ?_
    refine aw_icmp_gt (tgt := 52) dX6_spell_33 rfl (by omega) (fun c33 => ?_) (fun c33 => ?_)
    · skip
      obtain rfl : k = 6 := by omega
      refine aw_hp (U' := spw U q (sB 4 ++ trmL S 6 ++ orgL S 0)) rfl rfl (by rw [orgL, List.append_nil]) rfl rfl ?_
      refine aw_iconst dX6_spell_52 ?_
      refine aw_istore_n (ls' := [some (rf Γ 8), some (rf Γ 10), some _, some _, none]) dX6_spell_53 (by decide) rfl ?_
      refine loopN (nOr S) (P := fun k2 =>  AW Γ MX6_spell _ _ (0, 0) 54 [some (rf Γ 8), some (rf Γ 10), some (vi q), some (vi (k2 : Int)), none] [] (hp Γ S T (spw U q (sB 4 ++ trmL S 6 ++ orgL S k2)) V G) nx) (fun k2 hk2 ihk2 => ?_) 0 (Nat.zero_le _) 
      refine aw_iload_n dX6_spell_54 rfl ?_
      refine aw_aload_n dX6_spell_55 rfl ?_
      refine aw_getf fg_X6_21 dX6_spell_56 (hc10 hnx) rfl ?_
      refine aw_icmp_ge (tgt := 84) dX6_spell_59 rfl (by omega) (fun c59 => ?_) (fun c59 => ?_)
      · skip
        obtain rfl : k2 = nOr S := by omega
        refine aw_hp (U' := spw U q (sB 4 ++ trmL S 6 ++ orgL S (nOr S) ++ impL 0)) rfl rfl (by rw [impL, List.append_nil]) rfl rfl ?_
        refine aw_iconst dX6_spell_84 ?_
        refine aw_istore_n (ls' := [some (rf Γ 8), some (rf Γ 10), some _, some _, none]) dX6_spell_85 (by decide) rfl ?_
        refine loopN (nIm S) (P := fun k3 =>  AW Γ MX6_spell _ _ (0, 0) 86 [some (rf Γ 8), some (rf Γ 10), some (vi q), some (vi (k3 : Int)), none] [] (hp Γ S T (spw U q (sB 4 ++ trmL S 6 ++ orgL S (nOr S) ++ impL k3)) V G) nx) (fun k3 hk3 ihk3 => ?_) 0 (Nat.zero_le _) 
        refine aw_iload_n dX6_spell_86 rfl ?_
        refine aw_aload_n dX6_spell_87 rfl ?_
        refine aw_getf fg_X6_45 dX6_spell_88 (hc10 hnx) rfl ?_
        refine aw_icmp_ge (tgt := 106) dX6_spell_91 rfl (by omega) (fun c91 => ?_) (fun c91 => ?_)
        · skip
          obtain rfl : k3 = nIm S := by omega
          refine aw_hp (U' := spw U q (sB 4 ++ trmL S 6 ++ orgL S (nOr S) ++ impL (nIm S) ++ allL S 0)) rfl rfl (by rw [allL, List.append_nil]) rfl rfl ?_
          refine aw_iconst dX6_spell_106 ?_
          refine aw_istore_n (ls' := [some (rf Γ 8), some (rf Γ 10), some _, some _, none]) dX6_spell_107 (by decide) rfl ?_
          refine loopN (nIm S) (P := fun k4 =>  AW Γ MX6_spell _ _ (0, 0) 108 [some (rf Γ 8), some (rf Γ 10), some (vi q), some (vi (k4 : Int)), none] [] (hp Γ S T (spw U q (sB 4 ++ trmL S 6 ++ orgL S (nOr S) ++ impL (nIm S) ++ allL S k4)) V G) nx) (fun k4 hk4 ihk4 => ?_) 0 (Nat.zero_le _) 
          refine aw_iload_n dX6_spell_108 rfl ?_
          refine aw_aload_n dX6_spell_109 rfl ?_
          refine aw_getf fg_X6_45 dX6_spell_110 (hc10 hnx) rfl ?_
          refine aw_icmp_ge (tgt := 148) dX6_spell_113 rfl (by omega) (fun c113 => ?_) (fun c113 => ?_)
          · skip
            obtain rfl : k4 = nIm S := by omega
            rw [show texL S = (sB 4 ++ trmL S 6 ++ orgL S (nOr S) ++ impL (nIm S) ++ allL S (nIm S)) by unfold texL; rw [if_neg (by omega)]] at hQ
            exact aw_return dX6_spell_148 rfl ⟨Nat.le_refl _, Nat.le_refl _⟩ hQ
          · skip
            refine aw_iconst dX6_spell_116 ?_
            refine aw_istore (ls' := [some (rf Γ 8), some (rf Γ 10), some _, some _, some _]) dX6_spell_117 (by decide) rfl ?_
            refine aw_hp (U' := spw U q (sB 4 ++ trmL S 6 ++ orgL S (nOr S) ++ impL (nIm S) ++ (allL S k4 ++ rowL S k4 0))) rfl rfl (by rw [rowL, List.append_nil]) rfl rfl ?_
            refine loopN (nOr S) (P := fun k5 =>  AW Γ MX6_spell _ _ (0, 0) 119 [some (rf Γ 8), some (rf Γ 10), some (vi q), some (vi (k4 : Int)), some (vi (k5 : Int))] [] (hp Γ S T (spw U q (sB 4 ++ trmL S 6 ++ orgL S (nOr S) ++ impL (nIm S) ++ (allL S k4 ++ rowL S k4 k5))) V G) nx) (fun k5 hk5 ihk5 => ?_) 0 (Nat.zero_le _) 
            refine aw_iload dX6_spell_119 rfl ?_
            refine aw_aload_n dX6_spell_121 rfl ?_
            refine aw_getf fg_X6_21 dX6_spell_122 (hc10 hnx) rfl ?_
            refine aw_icmp_ge (tgt := 142) dX6_spell_125 rfl (by omega) (fun c125 => ?_) (fun c125 => ?_)
            · skip
              obtain rfl : k5 = nOr S := by omega
              refine aw_hp (U' := spw U q (sB 4 ++ trmL S 6 ++ orgL S (nOr S) ++ impL (nIm S) ++ allL S (k4 + 1))) rfl rfl (by rw [allL]) rfl rfl ?_
              refine aw_iinc (ls' := [some (rf Γ 8), some (rf Γ 10), some _, some _, some _]) dX6_spell_142 rfl (by decide) rfl ?_
              refine aw_goto (tgt := 108) dX6_spell_145 rfl ?_
              refine aw_fg [true, true, true, true, false] (ls' := [some (rf Γ 8), some (rf Γ 10), some _, some _, none]) rfl ?_
              exact ihk4 (by omega)   
            · skip
              have la := allL_len S (by omega) k4
              have lb := rowL_len S k4 k5
              refine aw_aload_n dX6_spell_128 rfl ?_
              refine aw_aload_n dX6_spell_129 rfl ?_
              refine aw_iload_n dX6_spell_130 rfl ?_
              refine aw_iload dX6_spell_131 rfl ?_
              refine aw_callV (As := [_, _, _]) (ρ := (_, 0, 0)) (kn' := (0, 0)) cv_X6_50 dX6_spell_133 rfl rfl (hc8 hnx) rfl rfl (Nat.le_of_ble_eq_true rfl) (rmR _ _ _) ⟨Nat.le_refl _, Nat.le_refl _⟩ rfl (c_X6_putPast hnx hI (by omega) (by omega) (by simp only [List.length_append]; omega) hq ?_)
              refine aw_hp (U' := spw U q (sB 4 ++ trmL S 6 ++ orgL S (nOr S) ++ impL (nIm S) ++ (allL S k4 ++ rowL S k4 (k5 + 1)))) rfl rfl (by rw [rowL]; simp only [List.append_assoc]) rfl rfl ?_
              refine aw_iinc (ls' := [some (rf Γ 8), some (rf Γ 10), some _, some _, some _]) dX6_spell_136 rfl (by decide) rfl ?_
              refine aw_goto (tgt := 119) dX6_spell_139 rfl ?_
              exact ihk5 (by omega)   
        · skip
          refine aw_aload_n dX6_spell_94 rfl ?_
          have la := impL_len k3
          refine aw_ldcS dX6_spell_95 6 rfl rfl rfl ?_
          refine aw_callV (As := [_]) (ρ := (_, 0, 0)) (kn' := (0, 0)) cv_X6_28 dX6_spell_97 rfl rfl (hc8 hnx) rfl rfl (Nat.le_of_ble_eq_true rfl) (rmR _ _ _) ⟨Nat.le_refl _, Nat.le_refl _⟩ rfl (c_X6_putWord hnx (i := 6) (by decide) (by simp only [List.length_append]; omega) hq ?_)
          refine aw_hp (U' := spw U q (sB 4 ++ trmL S 6 ++ orgL S (nOr S) ++ impL (k3 + 1))) rfl rfl (by rw [impL]; simp only [List.append_assoc]) rfl rfl ?_
          refine aw_iinc (ls' := [some (rf Γ 8), some (rf Γ 10), some _, some _, none]) dX6_spell_100 rfl (by decide) rfl ?_
          refine aw_goto (tgt := 86) dX6_spell_103 rfl ?_
          exact ihk3 (by omega)   
      · skip
        refine aw_aload_n dX6_spell_62 rfl ?_
        have la := orgL_len S k2
        refine aw_ldcS dX6_spell_63 5 rfl rfl rfl ?_
        refine aw_callV (As := [_]) (ρ := (_, 0, 0)) (kn' := (0, 0)) cv_X6_28 dX6_spell_65 rfl rfl (hc8 hnx) rfl rfl (Nat.le_of_ble_eq_true rfl) (rmR _ _ _) ⟨Nat.le_refl _, Nat.le_refl _⟩ rfl (c_X6_putWord hnx (i := 5) (by decide) (by simp only [List.length_append]; omega) hq ?_)
        refine aw_aload_n dX6_spell_68 rfl ?_
        refine aw_aload_n dX6_spell_69 rfl ?_
        refine aw_getf fg_X6_42 dX6_spell_70 (hc10 hnx) rfl ?_
        refine aw_iload_n dX6_spell_73 rfl ?_
        refine aw_ialdr dX6_spell_74 (hc12 hnx) (by omega) (by decide) (hR 1 (by decide)) (fun q74 => ?_)
        have qu := hI.qu (o := (k2 : Int)) (by omega)
        refine aw_callV (As := [_]) (ρ := (_, 0, 0)) (kn' := (0, 0)) cv_X6_36 dX6_spell_75 rfl rfl (hc8 hnx) rfl rfl (Nat.le_of_ble_eq_true rfl) (rmR _ _ _) ⟨Nat.le_refl _, Nat.le_refl _⟩ rfl (c_X6_putNumber hnx (by omega) (by simp only [List.length_append]; omega) hq ?_)
        refine aw_hp (U' := spw U q (sB 4 ++ trmL S 6 ++ orgL S (k2 + 1))) rfl rfl (by rw [orgL]; simp only [List.append_assoc]) rfl rfl ?_
        refine aw_iinc (ls' := [some (rf Γ 8), some (rf Γ 10), some _, some _, none]) dX6_spell_78 rfl (by decide) rfl ?_
        refine aw_goto (tgt := 54) dX6_spell_81 rfl ?_
        exact ihk2 (by omega)   
    · skip
      refine aw_aload_n dX6_spell_36 rfl ?_
      refine aw_aload_n dX6_spell_37 rfl ?_
      refine aw_getf fg_X6_32 dX6_spell_38 (hc10 hnx) rfl ?_
      refine aw_iload_n dX6_spell_41 rfl ?_
      refine aw_ialdr dX6_spell_42 (hc11 hnx) (by omega) (by decide) (hR 0 (by decide)) (fun q42 => ?_)
      have tm := hI.tm (by omega)
      have ti : 0 ≤ S 0 k ∧ S 0 k < 1000000000 := by rcases (show k = 0 ∨ k = 1 ∨ k = 2 ∨ k = 3 ∨ k = 4 ∨ k = 5 by omega) with rfl | rfl | rfl | rfl | rfl | rfl <;> (first | (show 0 ≤ S 0 0 ∧ S 0 0 < _; omega) | (show 0 ≤ S 0 1 ∧ S 0 1 < _; omega) | (show 0 ≤ S 0 2 ∧ S 0 2 < _; omega) | (show 0 ≤ S 0 3 ∧ S 0 3 < _; omega) | (show 0 ≤ S 0 4 ∧ S 0 4 < _; omega) | (show 0 ≤ S 0 5 ∧ S 0 5 < _; omega))
      have la := trmL_len S k
      refine aw_callV (As := [_]) (ρ := (_, 0, 0)) (kn' := (0, 0)) cv_X6_36 dX6_spell_43 rfl rfl (hc8 hnx) rfl rfl (Nat.le_of_ble_eq_true rfl) (rmR _ _ _) ⟨Nat.le_refl _, Nat.le_refl _⟩ rfl (c_X6_putNumber hnx ti (by simp only [List.length_append]; omega) hq ?_)
      refine aw_hp (U' := spw U q (sB 4 ++ trmL S (k + 1))) rfl rfl (by rw [trmL, List.append_assoc]) rfl rfl ?_
      refine aw_iinc (ls' := [some (rf Γ 8), some (rf Γ 10), some _, some _, none]) dX6_spell_46 rfl (by decide) rfl ?_
      refine aw_goto (tgt := 31) dX6_spell_49 rfl ?_
      exact ih (by omega)   
  · skip
    rw [show texL S = [] by unfold texL; rw [if_pos (by omega)]] at hQ
    exact aw_return dX6_spell_22 rfl ⟨Nat.le_refl _, Nat.le_refl _⟩ hQ

def aLetter (S : St) (q : Int) : Int := if q < -1 then -1 else if q = -1 then (texL S).length else if q < ((texL S).length : Int) then (texL S).getD q.toNat 0 else -2
theorem Inv.tex {c : Int} {S : St} (h : Inv c S) : (texL S).length ≤ 3000 := by
  have i1 := h.i1
  have hs4 : (sB 4).length = 6 := by decide
  have l1 := trmL_len S 6; have l2 := orgL_len S (nOr S); have l3 := impL_len (nIm S); have l4 := allL_len S (by unfold nOr; omega) (nIm S)
  have : nOr S ≤ 4 := by unfold nOr; omega
  have : nIm S ≤ 8 := by unfold nIm; omega
  unfold texL; split
  · simp
  · simp only [List.length_append]; omega

set_option maxHeartbeats 1000000 in
theorem c_X10_letter {Γ : GT} {S T U V : St} {G : Gw} {nx d : Nat} {Q : QT} (hnx : 52 ≤ nx) {q : Int} {c : Int} (hI : Inv c S) (hq : inI q) (hQ : ∀ r, r = aLetter S q → Q (some (vi r)) (hp Γ S T (if q < -1 then U else spw U q (texL S)) V G) nx) : AM Γ MX10_letter (d + 7, 0, 0) [rf Γ 0, vi q] (hp Γ S T U V G) nx Q := by
  refine am_of (by decide) (Nat.le_of_ble_eq_true rfl) (ls := [some (rf Γ 0), some _]) rfl ?_
  have hR := hI.R
  have i1 := hI.i1
  have hz : 0 ≤ S 28 0 ∧ S 28 0 ≤ 60 := i1.2.2.1
  have hkS : nS S = (S 28 0).toNat := rfl
  have hkI : nIm S = (S 27 0).toNat := rfl
  have hkO : nOr S = (S 26 0).toNat := rfl
  have tl := hI.tex
  refine aw_iload_n dX10_letter_0 rfl ?_
  refine aw_iconst dX10_letter_1 ?_
  refine aw_icmp_ge (tgt := 7) dX10_letter_2 rfl (by omega) (fun c2 => ?_) (fun c2 => ?_)
  · skip
    refine aw_aload_n dX10_letter_7 rfl ?_
    refine aw_getf fg_X10_19 dX10_letter_8 (hc0 hnx) rfl ?_
    refine aw_aload_n dX10_letter_11 rfl ?_
    refine aw_getf fg_X10_26 dX10_letter_12 (hc0 hnx) rfl ?_
    refine aw_getf fg_X10_81 dX10_letter_15 (hc9 hnx) rfl ?_
    refine aw_iload_n dX10_letter_18 rfl ?_
    refine aw_callV (As := [_, _]) (ρ := (_, 0, 0)) (kn' := (0, 0)) cv_X10_385 dX10_letter_19 rfl rfl (hc8 hnx) rfl rfl (Nat.le_of_ble_eq_true rfl) (rmR _ _ _) ⟨Nat.le_refl _, Nat.le_refl _⟩ rfl (c_X6_spell hnx hI (by omega) ?_)
    refine aw_iload_n dX10_letter_22 rfl ?_
    refine aw_iconst dX10_letter_23 ?_
    refine aw_icmp_ne (tgt := 35) dX10_letter_24 rfl (by omega) (fun c24 => ?_) (fun c24 => ?_)
    · skip
      refine aw_iload_n dX10_letter_35 rfl ?_
      refine aw_aload_n dX10_letter_36 rfl ?_
      refine aw_getf fg_X10_19 dX10_letter_37 (hc0 hnx) rfl ?_
      refine aw_getf fg_X10_389 dX10_letter_40 (hc8 hnx) rfl ?_
      refine aw_sv (a := ((texL S).length : Int)) (rfl) ?_
      refine aw_icmp_ge (tgt := 56) dX10_letter_43 rfl (by omega) (fun c43 => ?_) (fun c43 => ?_)
      · skip
        refine aw_bipush dX10_letter_56 rfl ?_
        first | (have w0 : ¬ q < ((texL S).length : Int) := (by omega); have ea : -2 = aLetter S q := (by unfold aLetter; rw [if_neg (by omega), if_neg (by omega), if_neg (by omega)])) | (have ea : fnd q (texL S) = aLetter S q := (by unfold fnd; rw [if_pos (by omega)]; unfold aLetter; rw [if_neg (by omega), if_neg (by omega), if_pos (by omega)]))
        exact aw_ireturn dX10_letter_58 rfl rfl ⟨Nat.le_refl _, Nat.le_refl _⟩ (by have z := hQ _ ea; rw [if_neg (by omega)] at z; exact z)
      · skip
        refine aw_aload_n dX10_letter_46 rfl ?_
        refine aw_getf fg_X10_19 dX10_letter_47 (hc0 hnx) rfl ?_
        refine aw_getf fg_X10_390 dX10_letter_50 (hc8 hnx) rfl ?_
        refine aw_sv (a := fnd q (texL S)) (rfl) ?_
        refine aw_goto (tgt := 58) dX10_letter_53 rfl ?_
        first | (have w0 : ¬ q < ((texL S).length : Int) := (by omega); have ea : -2 = aLetter S q := (by unfold aLetter; rw [if_neg (by omega), if_neg (by omega), if_neg (by omega)])) | (have ea : fnd q (texL S) = aLetter S q := (by unfold fnd; rw [if_pos (by omega)]; unfold aLetter; rw [if_neg (by omega), if_neg (by omega), if_pos (by omega)]))
        exact aw_ireturn dX10_letter_58 rfl rfl ⟨Nat.le_refl _, Nat.le_refl _⟩ (by have z := hQ _ ea; rw [if_neg (by omega)] at z; exact z)
    · skip
      refine aw_aload_n dX10_letter_27 rfl ?_
      refine aw_getf fg_X10_19 dX10_letter_28 (hc0 hnx) rfl ?_
      refine aw_getf fg_X10_389 dX10_letter_31 (hc8 hnx) rfl ?_
      refine aw_sv (a := ((texL S).length : Int)) (rfl) ?_
      exact aw_ireturn dX10_letter_34 rfl rfl ⟨Nat.le_refl _, Nat.le_refl _⟩ (by have z := hQ _ (show ((texL S).length : Int) = aLetter S q by unfold aLetter; rw [if_neg (by omega), if_pos (by omega)]); rw [if_neg (by omega)] at z; exact z)
  · skip
    refine aw_iconst dX10_letter_5 ?_
    exact aw_ireturn dX10_letter_6 rfl rfl ⟨Nat.le_refl _, Nat.le_refl _⟩ (by have z := hQ (-1) (by unfold aLetter; rw [if_pos (by omega)]); rw [if_pos (by omega)] at z; exact z)


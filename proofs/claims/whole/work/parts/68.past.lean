/-! the reference: rows that move, and the past -/
theorem RgL.sset {V : St} (hL : RgL V) {f : Nat} {a : Int → Int} (ha : ∀ i, inL (a i)) : RgL (Jvm.Pilot.@@N@@.sset V f a) := by
  intro f' i'
  unfold Jvm.Pilot.@@N@@.sset
  split
  · exact ha i'
  · exact hL f' i'
def mvN (V : St) (fd fs : Nat) (j i : Int) (k : Nat) : St := sset V fd (fun q => if 1216 * j ≤ q ∧ q < 1216 * j + k then V fs (1216 * i + (q - 1216 * j)) else V fd q)
abbrev mv (V : St) (fd fs : Nat) (j i : Int) : St := mvN V fd fs j i 1216
theorem mvN_0 (V : St) (fd fs : Nat) (j i : Int) : mvN V fd fs j i 0 = V := by
  funext f q; unfold mvN sset
  by_cases h : f = fd
  · subst h; rw [if_pos rfl]; show (if _ then _ else _) = _; rw [if_neg (by omega)]
  · rw [if_neg h]
theorem mvN_L {V : St} (hL : RgL V) (fd fs : Nat) (j i : Int) (k : Nat) : RgL (mvN V fd fs j i k) := hL.sset (fun q => by show inL (if _ then _ else _); split <;> exact hL _ _)
theorem mvN_src (V : St) {fd fs : Nat} {j i : Int} {k : Nat} (hk : k < 1216) (h : fs ≠ fd ∨ i ≠ j) : mvN V fd fs j i k fs (1216 * i + k) = V fs (1216 * i + k) := by
  unfold mvN sset
  by_cases e : fs = fd
  · subst e; rw [if_pos rfl]; show (if _ then _ else _) = _
    have h2 : i ≠ j := h.resolve_left (fun z => z rfl)
    rw [if_neg (by omega)]
  · rw [if_neg e]
theorem mvN_st (V : St) {fd fs : Nat} {j i : Int} {k : Nat} : u1 (mvN V fd fs j i k) fd (1216 * j + k) (V fs (1216 * i + k)) = mvN V fd fs j i (k + 1) := by
  rw [mvN, u1_sset, mvN]; congr 1
  funext q; unfold uz
  by_cases h : q = 1216 * j + k
  · subst h; rw [if_pos rfl]; show _ = (if _ then _ else _); rw [if_pos (by omega)]; congr 1; omega
  · rw [if_neg h]; show (if _ then _ else _) = (if _ then _ else _)
    by_cases h2 : 1216 * j ≤ q ∧ q < 1216 * j + k
    · rw [if_pos h2, if_pos (by omega)]
    · rw [if_neg h2, if_neg (by omega)]
theorem mv_at (V : St) (fd fs : Nat) (j i k : Int) (hk : 0 ≤ k ∧ k < 1216) : mv V fd fs j i fd (1216 * j + k) = V fs (1216 * i + k) := by
  unfold mv mvN; rw [sset_eq]; show (if _ then _ else _) = _; rw [if_pos (by omega)]; congr 1; omega
theorem mv_out (V : St) {fd fs : Nat} {j i q : Int} (h : ¬ (1216 * j ≤ q ∧ q < 1216 * j + 1216)) : mv V fd fs j i fd q = V fd q := by
  unfold mv mvN; rw [sset_eq]; show (if _ then _ else _) = _; rw [if_neg (by omega)]
theorem mv_ne (V : St) {fd fs f : Nat} {j i : Int} (h : f ≠ fd) : mv V fd fs j i f = V f := by
  unfold mv mvN; rw [sset_ne _ _ h]

set_option maxHeartbeats 1000000 in
theorem c_X11_moves_0_3 {Γ : GT} {S T U V : St} {G : Gw} {nx d : Nat} {Q : QT} (hnx : 52 ≤ nx) {i j : Int} (hL : RgL V) (hi : 0 ≤ i ∧ i < 1) (hj : 0 ≤ j ∧ j < 10) (hQ : RgL (mv V 3 0 j i) → Q none (hp Γ S T U (mv V 3 0 j i) G) nx) : AM Γ MX11_moves (d, 0, 0) [rf Γ 44, vi i, rf Γ 47, vi j] (hp Γ S T U V G) nx Q := by
  refine am_of (by decide) (Nat.le_of_ble_eq_true rfl) (ls := [some (rf Γ 44), some _, some (rf Γ 47), some _, none]) rfl ?_
  have hL0 := hL
  refine aw_iconst dX11_moves_0 ?_
  refine aw_istore (ls' := [some (rf Γ 44), some _, some (rf Γ 47), some _, some _]) dX11_moves_1 (by decide) rfl ?_
  refine aw_hp (V' := mvN V 3 0 j i 0) rfl rfl rfl (mvN_0 ..) rfl ?_
  refine loopN (1216) (P := fun k =>  AW Γ MX11_moves _ _ (0, 0) 3 [some (rf Γ 44), some (vi i), some (rf Γ 47), some (vi j), some (vi (k : Int))] [] (hp Γ S T U (mvN V 3 0 j i k) G) nx) (fun k hk ih => ?_) 0 (Nat.zero_le _) 
  refine aw_iload dX11_moves_3 rfl ?_
  replace hL := mvN_L hL0 3 0 j i k
  refine aw_sipush dX11_moves_5 rfl ?_
  refine aw_icmp_ge (tgt := 37) dX11_moves_8 rfl (by omega) (fun c8 => ?_) (fun c8 => ?_)
  · skip
    obtain rfl : k = 1216 := by omega
    exact aw_return dX11_moves_37 rfl ⟨Nat.le_refl _, Nat.le_refl _⟩ (hQ hL)
  · skip
    refine aw_aload_n dX11_moves_11 rfl ?_
    refine aw_sipush dX11_moves_12 rfl ?_
    refine aw_iload_n dX11_moves_15 rfl ?_
    refine aw_imul dX11_moves_16 ?_
    refine aw_iload dX11_moves_17 rfl ?_
    refine aw_iadd dX11_moves_19 ?_
    refine aw_aload_n dX11_moves_20 rfl ?_
    refine aw_sipush dX11_moves_21 rfl ?_
    refine aw_iload_n dX11_moves_24 rfl ?_
    refine aw_imul dX11_moves_25 ?_
    refine aw_iload dX11_moves_26 rfl ?_
    refine aw_iadd dX11_moves_28 ?_
    refine aw_laldr dX11_moves_29 (hc44 hnx) (by omega) (by decide) (hL 0) (fun q29 => ?_)
    refine aw_svl (a := V 0 (1216 * i + k)) (mvN_src V (by omega) (Or.inl (by decide))).symm ?_
    have rV := hL0 0 (1216 * i + k)
    refine aw_lastV dX11_moves_30 (hc47 hnx) (by omega) (by decide) hL (by omega) (fun _ => hu47) (fun hL => ?_)
    refine aw_hp (V' := mvN V 3 0 j i (k + 1)) rfl rfl rfl (mvN_st V).symm rfl ?_
    refine aw_iinc (ls' := [some (rf Γ 44), some _, some (rf Γ 47), some _, some _]) dX11_moves_31 rfl (by decide) rfl ?_
    refine aw_goto (tgt := 3) dX11_moves_34 rfl ?_
    exact ih (by omega)   

set_option maxHeartbeats 1000000 in
theorem c_X11_moves_3_0 {Γ : GT} {S T U V : St} {G : Gw} {nx d : Nat} {Q : QT} (hnx : 52 ≤ nx) {i j : Int} (hL : RgL V) (hi : 0 ≤ i ∧ i < 10) (hj : 0 ≤ j ∧ j < 1) (hQ : RgL (mv V 0 3 j i) → Q none (hp Γ S T U (mv V 0 3 j i) G) nx) : AM Γ MX11_moves (d, 0, 0) [rf Γ 47, vi i, rf Γ 44, vi j] (hp Γ S T U V G) nx Q := by
  refine am_of (by decide) (Nat.le_of_ble_eq_true rfl) (ls := [some (rf Γ 47), some _, some (rf Γ 44), some _, none]) rfl ?_
  have hL0 := hL
  refine aw_iconst dX11_moves_0 ?_
  refine aw_istore (ls' := [some (rf Γ 47), some _, some (rf Γ 44), some _, some _]) dX11_moves_1 (by decide) rfl ?_
  refine aw_hp (V' := mvN V 0 3 j i 0) rfl rfl rfl (mvN_0 ..) rfl ?_
  refine loopN (1216) (P := fun k =>  AW Γ MX11_moves _ _ (0, 0) 3 [some (rf Γ 47), some (vi i), some (rf Γ 44), some (vi j), some (vi (k : Int))] [] (hp Γ S T U (mvN V 0 3 j i k) G) nx) (fun k hk ih => ?_) 0 (Nat.zero_le _) 
  refine aw_iload dX11_moves_3 rfl ?_
  replace hL := mvN_L hL0 0 3 j i k
  refine aw_sipush dX11_moves_5 rfl ?_
  refine aw_icmp_ge (tgt := 37) dX11_moves_8 rfl (by omega) (fun c8 => ?_) (fun c8 => ?_)
  · skip
    obtain rfl : k = 1216 := by omega
    exact aw_return dX11_moves_37 rfl ⟨Nat.le_refl _, Nat.le_refl _⟩ (hQ hL)
  · skip
    refine aw_aload_n dX11_moves_11 rfl ?_
    refine aw_sipush dX11_moves_12 rfl ?_
    refine aw_iload_n dX11_moves_15 rfl ?_
    refine aw_imul dX11_moves_16 ?_
    refine aw_iload dX11_moves_17 rfl ?_
    refine aw_iadd dX11_moves_19 ?_
    refine aw_aload_n dX11_moves_20 rfl ?_
    refine aw_sipush dX11_moves_21 rfl ?_
    refine aw_iload_n dX11_moves_24 rfl ?_
    refine aw_imul dX11_moves_25 ?_
    refine aw_iload dX11_moves_26 rfl ?_
    refine aw_iadd dX11_moves_28 ?_
    refine aw_laldr dX11_moves_29 (hc47 hnx) (by omega) (by decide) (hL 3) (fun q29 => ?_)
    refine aw_svl (a := V 3 (1216 * i + k)) (mvN_src V (by omega) (Or.inl (by decide))).symm ?_
    have rV := hL0 3 (1216 * i + k)
    refine aw_lastV dX11_moves_30 (hc44 hnx) (by omega) (by decide) hL (by omega) (fun _ => hu44) (fun hL => ?_)
    refine aw_hp (V' := mvN V 0 3 j i (k + 1)) rfl rfl rfl (mvN_st V).symm rfl ?_
    refine aw_iinc (ls' := [some (rf Γ 47), some _, some (rf Γ 44), some _, some _]) dX11_moves_31 rfl (by decide) rfl ?_
    refine aw_goto (tgt := 3) dX11_moves_34 rfl ?_
    exact ih (by omega)   

set_option maxHeartbeats 1000000 in
theorem c_X11_moves_3_3 {Γ : GT} {S T U V : St} {G : Gw} {nx d : Nat} {Q : QT} (hnx : 52 ≤ nx) {i j : Int} (hL : RgL V) (hi : 0 ≤ i ∧ i < 10) (hj : 0 ≤ j ∧ j < 10) (hij : i ≠ j) (hQ : RgL (mv V 3 3 j i) → Q none (hp Γ S T U (mv V 3 3 j i) G) nx) : AM Γ MX11_moves (d, 0, 0) [rf Γ 47, vi i, rf Γ 47, vi j] (hp Γ S T U V G) nx Q := by
  refine am_of (by decide) (Nat.le_of_ble_eq_true rfl) (ls := [some (rf Γ 47), some _, some (rf Γ 47), some _, none]) rfl ?_
  have hL0 := hL
  refine aw_iconst dX11_moves_0 ?_
  refine aw_istore (ls' := [some (rf Γ 47), some _, some (rf Γ 47), some _, some _]) dX11_moves_1 (by decide) rfl ?_
  refine aw_hp (V' := mvN V 3 3 j i 0) rfl rfl rfl (mvN_0 ..) rfl ?_
  refine loopN (1216) (P := fun k =>  AW Γ MX11_moves _ _ (0, 0) 3 [some (rf Γ 47), some (vi i), some (rf Γ 47), some (vi j), some (vi (k : Int))] [] (hp Γ S T U (mvN V 3 3 j i k) G) nx) (fun k hk ih => ?_) 0 (Nat.zero_le _) 
  refine aw_iload dX11_moves_3 rfl ?_
  replace hL := mvN_L hL0 3 3 j i k
  refine aw_sipush dX11_moves_5 rfl ?_
  refine aw_icmp_ge (tgt := 37) dX11_moves_8 rfl (by omega) (fun c8 => ?_) (fun c8 => ?_)
  · skip
    obtain rfl : k = 1216 := by omega
    exact aw_return dX11_moves_37 rfl ⟨Nat.le_refl _, Nat.le_refl _⟩ (hQ hL)
  · skip
    refine aw_aload_n dX11_moves_11 rfl ?_
    refine aw_sipush dX11_moves_12 rfl ?_
    refine aw_iload_n dX11_moves_15 rfl ?_
    refine aw_imul dX11_moves_16 ?_
    refine aw_iload dX11_moves_17 rfl ?_
    refine aw_iadd dX11_moves_19 ?_
    refine aw_aload_n dX11_moves_20 rfl ?_
    refine aw_sipush dX11_moves_21 rfl ?_
    refine aw_iload_n dX11_moves_24 rfl ?_
    refine aw_imul dX11_moves_25 ?_
    refine aw_iload dX11_moves_26 rfl ?_
    refine aw_iadd dX11_moves_28 ?_
    refine aw_laldr dX11_moves_29 (hc47 hnx) (by omega) (by decide) (hL 3) (fun q29 => ?_)
    refine aw_svl (a := V 3 (1216 * i + k)) (mvN_src V (by omega) (Or.inr hij)).symm ?_
    have rV := hL0 3 (1216 * i + k)
    refine aw_lastV dX11_moves_30 (hc47 hnx) (by omega) (by decide) hL (by omega) (fun _ => hu47) (fun hL => ?_)
    refine aw_hp (V' := mvN V 3 3 j i (k + 1)) rfl rfl rfl (mvN_st V).symm rfl ?_
    refine aw_iinc (ls' := [some (rf Γ 47), some _, some (rf Γ 47), some _, some _]) dX11_moves_31 rfl (by decide) rfl ?_
    refine aw_goto (tgt := 3) dX11_moves_34 rfl ?_
    exact ih (by omega)   

set_option maxHeartbeats 1000000 in
theorem c_X11_moves_0_4 {Γ : GT} {S T U V : St} {G : Gw} {nx d : Nat} {Q : QT} (hnx : 52 ≤ nx) {i j : Int} (hL : RgL V) (hi : 0 ≤ i ∧ i < 1) (hj : 0 ≤ j ∧ j < 2) (hQ : RgL (mv V 4 0 j i) → Q none (hp Γ S T U (mv V 4 0 j i) G) nx) : AM Γ MX11_moves (d, 0, 0) [rf Γ 44, vi i, rf Γ 48, vi j] (hp Γ S T U V G) nx Q := by
  refine am_of (by decide) (Nat.le_of_ble_eq_true rfl) (ls := [some (rf Γ 44), some _, some (rf Γ 48), some _, none]) rfl ?_
  have hL0 := hL
  refine aw_iconst dX11_moves_0 ?_
  refine aw_istore (ls' := [some (rf Γ 44), some _, some (rf Γ 48), some _, some _]) dX11_moves_1 (by decide) rfl ?_
  refine aw_hp (V' := mvN V 4 0 j i 0) rfl rfl rfl (mvN_0 ..) rfl ?_
  refine loopN (1216) (P := fun k =>  AW Γ MX11_moves _ _ (0, 0) 3 [some (rf Γ 44), some (vi i), some (rf Γ 48), some (vi j), some (vi (k : Int))] [] (hp Γ S T U (mvN V 4 0 j i k) G) nx) (fun k hk ih => ?_) 0 (Nat.zero_le _) 
  refine aw_iload dX11_moves_3 rfl ?_
  replace hL := mvN_L hL0 4 0 j i k
  refine aw_sipush dX11_moves_5 rfl ?_
  refine aw_icmp_ge (tgt := 37) dX11_moves_8 rfl (by omega) (fun c8 => ?_) (fun c8 => ?_)
  · skip
    obtain rfl : k = 1216 := by omega
    exact aw_return dX11_moves_37 rfl ⟨Nat.le_refl _, Nat.le_refl _⟩ (hQ hL)
  · skip
    refine aw_aload_n dX11_moves_11 rfl ?_
    refine aw_sipush dX11_moves_12 rfl ?_
    refine aw_iload_n dX11_moves_15 rfl ?_
    refine aw_imul dX11_moves_16 ?_
    refine aw_iload dX11_moves_17 rfl ?_
    refine aw_iadd dX11_moves_19 ?_
    refine aw_aload_n dX11_moves_20 rfl ?_
    refine aw_sipush dX11_moves_21 rfl ?_
    refine aw_iload_n dX11_moves_24 rfl ?_
    refine aw_imul dX11_moves_25 ?_
    refine aw_iload dX11_moves_26 rfl ?_
    refine aw_iadd dX11_moves_28 ?_
    refine aw_laldr dX11_moves_29 (hc44 hnx) (by omega) (by decide) (hL 0) (fun q29 => ?_)
    refine aw_svl (a := V 0 (1216 * i + k)) (mvN_src V (by omega) (Or.inl (by decide))).symm ?_
    have rV := hL0 0 (1216 * i + k)
    refine aw_lastV dX11_moves_30 (hc48 hnx) (by omega) (by decide) hL (by omega) (fun _ => hu48) (fun hL => ?_)
    refine aw_hp (V' := mvN V 4 0 j i (k + 1)) rfl rfl rfl (mvN_st V).symm rfl ?_
    refine aw_iinc (ls' := [some (rf Γ 44), some _, some (rf Γ 48), some _, some _]) dX11_moves_31 rfl (by decide) rfl ?_
    refine aw_goto (tgt := 3) dX11_moves_34 rfl ?_
    exact ih (by omega)   

set_option maxHeartbeats 1000000 in
theorem c_X11_moves_4_0 {Γ : GT} {S T U V : St} {G : Gw} {nx d : Nat} {Q : QT} (hnx : 52 ≤ nx) {i j : Int} (hL : RgL V) (hi : 0 ≤ i ∧ i < 2) (hj : 0 ≤ j ∧ j < 1) (hQ : RgL (mv V 0 4 j i) → Q none (hp Γ S T U (mv V 0 4 j i) G) nx) : AM Γ MX11_moves (d, 0, 0) [rf Γ 48, vi i, rf Γ 44, vi j] (hp Γ S T U V G) nx Q := by
  refine am_of (by decide) (Nat.le_of_ble_eq_true rfl) (ls := [some (rf Γ 48), some _, some (rf Γ 44), some _, none]) rfl ?_
  have hL0 := hL
  refine aw_iconst dX11_moves_0 ?_
  refine aw_istore (ls' := [some (rf Γ 48), some _, some (rf Γ 44), some _, some _]) dX11_moves_1 (by decide) rfl ?_
  refine aw_hp (V' := mvN V 0 4 j i 0) rfl rfl rfl (mvN_0 ..) rfl ?_
  refine loopN (1216) (P := fun k =>  AW Γ MX11_moves _ _ (0, 0) 3 [some (rf Γ 48), some (vi i), some (rf Γ 44), some (vi j), some (vi (k : Int))] [] (hp Γ S T U (mvN V 0 4 j i k) G) nx) (fun k hk ih => ?_) 0 (Nat.zero_le _) 
  refine aw_iload dX11_moves_3 rfl ?_
  replace hL := mvN_L hL0 0 4 j i k
  refine aw_sipush dX11_moves_5 rfl ?_
  refine aw_icmp_ge (tgt := 37) dX11_moves_8 rfl (by omega) (fun c8 => ?_) (fun c8 => ?_)
  · skip
    obtain rfl : k = 1216 := by omega
    exact aw_return dX11_moves_37 rfl ⟨Nat.le_refl _, Nat.le_refl _⟩ (hQ hL)
  · skip
    refine aw_aload_n dX11_moves_11 rfl ?_
    refine aw_sipush dX11_moves_12 rfl ?_
    refine aw_iload_n dX11_moves_15 rfl ?_
    refine aw_imul dX11_moves_16 ?_
    refine aw_iload dX11_moves_17 rfl ?_
    refine aw_iadd dX11_moves_19 ?_
    refine aw_aload_n dX11_moves_20 rfl ?_
    refine aw_sipush dX11_moves_21 rfl ?_
    refine aw_iload_n dX11_moves_24 rfl ?_
    refine aw_imul dX11_moves_25 ?_
    refine aw_iload dX11_moves_26 rfl ?_
    refine aw_iadd dX11_moves_28 ?_
    refine aw_laldr dX11_moves_29 (hc48 hnx) (by omega) (by decide) (hL 4) (fun q29 => ?_)
    refine aw_svl (a := V 4 (1216 * i + k)) (mvN_src V (by omega) (Or.inl (by decide))).symm ?_
    have rV := hL0 4 (1216 * i + k)
    refine aw_lastV dX11_moves_30 (hc44 hnx) (by omega) (by decide) hL (by omega) (fun _ => hu44) (fun hL => ?_)
    refine aw_hp (V' := mvN V 0 4 j i (k + 1)) rfl rfl rfl (mvN_st V).symm rfl ?_
    refine aw_iinc (ls' := [some (rf Γ 48), some _, some (rf Γ 44), some _, some _]) dX11_moves_31 rfl (by decide) rfl ?_
    refine aw_goto (tgt := 3) dX11_moves_34 rfl ?_
    exact ih (by omega)   

set_option maxHeartbeats 1000000 in
theorem c_X11_moves_0_2 {Γ : GT} {S T U V : St} {G : Gw} {nx d : Nat} {Q : QT} (hnx : 52 ≤ nx) {i j : Int} (hL : RgL V) (hi : 0 ≤ i ∧ i < 1) (hj : 0 ≤ j ∧ j < 1) (hQ : RgL (mv V 2 0 j i) → Q none (hp Γ S T U (mv V 2 0 j i) G) nx) : AM Γ MX11_moves (d, 0, 0) [rf Γ 44, vi i, rf Γ 46, vi j] (hp Γ S T U V G) nx Q := by
  refine am_of (by decide) (Nat.le_of_ble_eq_true rfl) (ls := [some (rf Γ 44), some _, some (rf Γ 46), some _, none]) rfl ?_
  have hL0 := hL
  refine aw_iconst dX11_moves_0 ?_
  refine aw_istore (ls' := [some (rf Γ 44), some _, some (rf Γ 46), some _, some _]) dX11_moves_1 (by decide) rfl ?_
  refine aw_hp (V' := mvN V 2 0 j i 0) rfl rfl rfl (mvN_0 ..) rfl ?_
  refine loopN (1216) (P := fun k =>  AW Γ MX11_moves _ _ (0, 0) 3 [some (rf Γ 44), some (vi i), some (rf Γ 46), some (vi j), some (vi (k : Int))] [] (hp Γ S T U (mvN V 2 0 j i k) G) nx) (fun k hk ih => ?_) 0 (Nat.zero_le _) 
  refine aw_iload dX11_moves_3 rfl ?_
  replace hL := mvN_L hL0 2 0 j i k
  refine aw_sipush dX11_moves_5 rfl ?_
  refine aw_icmp_ge (tgt := 37) dX11_moves_8 rfl (by omega) (fun c8 => ?_) (fun c8 => ?_)
  · skip
    obtain rfl : k = 1216 := by omega
    exact aw_return dX11_moves_37 rfl ⟨Nat.le_refl _, Nat.le_refl _⟩ (hQ hL)
  · skip
    refine aw_aload_n dX11_moves_11 rfl ?_
    refine aw_sipush dX11_moves_12 rfl ?_
    refine aw_iload_n dX11_moves_15 rfl ?_
    refine aw_imul dX11_moves_16 ?_
    refine aw_iload dX11_moves_17 rfl ?_
    refine aw_iadd dX11_moves_19 ?_
    refine aw_aload_n dX11_moves_20 rfl ?_
    refine aw_sipush dX11_moves_21 rfl ?_
    refine aw_iload_n dX11_moves_24 rfl ?_
    refine aw_imul dX11_moves_25 ?_
    refine aw_iload dX11_moves_26 rfl ?_
    refine aw_iadd dX11_moves_28 ?_
    refine aw_laldr dX11_moves_29 (hc44 hnx) (by omega) (by decide) (hL 0) (fun q29 => ?_)
    refine aw_svl (a := V 0 (1216 * i + k)) (mvN_src V (by omega) (Or.inl (by decide))).symm ?_
    have rV := hL0 0 (1216 * i + k)
    refine aw_lastV dX11_moves_30 (hc46 hnx) (by omega) (by decide) hL (by omega) (fun _ => hu46) (fun hL => ?_)
    refine aw_hp (V' := mvN V 2 0 j i (k + 1)) rfl rfl rfl (mvN_st V).symm rfl ?_
    refine aw_iinc (ls' := [some (rf Γ 44), some _, some (rf Γ 46), some _, some _]) dX11_moves_31 rfl (by decide) rfl ?_
    refine aw_goto (tgt := 3) dX11_moves_34 rfl ?_
    exact ih (by omega)   

set_option maxHeartbeats 1000000 in
theorem c_X11_moves_2_0 {Γ : GT} {S T U V : St} {G : Gw} {nx d : Nat} {Q : QT} (hnx : 52 ≤ nx) {i j : Int} (hL : RgL V) (hi : 0 ≤ i ∧ i < 1) (hj : 0 ≤ j ∧ j < 1) (hQ : RgL (mv V 0 2 j i) → Q none (hp Γ S T U (mv V 0 2 j i) G) nx) : AM Γ MX11_moves (d, 0, 0) [rf Γ 46, vi i, rf Γ 44, vi j] (hp Γ S T U V G) nx Q := by
  refine am_of (by decide) (Nat.le_of_ble_eq_true rfl) (ls := [some (rf Γ 46), some _, some (rf Γ 44), some _, none]) rfl ?_
  have hL0 := hL
  refine aw_iconst dX11_moves_0 ?_
  refine aw_istore (ls' := [some (rf Γ 46), some _, some (rf Γ 44), some _, some _]) dX11_moves_1 (by decide) rfl ?_
  refine aw_hp (V' := mvN V 0 2 j i 0) rfl rfl rfl (mvN_0 ..) rfl ?_
  refine loopN (1216) (P := fun k =>  AW Γ MX11_moves _ _ (0, 0) 3 [some (rf Γ 46), some (vi i), some (rf Γ 44), some (vi j), some (vi (k : Int))] [] (hp Γ S T U (mvN V 0 2 j i k) G) nx) (fun k hk ih => ?_) 0 (Nat.zero_le _) 
  refine aw_iload dX11_moves_3 rfl ?_
  replace hL := mvN_L hL0 0 2 j i k
  refine aw_sipush dX11_moves_5 rfl ?_
  refine aw_icmp_ge (tgt := 37) dX11_moves_8 rfl (by omega) (fun c8 => ?_) (fun c8 => ?_)
  · skip
    obtain rfl : k = 1216 := by omega
    exact aw_return dX11_moves_37 rfl ⟨Nat.le_refl _, Nat.le_refl _⟩ (hQ hL)
  · skip
    refine aw_aload_n dX11_moves_11 rfl ?_
    refine aw_sipush dX11_moves_12 rfl ?_
    refine aw_iload_n dX11_moves_15 rfl ?_
    refine aw_imul dX11_moves_16 ?_
    refine aw_iload dX11_moves_17 rfl ?_
    refine aw_iadd dX11_moves_19 ?_
    refine aw_aload_n dX11_moves_20 rfl ?_
    refine aw_sipush dX11_moves_21 rfl ?_
    refine aw_iload_n dX11_moves_24 rfl ?_
    refine aw_imul dX11_moves_25 ?_
    refine aw_iload dX11_moves_26 rfl ?_
    refine aw_iadd dX11_moves_28 ?_
    refine aw_laldr dX11_moves_29 (hc46 hnx) (by omega) (by decide) (hL 2) (fun q29 => ?_)
    refine aw_svl (a := V 2 (1216 * i + k)) (mvN_src V (by omega) (Or.inl (by decide))).symm ?_
    have rV := hL0 2 (1216 * i + k)
    refine aw_lastV dX11_moves_30 (hc44 hnx) (by omega) (by decide) hL (by omega) (fun _ => hu44) (fun hL => ?_)
    refine aw_hp (V' := mvN V 0 2 j i (k + 1)) rfl rfl rfl (mvN_st V).symm rfl ?_
    refine aw_iinc (ls' := [some (rf Γ 46), some _, some (rf Γ 44), some _, some _]) dX11_moves_31 rfl (by decide) rfl ?_
    refine aw_goto (tgt := 3) dX11_moves_34 rfl ?_
    exact ih (by omega)   

set_option maxHeartbeats 1000000 in
theorem c_X11_moves_1_0 {Γ : GT} {S T U V : St} {G : Gw} {nx d : Nat} {Q : QT} (hnx : 52 ≤ nx) {i j : Int} (hL : RgL V) (hi : 0 ≤ i ∧ i < 1) (hj : 0 ≤ j ∧ j < 1) (hQ : RgL (mv V 0 1 j i) → Q none (hp Γ S T U (mv V 0 1 j i) G) nx) : AM Γ MX11_moves (d, 0, 0) [rf Γ 45, vi i, rf Γ 44, vi j] (hp Γ S T U V G) nx Q := by
  refine am_of (by decide) (Nat.le_of_ble_eq_true rfl) (ls := [some (rf Γ 45), some _, some (rf Γ 44), some _, none]) rfl ?_
  have hL0 := hL
  refine aw_iconst dX11_moves_0 ?_
  refine aw_istore (ls' := [some (rf Γ 45), some _, some (rf Γ 44), some _, some _]) dX11_moves_1 (by decide) rfl ?_
  refine aw_hp (V' := mvN V 0 1 j i 0) rfl rfl rfl (mvN_0 ..) rfl ?_
  refine loopN (1216) (P := fun k =>  AW Γ MX11_moves _ _ (0, 0) 3 [some (rf Γ 45), some (vi i), some (rf Γ 44), some (vi j), some (vi (k : Int))] [] (hp Γ S T U (mvN V 0 1 j i k) G) nx) (fun k hk ih => ?_) 0 (Nat.zero_le _) 
  refine aw_iload dX11_moves_3 rfl ?_
  replace hL := mvN_L hL0 0 1 j i k
  refine aw_sipush dX11_moves_5 rfl ?_
  refine aw_icmp_ge (tgt := 37) dX11_moves_8 rfl (by omega) (fun c8 => ?_) (fun c8 => ?_)
  · skip
    obtain rfl : k = 1216 := by omega
    exact aw_return dX11_moves_37 rfl ⟨Nat.le_refl _, Nat.le_refl _⟩ (hQ hL)
  · skip
    refine aw_aload_n dX11_moves_11 rfl ?_
    refine aw_sipush dX11_moves_12 rfl ?_
    refine aw_iload_n dX11_moves_15 rfl ?_
    refine aw_imul dX11_moves_16 ?_
    refine aw_iload dX11_moves_17 rfl ?_
    refine aw_iadd dX11_moves_19 ?_
    refine aw_aload_n dX11_moves_20 rfl ?_
    refine aw_sipush dX11_moves_21 rfl ?_
    refine aw_iload_n dX11_moves_24 rfl ?_
    refine aw_imul dX11_moves_25 ?_
    refine aw_iload dX11_moves_26 rfl ?_
    refine aw_iadd dX11_moves_28 ?_
    refine aw_laldr dX11_moves_29 (hc45 hnx) (by omega) (by decide) (hL 1) (fun q29 => ?_)
    refine aw_svl (a := V 1 (1216 * i + k)) (mvN_src V (by omega) (Or.inl (by decide))).symm ?_
    have rV := hL0 1 (1216 * i + k)
    refine aw_lastV dX11_moves_30 (hc44 hnx) (by omega) (by decide) hL (by omega) (fun _ => hu44) (fun hL => ?_)
    refine aw_hp (V' := mvN V 0 1 j i (k + 1)) rfl rfl rfl (mvN_st V).symm rfl ?_
    refine aw_iinc (ls' := [some (rf Γ 45), some _, some (rf Γ 44), some _, some _]) dX11_moves_31 rfl (by decide) rfl ?_
    refine aw_goto (tgt := 3) dX11_moves_34 rfl ?_
    exact ih (by omega)   

def shN (V : St) (k : Nat) : St := sset V 3 (fun q => if 0 ≤ q ∧ q < 1216 * k then V 3 (q + 1216) else V 3 q)
theorem shN_0 (V : St) : shN V 0 = V := by
  funext f q; unfold shN sset
  by_cases h : f = 3
  · subst h; rw [if_pos rfl]; show (if _ then _ else _) = _; rw [if_neg (by omega)]
  · rw [if_neg h]
theorem shN_L {V : St} (hL : RgL V) (k : Nat) : RgL (shN V k) := hL.sset (fun q => by show inL (if _ then _ else _); split <;> exact hL _ _)
theorem shN_st (V : St) (k : Nat) : mv (shN V k) 3 3 k ((k : Int) + 1) = shN V (k + 1) := by
  funext f q
  by_cases h : f = 3
  · subst h
    by_cases h2 : 1216 * (k : Int) ≤ q ∧ q < 1216 * (k : Int) + 1216
    · have e := mv_at (shN V k) 3 3 k ((k : Int) + 1) (q - 1216 * k) (by omega)
      rw [show 1216 * (k : Int) + (q - 1216 * k) = q by omega] at e
      rw [e]; unfold shN; rw [sset_eq, sset_eq]; show (if _ then _ else _) = (if _ then _ else _)
      rw [if_neg (by omega), if_pos (by omega)]; congr 1; omega
    · rw [mv_out _ h2]; unfold shN; rw [sset_eq, sset_eq]; show (if _ then _ else _) = (if _ then _ else _)
      by_cases h3 : 0 ≤ q ∧ q < 1216 * (k : Int)
      · rw [if_pos h3, if_pos (by omega)]
      · rw [if_neg h3, if_neg (by omega)]
  · rw [mv_ne _ h]; unfold shN; rw [sset_ne _ _ h, sset_ne _ _ h]
/-- the row kept t acts ago -/
def hrow (V : St) (t k : Int) : Int := V 3 (1216 * (V 10 0 - 1 - t) + k)
/-- V2 is V with one more row kept, whatever it has now -/
def KP (V V2 : St) : Prop := (∀ f : Nat, f ≠ 0 → f ≠ 3 → f ≠ 10 → V2 f = V f) ∧ RgL V2 ∧ V2 10 0 = min (V 10 0 + 1) 10 ∧ (∀ k : Int, 0 ≤ k ∧ k < 1216 → hrow V2 0 k = V 0 k) ∧ ∀ t k : Int, 1 ≤ t ∧ t < V2 10 0 → 0 ≤ k ∧ k < 1216 → hrow V2 t k = hrow V (t - 1) k
def VX (V V2 : St) : Prop := ∀ f : Nat, f ≠ 0 → V2 f = V f
theorem VX.rfl {V : St} : VX V V := fun _ _ => Eq.refl _
theorem VX.trans {V V2 V3 : St} (h : VX V V2) (h2 : VX V2 V3) : VX V V3 := fun f hf => (h2 f hf).trans (h f hf)
theorem KP.vx {V V2 V3 : St} (h : KP V V2) (hx : VX V2 V3) (hL : RgL V3) : KP V V3 := by
  have e3 := hx 3 (by decide)
  have e10 := hx 10 (by decide)
  refine ⟨fun f h0 h3 h10 => (hx f h0).trans (h.1 f h0 h3 h10), hL, by rw [e10]; exact h.2.2.1, fun k hk => ?_, fun t k ht hk => ?_⟩
  · rw [← h.2.2.2.1 k hk]; unfold hrow; rw [e3, e10]
  · rw [← h.2.2.2.2 t k (by rw [e10] at ht; exact ht) hk]; unfold hrow; rw [e3, e10]
theorem KP.mk1 {V : St} (hL : RgL V) (h : 0 ≤ V 10 0 ∧ V 10 0 < 10) : KP V (u0 (mv V 3 0 (V 10 0) 0) 10 (V 10 0 + 1)) := by
  have e3 : ∀ q, u0 (mv V 3 0 (V 10 0) 0) 10 (V 10 0 + 1) 3 q = mv V 3 0 (V 10 0) 0 3 q := fun q => congrFun (sset_ne _ _ (by decide)) q
  have e10 : u0 (mv V 3 0 (V 10 0) 0) 10 (V 10 0 + 1) 10 0 = V 10 0 + 1 := by unfold u0; rw [sset_eq]; rfl
  refine ⟨fun f h0 h3 h10 => ?_, (mvN_L hL _ _ _ _ _).u0 ⟨by omega, by omega⟩, by rw [e10]; omega, fun k hk => ?_, fun t k ht hk => ?_⟩
  · unfold u0; rw [sset_ne _ _ h10, mv_ne _ h3]
  · unfold hrow; rw [e10, e3, show 1216 * (V 10 0 + 1 - 1 - 0) + k = 1216 * V 10 0 + k by omega, mv_at _ _ _ _ _ _ hk]; congr 1; omega
  · rw [e10] at ht; unfold hrow; rw [e10, e3, mv_out _ (by omega)]; congr 1; omega
theorem KP.mk2 {V : St} (hL : RgL V) (h : V 10 0 = 10) : KP V (u0 (mv (u0 (shN V 9) 10 9) 3 0 9 0) 10 10) := by
  have e3 : ∀ q, u0 (mv (u0 (shN V 9) 10 9) 3 0 9 0) 10 10 3 q = mv (u0 (shN V 9) 10 9) 3 0 9 0 3 q := fun q => congrFun (sset_ne _ _ (by decide)) q
  have e10 : u0 (mv (u0 (shN V 9) 10 9) 3 0 9 0) 10 10 10 0 = 10 := by unfold u0; rw [sset_eq]; rfl
  refine ⟨fun f h0 h3 h10 => ?_, (mvN_L ((shN_L hL _).u0 ⟨by omega, by omega⟩) _ _ _ _ _).u0 ⟨by omega, by omega⟩, by rw [e10]; omega, fun k hk => ?_, fun t k ht hk => ?_⟩
  · unfold u0; rw [sset_ne _ _ h10, mv_ne _ h3, sset_ne _ _ h10]; unfold shN; rw [sset_ne _ _ h3]
  · unfold hrow; rw [e10, e3, show 1216 * ((10 : Int) - 1 - 0) + k = 1216 * 9 + k by omega, mv_at _ _ _ _ _ _ hk]; unfold u0; rw [sset_ne _ _ (by decide)]; unfold shN; rw [sset_ne _ _ (by decide)]; congr 1; omega
  · rw [e10] at ht; unfold hrow; rw [e10, e3, mv_out _ (by omega)]; unfold u0; rw [sset_ne _ _ (by decide)]; unfold shN; rw [sset_eq]; show (if _ then _ else _) = _; rw [if_pos (by omega)]; congr 1; omega

set_option maxHeartbeats 1000000 in
theorem c_X11_keepsPast {Γ : GT} {S T U V : St} {G : Gw} {nx d : Nat} {Q : QT} (hnx : 52 ≤ nx) (hL : RgL V) (h10 : 0 ≤ V 10 0 ∧ V 10 0 ≤ 10) (hQ : ∀ V2, KP V V2 → V2 0 = V 0 → Q none (hp Γ S T U V2 G) nx) : AM Γ MX11_keepsPast (d + 1, 0, 0) [rf Γ 43] (hp Γ S T U V G) nx Q := by
  refine am_of (by decide) (Nat.le_of_ble_eq_true rfl) (ls := [some (rf Γ 43), none]) rfl ?_
  have hL0 := hL
  refine aw_aload_n dX11_keepsPast_0 rfl ?_
  refine aw_getf fg_X11_158 dX11_keepsPast_1 (hc43 hnx) rfl ?_
  refine aw_bipush dX11_keepsPast_4 rfl ?_
  refine aw_icmp_ne (tgt := 48) dX11_keepsPast_6 rfl (by omega) (fun c6 => ?_) (fun c6 => ?_)
  · skip
    refine aw_aload_n dX11_keepsPast_48 rfl ?_
    refine aw_getf fg_X11_9 dX11_keepsPast_49 (hc43 hnx) rfl ?_
    refine aw_iconst dX11_keepsPast_52 ?_
    refine aw_aload_n dX11_keepsPast_53 rfl ?_
    refine aw_getf fg_X11_19 dX11_keepsPast_54 (hc43 hnx) rfl ?_
    refine aw_aload_n dX11_keepsPast_57 rfl ?_
    refine aw_getf fg_X11_158 dX11_keepsPast_58 (hc43 hnx) rfl ?_
    first | refine aw_sv (a := 9) rfl ?_ | skip
    refine aw_callS (As := [_, _, _, _]) (ρ := (_, 0, 0)) (kn' := (0, 0)) cs_X11_154 dX11_keepsPast_61 rfl rfl (Nat.le_of_ble_eq_true rfl) (rmR _ _ _) ⟨Nat.le_refl _, Nat.le_refl _⟩ rfl (c_X11_moves_0_3 hnx hL (by omega) (by omega) (fun hL => ?_))
    refine aw_aload_n dX11_keepsPast_64 rfl ?_
    refine aw_dup dX11_keepsPast_65 rfl ?_
    refine aw_getf fg_X11_158 dX11_keepsPast_66 (hc43 hnx) rfl ?_
    first | refine aw_sv (a := 9) rfl ?_ | refine aw_sv (a := V 10 0) rfl ?_
    refine aw_iconst dX11_keepsPast_69 ?_
    refine aw_iadd dX11_keepsPast_70 ?_
    first | refine aw_sv (a := 10) rfl ?_ | skip
    refine aw_putV fp_X11_158 dX11_keepsPast_71 (hc43 hnx) (Nat.le_of_ble_eq_true rfl) hL (by omega) hu43_10 (fun hL => ?_)
    exact aw_return dX11_keepsPast_74 rfl ⟨Nat.le_refl _, Nat.le_refl _⟩ (by first | exact hQ _ (KP.mk2 hL0 (by omega)) rfl | exact hQ _ (KP.mk1 hL0 (by omega)) rfl)
  · skip
    refine aw_iconst dX11_keepsPast_9 ?_
    refine aw_istore_n (ls' := [some (rf Γ 43), some _]) dX11_keepsPast_10 (by decide) rfl ?_
    refine aw_hp (V' := shN V 0) rfl rfl rfl (shN_0 V) rfl ?_
    refine loopN (9) (P := fun k =>  AW Γ MX11_keepsPast _ _ (0, 0) 11 [some (rf Γ 43), some (vi ((k : Int) + 1))] [] (hp Γ S T U (shN V k) G) nx) (fun k hk ih => ?_) 0 (Nat.zero_le _) 
    refine aw_iload_n dX11_keepsPast_11 rfl ?_
    replace hL := shN_L hL0 k
    refine aw_bipush dX11_keepsPast_12 rfl ?_
    refine aw_icmp_ge (tgt := 38) dX11_keepsPast_14 rfl (by omega) (fun c14 => ?_) (fun c14 => ?_)
    · skip
      obtain rfl : k = 9 := by omega
      refine aw_aload_n dX11_keepsPast_38 rfl ?_
      refine aw_dup dX11_keepsPast_39 rfl ?_
      refine aw_getf fg_X11_158 dX11_keepsPast_40 (hc43 hnx) rfl ?_
      refine aw_sv (a := V 10 0) rfl ?_
      refine aw_iconst dX11_keepsPast_43 ?_
      refine aw_isub dX11_keepsPast_44 ?_
      refine aw_sv (a := 9) (by omega) ?_
      refine aw_putV fp_X11_158 dX11_keepsPast_45 (hc43 hnx) (Nat.le_of_ble_eq_true rfl) hL (by omega) hu43_10 (fun hL => ?_)
      refine aw_aload_n dX11_keepsPast_48 rfl ?_
      refine aw_getf fg_X11_9 dX11_keepsPast_49 (hc43 hnx) rfl ?_
      refine aw_iconst dX11_keepsPast_52 ?_
      refine aw_aload_n dX11_keepsPast_53 rfl ?_
      refine aw_getf fg_X11_19 dX11_keepsPast_54 (hc43 hnx) rfl ?_
      refine aw_aload_n dX11_keepsPast_57 rfl ?_
      refine aw_getf fg_X11_158 dX11_keepsPast_58 (hc43 hnx) rfl ?_
      first | refine aw_sv (a := 9) rfl ?_ | skip
      refine aw_callS (As := [_, _, _, _]) (ρ := (_, 0, 0)) (kn' := (0, 0)) cs_X11_154 dX11_keepsPast_61 rfl rfl (Nat.le_of_ble_eq_true rfl) (rmR _ _ _) ⟨Nat.le_refl _, Nat.le_refl _⟩ rfl (c_X11_moves_0_3 hnx hL (by omega) (by omega) (fun hL => ?_))
      refine aw_aload_n dX11_keepsPast_64 rfl ?_
      refine aw_dup dX11_keepsPast_65 rfl ?_
      refine aw_getf fg_X11_158 dX11_keepsPast_66 (hc43 hnx) rfl ?_
      first | refine aw_sv (a := 9) rfl ?_ | refine aw_sv (a := V 10 0) rfl ?_
      refine aw_iconst dX11_keepsPast_69 ?_
      refine aw_iadd dX11_keepsPast_70 ?_
      first | refine aw_sv (a := 10) rfl ?_ | skip
      refine aw_putV fp_X11_158 dX11_keepsPast_71 (hc43 hnx) (Nat.le_of_ble_eq_true rfl) hL (by omega) hu43_10 (fun hL => ?_)
      exact aw_return dX11_keepsPast_74 rfl ⟨Nat.le_refl _, Nat.le_refl _⟩ (by first | exact hQ _ (KP.mk2 hL0 (by omega)) rfl | exact hQ _ (KP.mk1 hL0 (by omega)) rfl)
    · skip
      refine aw_aload_n dX11_keepsPast_17 rfl ?_
      refine aw_getf fg_X11_19 dX11_keepsPast_18 (hc43 hnx) rfl ?_
      refine aw_iload_n dX11_keepsPast_21 rfl ?_
      refine aw_aload_n dX11_keepsPast_22 rfl ?_
      refine aw_getf fg_X11_19 dX11_keepsPast_23 (hc43 hnx) rfl ?_
      refine aw_iload_n dX11_keepsPast_26 rfl ?_
      refine aw_iconst dX11_keepsPast_27 ?_
      refine aw_isub dX11_keepsPast_28 ?_
      refine aw_sv (a := (k : Int)) (by omega) ?_
      refine aw_callS (As := [_, _, _, _]) (ρ := (_, 0, 0)) (kn' := (0, 0)) cs_X11_154 dX11_keepsPast_29 rfl rfl (Nat.le_of_ble_eq_true rfl) (rmR _ _ _) ⟨Nat.le_refl _, Nat.le_refl _⟩ rfl (c_X11_moves_3_3 hnx hL (by omega) (by omega) (by omega) (fun hL => ?_))
      refine aw_hp (V' := shN V (k + 1)) rfl rfl rfl (shN_st V k).symm rfl ?_
      refine aw_iinc (ls' := [some (rf Γ 43), some _]) dX11_keepsPast_32 rfl (by decide) rfl ?_
      refine aw_goto (tgt := 11) dX11_keepsPast_35 rfl ?_
      exact aw_ls2 (by rw [show (k : Int) + 1 + 1 = ((k + 1 : Nat) : Int) + 1 by omega]) (ih (by omega))


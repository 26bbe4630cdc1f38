/-! the reference: what is undone, kept, brought back -/
set_option maxHeartbeats 1000000 in
theorem c_X11_undo {Γ : GT} {S T U V : St} {G : Gw} {nx d : Nat} {Q : QT} (hnx : 52 ≤ nx) (hL : RgL V) (hM : 0 ≤ V 10 0 ∧ V 10 0 ≤ 10) (hN : V 10 0 = 0 → Q (some (vi (-1))) (hp Γ S T U V G) nx) (hQ : 0 < V 10 0 → ∀ V2, V2 = mv (u0 V 10 (V 10 0 - 1)) 0 3 0 (V 10 0 - 1) → RgL V2 → Q (some (vi (V 10 0 - 1))) (hp Γ S T U V2 G) nx) : AM Γ MX11_undo (d + 1, 0, 0) [rf Γ 43] (hp Γ S T U V G) nx Q := by
  refine am_of (by decide) (Nat.le_of_ble_eq_true rfl) (ls := [some (rf Γ 43)]) rfl ?_
  refine aw_aload_n dX11_undo_0 rfl ?_
  refine aw_getf fg_X11_158 dX11_undo_1 (hc43 hnx) rfl ?_
  refine aw_if_ne (tgt := 9) dX11_undo_4 rfl (by omega) (fun c4 => ?_) (fun c4 => ?_)
  · skip
    refine aw_aload_n dX11_undo_9 rfl ?_
    refine aw_dup dX11_undo_10 rfl ?_
    refine aw_getf fg_X11_158 dX11_undo_11 (hc43 hnx) rfl ?_
    refine aw_iconst dX11_undo_14 ?_
    refine aw_isub dX11_undo_15 ?_
    refine aw_putV fp_X11_158 dX11_undo_16 (hc43 hnx) (Nat.le_of_ble_eq_true rfl) hL (by omega) hu43_10 (fun hL => ?_)
    refine aw_aload_n dX11_undo_19 rfl ?_
    refine aw_getf fg_X11_19 dX11_undo_20 (hc43 hnx) rfl ?_
    refine aw_aload_n dX11_undo_23 rfl ?_
    refine aw_getf fg_X11_158 dX11_undo_24 (hc43 hnx) rfl ?_
    refine aw_sv (a := V 10 0 - 1) (rfl) ?_
    refine aw_aload_n dX11_undo_27 rfl ?_
    refine aw_getf fg_X11_9 dX11_undo_28 (hc43 hnx) rfl ?_
    refine aw_iconst dX11_undo_31 ?_
    refine aw_callS (As := [_, _, _, _]) (ρ := (_, 0, 0)) (kn' := (0, 0)) cs_X11_154 dX11_undo_32 rfl rfl (Nat.le_of_ble_eq_true rfl) (rmR _ _ _) ⟨Nat.le_refl _, Nat.le_refl _⟩ rfl (c_X11_moves_3_0 hnx hL (by omega) (by omega) (fun hL => ?_))
    refine aw_aload_n dX11_undo_35 rfl ?_
    refine aw_getf fg_X11_158 dX11_undo_36 (hc43 hnx) rfl ?_
    refine aw_sv (a := V 10 0 - 1) (rfl) ?_
    exact aw_ireturn dX11_undo_39 rfl rfl ⟨Nat.le_refl _, Nat.le_refl _⟩ (hQ (by omega) _ rfl hL)
  · skip
    refine aw_iconst dX11_undo_7 ?_
    exact aw_ireturn dX11_undo_8 rfl rfl ⟨Nat.le_refl _, Nat.le_refl _⟩ (hN (by omega))

set_option maxHeartbeats 1000000 in
theorem c_X11_keep {Γ : GT} {S T U V : St} {G : Gw} {nx d : Nat} {Q : QT} (hnx : 52 ≤ nx) {q : Int} (hL : RgL V) (hq : inI q) (hN : ¬ (0 ≤ q ∧ q < 2) → Q (some (vi (-1))) (hp Γ S T U V G) nx) (hQ : (0 ≤ q ∧ q < 2) → ∀ V2, V2 = u1 (mv V 4 0 q 0) 5 q 1 → RgL V2 → Q (some (vi (V 0 6))) (hp Γ S T U V2 G) nx) : AM Γ MX11_keep (d + 1, 0, 0) [rf Γ 43, vi q] (hp Γ S T U V G) nx Q := by
  refine am_of (by decide) (Nat.le_of_ble_eq_true rfl) (ls := [some (rf Γ 43), some _]) rfl ?_
  refine aw_iload_n dX11_keep_0 rfl ?_
  refine aw_i2l dX11_keep_1 (by omega) ?_
  refine aw_lconst0 dX11_keep_2 ?_
  refine aw_lconst1 dX11_keep_3 ?_
  refine aw_callS (As := [_, _, _]) (ρ := (_, 0, 0)) (kn' := (0, 0)) cs_X11_51 dX11_keep_4 rfl rfl (Nat.le_of_ble_eq_true rfl) (rmR _ _ _) ⟨Nat.le_refl _, Nat.le_refl _⟩ rfl (c_X11_in hnx (by omega) (fun r4 h4 => ?_))
  rcases h4 with ⟨rfl, h4⟩ | ⟨rfl, h4⟩
  · skip
    refine aw_if_ne (tgt := 12) dX11_keep_7 rfl (by decide) (fun _ => ?_) (fun c => absurd c (by decide))
    refine aw_aload_n dX11_keep_12 rfl ?_
    refine aw_getf fg_X11_9 dX11_keep_13 (hc43 hnx) rfl ?_
    refine aw_iconst dX11_keep_16 ?_
    refine aw_aload_n dX11_keep_17 rfl ?_
    refine aw_getf fg_X11_22 dX11_keep_18 (hc43 hnx) rfl ?_
    refine aw_iload_n dX11_keep_21 rfl ?_
    refine aw_callS (As := [_, _, _, _]) (ρ := (_, 0, 0)) (kn' := (0, 0)) cs_X11_154 dX11_keep_22 rfl rfl (Nat.le_of_ble_eq_true rfl) (rmR _ _ _) ⟨Nat.le_refl _, Nat.le_refl _⟩ rfl (c_X11_moves_0_4 hnx hL (by omega) (by omega) (fun hL => ?_))
    refine aw_aload_n dX11_keep_25 rfl ?_
    refine aw_getf fg_X11_25 dX11_keep_26 (hc43 hnx) rfl ?_
    refine aw_iload_n dX11_keep_29 rfl ?_
    refine aw_iconst dX11_keep_30 ?_
    refine aw_zastV dX11_keep_31 (hc49 hnx) (by omega) (by decide) hL (by omega) rfl (fun _ => hu49) (fun hL => ?_)
    refine aw_aload_n dX11_keep_32 rfl ?_
    refine aw_bipush dX11_keep_33 rfl ?_
    refine aw_callV (As := [_]) (ρ := (_, 0, 0)) (kn' := (0, 0)) cv_X11_164 dX11_keep_35 rfl rfl (hc43 hnx) rfl rfl (Nat.le_of_ble_eq_true rfl) (rmR _ _ _) ⟨Nat.le_refl _, Nat.le_refl _⟩ rfl (c_X11_many hnx hL (by omega) (fun r35 h35 => ?_))
    replace h35 : r35 = V 0 6 := h35
    subst h35
    exact aw_ireturn dX11_keep_38 rfl rfl ⟨Nat.le_refl _, Nat.le_refl _⟩ (hQ (by omega) _ rfl hL)
  · skip
    refine aw_if_ne (tgt := 12) dX11_keep_7 rfl (by decide) (fun c => absurd c (by decide)) (fun _ => ?_)
    refine aw_iconst dX11_keep_10 ?_
    exact aw_ireturn dX11_keep_11 rfl rfl ⟨Nat.le_refl _, Nat.le_refl _⟩ (hN (by omega))

set_option maxHeartbeats 1000000 in
theorem c_X11_back {Γ : GT} {S T U V : St} {G : Gw} {nx d : Nat} {Q : QT} (hnx : 52 ≤ nx) {q : Int} (hL : RgL V) (hq : inI q) (hz : (0 ≤ q ∧ q < 2) → V 5 q = 0 ∨ V 5 q = 1) (hN : ¬ (0 ≤ q ∧ q < 2) → Q (some (vi (-1))) (hp Γ S T U V G) nx) (hE : (0 ≤ q ∧ q < 2) → V 5 q = 0 → Q (some (vi (-2))) (hp Γ S T U V G) nx) (hQ : (0 ≤ q ∧ q < 2) → V 5 q = 1 → ∀ V2, V2 = u0 (mv V 0 4 0 q) 10 0 → RgL V2 → Q (some (vi (V 4 (1216 * q + 6)))) (hp Γ S T U V2 G) nx) : AM Γ MX11_back (d + 1, 0, 0) [rf Γ 43, vi q] (hp Γ S T U V G) nx Q := by
  refine am_of (by decide) (Nat.le_of_ble_eq_true rfl) (ls := [some (rf Γ 43), some _]) rfl ?_
  refine aw_iload_n dX11_back_0 rfl ?_
  refine aw_i2l dX11_back_1 (by omega) ?_
  refine aw_lconst0 dX11_back_2 ?_
  refine aw_lconst1 dX11_back_3 ?_
  refine aw_callS (As := [_, _, _]) (ρ := (_, 0, 0)) (kn' := (0, 0)) cs_X11_51 dX11_back_4 rfl rfl (Nat.le_of_ble_eq_true rfl) (rmR _ _ _) ⟨Nat.le_refl _, Nat.le_refl _⟩ rfl (c_X11_in hnx (by omega) (fun r4 h4 => ?_))
  rcases h4 with ⟨rfl, h4⟩ | ⟨rfl, h4⟩
  · skip
    refine aw_if_ne (tgt := 12) dX11_back_7 rfl (by decide) (fun _ => ?_) (fun c => absurd c (by decide))
    replace hz := hz (by omega)
    refine aw_aload_n dX11_back_12 rfl ?_
    refine aw_getf fg_X11_25 dX11_back_13 (hc43 hnx) rfl ?_
    refine aw_iload_n dX11_back_16 rfl ?_
    refine aw_zald dX11_back_17 (hc49 hnx) (by omega) (by decide) ?_
    refine aw_if_ne (tgt := 24) dX11_back_18 rfl (by omega) (fun c18 => ?_) (fun c18 => ?_)
    · skip
      refine aw_aload_n dX11_back_24 rfl ?_
      refine aw_getf fg_X11_22 dX11_back_25 (hc43 hnx) rfl ?_
      refine aw_iload_n dX11_back_28 rfl ?_
      refine aw_aload_n dX11_back_29 rfl ?_
      refine aw_getf fg_X11_9 dX11_back_30 (hc43 hnx) rfl ?_
      refine aw_iconst dX11_back_33 ?_
      refine aw_callS (As := [_, _, _, _]) (ρ := (_, 0, 0)) (kn' := (0, 0)) cs_X11_154 dX11_back_34 rfl rfl (Nat.le_of_ble_eq_true rfl) (rmR _ _ _) ⟨Nat.le_refl _, Nat.le_refl _⟩ rfl (c_X11_moves_4_0 hnx hL (by omega) (by omega) (fun hL => ?_))
      refine aw_aload_n dX11_back_37 rfl ?_
      refine aw_iconst dX11_back_38 ?_
      refine aw_putV fp_X11_158 dX11_back_39 (hc43 hnx) (Nat.le_of_ble_eq_true rfl) hL (by omega) hu43_10 (fun hL => ?_)
      refine aw_aload_n dX11_back_42 rfl ?_
      refine aw_bipush dX11_back_43 rfl ?_
      refine aw_callV (As := [_]) (ρ := (_, 0, 0)) (kn' := (0, 0)) cv_X11_164 dX11_back_45 rfl rfl (hc43 hnx) rfl rfl (Nat.le_of_ble_eq_true rfl) (rmR _ _ _) ⟨Nat.le_refl _, Nat.le_refl _⟩ rfl (c_X11_many hnx hL (by omega) (fun r45 h45 => ?_))
      have e6 := mv_at V 0 4 0 q 6 (by omega)
      replace h45 : r45 = V 4 (1216 * q + 6) := h45.trans e6
      subst h45
      exact aw_ireturn dX11_back_48 rfl rfl ⟨Nat.le_refl _, Nat.le_refl _⟩ (hQ (by omega) (by omega) _ rfl hL)
    · skip
      refine aw_bipush dX11_back_21 rfl ?_
      exact aw_ireturn dX11_back_23 rfl rfl ⟨Nat.le_refl _, Nat.le_refl _⟩ (hE (by omega) (by omega))
  · skip
    refine aw_if_ne (tgt := 12) dX11_back_7 rfl (by decide) (fun c => absurd c (by decide)) (fun _ => ?_)
    refine aw_iconst dX11_back_10 ?_
    exact aw_ireturn dX11_back_11 rfl rfl ⟨Nat.le_refl _, Nat.le_refl _⟩ (hN (by omega))


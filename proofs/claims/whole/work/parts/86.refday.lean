/-! the reference: a day goes -/
theorem Inv.perQ {c : Int} {A : St} (h : Inv c A) (hd : A 25 0 < 3600) (hk : 0 < A 26 0) (hp : (A 25 0 + 1) % 90 = 0) : InvP (logS (Jvm.Pilot.@@N@@.dyB A)) ∧ Jvm.Pilot.@@N@@.bd (logS (Jvm.Pilot.@@N@@.dyB A)) ∧ 1 ≤ logS (Jvm.Pilot.@@N@@.dyB A) 0 5 := by
  have q := h.dayQ hd hp
  have e26 : logS (Jvm.Pilot.@@N@@.dyB A) 26 0 = A 26 0 := by
    rw [log_ne2 _ (by decide) (by decide), dyB_ne A (by decide) (by decide) (by decide) (by decide)]
    show lapA A (nS A) 26 0 = _
    rw [lap_ne A (by decide) (by decide) (by decide) (by decide)]
  have i1 := q.2.2.1
  have i2 := q.2.2.2.1
  unfold inv1 at i1; unfold inv2 at i2
  refine ⟨q.p (by rw [e26]; exact hk), ⟨i1.1, i1.2.1, i1.2.2.1, i1.2.2.2.1⟩, ?_⟩
  exact (i2 (by rw [e26]; exact hk)).2.2.2.2.2.1
theorem day_yes {A : St} {r : Int → Int} (w : (A 25 0 + 1) % 90 = 0) (h : Ag (prdF (logS (dyB A)) (nOr (logS (dyB A)))) r) : Ag (dayS A) r := by unfold dayS; rw [if_pos w]; exact h
theorem day_no {A : St} {r : Int → Int} (w : ¬ (A 25 0 + 1) % 90 = 0) (h : Ag (dyA A) r) : Ag (dayS A) r := by unfold dayS; rw [if_neg w]; unfold dyB; rw [if_neg (by omega)]; exact h

set_option maxHeartbeats 1000000 in
theorem c_X11_dayGoes {Γ : GT} {S T U V A : St} {G : Gw} {nx d : Nat} {Q : QT} (hnx : 52 ≤ nx) {c : Int} (hI : Inv c A) (hA : Ag A (V 0)) (hL : RgL V) (hd : A 25 0 < 3600) (hk : 0 < A 26 0) (hQ : ∀ r V2, r = lapN A → VX V V2 → RgL V2 → Ag (dayS A) (V2 0) → Q (some (vi r)) (hp Γ S T U V2 G) nx) : AM Γ MX11_dayGoes (d + 5, 0, 0) [rf Γ 43] (hp Γ S T U V G) nx Q := by
  refine am_of (by decide) (Nat.le_of_ble_eq_true rfl) (ls := [some (rf Γ 43), none, none]) rfl ?_
  have hR := hI.R
  have i1 := hI.i1
  have hz : 0 ≤ A 28 0 ∧ A 28 0 ≤ 60 := i1.2.2.1
  have hkS : nS A = (A 28 0).toNat := rfl
  have hkI : nIm A = (A 27 0).toNat := rfl
  have hkO : nOr A = (A 26 0).toNat := rfl
  have hbd := (hI.dyA hd).bd
  have hIQ := hI.perQ hd hk
  have r24 := hR 24 (by decide) 3
  refine aw_iconst dX11_dayGoes_0 ?_
  refine aw_istore_n (ls' := [some (rf Γ 43), some _, none]) dX11_dayGoes_1 (by decide) rfl ?_
  refine aw_iconst dX11_dayGoes_2 ?_
  refine aw_istore_n (ls' := [some (rf Γ 43), some _, some _]) dX11_dayGoes_3 (by decide) rfl ?_
  refine loopN (nS A) (P := fun k => ∀ (x : Int) (W : St), x = lapA A k 24 3 - A 24 3 → VX V W → RgL W → Ag (lapA A k) (W 0) →  AW Γ MX11_dayGoes _ _ (0, 0) 4 [some (rf Γ 43), some (vi x), some (vi (k : Int))] [] (hp Γ S T U W G) nx) (fun k hk ih => ?_) 0 (Nat.zero_le _) _ V (by show _ = A 24 3 - A 24 3; omega) VX.rfl hL hA
  intro x W i4_0 i4_1 i4_2 i4_3
  refine aw_iload_n dX11_dayGoes_4 rfl ?_
  have hX := i4_1
  replace hL := i4_2
  replace hA := i4_3
  have hIk := hI.lap k (by omega)
  have hb := hIk.bd
  have e28 : lapA A k 28 0 = A 28 0 := (congrFun (lap_ne A (by decide) (by decide) (by decide) (by decide) k) 0)
  refine aw_aload_n dX11_dayGoes_5 rfl ?_
  refine aw_bipush dX11_dayGoes_6 rfl ?_
  refine aw_callV (As := [_]) (ρ := (_, 0, 0)) (kn' := (0, 0)) cv_X11_164 dX11_dayGoes_8 rfl rfl (hc43 hnx) rfl rfl (Nat.le_of_ble_eq_true rfl) (rmR _ _ _) ⟨Nat.le_refl _, Nat.le_refl _⟩ rfl (c_X11_many hnx hL (by omega) (fun r8 h8 => ?_))
  replace h8 : r8 = A 28 0 := h8.trans (hA.c8.trans e28)
  refine aw_icmp_ge (tgt := 59) dX11_dayGoes_11 rfl (by omega) (fun c11 => ?_) (fun c11 => ?_)
  · skip
    obtain rfl : k = nS A := by omega
    refine aw_aload_n dX11_dayGoes_59 rfl ?_
    refine aw_getf fg_X11_9 dX11_dayGoes_60 (hc43 hnx) rfl ?_
    refine aw_bipush dX11_dayGoes_63 rfl ?_
    refine aw_dup2_11 dX11_dayGoes_65 rfl rfl ?_
    refine aw_rdA (f := 25) (i := 0) (v := A 25 0) dX11_dayGoes_66 hnx hL hA hb (un_25) (by show _ = (9 : Int); omega) (congrFun (lap_ne A (by decide) (by decide) (by decide) (by decide) (nS A)) 0) (fun q66 => ?_)
    refine aw_lconst1 dX11_dayGoes_67 ?_
    refine aw_ladd dX11_dayGoes_68 ?_
    refine aw_stA (f := 25) (i := 0) (v := A 25 0 + 1) dX11_dayGoes_69 hnx hX hL hA hb (un_25) (by decide) (by show _ = (9 : Int); omega) (by omega) (by omega) (fun V69 hX hL hA => ?_)
    replace hA : Ag (dyA A) (V69 0) := day_cg hA
    replace hb := hbd
    refine aw_aload_n dX11_dayGoes_70 rfl ?_
    refine aw_getf fg_X11_9 dX11_dayGoes_71 (hc43 hnx) rfl ?_
    refine aw_bipush dX11_dayGoes_74 rfl ?_
    refine aw_rdA (f := 25) (i := 0) (v := A 25 0 + 1) dX11_dayGoes_76 hnx hL hA hb (un_25) (by show _ = (9 : Int); omega) (rfl) (fun q76 => ?_)
    refine aw_ldc2 dX11_dayGoes_77 qk_X11_212 ?_
    refine aw_st (st' := vl 90 :: _) rfl ?_
    refine aw_lrem dX11_dayGoes_80 (by omega) (by omega) ?_
    refine aw_lconst0 dX11_dayGoes_81 ?_
    refine aw_lif_ne (tgt := 90) dX11_dayGoes_82 dX11_dayGoes_83 rfl (by omega) (fun c82 => ?_) (fun c82 => ?_)
    · skip
      refine aw_aload_n dX11_dayGoes_90 rfl ?_
      refine aw_getf fg_X11_9 dX11_dayGoes_91 (hc43 hnx) rfl ?_
      refine aw_bipush dX11_dayGoes_94 rfl ?_
      refine aw_rdA (f := 25) (i := 0) (v := A 25 0 + 1) dX11_dayGoes_96 hnx hL hA hb (un_25) (by show _ = (9 : Int); omega) (rfl) (fun q96 => ?_)
      refine aw_ldc2 dX11_dayGoes_97 qk_X11_180 ?_
      refine aw_st (st' := vl 360 :: _) rfl ?_
      refine aw_lrem dX11_dayGoes_100 (by omega) (by omega) ?_
      refine aw_lconst0 dX11_dayGoes_101 ?_
      refine aw_lif_ne (tgt := 110) dX11_dayGoes_102 dX11_dayGoes_103 rfl (by omega) (fun c102 => ?_) (fun c102 => ?_)
      · skip
        refine aw_aload_n dX11_dayGoes_110 rfl ?_
        refine aw_getf fg_X11_9 dX11_dayGoes_111 (hc43 hnx) rfl ?_
        refine aw_bipush dX11_dayGoes_114 rfl ?_
        refine aw_rdA (f := 25) (i := 0) (v := A 25 0 + 1) dX11_dayGoes_116 hnx hL hA hb (un_25) (by show _ = (9 : Int); omega) (rfl) (fun q116 => ?_)
        refine aw_ldc2 dX11_dayGoes_117 qk_X11_212 ?_
        refine aw_st (st' := vl 90 :: _) rfl ?_
        refine aw_lrem dX11_dayGoes_120 (by omega) (by omega) ?_
        refine aw_lconst0 dX11_dayGoes_121 ?_
        refine aw_lif_ne (tgt := 130) dX11_dayGoes_122 dX11_dayGoes_123 rfl (by omega) (fun c122 => ?_) (fun c122 => ?_)
        · skip
          refine aw_iload_n dX11_dayGoes_130 rfl ?_
          exact aw_ireturn dX11_dayGoes_131 rfl rfl ⟨Nat.le_refl _, Nat.le_refl _⟩ (hQ _ _ i4_0 hX hL (by first | (exfalso; omega) | (have w : (A 25 0 + 1) % 90 = 0 := (by omega); exact day_yes w hA) | (have w : ¬ (A 25 0 + 1) % 90 = 0 := (by omega); exact day_no w hA)))
        · skip
          refine aw_aload_n dX11_dayGoes_126 rfl ?_
          refine aw_callV (As := []) (ρ := (_, 0, 0)) (kn' := (0, 0)) cv_X11_161 dX11_dayGoes_127 rfl rfl (hc43 hnx) rfl rfl (Nat.le_of_ble_eq_true rfl) (rmR _ _ _) ⟨Nat.le_refl _, Nat.le_refl _⟩ rfl (c_X11_periodBegins (A := logS (dyB A)) hnx (by first | (exfalso; omega) | (have w : (A 25 0 + 1) % 360 = 0 := (by omega); exact dy_yes hbd w hA) | (have w : ¬ (A 25 0 + 1) % 360 = 0 := (by omega); exact dy_no w hA)) (hIQ (by omega)).2.1 hL (hIQ (by omega)).1 (hIQ (by omega)).2.2 (fun V127 hX127 hL hA => ?_))
          replace hX := hX.trans hX127
          refine aw_iload_n dX11_dayGoes_130 rfl ?_
          exact aw_ireturn dX11_dayGoes_131 rfl rfl ⟨Nat.le_refl _, Nat.le_refl _⟩ (hQ _ _ i4_0 hX hL (by first | (exfalso; omega) | (have w : (A 25 0 + 1) % 90 = 0 := (by omega); exact day_yes w hA) | (have w : ¬ (A 25 0 + 1) % 90 = 0 := (by omega); exact day_no w hA)))
      · skip
        refine aw_aload_n dX11_dayGoes_106 rfl ?_
        refine aw_callV (As := []) (ρ := (_, 0, 0)) (kn' := (0, 0)) cv_X11_283 dX11_dayGoes_107 rfl rfl (hc43 hnx) rfl rfl (Nat.le_of_ble_eq_true rfl) (rmR _ _ _) ⟨Nat.le_refl _, Nat.le_refl _⟩ rfl (c_X11_yearBegins hnx hA hb hL (fun V107 hX107 hL hA => ?_))
        replace hX := hX.trans hX107
        replace hb := bd_turn hb
        refine aw_aload_n dX11_dayGoes_110 rfl ?_
        refine aw_getf fg_X11_9 dX11_dayGoes_111 (hc43 hnx) rfl ?_
        refine aw_bipush dX11_dayGoes_114 rfl ?_
        refine aw_rdA (f := 25) (i := 0) (v := A 25 0 + 1) dX11_dayGoes_116 hnx hL hA hb (un_25) (by show _ = (9 : Int); omega) (congrFun (turn_ne (dyA A) (by decide) (by decide) (by decide) (by decide)) 0) (fun q116 => ?_)
        refine aw_ldc2 dX11_dayGoes_117 qk_X11_212 ?_
        refine aw_st (st' := vl 90 :: _) rfl ?_
        refine aw_lrem dX11_dayGoes_120 (by omega) (by omega) ?_
        refine aw_lconst0 dX11_dayGoes_121 ?_
        refine aw_lif_ne (tgt := 130) dX11_dayGoes_122 dX11_dayGoes_123 rfl (by omega) (fun c122 => ?_) (fun c122 => ?_)
        · skip
          refine aw_iload_n dX11_dayGoes_130 rfl ?_
          exact aw_ireturn dX11_dayGoes_131 rfl rfl ⟨Nat.le_refl _, Nat.le_refl _⟩ (hQ _ _ i4_0 hX hL (by first | (exfalso; omega) | (have w : (A 25 0 + 1) % 90 = 0 := (by omega); exact day_yes w hA) | (have w : ¬ (A 25 0 + 1) % 90 = 0 := (by omega); exact day_no w hA)))
        · skip
          refine aw_aload_n dX11_dayGoes_126 rfl ?_
          refine aw_callV (As := []) (ρ := (_, 0, 0)) (kn' := (0, 0)) cv_X11_161 dX11_dayGoes_127 rfl rfl (hc43 hnx) rfl rfl (Nat.le_of_ble_eq_true rfl) (rmR _ _ _) ⟨Nat.le_refl _, Nat.le_refl _⟩ rfl (c_X11_periodBegins (A := logS (dyB A)) hnx (by first | (exfalso; omega) | (have w : (A 25 0 + 1) % 360 = 0 := (by omega); exact dy_yes hbd w hA) | (have w : ¬ (A 25 0 + 1) % 360 = 0 := (by omega); exact dy_no w hA)) (hIQ (by omega)).2.1 hL (hIQ (by omega)).1 (hIQ (by omega)).2.2 (fun V127 hX127 hL hA => ?_))
          replace hX := hX.trans hX127
          refine aw_iload_n dX11_dayGoes_130 rfl ?_
          exact aw_ireturn dX11_dayGoes_131 rfl rfl ⟨Nat.le_refl _, Nat.le_refl _⟩ (hQ _ _ i4_0 hX hL (by first | (exfalso; omega) | (have w : (A 25 0 + 1) % 90 = 0 := (by omega); exact day_yes w hA) | (have w : ¬ (A 25 0 + 1) % 90 = 0 := (by omega); exact day_no w hA)))
    · skip
      refine aw_aload_n dX11_dayGoes_86 rfl ?_
      refine aw_callV (As := []) (ρ := (_, 0, 0)) (kn' := (0, 0)) cv_X11_280 dX11_dayGoes_87 rfl rfl (hc43 hnx) rfl rfl (Nat.le_of_ble_eq_true rfl) (rmR _ _ _) ⟨Nat.le_refl _, Nat.le_refl _⟩ rfl (c_X11_logs hnx hA hb hL (fun V87 hX87 hL hA => ?_))
      replace hX := hX.trans hX87
      replace hb := bd_log hb
      refine aw_aload_n dX11_dayGoes_90 rfl ?_
      refine aw_getf fg_X11_9 dX11_dayGoes_91 (hc43 hnx) rfl ?_
      refine aw_bipush dX11_dayGoes_94 rfl ?_
      refine aw_rdA (f := 25) (i := 0) (v := A 25 0 + 1) dX11_dayGoes_96 hnx hL hA hb (un_25) (by show _ = (9 : Int); omega) (congrFun (log_ne2 (dyA A) (by decide) (by decide)) 0) (fun q96 => ?_)
      refine aw_ldc2 dX11_dayGoes_97 qk_X11_180 ?_
      refine aw_st (st' := vl 360 :: _) rfl ?_
      refine aw_lrem dX11_dayGoes_100 (by omega) (by omega) ?_
      refine aw_lconst0 dX11_dayGoes_101 ?_
      refine aw_lif_ne (tgt := 110) dX11_dayGoes_102 dX11_dayGoes_103 rfl (by omega) (fun c102 => ?_) (fun c102 => ?_)
      · skip
        refine aw_aload_n dX11_dayGoes_110 rfl ?_
        refine aw_getf fg_X11_9 dX11_dayGoes_111 (hc43 hnx) rfl ?_
        refine aw_bipush dX11_dayGoes_114 rfl ?_
        refine aw_rdA (f := 25) (i := 0) (v := A 25 0 + 1) dX11_dayGoes_116 hnx hL hA hb (un_25) (by show _ = (9 : Int); omega) (congrFun (log_ne2 (dyA A) (by decide) (by decide)) 0) (fun q116 => ?_)
        refine aw_ldc2 dX11_dayGoes_117 qk_X11_212 ?_
        refine aw_st (st' := vl 90 :: _) rfl ?_
        refine aw_lrem dX11_dayGoes_120 (by omega) (by omega) ?_
        refine aw_lconst0 dX11_dayGoes_121 ?_
        refine aw_lif_ne (tgt := 130) dX11_dayGoes_122 dX11_dayGoes_123 rfl (by omega) (fun c122 => ?_) (fun c122 => ?_)
        · skip
          refine aw_iload_n dX11_dayGoes_130 rfl ?_
          exact aw_ireturn dX11_dayGoes_131 rfl rfl ⟨Nat.le_refl _, Nat.le_refl _⟩ (hQ _ _ i4_0 hX hL (by first | (exfalso; omega) | (have w : (A 25 0 + 1) % 90 = 0 := (by omega); exact day_yes w hA) | (have w : ¬ (A 25 0 + 1) % 90 = 0 := (by omega); exact day_no w hA)))
        · skip
          refine aw_aload_n dX11_dayGoes_126 rfl ?_
          refine aw_callV (As := []) (ρ := (_, 0, 0)) (kn' := (0, 0)) cv_X11_161 dX11_dayGoes_127 rfl rfl (hc43 hnx) rfl rfl (Nat.le_of_ble_eq_true rfl) (rmR _ _ _) ⟨Nat.le_refl _, Nat.le_refl _⟩ rfl (c_X11_periodBegins (A := logS (dyB A)) hnx (by first | (exfalso; omega) | (have w : (A 25 0 + 1) % 360 = 0 := (by omega); exact dy_yes hbd w hA) | (have w : ¬ (A 25 0 + 1) % 360 = 0 := (by omega); exact dy_no w hA)) (hIQ (by omega)).2.1 hL (hIQ (by omega)).1 (hIQ (by omega)).2.2 (fun V127 hX127 hL hA => ?_))
          replace hX := hX.trans hX127
          refine aw_iload_n dX11_dayGoes_130 rfl ?_
          exact aw_ireturn dX11_dayGoes_131 rfl rfl ⟨Nat.le_refl _, Nat.le_refl _⟩ (hQ _ _ i4_0 hX hL (by first | (exfalso; omega) | (have w : (A 25 0 + 1) % 90 = 0 := (by omega); exact day_yes w hA) | (have w : ¬ (A 25 0 + 1) % 90 = 0 := (by omega); exact day_no w hA)))
      · skip
        refine aw_aload_n dX11_dayGoes_106 rfl ?_
        refine aw_callV (As := []) (ρ := (_, 0, 0)) (kn' := (0, 0)) cv_X11_283 dX11_dayGoes_107 rfl rfl (hc43 hnx) rfl rfl (Nat.le_of_ble_eq_true rfl) (rmR _ _ _) ⟨Nat.le_refl _, Nat.le_refl _⟩ rfl (c_X11_yearBegins hnx hA hb hL (fun V107 hX107 hL hA => ?_))
        replace hX := hX.trans hX107
        replace hb := bd_turn hb
        refine aw_aload_n dX11_dayGoes_110 rfl ?_
        refine aw_getf fg_X11_9 dX11_dayGoes_111 (hc43 hnx) rfl ?_
        refine aw_bipush dX11_dayGoes_114 rfl ?_
        refine aw_rdA (f := 25) (i := 0) (v := A 25 0 + 1) dX11_dayGoes_116 hnx hL hA hb (un_25) (by show _ = (9 : Int); omega) ((congrFun (turn_ne (logS (dyA A)) (by decide) (by decide) (by decide) (by decide)) 0).trans (congrFun (log_ne2 (dyA A) (by decide) (by decide)) 0)) (fun q116 => ?_)
        refine aw_ldc2 dX11_dayGoes_117 qk_X11_212 ?_
        refine aw_st (st' := vl 90 :: _) rfl ?_
        refine aw_lrem dX11_dayGoes_120 (by omega) (by omega) ?_
        refine aw_lconst0 dX11_dayGoes_121 ?_
        refine aw_lif_ne (tgt := 130) dX11_dayGoes_122 dX11_dayGoes_123 rfl (by omega) (fun c122 => ?_) (fun c122 => ?_)
        · skip
          refine aw_iload_n dX11_dayGoes_130 rfl ?_
          exact aw_ireturn dX11_dayGoes_131 rfl rfl ⟨Nat.le_refl _, Nat.le_refl _⟩ (hQ _ _ i4_0 hX hL (by first | (exfalso; omega) | (have w : (A 25 0 + 1) % 90 = 0 := (by omega); exact day_yes w hA) | (have w : ¬ (A 25 0 + 1) % 90 = 0 := (by omega); exact day_no w hA)))
        · skip
          refine aw_aload_n dX11_dayGoes_126 rfl ?_
          refine aw_callV (As := []) (ρ := (_, 0, 0)) (kn' := (0, 0)) cv_X11_161 dX11_dayGoes_127 rfl rfl (hc43 hnx) rfl rfl (Nat.le_of_ble_eq_true rfl) (rmR _ _ _) ⟨Nat.le_refl _, Nat.le_refl _⟩ rfl (c_X11_periodBegins (A := logS (dyB A)) hnx (by first | (exfalso; omega) | (have w : (A 25 0 + 1) % 360 = 0 := (by omega); exact dy_yes hbd w hA) | (have w : ¬ (A 25 0 + 1) % 360 = 0 := (by omega); exact dy_no w hA)) (hIQ (by omega)).2.1 hL (hIQ (by omega)).1 (hIQ (by omega)).2.2 (fun V127 hX127 hL hA => ?_))
          replace hX := hX.trans hX127
          refine aw_iload_n dX11_dayGoes_130 rfl ?_
          exact aw_ireturn dX11_dayGoes_131 rfl rfl ⟨Nat.le_refl _, Nat.le_refl _⟩ (hQ _ _ i4_0 hX hL (by first | (exfalso; omega) | (have w : (A 25 0 + 1) % 90 = 0 := (by omega); exact day_yes w hA) | (have w : ¬ (A 25 0 + 1) % 90 = 0 := (by omega); exact day_no w hA)))
  · skip
    have sl : 0 ≤ (k : Int) ∧ (k : Int) < lapA A k 28 0 := by rw [e28]; omega
    have li := hI.li (l := k) (by omega)
    refine aw_aload_n dX11_dayGoes_14 rfl ?_
    refine aw_iload_n dX11_dayGoes_15 rfl ?_
    refine aw_callV (As := [_]) (ρ := (_, 0, 0)) (kn' := (0, 0)) cv_X11_199 dX11_dayGoes_16 rfl rfl (hc43 hnx) rfl rfl (Nat.le_of_ble_eq_true rfl) (rmR _ _ _) ⟨Nat.le_refl _, Nat.le_refl _⟩ rfl (c_X11_isOpen hnx hIk hA hL sl (fun r16 h16 => ?_))
    rcases h16 with ⟨rfl, h16⟩ | ⟨rfl, h16⟩
    · skip
      refine aw_if_eq (tgt := 53) dX11_dayGoes_19 rfl (by decide) (fun c => absurd c (by decide)) (fun _ => ?_)
      refine aw_aload_n dX11_dayGoes_22 rfl ?_
      refine aw_getf fg_X11_9 dX11_dayGoes_23 (hc43 hnx) rfl ?_
      refine aw_iload_n dX11_dayGoes_26 rfl ?_
      refine aw_bipush dX11_dayGoes_27 rfl ?_
      refine aw_callS (As := [_, _]) (ρ := (_, 0, 0)) (kn' := (0, 0)) cs_X11_48 dX11_dayGoes_29 rfl rfl (Nat.le_of_ble_eq_true rfl) (rmR _ _ _) ⟨Nat.le_refl _, Nat.le_refl _⟩ rfl (c_X11_licenceAt hnx  (fun r29 h29 => ?_))
      refine aw_rdA (f := 8) (i := (k : Int)) (v := A 8 k) dX11_dayGoes_32 hnx hL hA hb (un_8 sl) (by show _ = 456 + 10 * ((k : Int)) + 6; omega) ((congrFun (lap_ne A (by decide) (by decide) (by decide) (by decide) k) k)) (fun q32 => ?_)
      refine aw_aload_n dX11_dayGoes_33 rfl ?_
      refine aw_getf fg_X11_9 dX11_dayGoes_34 (hc43 hnx) rfl ?_
      refine aw_bipush dX11_dayGoes_37 rfl ?_
      refine aw_rdA (f := 25) (i := 0) (v := A 25 0) dX11_dayGoes_39 hnx hL hA hb (un_25) (by show _ = (9 : Int); omega) ((congrFun (lap_ne A (by decide) (by decide) (by decide) (by decide) k) 0)) (fun q39 => ?_)
      refine aw_lif_ne (tgt := 53) dX11_dayGoes_40 dX11_dayGoes_41 rfl (by omega) (fun c40 => ?_) (fun c40 => ?_)
      · skip
        refine aw_iinc (ls' := [some (rf Γ 43), some _, some _]) dX11_dayGoes_53 rfl (by decide) rfl ?_
        refine aw_goto (tgt := 4) dX11_dayGoes_56 rfl ?_
        exact ih (by omega) x _ (by first | (have w : ¬ (lapA A k 10 k = 0 ∧ A 8 k = A 25 0) := (by omega); rw [lap_s0 A k w]; exact i4_0) | (rw [lap_t1 A k (by omega) (by omega)]; omega)) hX hL (by first | (have w : ¬ (lapA A k 10 k = 0 ∧ A 8 k = A 25 0) := (by omega); rw [lap_s0 A k w]; exact hA) | (rw [lapA, if_pos ⟨by omega, by omega⟩]; exact hA))
      · skip
        refine aw_iload_n dX11_dayGoes_44 rfl ?_
        refine aw_aload_n dX11_dayGoes_45 rfl ?_
        refine aw_iload_n dX11_dayGoes_46 rfl ?_
        refine aw_iconst dX11_dayGoes_47 ?_
        refine aw_callV (As := [_, _]) (ρ := (_, 0, 0)) (kn' := (0, 0)) cv_X11_253 dX11_dayGoes_48 rfl rfl (hc43 hnx) rfl rfl (Nat.le_of_ble_eq_true rfl) (rmR _ _ _) ⟨Nat.le_refl _, Nat.le_refl _⟩ rfl (c_X11_comesBack hnx hIk hA hL sl (by omega) (fun V48 hX48 hL hA => ?_))
        replace hX := hX.trans hX48
        refine aw_iadd dX11_dayGoes_51 ?_
        refine aw_nmI (fun x1_52 hx1_52 => ?_)
        refine aw_istore_n (ls' := [some (rf Γ 43), some _, some _]) dX11_dayGoes_52 (by decide) rfl ?_
        refine aw_iinc (ls' := [some (rf Γ 43), some _, some _]) dX11_dayGoes_53 rfl (by decide) rfl ?_
        refine aw_goto (tgt := 4) dX11_dayGoes_56 rfl ?_
        exact ih (by omega) x1_52 _ (by first | (have w : ¬ (lapA A k 10 k = 0 ∧ A 8 k = A 25 0) := (by omega); rw [lap_s0 A k w]; exact i4_0) | (rw [lap_t1 A k (by omega) (by omega)]; omega)) hX hL (by first | (have w : ¬ (lapA A k 10 k = 0 ∧ A 8 k = A 25 0) := (by omega); rw [lap_s0 A k w]; exact hA) | (rw [lapA, if_pos ⟨by omega, by omega⟩]; exact hA))
    · skip
      refine aw_if_eq (tgt := 53) dX11_dayGoes_19 rfl (by decide) (fun _ => ?_) (fun c => absurd c (by decide))
      refine aw_iinc (ls' := [some (rf Γ 43), some _, some _]) dX11_dayGoes_53 rfl (by decide) rfl ?_
      refine aw_goto (tgt := 4) dX11_dayGoes_56 rfl ?_
      exact ih (by omega) x _ (by first | (have w : ¬ (lapA A k 10 k = 0 ∧ A 8 k = A 25 0) := (by omega); rw [lap_s0 A k w]; exact i4_0) | (rw [lap_t1 A k (by omega) (by omega)]; omega)) hX hL (by first | (have w : ¬ (lapA A k 10 k = 0 ∧ A 8 k = A 25 0) := (by omega); rw [lap_s0 A k w]; exact hA) | (rw [lapA, if_pos ⟨by omega, by omega⟩]; exact hA))


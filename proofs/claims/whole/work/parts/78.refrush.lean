/-! the reference: a rush -/
theorem gs_sm (S : St) (j o x : Int) (f : Nat) (h : ¬ (4 ≤ f ∧ f ≤ 13)) (h1 : f ≠ 28) (h2 : f ≠ 14) (h3 : f ≠ 17) (h4 : f ≠ 18) (h5 : f ≠ 24) : grS S j o x f = S f := by
  rw [gs_ne _ _ _ _ f (by omega) (by omega) (by omega) (by omega) (by omega) (by omega) (by omega) (by omega) (by omega) (by omega) h1, g2_ne _ _ _ _ f h2 h3 h4 h5]
theorem gs_endL (S : St) (i o j o2 x : Int) (hz : 0 ≤ S 28 0) : ∀ n : Nat, n ≤ nS S → endL (grS S j o2 x) i o n = endL S i o n
  | 0, _ => rfl
  | n + 1, h => by
    have ih := gs_endL S i o j o2 x hz n (by omega)
    have b := endL_in S i o n
    have hn : (n : Int) < S 28 0 := by unfold nS at h; omega
    have e10 : grS S j o2 x 10 n = S 10 n := by rw [gs_10, if_neg (by omega)]
    have e4 : grS S j o2 x 4 n = S 4 n := by rw [gs_4, if_neg (by omega)]
    have e5 : grS S j o2 x 5 n = S 5 n := by rw [gs_5, if_neg (by omega)]
    have e11 : grS S j o2 x 11 n = S 11 n := by rw [gs_11, if_neg (by omega)]
    have e12 : grS S j o2 x 11 (endL S i o n) = S 11 (endL S i o n) := by rw [gs_11, if_neg (by omega)]
    rw [endL, endL, ih, e10, e4, e5, e11, e12]
theorem gs_endA (S : St) (i o j o2 x : Int) (hz : 0 ≤ S 28 0) : endL (grS S j o2 x) i o (nS (grS S j o2 x)) = endL S i o (nS S) := by
  have e : nS (grS S j o2 x) = nS S + 1 := by unfold nS; rw [gs_28]; omega
  rw [e, endL, gs_endL S i o j o2 x hz _ (Nat.le_refl _)]
  have e2 : ((nS S : Nat) : Int) = S 28 0 := by unfold nS; omega
  rw [if_neg]
  intro z
  rw [e2, gs_10, if_pos rfl] at z
  exact z.1 rfl
theorem gs_kept (S : St) (i o j o2 x : Int) (hz : 0 ≤ S 28 0) : kept (grS S j o2 x) i o ↔ kept S i o := by
  have b := endL_in S i o (nS S)
  have e2 : ((nS S : Nat) : Int) = S 28 0 := by unfold nS; omega
  show endL (grS S j o2 x) i o (nS (grS S j o2 x)) ≠ -1 ∧ 0 < grS S j o2 x 0 3 * grS S j o2 x 6 (endL (grS S j o2 x) i o (nS (grS S j o2 x))) - 100 * grS S j o2 x 9 (endL (grS S j o2 x) i o (nS (grS S j o2 x))) ↔ _
  rw [gs_endA S i o j o2 x hz, gs_6, gs_9, gs_sm S j o2 x 0 (by decide) (by decide) (by decide) (by decide) (by decide) (by decide), if_neg (by omega), if_neg (by omega)]
theorem gs_offer (S : St) {i o j x n q w : Int} (hz : 0 ≤ S 28 0) (hij : i ≠ j) : offer (grS S j o x) i o n q w = offer S i o n q w := by
  have e17 : grS S j o x 17 (4 * i + o) = S 17 (4 * i + o) := by
    rw [gs_ne _ _ _ _ 17 (by decide) (by decide) (by decide) (by decide) (by decide) (by decide) (by decide) (by decide) (by decide) (by decide) (by decide), g2_17, if_neg (by omega)]
  have e18 : grS S j o x 18 (4 * i + o) = S 18 (4 * i + o) := by
    rw [gs_ne _ _ _ _ 18 (by decide) (by decide) (by decide) (by decide) (by decide) (by decide) (by decide) (by decide) (by decide) (by decide) (by decide), g2_18, if_neg (by omega)]
  have ek : ∀ a b : Int, (if kept (grS S j o x) i o then a else b) = (if kept S i o then a else b) := by
    intro a b
    have hk := gs_kept S i o j o x hz
    by_cases h : kept S i o
    · rw [if_pos h, if_pos (hk.mpr h)]
    · rw [if_neg h, if_neg (fun z => h (hk.mp z))]
  unfold offer
  rw [e17, e18, ek, gs_sm S j o x 15 (by decide) (by decide) (by decide) (by decide) (by decide) (by decide), gs_sm S j o x 0 (by decide) (by decide) (by decide) (by decide) (by decide) (by decide)]
theorem offer_ok {S : St} {i o n q w : Int} (hn : 1 ≤ n) (h : 0 ≤ offer S i o n q w) : 1 ≤ offer S i o n q w ∧ offer S i o n q w ≤ n ∧ (S 15 (4 * i + o) = 1 → offer S i o n q w ≤ S 17 (4 * i + o)) ∧ (¬ S 15 (4 * i + o) = 1 → offer S i o n q w ≤ q) := by
  unfold offer at h ⊢
  by_cases h0 : 60 ≤ w
  · rw [if_pos h0] at h; omega
  rw [if_neg h0] at h ⊢
  by_cases h1 : S 15 (4 * i + o) = 1
  · rw [if_pos h1] at h ⊢
    by_cases h2 : 0 < S 17 (4 * i + o)
    · rw [if_pos h2] at h ⊢; omega
    · rw [if_neg h2] at h; omega
  · rw [if_neg h1] at h ⊢
    by_cases h2 : S 0 1 < n
    · rw [if_pos h2] at h; omega
    rw [if_neg h2] at h ⊢
    by_cases h3 : 0 < S 18 (4 * i + o)
    · rw [if_pos h3] at h; omega
    rw [if_neg h3] at h ⊢
    by_cases h4 : kept S i o
    · rw [if_pos h4] at h; omega
    rw [if_neg h4] at h ⊢
    by_cases h5 : 0 < q
    · rw [if_pos h5] at h ⊢; omega
    · rw [if_neg h5] at h; omega
def rsA (A : St) (o n : Int) : Nat → St
  | 0 => A
  | k + 1 => if 0 ≤ offer (rsA A o n k) k o n (rsA A o n k 14 (o * 8 + 3)) (rsA A o n k 28 0) then grS (rsA A o n k) k o (offer (rsA A o n k) k o n (rsA A o n k 14 (o * 8 + 3)) (rsA A o n k 28 0)) else rsA A o n k
theorem rsA_in {c : Int} {A : St} {o n : Int} (h : Inv c A) (ho : 0 ≤ o ∧ o < A 26 0) (hn : 1 ≤ n ∧ n ≤ 99999) : ∀ k : Nat, (k : Int) ≤ A 27 0 → Inv c (rsA A o n k) ∧ (rsA A o n k 26 0 = A 26 0 ∧ rsA A o n k 27 0 = A 27 0) ∧ rsA A o n k 14 (o * 8 + 3) = (rsh A o n k).1 ∧ rsA A o n k 28 0 = (rsh A o n k).2.1 ∧ (∀ i q w : Int, (k : Int) ≤ i → offer (rsA A o n k) i o n q w = offer A i o n q w) ∧ rsA A o n k 15 = A 15
  | 0, _ => ⟨h, ⟨rfl, rfl⟩, rfl, rfl, fun _ _ _ _ => rfl, rfl⟩
  | k + 1, hk => by
    obtain ⟨a1, ⟨a2, a3⟩, a4, a5, a6, a7⟩ := rsA_in h ho hn k (by omega)
    have hb := a1.i1.2.2.1
    rw [rsA, rsh]
    have e := a6 k (rsA A o n k 14 (o * 8 + 3)) (rsA A o n k 28 0) (Int.le_refl _)
    have e' : offer A k o n (rsh A o n k).1 (rsh A o n k).2.1 = offer (rsA A o n k) k o n (rsA A o n k 14 (o * 8 + 3)) (rsA A o n k 28 0) := by rw [e, a4, a5]
    rw [e']
    generalize ht : offer (rsA A o n k) k o n (rsA A o n k 14 (o * 8 + 3)) (rsA A o n k 28 0) = t
    by_cases h0 : 0 ≤ t
    · rw [if_pos h0]
      have ok := offer_ok (S := rsA A o n k) (i := k) (o := o) (n := n) (q := rsA A o n k 14 (o * 8 + 3)) (w := rsA A o n k 28 0) hn.1 (by omega)
      have o60 := offer_60 (S := rsA A o n k) (i := k) (o := o) (n := n) (q := rsA A o n k 14 (o * 8 + 3)) (w := rsA A o n k 28 0) (by omega)
      rw [ht] at ok
      refine ⟨a1.grant (by rw [a3]; omega) (by rw [a2]; omega) o60 ⟨ok.1, by omega⟩ ok.2.2.1 ok.2.2.2, ⟨?_, ?_⟩, ?_, ?_, ?_, ?_⟩
      · rw [gs_sm _ _ _ _ 26 (by decide) (by decide) (by decide) (by decide) (by decide) (by decide), a2]
      · rw [gs_sm _ _ _ _ 27 (by decide) (by decide) (by decide) (by decide) (by decide) (by decide), a3]
      · rw [gs_ne _ _ _ _ 14 (by decide) (by decide) (by decide) (by decide) (by decide) (by decide) (by decide) (by decide) (by decide) (by decide) (by decide), g2_14, if_neg (by omega), a7, a4]
        show _ = if 0 < max 0 t ∧ ¬ A 15 (4 * (k : Int) + o) = 1 then (rsh A o n k).1 - max 0 t else (rsh A o n k).1
        rw [show max 0 t = t by omega]
        by_cases h15 : A 15 (4 * (k : Int) + o) = 1
        · rw [if_neg (fun z => z.2 h15), if_neg (fun z => z.2 h15)]
        · rw [if_pos ⟨rfl, h15⟩, if_pos ⟨by omega, h15⟩]
      · rw [gs_28, a5]
        show _ = if 0 < max 0 t then (rsh A o n k).2.1 + 1 else (rsh A o n k).2.1
        rw [if_pos (by omega)]
      · intro i q w hi
        rw [gs_offer _ hb.1 (by omega)]
        exact a6 i q w (by omega)
      · rw [gs_sm _ _ _ _ 15 (by decide) (by decide) (by decide) (by decide) (by decide) (by decide), a7]
    · rw [if_neg h0]
      refine ⟨a1, ⟨a2, a3⟩, ?_, ?_, fun i q w hi => a6 i q w (by omega), a7⟩
      · show _ = if 0 < max 0 t ∧ ¬ A 15 (4 * (k : Int) + o) = 1 then (rsh A o n k).1 - max 0 t else (rsh A o n k).1
        rw [if_neg (by omega), a4]
      · show _ = if 0 < max 0 t then (rsh A o n k).2.1 + 1 else (rsh A o n k).2.1
        rw [if_neg (by omega), a5]

set_option maxHeartbeats 1000000 in
theorem c_X11_rush {Γ : GT} {S T U V A : St} {G : Gw} {nx d : Nat} {Q : QT} (hnx : 52 ≤ nx) {i a n : Int} {c : Int} (hI : Inv c A) (hA : Ag A (V 0)) (hL : RgL V) (hi : inI i) (ha : inI a) (hn : inI n) (hQ : ∀ r V2, r = aRush A i a n → (∀ f : Nat, f ≠ 0 → f ≠ 2 → V2 f = V f) → RgL V2 → (∀ k : Int, 0 ≤ k ∧ k < 1216 → V2 0 k = V 0 k) → Q (some (vi r)) (hp Γ S T U V2 G) nx) : AM Γ MX11_rush (d + 7, 0, 0) [rf Γ 43, vi i, vi a, vi n] (hp Γ S T U V G) nx Q := by
  refine am_of (by decide) (Nat.le_of_ble_eq_true rfl) (ls := [some (rf Γ 43), some _, some _, some _, none, none, none]) rfl ?_
  have hR := hI.R
  have i1 := hI.i1
  have hz : 0 ≤ A 28 0 ∧ A 28 0 ≤ 60 := i1.2.2.1
  have hkS : nS A = (A 28 0).toNat := rfl
  have hkI : nIm A = (A 27 0).toNat := rfl
  have hkO : nOr A = (A 26 0).toNat := rfl
  refine aw_aload_n dX11_rush_0 rfl ?_
  refine aw_iload_n dX11_rush_1 rfl ?_
  refine aw_iload_n dX11_rush_2 rfl ?_
  refine aw_callV (As := [_, _]) (ρ := (_, 0, 0)) (kn' := (0, 0)) cv_X11_236 dX11_rush_3 rfl rfl (hc43 hnx) rfl rfl (Nat.le_of_ble_eq_true rfl) (rmR _ _ _) ⟨Nat.le_refl _, Nat.le_refl _⟩ rfl (c_X11_arePair hnx hI hA hL (by omega) (fun r3 h3 => ?_))
  rcases h3 with ⟨rfl, h3⟩ | ⟨rfl, h3⟩
  · skip
    refine aw_if_eq (tgt := 16) dX11_rush_6 rfl (by decide) (fun c => absurd c (by decide)) (fun _ => ?_)
    refine aw_iload_n dX11_rush_9 rfl ?_
    refine aw_callS (As := [_]) (ρ := (_, 0, 0)) (kn' := (0, 0)) cs_X11_239 dX11_rush_10 rfl rfl (Nat.le_of_ble_eq_true rfl) (rmR _ _ _) ⟨Nat.le_refl _, Nat.le_refl _⟩ rfl (c_X11_isMuch hnx (by omega) (fun r10 h10 => ?_))
    rcases h10 with ⟨rfl, h10⟩ | ⟨rfl, h10⟩
    · skip
      refine aw_if_ne (tgt := 18) dX11_rush_13 rfl (by decide) (fun _ => ?_) (fun c => absurd c (by decide))
      refine aw_aload_n dX11_rush_18 rfl ?_
      refine aw_getf fg_X11_9 dX11_rush_19 (hc43 hnx) rfl ?_
      refine aw_iconst dX11_rush_22 ?_
      refine aw_aload_n dX11_rush_23 rfl ?_
      refine aw_getf fg_X11_16 dX11_rush_24 (hc43 hnx) rfl ?_
      refine aw_iconst dX11_rush_27 ?_
      refine aw_callS (As := [_, _, _, _]) (ρ := (_, 0, 0)) (kn' := (0, 0)) cs_X11_154 dX11_rush_28 rfl rfl (Nat.le_of_ble_eq_true rfl) (rmR _ _ _) ⟨Nat.le_refl _, Nat.le_refl _⟩ rfl (c_X11_moves_0_2 hnx hL (by omega) (by omega) (fun hL => ?_))
      refine aw_iconst dX11_rush_31 ?_
      refine aw_istore (ls' := [some (rf Γ 43), some _, some _, some _, some _, none, none]) dX11_rush_32 (by decide) rfl ?_
      refine aw_iconst dX11_rush_34 ?_
      refine aw_istore (ls' := [some (rf Γ 43), some _, some _, some _, some _, some _, none]) dX11_rush_35 (by decide) rfl ?_
      refine loopN (i.toNat + 1) (P := fun k => ∀ (g : Int) (W : St), g = (rsh A a n k).2.2 → VX (mv V 2 0 0 0) W → RgL W → Ag (rsA A a n k) (W 0) →  AW Γ MX11_rush _ _ (0, 0) 37 [some (rf Γ 43), some (vi i), some (vi a), some (vi n), some (vi g), some (vi (k : Int)), none] [] (hp Γ S T U W G) nx) (fun k hk ih => ?_) 0 (Nat.zero_le _) 0 (mv V 2 0 0 0) rfl VX.rfl hL hA
      intro g W i37_0 i37_1 i37_2 i37_3
      refine aw_iload dX11_rush_37 rfl ?_
      refine aw_iload_n dX11_rush_39 rfl ?_
      refine aw_icmp_gt (tgt := 73) dX11_rush_40 rfl (by omega) (fun c40 => ?_) (fun c40 => ?_)
      · skip
        obtain rfl : k = i.toNat + 1 := by omega
        replace hL := i37_2
        refine aw_aload_n dX11_rush_73 rfl ?_
        refine aw_getf fg_X11_16 dX11_rush_74 (hc43 hnx) rfl ?_
        refine aw_iconst dX11_rush_77 ?_
        refine aw_aload_n dX11_rush_78 rfl ?_
        refine aw_getf fg_X11_9 dX11_rush_79 (hc43 hnx) rfl ?_
        refine aw_iconst dX11_rush_82 ?_
        refine aw_callS (As := [_, _, _, _]) (ρ := (_, 0, 0)) (kn' := (0, 0)) cs_X11_154 dX11_rush_83 rfl rfl (Nat.le_of_ble_eq_true rfl) (rmR _ _ _) ⟨Nat.le_refl _, Nat.le_refl _⟩ rfl (c_X11_moves_2_0 hnx hL (by omega) (by omega) (fun hL => ?_))
        refine aw_iload dX11_rush_86 rfl ?_
        exact aw_ireturn dX11_rush_88 rfl rfl ⟨Nat.le_refl _, Nat.le_refl _⟩ (hQ _ _ (by unfold aRush; rw [if_pos (by simp only [isI, isO, isN]; omega)]; exact i37_0) (fun f h0 h2 => by rw [mv_ne _ h0, i37_1 f h0, mv_ne _ h2]) hL (fun k hk => by have e1 := mv_at W 0 2 0 0 k hk; have e2 := mv_at V 2 0 0 0 k hk; rw [show 1216 * (0 : Int) + k = k by omega] at e1 e2; rw [e1, i37_1 2 (by decide), e2]))
      · skip
        have hin := rsA_in hI (o := a) (n := n) (by omega) (by omega) k (by omega)
        have hI2 := hin.1
        have k27 : 0 ≤ (k : Int) ∧ (k : Int) < rsA A a n k 27 0 := by rw [hin.2.1.2]; omega
        have k26 : 0 ≤ a ∧ a < rsA A a n k 26 0 := by rw [hin.2.1.1]; omega
        refine aw_iconst dX11_rush_43 ?_
        refine aw_aload_n dX11_rush_44 rfl ?_
        refine aw_iload dX11_rush_45 rfl ?_
        refine aw_iload_n dX11_rush_47 rfl ?_
        refine aw_iload_n dX11_rush_48 rfl ?_
        refine aw_callV (As := [_, _, _]) (ρ := (_, 0, 0)) (kn' := (0, 0)) cv_X11_229 dX11_rush_49 rfl rfl (hc43 hnx) rfl rfl (Nat.le_of_ble_eq_true rfl) (rmR _ _ _) ⟨Nat.le_refl _, Nat.le_refl _⟩ rfl (c_X11_grantable hnx hI2 i37_3 i37_2 k27 k26 (by omega) (fun r49 h49 => ?_))
        have of := offer_in (rsA A a n k) k a n (rsA A a n k 14 (a * 8 + 3)) (rsA A a n k 28 0) (by omega) (hI2.pr k27 k26).2.2.1
        have e5 := hin.2.2.2.2.1 k (rsA A a n k 14 (a * 8 + 3)) (rsA A a n k 28 0) (Int.le_refl _)
        have e6 : r49 = offer A k a n (rsh A a n k).1 (rsh A a n k).2.1 := by rw [h49, e5, hin.2.2.1, hin.2.2.2.1]
        refine aw_mmax qm_X11_347 dX11_rush_52 (by omega) (rmN13 _ _ _ (Nat.le_of_ble_eq_true rfl)) ⟨Nat.le_refl _, Nat.le_refl _⟩ (fun r52 h52 => ?_)
        refine aw_istore (ls' := [some (rf Γ 43), some _, some _, some _, some _, some _, none]) dX11_rush_55 (by decide) rfl ?_
        refine aw_aload_n dX11_rush_57 rfl ?_
        refine aw_iload dX11_rush_58 rfl ?_
        refine aw_iload_n dX11_rush_60 rfl ?_
        refine aw_iload_n dX11_rush_61 rfl ?_
        refine aw_callV (As := [_, _, _]) (ρ := (_, 0, 0)) (kn' := (0, 0)) cv_X11_245 dX11_rush_62 rfl rfl (hc43 hnx) rfl rfl (Nat.le_of_ble_eq_true rfl) (rmR _ _ _) ⟨Nat.le_refl _, Nat.le_refl _⟩ rfl (c_X11_issues hnx hI2 i37_3 i37_2 k27 k26 (by omega) (fun r62 V62 h62 => ?_))
        have hst : VX (mv V 2 0 0 0) V62 ∧ RgL V62 ∧ Ag (rsA A a n (k + 1)) (V62 0) := h62.elim (fun z => by obtain ⟨z1, z2, z3⟩ := z; subst z3; exact ⟨i37_1, i37_2, by rw [rsA, if_neg (by omega)]; exact i37_3⟩) (fun z => ⟨i37_1.trans z.2.2.1, z.2.2.2.1, by rw [rsA, if_pos z.1]; exact z.2.2.2.2⟩)
        refine aw_istore (ls' := [some (rf Γ 43), some _, some _, some _, some _, some _, some _]) dX11_rush_65 (by decide) rfl ?_
        refine aw_iinc (ls' := [some (rf Γ 43), some _, some _, some _, some _, some _, some _]) dX11_rush_67 rfl (by decide) rfl ?_
        refine aw_goto (tgt := 37) dX11_rush_70 rfl ?_
        refine aw_fg [true, true, true, true, true, true, false] (ls' := [some (rf Γ 43), some _, some _, some _, some _, some _, none]) rfl ?_
        exact ih (by omega) r52 V62 (by rw [rsh]; show r52 = max 0 _; omega) hst.1 hst.2.1 hst.2.2
    · skip
      refine aw_if_ne (tgt := 18) dX11_rush_13 rfl (by decide) (fun c => absurd c (by decide)) (fun _ => ?_)
      have aw1 : aRush A i a n = -1 := by unfold aRush; rw [if_neg (by simp only [isI, isO, isN]; omega)]
      refine aw_iconst dX11_rush_16 ?_
      exact aw_ireturn dX11_rush_17 rfl rfl ⟨Nat.le_refl _, Nat.le_refl _⟩ (hQ _ _ aw1.symm (fun _ _ _ => rfl) hL (fun _ _ => rfl))
  · skip
    refine aw_if_eq (tgt := 16) dX11_rush_6 rfl (by decide) (fun _ => ?_) (fun c => absurd c (by decide))
    have aw1 : aRush A i a n = -1 := by unfold aRush; rw [if_neg (by simp only [isI, isO, isN]; omega)]
    refine aw_iconst dX11_rush_16 ?_
    exact aw_ireturn dX11_rush_17 rfl rfl ⟨Nat.le_refl _, Nat.le_refl _⟩ (hQ _ _ aw1.symm (fun _ _ _ => rfl) hL (fun _ _ => rfl))


/-! the reference: acts -/
section AWC
variable {Γ : GT} {M M' : MD} {R : Room} {Φ : PH} {kn kn' : Nat × Nat} {pc : Nat} {ls : List (Option Value)} {st : List Value} {h : Nat → AC} {nx : Nat}
/-- a call under a high stack -/
theorem aw_callSw {j n : Nat} {As st0 : List Value} {ρ : RM} (B : CS M.1.cls j M' n) (hd : decode M.2.1 pc = .ok (.invokestatic j, 3)) (hs : st0 = As.reverse ++ st) (hn : As.length = n) (hW : (st.map fun v => v.category).sum ≤ 16) (hm : M'.2.2.1 ≤ 20) (hR : ρ.1 + 1 ≤ R.frames ∧ 48 * ρ.1 + 48 ≤ R.locals) (hf : kn.1 + ρ.2.1 ≤ R.cells ∧ kn.2 + ρ.2.2 ≤ R.slots) (hk : kn' = (kn.1 + ρ.2.1, kn.2 + ρ.2.2))
    (k : AM Γ M' ρ As h nx (fun r h' nx' => AW Γ M R Φ kn' (pc + 3) ls (ret' r st) h' nx')) : AW Γ M R Φ kn pc ls st0 h nx := by
  intro p e s m args below meth c H locs lsa C hS hH hL
  subst hs; subst hk
  have hts := C.2.2.2.2.2.2.2.1
  have hG := C.2.2.2.2.2.2.2.2
  have cb := gCB (R := R) (own := M.1.cls) (j := j) B.1 hts hR B.2.2
  obtain ⟨q1, q2, q3, -, q5, q6, q7, q8, q9, q10, q11⟩ := cb
  have hK := back_of (p := p) (e := e) (below := below) (sargs := args) (len := 3) (W := 16) k gdP q1 q2 q3 (by show 16 + (M'.2.2.1 + 11) + 48 * ρ.1 ≤ R.locals; omega) q5 q6 (fun a' U hW => word_at hW (Or.inl (by first | rfl | simp [Cond.onTables, Cond.keeps, Cond.steady])) q8)
  refine gRun (st := st) (a := As.toArray) (mc := ρ.2.1) (ms := ρ.2.2) C hS hL (fun T hT X => ?_)
  obtain ⟨v, vm1, ⟨U', l2, c2, s2⟩, w1, X', ⟨g', mk, t, L, e1, e2, hq, h1, hL2, h2, h3⟩, go⟩ := callS X C.1 C.2.2.2.2.2.1 q11 (hts _ B.2.1) q8 q7 q9 hK (g := F0 m pc lsa (As.reverse ++ st)) rfl (hL.1.trans C.2.2.2.2.1.symm) (argsL := As) (rest := st) (fun sig z => hn.trans (q10 sig z)) rfl (by show 2 * 0 + _ ≤ 16; omega) (by rw [C.2.1]; exact hd) (fun vm2 w2 => ⟨hf.1, hf.2, gdU hG hS hH hT w2⟩)
  dsimp only [Pt.U, Pt.locs, Pt.cells, Pt.slots] at X' e1 e2 h1 h2 h3 go
  subst h1; subst h2; subst h3
  exact ⟨v, (T.setVm vm1).calling g' mk As.toArray, t, U', L, hT, X', hL2, e1, e2, hq, go⟩
end AWC
theorem u1_comm (A : St) {f g : Nat} (h : f ≠ g) (i j v w : Int) : u1 (u1 A f i v) g j w = u1 (u1 A g j w) f i v := by
  funext f' i'
  simp only [u1_at]
  by_cases h1 : f' = g ∧ i' = j
  · rw [if_pos h1, if_neg (fun z => h (z.1.symm.trans h1.1)), if_pos h1]
  · rw [if_neg h1, if_neg h1]
theorem u1_commI (A : St) (f : Nat) {i j : Int} (h : i ≠ j) (v w : Int) : u1 (u1 A f i v) f j w = u1 (u1 A f j w) f i v := by
  funext f' i'
  simp only [u1_at]
  by_cases h1 : f' = f ∧ i' = j
  · rw [if_pos h1, if_neg (fun z => h (z.2.symm.trans h1.2)), if_pos h1]
  · rw [if_neg h1, if_neg h1]
theorem u1_same {A : St} {f : Nat} {i v : Int} (h : A f i = v) : u1 A f i v = A := by subst h; exact u1_self A f i
theorem close_u1 (A : St) {f : Nat} (h10 : f ≠ 10) (h11 : f ≠ 11) (i v l h t : Int) : closeS (u1 A f i v) l h t = u1 (closeS A l h t) f i v := by
  unfold closeS; rw [u1_comm A h10, u1_comm _ h11]
theorem give_eq (A : St) {l h : Int} : closeS (u1 (u1 (u1 A 14 (A 5 l * 8 + 3) (A 14 (A 5 l * 8 + 3) + rem A l)) 14 (A 5 l * 8 + 7) (A 14 (A 5 l * 8 + 7) + (if A 7 l / 90 = A 25 0 / 90 then 0 else rem A l))) 24 h (A 24 h + rem A l)) l h (A 25 0) = giveS A l h := by
  rw [close_u1 _ (by decide) (by decide), close_u1 _ (by decide) (by decide), close_u1 _ (by decide) (by decide)]
  unfold giveS cipS
  by_cases e : A 7 l / 90 = A 25 0 / 90
  · rw [if_pos e, if_pos e, u1_same (A := u1 _ 14 (A 5 l * 8 + 3) _)]
    · rfl
    · rw [u1_at, if_neg (by omega)]; show A 14 (A 5 l * 8 + 7) = _; omega
  · rw [if_neg e, if_neg e]
    unfold addS
    have e1 : cip A l h 14 (A 5 l * 8 + 7) = A 14 (A 5 l * 8 + 7) := by
      unfold cip addS; rw [u1_at, if_neg (by omega)]; rfl
    rw [e1]; rfl

set_option maxHeartbeats 1000000 in
theorem c_X11_comesBack {Γ : GT} {S T U V A : St} {G : Gw} {nx d : Nat} {Q : QT} (hnx : 52 ≤ nx) {l h : Int} {c : Int} (hI : Inv c A) (hA : Ag A (V 0)) (hL : RgL V) (hl : 0 ≤ l ∧ l < A 28 0) (hh : 2 ≤ h ∧ h ≤ 3) (hQ : ∀ V2, VX V V2 → RgL V2 → Ag (giveS A l h) (V2 0) → Q (some (vi (rem A l))) (hp Γ S T U V2 G) nx) : AM Γ MX11_comesBack (d + 4, 0, 0) [rf Γ 43, vi l, vi h] (hp Γ S T U V G) nx Q := by
  refine am_of (by decide) (Nat.le_of_ble_eq_true rfl) (ls := [some (rf Γ 43), some _, some _, none, none]) rfl ?_
  have hR := hI.R
  have i1 := hI.i1
  have hz : 0 ≤ A 28 0 ∧ A 28 0 ≤ 60 := i1.2.2.1
  have hkS : nS A = (A 28 0).toNat := rfl
  have hkI : nIm A = (A 27 0).toNat := rfl
  have hkO : nOr A = (A 26 0).toNat := rfl
  have hb := hI.bd
  have hX : VX V V := VX.rfl
  have li := hI.li hl
  have rm := hI.rem hl
  have rm1 := hI.rem1 hl
  have am := hI.am hl
  have so : 0 ≤ A 5 l ∧ A 5 l < A 26 0 := li.2.1
  have r3 := hR 14 (by decide) (A 5 l * 8 + 3)
  have r7 := hR 14 (by decide) (A 5 l * 8 + 7)
  have r24 := hR 24 (by decide) h
  refine aw_aload_n dX11_comesBack_0 rfl ?_
  refine aw_iload_n dX11_comesBack_1 rfl ?_
  refine aw_callV (As := [_]) (ρ := (_, 0, 0)) (kn' := (0, 0)) cv_X11_214 dX11_comesBack_2 rfl rfl (hc43 hnx) rfl rfl (Nat.le_of_ble_eq_true rfl) (rmR _ _ _) ⟨Nat.le_refl _, Nat.le_refl _⟩ rfl (c_X11_leftOf hnx hI hA hL (by omega) (fun r2 h2 => ?_))
  subst h2
  refine aw_istore_n (ls' := [some (rf Γ 43), some _, some _, some _, none]) dX11_comesBack_5 (by decide) rfl ?_
  refine aw_aload_n dX11_comesBack_6 rfl ?_
  refine aw_iload_n dX11_comesBack_7 rfl ?_
  refine aw_iconst dX11_comesBack_8 ?_
  refine aw_callV (As := [_, _]) (ρ := (_, 0, 0)) (kn' := (0, 0)) cv_X11_196 dX11_comesBack_9 rfl rfl (hc43 hnx) rfl rfl (Nat.le_of_ble_eq_true rfl) (rmR _ _ _) ⟨Nat.le_refl _, Nat.le_refl _⟩ rfl (c_X11_ofLicence_1 hnx hI hA hL (by omega) (fun r9 h9 => ?_))
  subst h9
  refine aw_istore (ls' := [some (rf Γ 43), some _, some _, some _, some _]) dX11_comesBack_12 (by decide) rfl ?_
  refine aw_aload_n dX11_comesBack_14 rfl ?_
  refine aw_getf fg_X11_9 dX11_comesBack_15 (hc43 hnx) rfl ?_
  refine aw_iload dX11_comesBack_18 rfl ?_
  refine aw_iconst dX11_comesBack_20 ?_
  refine aw_callS (As := [_, _]) (ρ := (_, 0, 0)) (kn' := (0, 0)) cs_X11_40 dX11_comesBack_21 rfl rfl (Nat.le_of_ble_eq_true rfl) (rmR _ _ _) ⟨Nat.le_refl _, Nat.le_refl _⟩ rfl (c_X11_originAt hnx  (fun r21 h21 => ?_))
  refine aw_dup2_11 dX11_comesBack_24 rfl rfl ?_
  refine aw_rdA (f := 14) (i := A 5 l * 8 + 3) (v := A 14 (A 5 l * 8 + 3)) dX11_comesBack_25 hnx hL hA hb (un_14 so (by decide)) (by show _ = 16 + (A 5 l * 8 + 3); omega) (rfl) (fun q25 => ?_)
  refine aw_iload_n dX11_comesBack_26 rfl ?_
  refine aw_i2l dX11_comesBack_27 (by omega) ?_
  refine aw_ladd dX11_comesBack_28 ?_
  refine aw_stA (f := 14) (i := A 5 l * 8 + 3) (v := A 14 (A 5 l * 8 + 3) + rem A l) dX11_comesBack_29 hnx hX hL hA hb (un_14 so (by decide)) (by decide) (by show _ = 16 + (A 5 l * 8 + 3); omega) (by omega) (by omega) (fun V29 hX hL hA => ?_)
  refine aw_aload_n dX11_comesBack_30 rfl ?_
  refine aw_getf fg_X11_9 dX11_comesBack_31 (hc43 hnx) rfl ?_
  refine aw_iload dX11_comesBack_34 rfl ?_
  refine aw_bipush dX11_comesBack_36 rfl ?_
  refine aw_callS (As := [_, _]) (ρ := (_, 0, 0)) (kn' := (0, 0)) cs_X11_40 dX11_comesBack_38 rfl rfl (Nat.le_of_ble_eq_true rfl) (rmR _ _ _) ⟨Nat.le_refl _, Nat.le_refl _⟩ rfl (c_X11_originAt hnx  (fun r38 h38 => ?_))
  refine aw_dup2_11 dX11_comesBack_41 rfl rfl ?_
  refine aw_rdA (f := 14) (i := A 5 l * 8 + 7) (v := A 14 (A 5 l * 8 + 7)) dX11_comesBack_42 hnx hL hA hb (un_14 so (by decide)) (by show _ = 16 + (A 5 l * 8 + 7); omega) (by rw [u1_at, if_neg (by omega)]) (fun q42 => ?_)
  refine aw_aload_n dX11_comesBack_43 rfl ?_
  refine aw_iload_n dX11_comesBack_44 rfl ?_
  refine aw_callV (As := [_]) (ρ := (_, 0, 0)) (kn' := (0, 0)) cv_X11_217 dX11_comesBack_45 rfl rfl (hc43 hnx) rfl rfl (Nat.le_of_ble_eq_true rfl) (rmR _ _ _) ⟨Nat.le_refl _, Nat.le_refl _⟩ rfl (c_X11_isOfThisPeriod_m hnx hA hb hL hl (by show 0 ≤ A 7 l ∧ A 7 l ≤ 3600; omega) (by show 0 ≤ A 25 0 ∧ A 25 0 ≤ 3600; omega) (fun r45 h45 => ?_))
  rcases h45 with ⟨rfl, h45⟩ | ⟨rfl, h45⟩
  · skip
    refine aw_if_eq (tgt := 55) dX11_comesBack_48 rfl (by decide) (fun c => absurd c (by decide)) (fun _ => ?_)
    refine aw_lconst0 dX11_comesBack_51 ?_
    refine aw_goto (tgt := 57) dX11_comesBack_52 rfl ?_
    refine aw_ladd dX11_comesBack_57 ?_
    have e58 : inL (if A 7 l / 90 = A 25 0 / 90 then 0 else rem A l) := by split <;> omega
    refine aw_stA (f := 14) (i := A 5 l * 8 + 7) (v := A 14 (A 5 l * 8 + 7) + (if A 7 l / 90 = A 25 0 / 90 then 0 else rem A l)) dX11_comesBack_58 hnx hX hL hA hb (un_14 so (by decide)) (by decide) (by show _ = 16 + (A 5 l * 8 + 7); omega) (by first | rw [if_pos (show A 7 l / 90 = A 25 0 / 90 from h45)] | rw [if_neg (show ¬ A 7 l / 90 = A 25 0 / 90 from h45)]) (by omega) (fun V58 hX hL hA => ?_)
    refine aw_aload_n dX11_comesBack_59 rfl ?_
    refine aw_getf fg_X11_9 dX11_comesBack_60 (hc43 hnx) rfl ?_
    refine aw_bipush dX11_comesBack_63 rfl ?_
    refine aw_iload_n dX11_comesBack_65 rfl ?_
    refine aw_iadd dX11_comesBack_66 ?_
    refine aw_dup2_11 dX11_comesBack_67 rfl rfl ?_
    refine aw_rdA (f := 24) (i := h) (v := A 24 h) dX11_comesBack_68 hnx hL hA hb (un_24 (by omega)) (by show _ = 11 + (h); omega) (rfl) (fun q68 => ?_)
    refine aw_iload_n dX11_comesBack_69 rfl ?_
    refine aw_i2l dX11_comesBack_70 (by omega) ?_
    refine aw_ladd dX11_comesBack_71 ?_
    refine aw_stA (f := 24) (i := h) (v := A 24 h + rem A l) dX11_comesBack_72 hnx hX hL hA hb (un_24 (by omega)) (by decide) (by show _ = 11 + (h); omega) (by omega) (by omega) (fun V72 hX hL hA => ?_)
    refine aw_aload_n dX11_comesBack_73 rfl ?_
    refine aw_iload_n dX11_comesBack_74 rfl ?_
    refine aw_iload_n dX11_comesBack_75 rfl ?_
    refine aw_callV (As := [_, _]) (ρ := (_, 0, 0)) (kn' := (0, 0)) cv_X11_220 dX11_comesBack_76 rfl rfl (hc43 hnx) rfl rfl (Nat.le_of_ble_eq_true rfl) (rmR _ _ _) ⟨Nat.le_refl _, Nat.le_refl _⟩ rfl (c_X11_ends hnx hA hb hL hl (by omega) (fun V76 hX76 hL hA => ?_))
    replace hX := hX.trans hX76
    have eG := give_eq A (l := l) (h := h)
    replace hA : Ag (giveS A l h) (V76 0) := by rw [← eG]; exact hA
    refine aw_iload_n dX11_comesBack_79 rfl ?_
    exact aw_ireturn dX11_comesBack_80 rfl rfl ⟨Nat.le_refl _, Nat.le_refl _⟩ (hQ _ hX hL hA)
  · skip
    refine aw_if_eq (tgt := 55) dX11_comesBack_48 rfl (by decide) (fun _ => ?_) (fun c => absurd c (by decide))
    refine aw_iload_n dX11_comesBack_55 rfl ?_
    refine aw_i2l dX11_comesBack_56 (by omega) ?_
    refine aw_ladd dX11_comesBack_57 ?_
    have e58 : inL (if A 7 l / 90 = A 25 0 / 90 then 0 else rem A l) := by split <;> omega
    refine aw_stA (f := 14) (i := A 5 l * 8 + 7) (v := A 14 (A 5 l * 8 + 7) + (if A 7 l / 90 = A 25 0 / 90 then 0 else rem A l)) dX11_comesBack_58 hnx hX hL hA hb (un_14 so (by decide)) (by decide) (by show _ = 16 + (A 5 l * 8 + 7); omega) (by first | rw [if_pos (show A 7 l / 90 = A 25 0 / 90 from h45)] | rw [if_neg (show ¬ A 7 l / 90 = A 25 0 / 90 from h45)]) (by omega) (fun V58 hX hL hA => ?_)
    refine aw_aload_n dX11_comesBack_59 rfl ?_
    refine aw_getf fg_X11_9 dX11_comesBack_60 (hc43 hnx) rfl ?_
    refine aw_bipush dX11_comesBack_63 rfl ?_
    refine aw_iload_n dX11_comesBack_65 rfl ?_
    refine aw_iadd dX11_comesBack_66 ?_
    refine aw_dup2_11 dX11_comesBack_67 rfl rfl ?_
    refine aw_rdA (f := 24) (i := h) (v := A 24 h) dX11_comesBack_68 hnx hL hA hb (un_24 (by omega)) (by show _ = 11 + (h); omega) (rfl) (fun q68 => ?_)
    refine aw_iload_n dX11_comesBack_69 rfl ?_
    refine aw_i2l dX11_comesBack_70 (by omega) ?_
    refine aw_ladd dX11_comesBack_71 ?_
    refine aw_stA (f := 24) (i := h) (v := A 24 h + rem A l) dX11_comesBack_72 hnx hX hL hA hb (un_24 (by omega)) (by decide) (by show _ = 11 + (h); omega) (by omega) (by omega) (fun V72 hX hL hA => ?_)
    refine aw_aload_n dX11_comesBack_73 rfl ?_
    refine aw_iload_n dX11_comesBack_74 rfl ?_
    refine aw_iload_n dX11_comesBack_75 rfl ?_
    refine aw_callV (As := [_, _]) (ρ := (_, 0, 0)) (kn' := (0, 0)) cv_X11_220 dX11_comesBack_76 rfl rfl (hc43 hnx) rfl rfl (Nat.le_of_ble_eq_true rfl) (rmR _ _ _) ⟨Nat.le_refl _, Nat.le_refl _⟩ rfl (c_X11_ends hnx hA hb hL hl (by omega) (fun V76 hX76 hL hA => ?_))
    replace hX := hX.trans hX76
    have eG := give_eq A (l := l) (h := h)
    replace hA : Ag (giveS A l h) (V76 0) := by rw [← eG]; exact hA
    refine aw_iload_n dX11_comesBack_79 rfl ?_
    exact aw_ireturn dX11_comesBack_80 rfl rfl ⟨Nat.le_refl _, Nat.le_refl _⟩ (hQ _ hX hL hA)

set_option maxHeartbeats 1000000 in
theorem c_X11_giveBack {Γ : GT} {S T U V A : St} {G : Gw} {nx d : Nat} {Q : QT} (hnx : 52 ≤ nx) {l : Int} {c : Int} (hI : Inv c A) (hA : Ag A (V 0)) (hL : RgL V) (hM : 0 ≤ V 10 0 ∧ V 10 0 ≤ 10) (hl : inI l) (hN : ∀ r, r = rGive A l → r ≠ 0 → Q (some (vi r)) (hp Γ S T U V G) nx) (hQ : rGive A l = 0 → ∀ V2, KP V V2 → Ag (giveS A l 2) (V2 0) → Q (some (vi (rem A l))) (hp Γ S T U V2 G) nx) : AM Γ MX11_giveBack (d + 5, 0, 0) [rf Γ 43, vi l] (hp Γ S T U V G) nx Q := by
  refine am_of (by decide) (Nat.le_of_ble_eq_true rfl) (ls := [some (rf Γ 43), some _]) rfl ?_
  have hR := hI.R
  have i1 := hI.i1
  have hz : 0 ≤ A 28 0 ∧ A 28 0 ≤ 60 := i1.2.2.1
  have hkS : nS A = (A 28 0).toNat := rfl
  have hkI : nIm A = (A 27 0).toNat := rfl
  have hkO : nOr A = (A 26 0).toNat := rfl
  have hb := hI.bd
  refine aw_aload_n dX11_giveBack_0 rfl ?_
  refine aw_iload_n dX11_giveBack_1 rfl ?_
  refine aw_callV (As := [_]) (ρ := (_, 0, 0)) (kn' := (0, 0)) cv_X11_248 dX11_giveBack_2 rfl rfl (hc43 hnx) rfl rfl (Nat.le_of_ble_eq_true rfl) (rmR _ _ _) ⟨Nat.le_refl _, Nat.le_refl _⟩ rfl (c_X11_isLicence hnx hI hA hL (by omega) (fun r2 h2 => ?_))
  rcases h2 with ⟨rfl, h2⟩ | ⟨rfl, h2⟩
  · skip
    refine aw_if_ne (tgt := 10) dX11_giveBack_5 rfl (by decide) (fun _ => ?_) (fun c => absurd c (by decide))
    refine aw_aload_n dX11_giveBack_10 rfl ?_
    refine aw_iload_n dX11_giveBack_11 rfl ?_
    refine aw_callV (As := [_]) (ρ := (_, 0, 0)) (kn' := (0, 0)) cv_X11_199 dX11_giveBack_12 rfl rfl (hc43 hnx) rfl rfl (Nat.le_of_ble_eq_true rfl) (rmR _ _ _) ⟨Nat.le_refl _, Nat.le_refl _⟩ rfl (c_X11_isOpen hnx hI hA hL (by omega) (fun r12 h12 => ?_))
    rcases h12 with ⟨rfl, h12⟩ | ⟨rfl, h12⟩
    · skip
      refine aw_if_ne (tgt := 21) dX11_giveBack_15 rfl (by decide) (fun _ => ?_) (fun c => absurd c (by decide))
      have acc : rGive A l = 0 := by simp only [rGive, isL, isI, isO, isN]; (repeat' split) <;> omega
      refine aw_aload_n dX11_giveBack_21 rfl ?_
      refine aw_callV (As := []) (ρ := (_, 0, 0)) (kn' := (0, 0)) cv_X11_242 dX11_giveBack_22 rfl rfl (hc43 hnx) rfl rfl (Nat.le_of_ble_eq_true rfl) (rmR _ _ _) ⟨Nat.le_refl _, Nat.le_refl _⟩ rfl (c_X11_keepsPast hnx hL (by omega) (fun V22 hK hV22 => ?_))
      have hX : VX V22 V22 := VX.rfl
      replace hL := hK.2.1
      replace hA : Ag A (V22 0) := by rw [hV22]; exact hA
      refine aw_aload_n dX11_giveBack_25 rfl ?_
      refine aw_iload_n dX11_giveBack_26 rfl ?_
      refine aw_iconst dX11_giveBack_27 ?_
      refine aw_callV (As := [_, _]) (ρ := (_, 0, 0)) (kn' := (0, 0)) cv_X11_253 dX11_giveBack_28 rfl rfl (hc43 hnx) rfl rfl (Nat.le_of_ble_eq_true rfl) (rmR _ _ _) ⟨Nat.le_refl _, Nat.le_refl _⟩ rfl (c_X11_comesBack hnx hI hA hL (by omega) (by omega) (fun V28 hX28 hL hA => ?_))
      replace hX := hX.trans hX28
      exact aw_ireturn dX11_giveBack_31 rfl rfl ⟨Nat.le_refl _, Nat.le_refl _⟩ (hQ acc _ (hK.vx hX hL) hA)
    · skip
      refine aw_if_ne (tgt := 21) dX11_giveBack_15 rfl (by decide) (fun c => absurd c (by decide)) (fun _ => ?_)
      refine aw_bipush dX11_giveBack_18 rfl ?_
      exact aw_ireturn dX11_giveBack_20 rfl rfl ⟨Nat.le_refl _, Nat.le_refl _⟩ (hN _ (by simp only [rGive, isL, isI, isO, isN]; (repeat' split) <;> omega) (by omega))
  · skip
    refine aw_if_ne (tgt := 10) dX11_giveBack_5 rfl (by decide) (fun c => absurd c (by decide)) (fun _ => ?_)
    refine aw_iconst dX11_giveBack_8 ?_
    exact aw_ireturn dX11_giveBack_9 rfl rfl ⟨Nat.le_refl _, Nat.le_refl _⟩ (hN _ (by simp only [rGive, isL, isI, isO, isN]; (repeat' split) <;> omega) (by omega))

theorem rem_cg {A B : St} {l : Int} (h1 : A 10 l = B 10 l) (h2 : A 6 l = B 6 l) (h3 : A 9 l = B 9 l) : rem A l = rem B l := by unfold rem; rw [h1, h2, h3]
/-- an import, in the order in which the reference stores -/
def usR (A : St) (l n : Int) : St := u1 (u1 (u1 (u1 (u1 (us1 A l n) 20 (4 * A 4 l + A 5 l) (A 20 (4 * A 4 l + A 5 l) + n)) 14 (A 5 l * 8 + 5) (A 14 (A 5 l * 8 + 5) + n)) 21 (A 4 l * 12 + A 25 0 % 360 / 30) (A 21 (A 4 l * 12 + A 25 0 % 360 / 30) + n)) 22 (A 5 l * 12 + A 25 0 % 360 / 30) (A 22 (A 5 l * 12 + A 25 0 % 360 / 30) + n)) 24 1 (A 24 1 + n)
theorem usR_rem (A : St) (l n : Int) : rem (usR A l n) l = rem (us1 A l n) l := rem_cg rfl rfl rfl
theorem us1_rem (A : St) (l n : Int) (h : A 10 l = 0) : rem (us1 A l n) l = A 6 l - (A 9 l + n) := by
  unfold rem us1
  simp only [u1_at]
  simp [h]
theorem usR_us (A X : St) (l n : Int) (h : X 14 (A 5 l * 8 + 5) = A 14 (A 5 l * 8 + 5)) : us2 A X l n = u1 (u1 (u1 (u1 (u1 X 20 (4 * A 4 l + A 5 l) (A 20 (4 * A 4 l + A 5 l) + n)) 14 (A 5 l * 8 + 5) (A 14 (A 5 l * 8 + 5) + n)) 21 (A 4 l * 12 + A 25 0 % 360 / 30) (A 21 (A 4 l * 12 + A 25 0 % 360 / 30) + n)) 22 (A 5 l * 12 + A 25 0 % 360 / 30) (A 22 (A 5 l * 12 + A 25 0 % 360 / 30) + n)) 24 1 (A 24 1 + n) := by
  rw [u1_comm (u1 X 20 _ _) (f := 14) (g := 21) (by decide), u1_comm _ (f := 14) (g := 22) (by decide)]
  unfold us2 addS
  rw [← h]; rfl
theorem use_no (A : St) {l n : Int} (h : ¬ rem (usR A l n) l = 0) : usR A l n = useS A l n := by
  rw [usR_rem] at h
  unfold useS cuS; rw [if_neg h, usR_us]
  · rfl
  · rfl
theorem use_yes (A : St) {l n : Int} (h : rem (usR A l n) l = 0) : closeS (usR A l n) l 1 (A 25 0) = useS A l n := by
  rw [usR_rem] at h
  unfold useS cuS; rw [if_pos h, usR_us]
  · unfold usR
    rw [close_u1 _ (by decide) (by decide), close_u1 _ (by decide) (by decide), close_u1 _ (by decide) (by decide), close_u1 _ (by decide) (by decide), close_u1 _ (by decide) (by decide)]
  · rfl
theorem use_rem (A : St) {l n : Int} : rem (useS A l n) l = rem (usR A l n) l := by
  by_cases h : rem (usR A l n) l = 0
  · rw [h, ← use_yes A h]; unfold rem; rw [if_neg]
    unfold closeS; rw [u1_at, if_neg (fun z => absurd z.1 (by decide)), u1_at, if_pos ⟨rfl, rfl⟩]; decide
  · rw [use_no A h]

set_option maxHeartbeats 1000000 in
theorem c_X11_use {Γ : GT} {S T U V A : St} {G : Gw} {nx d : Nat} {Q : QT} (hnx : 52 ≤ nx) {l n : Int} {c : Int} (hI : Inv c A) (hA : Ag A (V 0)) (hL : RgL V) (hM : 0 ≤ V 10 0 ∧ V 10 0 ≤ 10) (hl : inI l) (hn : inI n) (hN : ∀ r, r = rUse A l n → r ≠ 0 → Q (some (vi r)) (hp Γ S T U V G) nx) (hQ : rUse A l n = 0 → ∀ V2, KP V V2 → Ag (useS A l n) (V2 0) → Q (some (vi (rem (useS A l n) l))) (hp Γ S T U V2 G) nx) : AM Γ MX11_use (d + 5, 0, 0) [rf Γ 43, vi l, vi n] (hp Γ S T U V G) nx Q := by
  refine am_of (by decide) (Nat.le_of_ble_eq_true rfl) (ls := [some (rf Γ 43), some _, some _, none, none, none, none]) rfl ?_
  have hR := hI.R
  have i1 := hI.i1
  have hz : 0 ≤ A 28 0 ∧ A 28 0 ≤ 60 := i1.2.2.1
  have hkS : nS A = (A 28 0).toNat := rfl
  have hkI : nIm A = (A 27 0).toNat := rfl
  have hkO : nOr A = (A 26 0).toNat := rfl
  have hb := hI.bd
  refine aw_aload_n dX11_use_0 rfl ?_
  refine aw_iload_n dX11_use_1 rfl ?_
  refine aw_callV (As := [_]) (ρ := (_, 0, 0)) (kn' := (0, 0)) cv_X11_248 dX11_use_2 rfl rfl (hc43 hnx) rfl rfl (Nat.le_of_ble_eq_true rfl) (rmR _ _ _) ⟨Nat.le_refl _, Nat.le_refl _⟩ rfl (c_X11_isLicence hnx hI hA hL (by omega) (fun r2 h2 => ?_))
  rcases h2 with ⟨rfl, h2⟩ | ⟨rfl, h2⟩
  · skip
    refine aw_if_eq (tgt := 15) dX11_use_5 rfl (by decide) (fun c => absurd c (by decide)) (fun _ => ?_)
    refine aw_iload_n dX11_use_8 rfl ?_
    refine aw_callS (As := [_]) (ρ := (_, 0, 0)) (kn' := (0, 0)) cs_X11_239 dX11_use_9 rfl rfl (Nat.le_of_ble_eq_true rfl) (rmR _ _ _) ⟨Nat.le_refl _, Nat.le_refl _⟩ rfl (c_X11_isMuch hnx (by omega) (fun r9 h9 => ?_))
    rcases h9 with ⟨rfl, h9⟩ | ⟨rfl, h9⟩
    · skip
      refine aw_if_ne (tgt := 17) dX11_use_12 rfl (by decide) (fun _ => ?_) (fun c => absurd c (by decide))
      have sl : 0 ≤ l ∧ l < A 28 0 := by omega
      have li := hI.li sl
      have am := hI.am sl
      have rm := hI.rem sl
      refine aw_aload_n dX11_use_17 rfl ?_
      refine aw_iload_n dX11_use_18 rfl ?_
      refine aw_callV (As := [_]) (ρ := (_, 0, 0)) (kn' := (0, 0)) cv_X11_199 dX11_use_19 rfl rfl (hc43 hnx) rfl rfl (Nat.le_of_ble_eq_true rfl) (rmR _ _ _) ⟨Nat.le_refl _, Nat.le_refl _⟩ rfl (c_X11_isOpen hnx hI hA hL (by omega) (fun r19 h19 => ?_))
      rcases h19 with ⟨rfl, h19⟩ | ⟨rfl, h19⟩
      · skip
        refine aw_if_ne (tgt := 28) dX11_use_22 rfl (by decide) (fun _ => ?_) (fun c => absurd c (by decide))
        refine aw_iload_n dX11_use_28 rfl ?_
        refine aw_aload_n dX11_use_29 rfl ?_
        refine aw_iload_n dX11_use_30 rfl ?_
        refine aw_callV (As := [_]) (ρ := (_, 0, 0)) (kn' := (0, 0)) cv_X11_214 dX11_use_31 rfl rfl (hc43 hnx) rfl rfl (Nat.le_of_ble_eq_true rfl) (rmR _ _ _) ⟨Nat.le_refl _, Nat.le_refl _⟩ rfl (c_X11_leftOf hnx hI hA hL (by omega) (fun r31 h31 => ?_))
        refine aw_icmp_le (tgt := 40) dX11_use_34 rfl (by omega) (fun c34 => ?_) (fun c34 => ?_)
        · skip
          have acc : rUse A l n = 0 := by simp only [rUse, isL, isI, isO, isN]; (repeat' split) <;> omega
          refine aw_aload_n dX11_use_40 rfl ?_
          refine aw_callV (As := []) (ρ := (_, 0, 0)) (kn' := (0, 0)) cv_X11_242 dX11_use_41 rfl rfl (hc43 hnx) rfl rfl (Nat.le_of_ble_eq_true rfl) (rmR _ _ _) ⟨Nat.le_refl _, Nat.le_refl _⟩ rfl (c_X11_keepsPast hnx hL (by omega) (fun V41 hK hV41 => ?_))
          have hX : VX V41 V41 := VX.rfl
          replace hL := hK.2.1
          replace hA : Ag A (V41 0) := by rw [hV41]; exact hA
          refine aw_aload_n dX11_use_44 rfl ?_
          refine aw_iload_n dX11_use_45 rfl ?_
          refine aw_iconst dX11_use_46 ?_
          refine aw_callV (As := [_, _]) (ρ := (_, 0, 0)) (kn' := (0, 0)) cv_X11_196 dX11_use_47 rfl rfl (hc43 hnx) rfl rfl (Nat.le_of_ble_eq_true rfl) (rmR _ _ _) ⟨Nat.le_refl _, Nat.le_refl _⟩ rfl (c_X11_ofLicence_0 hnx hI hA hL (by omega) (fun r47 h47 => ?_))
          subst h47
          refine aw_istore_n (ls' := [some (rf Γ 43), some _, some _, some _, none, none, none]) dX11_use_50 (by decide) rfl ?_
          refine aw_aload_n dX11_use_51 rfl ?_
          refine aw_iload_n dX11_use_52 rfl ?_
          refine aw_iconst dX11_use_53 ?_
          refine aw_callV (As := [_, _]) (ρ := (_, 0, 0)) (kn' := (0, 0)) cv_X11_196 dX11_use_54 rfl rfl (hc43 hnx) rfl rfl (Nat.le_of_ble_eq_true rfl) (rmR _ _ _) ⟨Nat.le_refl _, Nat.le_refl _⟩ rfl (c_X11_ofLicence_1 hnx hI hA hL (by omega) (fun r54 h54 => ?_))
          subst h54
          have si : 0 ≤ A 4 l ∧ A 4 l < A 27 0 := li.1
          have so : 0 ≤ A 5 l ∧ A 5 l < A 26 0 := li.2.1
          have q9 := hR 9 (by decide) l
          have q13 := hR 13 (by decide) l
          have q20 := hR 20 (by decide) (4 * A 4 l + A 5 l)
          have q14 := hR 14 (by decide) (A 5 l * 8 + 5)
          have q21 := hR 21 (by decide) (A 4 l * 12 + A 25 0 % 360 / 30)
          have q22 := hR 22 (by decide) (A 5 l * 12 + A 25 0 % 360 / 30)
          have q24 := hR 24 (by decide) 1
          have q10 := hR 10 (by decide) l
          refine aw_istore (ls' := [some (rf Γ 43), some _, some _, some _, some _, none, none]) dX11_use_57 (by decide) rfl ?_
          refine aw_aload_n dX11_use_59 rfl ?_
          refine aw_getf fg_X11_9 dX11_use_60 (hc43 hnx) rfl ?_
          refine aw_bipush dX11_use_63 rfl ?_
          refine aw_rdA (f := 25) (i := 0) (v := A 25 0) dX11_use_65 hnx hL hA hb (un_25) (by show _ = (9 : Int); omega) (rfl) (fun q65 => ?_)
          refine aw_ldc2 dX11_use_66 qk_X11_180 ?_
          refine aw_st (st' := vl 360 :: _) rfl ?_
          refine aw_lrem dX11_use_69 (by omega) (by omega) ?_
          refine aw_ldc2 dX11_use_70 qk_X11_251 ?_
          refine aw_st (st' := vl 30 :: _) rfl ?_
          refine aw_ldiv dX11_use_73 (by omega) (by omega) ?_
          refine aw_l2i dX11_use_74 ?_
          refine aw_nmI (fun x5_75 hx5_75 => ?_)
          refine aw_istore (ls' := [some (rf Γ 43), some _, some _, some _, some _, some _, none]) dX11_use_75 (by decide) rfl ?_
          subst hx5_75
          refine aw_aload_n dX11_use_77 rfl ?_
          refine aw_getf fg_X11_9 dX11_use_78 (hc43 hnx) rfl ?_
          refine aw_iload_n dX11_use_81 rfl ?_
          refine aw_iconst dX11_use_82 ?_
          refine aw_callS (As := [_, _]) (ρ := (_, 0, 0)) (kn' := (0, 0)) cs_X11_48 dX11_use_83 rfl rfl (Nat.le_of_ble_eq_true rfl) (rmR _ _ _) ⟨Nat.le_refl _, Nat.le_refl _⟩ rfl (c_X11_licenceAt hnx  (fun r83 h83 => ?_))
          refine aw_dup2_11 dX11_use_86 rfl rfl ?_
          refine aw_rdA (f := 9) (i := l) (v := A 9 l) dX11_use_87 hnx hL hA hb (un_9 sl) (by show _ = 456 + 10 * (l) + 4; omega) (rfl) (fun q87 => ?_)
          refine aw_iload_n dX11_use_88 rfl ?_
          refine aw_i2l dX11_use_89 (by omega) ?_
          refine aw_ladd dX11_use_90 ?_
          refine aw_stA (f := 9) (i := l) (v := A 9 l + n) dX11_use_91 hnx hX hL hA hb (un_9 sl) (by decide) (by show _ = 456 + 10 * (l) + 4; omega) (by omega) (by omega) (fun V91 hX hL hA => ?_)
          refine aw_aload_n dX11_use_92 rfl ?_
          refine aw_getf fg_X11_9 dX11_use_93 (hc43 hnx) rfl ?_
          refine aw_iload_n dX11_use_96 rfl ?_
          refine aw_bipush dX11_use_97 rfl ?_
          refine aw_callS (As := [_, _]) (ρ := (_, 0, 0)) (kn' := (0, 0)) cs_X11_48 dX11_use_99 rfl rfl (Nat.le_of_ble_eq_true rfl) (rmR _ _ _) ⟨Nat.le_refl _, Nat.le_refl _⟩ rfl (c_X11_licenceAt hnx  (fun r99 h99 => ?_))
          refine aw_dup2_11 dX11_use_102 rfl rfl ?_
          refine aw_rdA (f := 13) (i := l) (v := A 13 l) dX11_use_103 hnx hL hA hb (un_13 sl) (by show _ = 456 + 10 * (l) + 9; omega) (rfl) (fun q103 => ?_)
          refine aw_iload_n dX11_use_104 rfl ?_
          refine aw_i2l dX11_use_105 (by omega) ?_
          refine aw_aload_n dX11_use_106 rfl ?_
          refine aw_getf fg_X11_9 dX11_use_107 (hc43 hnx) rfl ?_
          refine aw_bipush dX11_use_110 rfl ?_
          refine aw_rdA (f := 25) (i := 0) (v := A 25 0) dX11_use_112 hnx hL hA hb (un_25) (by show _ = (9 : Int); omega) (rfl) (fun q112 => ?_)
          refine aw_aload_n dX11_use_113 rfl ?_
          refine aw_getf fg_X11_9 dX11_use_114 (hc43 hnx) rfl ?_
          refine aw_iload_n dX11_use_117 rfl ?_
          refine aw_iconst dX11_use_118 ?_
          refine aw_callSw (As := [_, _]) (ρ := (_, 0, 0)) (kn' := (0, 0)) cs_X11_48 dX11_use_119 rfl rfl (Nat.le_of_ble_eq_true rfl) (Nat.le_of_ble_eq_true rfl) (rmR _ _ _) ⟨Nat.le_refl _, Nat.le_refl _⟩ rfl (c_X11_licenceAt hnx  (fun r119 h119 => ?_))
          refine aw_rdA (f := 7) (i := l) (v := A 7 l) dX11_use_122 hnx hL hA hb (un_7 sl) (by show _ = 456 + 10 * (l) + 3; omega) (rfl) (fun q122 => ?_)
          refine aw_lsub dX11_use_123 ?_
          refine aw_lmul dX11_use_124 ?_
          have nm : n * (A 25 0 - A 7 l) ≤ 99999 * 3600 ∧ 0 ≤ n * (A 25 0 - A 7 l) := ⟨Int.mul_le_mul (by omega) (by omega) (by omega) (by omega), Int.mul_nonneg (by omega) (by omega)⟩
          refine aw_ladd dX11_use_125 ?_
          refine aw_stA (f := 13) (i := l) (v := A 13 l + n * (A 25 0 - A 7 l)) dX11_use_126 hnx hX hL hA hb (un_13 sl) (by decide) (by show _ = 456 + 10 * (l) + 9; omega) (by omega) (by omega) (fun V126 hX hL hA => ?_)
          refine aw_aload_n dX11_use_127 rfl ?_
          refine aw_getf fg_X11_9 dX11_use_128 (hc43 hnx) rfl ?_
          refine aw_iload_n dX11_use_131 rfl ?_
          refine aw_iload dX11_use_132 rfl ?_
          refine aw_iconst dX11_use_134 ?_
          refine aw_callS (As := [_, _, _]) (ρ := (_, 0, 0)) (kn' := (0, 0)) cs_X11_44 dX11_use_135 rfl rfl (Nat.le_of_ble_eq_true rfl) (rmR _ _ _) ⟨Nat.le_refl _, Nat.le_refl _⟩ rfl (c_X11_pairAt hnx  (fun r135 h135 => ?_))
          refine aw_dup2_11 dX11_use_138 rfl rfl ?_
          refine aw_rdA (f := 20) (i := 4 * A 4 l + A 5 l) (v := A 20 (4 * A 4 l + A 5 l)) dX11_use_139 hnx hL hA hb (un_20 hb si so) (by show _ = 48 + 8 * (4 * A 4 l + A 5 l) + 3; omega) (rfl) (fun q139 => ?_)
          refine aw_iload_n dX11_use_140 rfl ?_
          refine aw_i2l dX11_use_141 (by omega) ?_
          refine aw_ladd dX11_use_142 ?_
          refine aw_stA (f := 20) (i := 4 * A 4 l + A 5 l) (v := A 20 (4 * A 4 l + A 5 l) + n) dX11_use_143 hnx hX hL hA hb (un_20 hb si so) (by decide) (by show _ = 48 + 8 * (4 * A 4 l + A 5 l) + 3; omega) (by omega) (by omega) (fun V143 hX hL hA => ?_)
          refine aw_aload_n dX11_use_144 rfl ?_
          refine aw_getf fg_X11_9 dX11_use_145 (hc43 hnx) rfl ?_
          refine aw_iload dX11_use_148 rfl ?_
          refine aw_iconst dX11_use_150 ?_
          refine aw_callS (As := [_, _]) (ρ := (_, 0, 0)) (kn' := (0, 0)) cs_X11_40 dX11_use_151 rfl rfl (Nat.le_of_ble_eq_true rfl) (rmR _ _ _) ⟨Nat.le_refl _, Nat.le_refl _⟩ rfl (c_X11_originAt hnx  (fun r151 h151 => ?_))
          refine aw_dup2_11 dX11_use_154 rfl rfl ?_
          refine aw_rdA (f := 14) (i := A 5 l * 8 + 5) (v := A 14 (A 5 l * 8 + 5)) dX11_use_155 hnx hL hA hb (un_14 so (by decide)) (by show _ = 16 + (A 5 l * 8 + 5); omega) (rfl) (fun q155 => ?_)
          refine aw_iload_n dX11_use_156 rfl ?_
          refine aw_i2l dX11_use_157 (by omega) ?_
          refine aw_ladd dX11_use_158 ?_
          refine aw_stA (f := 14) (i := A 5 l * 8 + 5) (v := A 14 (A 5 l * 8 + 5) + n) dX11_use_159 hnx hX hL hA hb (un_14 so (by decide)) (by decide) (by show _ = 16 + (A 5 l * 8 + 5); omega) (by omega) (by omega) (fun V159 hX hL hA => ?_)
          refine aw_aload_n dX11_use_160 rfl ?_
          refine aw_getf fg_X11_9 dX11_use_161 (hc43 hnx) rfl ?_
          refine aw_sipush dX11_use_164 rfl ?_
          refine aw_bipush dX11_use_167 rfl ?_
          refine aw_iload_n dX11_use_169 rfl ?_
          refine aw_imul dX11_use_170 ?_
          refine aw_iadd dX11_use_171 ?_
          refine aw_iload dX11_use_172 rfl ?_
          refine aw_iadd dX11_use_174 ?_
          refine aw_dup2_11 dX11_use_175 rfl rfl ?_
          refine aw_rdA (f := 21) (i := A 4 l * 12 + A 25 0 % 360 / 30) (v := A 21 (A 4 l * 12 + A 25 0 % 360 / 30)) dX11_use_176 hnx hL hA hb (un_21 si (by omega)) (by show _ = 312 + (A 4 l * 12 + A 25 0 % 360 / 30); omega) (rfl) (fun q176 => ?_)
          refine aw_iload_n dX11_use_177 rfl ?_
          refine aw_i2l dX11_use_178 (by omega) ?_
          refine aw_ladd dX11_use_179 ?_
          refine aw_stA (f := 21) (i := A 4 l * 12 + A 25 0 % 360 / 30) (v := A 21 (A 4 l * 12 + A 25 0 % 360 / 30) + n) dX11_use_180 hnx hX hL hA hb (un_21 si (by omega)) (by decide) (by show _ = 312 + (A 4 l * 12 + A 25 0 % 360 / 30); omega) (by omega) (by omega) (fun V180 hX hL hA => ?_)
          refine aw_aload_n dX11_use_181 rfl ?_
          refine aw_getf fg_X11_9 dX11_use_182 (hc43 hnx) rfl ?_
          refine aw_sipush dX11_use_185 rfl ?_
          refine aw_bipush dX11_use_188 rfl ?_
          refine aw_iload dX11_use_190 rfl ?_
          refine aw_imul dX11_use_192 ?_
          refine aw_iadd dX11_use_193 ?_
          refine aw_iload dX11_use_194 rfl ?_
          refine aw_iadd dX11_use_196 ?_
          refine aw_dup2_11 dX11_use_197 rfl rfl ?_
          refine aw_rdA (f := 22) (i := A 5 l * 12 + A 25 0 % 360 / 30) (v := A 22 (A 5 l * 12 + A 25 0 % 360 / 30)) dX11_use_198 hnx hL hA hb (un_22 so (by omega)) (by show _ = 408 + (A 5 l * 12 + A 25 0 % 360 / 30); omega) (rfl) (fun q198 => ?_)
          refine aw_iload_n dX11_use_199 rfl ?_
          refine aw_i2l dX11_use_200 (by omega) ?_
          refine aw_ladd dX11_use_201 ?_
          refine aw_stA (f := 22) (i := A 5 l * 12 + A 25 0 % 360 / 30) (v := A 22 (A 5 l * 12 + A 25 0 % 360 / 30) + n) dX11_use_202 hnx hX hL hA hb (un_22 so (by omega)) (by decide) (by show _ = 408 + (A 5 l * 12 + A 25 0 % 360 / 30); omega) (by omega) (by omega) (fun V202 hX hL hA => ?_)
          refine aw_aload_n dX11_use_203 rfl ?_
          refine aw_getf fg_X11_9 dX11_use_204 (hc43 hnx) rfl ?_
          refine aw_bipush dX11_use_207 rfl ?_
          refine aw_dup2_11 dX11_use_209 rfl rfl ?_
          refine aw_rdA (f := 24) (i := 1) (v := A 24 1) dX11_use_210 hnx hL hA hb (un_24 (by decide)) (by show _ = 11 + (1); omega) (rfl) (fun q210 => ?_)
          refine aw_iload_n dX11_use_211 rfl ?_
          refine aw_i2l dX11_use_212 (by omega) ?_
          refine aw_ladd dX11_use_213 ?_
          refine aw_stA (f := 24) (i := 1) (v := A 24 1 + n) dX11_use_214 hnx hX hL hA hb (un_24 (by decide)) (by decide) (by show _ = 11 + (1); omega) (by omega) (by omega) (fun V214 hX hL hA => ?_)
          replace hA : Ag (usR A l n) (V214 0) := hA
          refine aw_aload_n dX11_use_215 rfl ?_
          refine aw_iload_n dX11_use_216 rfl ?_
          refine aw_callV (As := [_]) (ρ := (_, 0, 0)) (kn' := (0, 0)) cv_X11_214 dX11_use_217 rfl rfl (hc43 hnx) rfl rfl (Nat.le_of_ble_eq_true rfl) (rmR _ _ _) ⟨Nat.le_refl _, Nat.le_refl _⟩ rfl (c_X11_leftOf_m hnx hA hb hL sl q10 (fun r217 h217 => ?_))
          have rr := use_rem A (l := l) (n := n)
          have rb := us1_rem A l n (by omega)
          rw [← usR_rem] at rb
          have e220 := h217.trans rr.symm
          refine aw_istore (ls' := [some (rf Γ 43), some _, some _, some _, some _, some _, some _]) dX11_use_220 (by decide) rfl ?_
          refine aw_iload dX11_use_222 rfl ?_
          refine aw_if_ne (tgt := 233) dX11_use_224 rfl (by omega) (fun c224 => ?_) (fun c224 => ?_)
          · skip
            refine aw_iload dX11_use_233 rfl ?_
            exact aw_ireturn dX11_use_235 rfl rfl ⟨Nat.le_refl _, Nat.le_refl _⟩ (by rw [e220]; first | (have w : rem (usR A l n) l = 0 := (by omega); exact hQ acc _ (hK.vx hX hL) (by rw [← use_yes A w]; exact hA)) | (have w : ¬ rem (usR A l n) l = 0 := (by omega); exact hQ acc _ (hK.vx hX hL) (by rw [← use_no A w]; exact hA)))
          · skip
            refine aw_aload_n dX11_use_227 rfl ?_
            refine aw_iload_n dX11_use_228 rfl ?_
            refine aw_iconst dX11_use_229 ?_
            refine aw_callV (As := [_, _]) (ρ := (_, 0, 0)) (kn' := (0, 0)) cv_X11_220 dX11_use_230 rfl rfl (hc43 hnx) rfl rfl (Nat.le_of_ble_eq_true rfl) (rmR _ _ _) ⟨Nat.le_refl _, Nat.le_refl _⟩ rfl (c_X11_ends hnx hA hb hL sl (by omega) (fun V230 hX230 hL hA => ?_))
            replace hX := hX.trans hX230
            refine aw_iload dX11_use_233 rfl ?_
            exact aw_ireturn dX11_use_235 rfl rfl ⟨Nat.le_refl _, Nat.le_refl _⟩ (by rw [e220]; first | (have w : rem (usR A l n) l = 0 := (by omega); exact hQ acc _ (hK.vx hX hL) (by rw [← use_yes A w]; exact hA)) | (have w : ¬ rem (usR A l n) l = 0 := (by omega); exact hQ acc _ (hK.vx hX hL) (by rw [← use_no A w]; exact hA)))
        · skip
          refine aw_bipush dX11_use_37 rfl ?_
          exact aw_ireturn dX11_use_39 rfl rfl ⟨Nat.le_refl _, Nat.le_refl _⟩ (hN _ (by simp only [rUse, isL, isI, isO, isN]; (repeat' split) <;> omega) (by omega))
      · skip
        refine aw_if_ne (tgt := 28) dX11_use_22 rfl (by decide) (fun c => absurd c (by decide)) (fun _ => ?_)
        refine aw_bipush dX11_use_25 rfl ?_
        exact aw_ireturn dX11_use_27 rfl rfl ⟨Nat.le_refl _, Nat.le_refl _⟩ (hN _ (by simp only [rUse, isL, isI, isO, isN]; (repeat' split) <;> omega) (by omega))
    · skip
      refine aw_if_ne (tgt := 17) dX11_use_12 rfl (by decide) (fun c => absurd c (by decide)) (fun _ => ?_)
      refine aw_iconst dX11_use_15 ?_
      exact aw_ireturn dX11_use_16 rfl rfl ⟨Nat.le_refl _, Nat.le_refl _⟩ (hN _ (by simp only [rUse, isL, isI, isO, isN]; (repeat' split) <;> omega) (by omega))
  · skip
    refine aw_if_eq (tgt := 15) dX11_use_5 rfl (by decide) (fun _ => ?_) (fun c => absurd c (by decide))
    refine aw_iconst dX11_use_15 ?_
    exact aw_ireturn dX11_use_16 rfl rfl ⟨Nat.le_refl _, Nat.le_refl _⟩ (hN _ (by simp only [rUse, isL, isI, isO, isN]; (repeat' split) <;> omega) (by omega))


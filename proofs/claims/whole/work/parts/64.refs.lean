/-! the reference: what it works answers out of -/
theorem endL_st (S : St) (i o : Int) : ∀ n : Nat, endL S i o n = -1 ∨ ¬ S 10 (endL S i o n) = 0
  | 0 => Or.inl rfl
  | n + 1 => by
    have h := endL_st S i o n
    rw [endL]; split
    · rename_i z; exact Or.inr z.1
    · exact h
def ywk (A : St) (p : Int) : Nat → Int
  | 0 => 0
  | k + 1 => ywk A p k + b1 (0 < A 2 (p * 3 + k))
theorem ywk_3 (A : St) (p : Int) : ywk A p 3 = yws A p := by simp only [ywk, yws]; simp
theorem b1_in (P : Prop) [Decidable P] : 0 ≤ b1 P ∧ b1 P ≤ 1 := by unfold b1; split <;> omega
theorem ywk_in (A : St) (p : Int) : ∀ k : Nat, 0 ≤ ywk A p k ∧ ywk A p k ≤ k
  | 0 => by simp [ywk]
  | k + 1 => by have := ywk_in A p k; have := b1_in (0 < A 2 (p * 3 + k)); rw [ywk]; omega
theorem Inv.allT1 {c : Int} {A : St} (h : Inv c A) {i o : Int} (hi : 0 ≤ i ∧ i < A 27 0) (ho : 0 ≤ o ∧ o < A 26 0) (e : A 15 (4 * i + o) = 1) : 0 < allT A o (nIm A) := by
  have i1 := h.i1
  have h1 := sm_one (f := fun i => if A 15 (4 * i + o) = 1 then Jvm.Pilot.@@N@@.old A (4 * i + o) else 0) (nIm A) (fun k hk => by
    have := h.old (p := 4 * (k : Int) + o) (by unfold nIm at hk; omega)
    show 0 ≤ (if A 15 (4 * (k : Int) + o) = 1 then Jvm.Pilot.@@N@@.old A (4 * (k : Int) + o) else 0)
    split <;> omega) i.toNat (by unfold nIm; omega)
  have h2 : (if A 15 (4 * ((i.toNat : Nat) : Int) + o) = 1 then Jvm.Pilot.@@N@@.old A (4 * ((i.toNat : Nat) : Int) + o) else 0) ≤ allT A o (nIm A) := h1
  rw [show ((i.toNat : Nat) : Int) = i by omega, if_pos e] at h2
  have := h.pro hi ho e
  omega
theorem b1_c (P : Prop) [Decidable P] : (P ∧ b1 P = 1) ∨ (¬ P ∧ b1 P = 0) := by unfold b1; split <;> simp [*]
/-- a method of a class in which some are run otherwise, this one not -/
theorem am_ofF {Γ : GT} {M : MD} {ρ : RM} {as : List Value} {h : Nat → AC} {nx : Nat} {Q : QT} {ls : List (Option Value)} (hy : plainFor M.1 = true) (hn : (lg_sl as).length ≤ M.2.2.1) (hl : en as M.2.2.1 = ls) (k : AW Γ M (rmm ρ) (MF Γ Q ρ) (0, 0) 0 ls [] h nx) : AM Γ M ρ as h nx Q := by
  show Met (gL Γ) M.1 (wsM M) (rmm ρ) (Pcx Γ as h nx) (Qcx Γ Q) ρ.2.1 ρ.2.2 (gF Γ)
  refine MetFree.of_bodySF (code := M.2.1) (maxLocals := M.2.2.1) (ret := M.2.2.2) hy ?_ ?_
  · intro args s m h hn
    obtain ⟨meth, c, h1, h2, h3, h4, h5, h6, -, -⟩ := Cond.code_spec hn (atoms_spec (ws := wsM M) h _ List.mem_cons_self)
    exact ⟨meth, c, h1, h2, h3, h4, h5, h6⟩
  · intro p e s m args below meth c s₁ B hml hv _
    obtain ⟨rfl, hG, hH⟩ := hv
    have hts := atoms_spec (ws := wsM M) B.pre
    have hh0 : s₁.heap = s.heap := by rw [B.state]; rfl
    have w := k p e s m _ below meth c s.heap [] _ ⟨B.exec, B.bytes, B.returns, B.notSynchronized, hml, findClass_of_methodNamed B.named, (name_of_methodNamed B.named B.method).1, fun w hw => hts w (List.mem_cons_of_mem _ hw), hG⟩ va_S.rf hH (hl ▸ LV.en hn)
    rw [lg_entry_eq]
    obtain ⟨t, a1, o, b1, b2, b3⟩ := w s₁ hh0 (Stand.of_body B)
    exact ⟨t, o, a1, b1, b2, ⟨b3.1, b3.2⟩⟩
theorem lt_ne_nan {x : UInt64} (h : x.toNat < 2047 * 4503599627370496) : FP.Core.val64 x ≠ .nan := by
  obtain ⟨c, q, e⟩ := fin_pos h; rw [e]; exact FP.Core.Datum.noConfusion
theorem ok_ne_nan {x : UInt64} (h : Dn 1 2047 x ∨ x = 13830554455654793216) : FP.Core.val64 x ≠ .nan := by
  rcases h with h | h
  · exact lt_ne_nan (h.lt (by omega))
  · rw [h]; decide +kernel

set_option maxHeartbeats 1000000 in
theorem c_Jxe99ae_isNaN_b9ae7 {Γ : GT} {S T U V : St} {G : Gw} {nx d : Nat} {Q : QT} (hnx : 52 ≤ nx) {x : UInt64} (hx : FP.Core.val64 x ≠ .nan) (hQ : Q (some (vi 0)) (hp Γ S T U V G) nx) : AM Γ MJxe99ae_isNaN_b9ae7 (d, 0, 0) [.double x] (hp Γ S T U V G) nx Q := by
  refine am_of (by decide) (Nat.le_of_ble_eq_true rfl) (ls := [some _, none]) rfl ?_
  refine aw_dload_n dJxe99ae_isNaN_b9ae7_0 rfl ?_
  refine aw_dload_n dJxe99ae_isNaN_b9ae7_1 rfl ?_
  refine aw_dcmp dJxe99ae_isNaN_b9ae7_2 ?_
  refine aw_si (a := I 0) (by rw [show FP.dcmp x x = some .eq from FP.Core.dcmp_self hx]; rfl) ?_
  refine aw_if_eq (tgt := 10) dJxe99ae_isNaN_b9ae7_3 rfl (by omega) (fun c3 => ?_) (fun c3 => ?_)
  · skip
    refine aw_iconst dJxe99ae_isNaN_b9ae7_10 ?_
    exact aw_zreturn dJxe99ae_isNaN_b9ae7_11 rfl (by omega) ⟨Nat.le_refl _, Nat.le_refl _⟩ hQ
  · skip
    exact absurd rfl c3

set_option maxHeartbeats 1000000 in
theorem c_dtl {Γ : GT} {S T U V : St} {G : Gw} {nx d : Nat} {Q : QT} (hnx : 52 ≤ nx) {x : UInt64} (hx : FP.Core.val64 x ≠ .nan) (hQ : Q (some (.long x.toInt64)) (hp Γ S T U V G) nx) : AM Γ MJxe99ae_doubleToLongBits_ccdee (d + 1, 0, 0) [.double x] (hp Γ S T U V G) nx Q := by
  refine am_of (by decide) (Nat.le_of_ble_eq_true rfl) (ls := [some _, none]) rfl ?_
  refine aw_dload_n dJxe99ae_doubleToLongBits_ccdee_0 rfl ?_
  refine aw_callS (As := [_]) (ρ := (_, 0, 0)) (kn' := (0, 0)) cs_Jxe99ae_122 dJxe99ae_doubleToLongBits_ccdee_1 rfl rfl (Nat.le_of_ble_eq_true rfl) (rmR _ _ _) ⟨Nat.le_refl _, Nat.le_refl _⟩ rfl (c_Jxe99ae_isNaN_b9ae7 hnx hx ?_)
  refine aw_if_ne (tgt := 12) dJxe99ae_doubleToLongBits_ccdee_4 rfl (by decide) (fun c => absurd rfl c) (fun _ => ?_)
  refine aw_dload_n dJxe99ae_doubleToLongBits_ccdee_7 rfl ?_
  refine aw_d2lbits qm_Jxe99ae_134 qv_java_lang_Double_doubleToRawLongBits qt_java_lang_Double_doubleToRawLongBits qn_Jxe99ae (rmN _ _ _ (Nat.le_of_ble_eq_true rfl)) dJxe99ae_doubleToLongBits_ccdee_8 ?_
  exact aw_lreturn dJxe99ae_doubleToLongBits_ccdee_11 rfl ⟨Nat.le_refl _, Nat.le_refl _⟩ hQ

set_option maxHeartbeats 1000000 in
theorem c_Jxf58ca_isNaN_12338 {Γ : GT} {S T U V : St} {G : Gw} {nx d : Nat} {Q : QT} (hnx : 52 ≤ nx) {y : UInt32} (hy : FP.Core.val32 y ≠ .nan) (hQ : Q (some (vi 0)) (hp Γ S T U V G) nx) : AM Γ MJxf58ca_isNaN_12338 (d, 0, 0) [.float y] (hp Γ S T U V G) nx Q := by
  refine am_ofF (by decide +kernel) (Nat.le_of_ble_eq_true rfl) (ls := [some _]) rfl ?_
  refine aw_fload_n dJxf58ca_isNaN_12338_0 rfl ?_
  refine aw_fload_n dJxf58ca_isNaN_12338_1 rfl ?_
  refine aw_fcmp dJxf58ca_isNaN_12338_2 ?_
  refine aw_si (a := I 0) (by rw [show FP.fcmp y y = some .eq from FP.Core.fcmp_self hy]; rfl) ?_
  refine aw_if_eq (tgt := 10) dJxf58ca_isNaN_12338_3 rfl (by omega) (fun c3 => ?_) (fun c3 => ?_)
  · skip
    refine aw_iconst dJxf58ca_isNaN_12338_10 ?_
    exact aw_zreturn dJxf58ca_isNaN_12338_11 rfl (by omega) ⟨Nat.le_refl _, Nat.le_refl _⟩ hQ
  · skip
    exact absurd rfl c3

set_option maxHeartbeats 1000000 in
theorem c_fti {Γ : GT} {S T U V : St} {G : Gw} {nx d : Nat} {Q : QT} (hnx : 52 ≤ nx) {y : UInt32} (hy : FP.Core.val32 y ≠ .nan) (hQ : Q (some (.int y.toInt32)) (hp Γ S T U V G) nx) : AM Γ MJxf58ca_floatToIntBits_5c35a (d + 1, 0, 0) [.float y] (hp Γ S T U V G) nx Q := by
  refine am_ofF (by decide +kernel) (Nat.le_of_ble_eq_true rfl) (ls := [some _]) rfl ?_
  refine aw_fload_n dJxf58ca_floatToIntBits_5c35a_0 rfl ?_
  refine aw_callS (As := [_]) (ρ := (_, 0, 0)) (kn' := (0, 0)) cs_Jxf58ca_59 dJxf58ca_floatToIntBits_5c35a_1 rfl rfl (Nat.le_of_ble_eq_true rfl) (rmR _ _ _) ⟨Nat.le_refl _, Nat.le_refl _⟩ rfl (c_Jxf58ca_isNaN_12338 hnx hy ?_)
  refine aw_if_ne (tgt := 12) dJxf58ca_floatToIntBits_5c35a_4 rfl (by decide) (fun c => absurd rfl c) (fun _ => ?_)
  refine aw_fload_n dJxf58ca_floatToIntBits_5c35a_7 rfl ?_
  refine aw_f2ibits qm_Jxf58ca_74 qv_java_lang_Float_floatToRawIntBits qt_java_lang_Float_floatToRawIntBits qn_Jxf58ca (rmN _ _ _ (Nat.le_of_ble_eq_true rfl)) dJxf58ca_floatToIntBits_5c35a_8 ?_
  refine aw_si (a := I y.toInt32.toInt) (by rw [I_of]) ?_
  exact aw_ireturn dJxf58ca_floatToIntBits_5c35a_11 rfl rfl ⟨Nat.le_refl _, Nat.le_refl _⟩ (show Q (some (Value.int (I y.toInt32.toInt))) _ _ by rw [I_of]; exact hQ)

set_option maxHeartbeats 1000000 in
theorem c_X11_isIdleBy {Γ : GT} {S T U V A : St} {G : Gw} {nx d : Nat} {Q : QT} (hnx : 52 ≤ nx) {l : Int} {c : Int} (hI : Inv c A) (hA : Ag A (V 0)) (hL : RgL V) (hl : 0 ≤ l ∧ l < A 28 0) (hQ : ∀ r, (r = 1 ∧ (idleP A l) ∨ r = 0 ∧ ¬ (idleP A l)) → Q (some (vi r)) (hp Γ S T U V G) nx) : AM Γ MX11_isIdleBy (d + 1, 0, 0) [rf Γ 43, vi l] (hp Γ S T U V G) nx Q := by
  refine am_of (by decide) (Nat.le_of_ble_eq_true rfl) (ls := [some (rf Γ 43), some _]) rfl ?_
  have hR := hI.R
  have i1 := hI.i1
  have hz : 0 ≤ A 28 0 ∧ A 28 0 ≤ 60 := i1.2.2.1
  have hkS : nS A = (A 28 0).toNat := rfl
  have hkI : nIm A = (A 27 0).toNat := rfl
  have hkO : nOr A = (A 26 0).toNat := rfl
  have su := hI.sur hl
  have li := hI.li hl
  have am := hI.am hl
  refine aw_ldc2 dX11_isIdleBy_0 qk_X11_174 ?_
  refine aw_st (st' := vl 100 :: _) rfl ?_
  refine aw_aload_n dX11_isIdleBy_3 rfl ?_
  refine aw_getf fg_X11_9 dX11_isIdleBy_4 (hc43 hnx) rfl ?_
  refine aw_iload_n dX11_isIdleBy_7 rfl ?_
  refine aw_iconst dX11_isIdleBy_8 ?_
  refine aw_callS (As := [_, _]) (ρ := (_, 0, 0)) (kn' := (0, 0)) cs_X11_48 dX11_isIdleBy_9 rfl rfl (Nat.le_of_ble_eq_true rfl) (rmR _ _ _) ⟨Nat.le_refl _, Nat.le_refl _⟩ rfl (c_X11_licenceAt hnx  (fun r9 h9 => ?_))
  subst h9
  refine aw_laldr dX11_isIdleBy_12 (hc44 hnx) (by omega) (by decide) (hL 0) (fun q12 => ?_)
  refine aw_svl (a := A 9 l) ((hA.l9 (by omega)).symm) ?_
  refine aw_lmul dX11_isIdleBy_13 ?_
  refine aw_aload_n dX11_isIdleBy_14 rfl ?_
  refine aw_getf fg_X11_9 dX11_isIdleBy_15 (hc43 hnx) rfl ?_
  refine aw_iconst dX11_isIdleBy_18 ?_
  refine aw_laldr dX11_isIdleBy_19 (hc44 hnx) (by omega) (by decide) (hL 0) (fun q19 => ?_)
  refine aw_svl (a := A 0 3) ((hA.tm (by omega)).symm) ?_
  refine aw_aload_n dX11_isIdleBy_20 rfl ?_
  refine aw_getf fg_X11_9 dX11_isIdleBy_21 (hc43 hnx) rfl ?_
  refine aw_iload_n dX11_isIdleBy_24 rfl ?_
  refine aw_iconst dX11_isIdleBy_25 ?_
  refine aw_callS (As := [_, _]) (ρ := (_, 0, 0)) (kn' := (0, 0)) cs_X11_48 dX11_isIdleBy_26 rfl rfl (Nat.le_of_ble_eq_true rfl) (rmR _ _ _) ⟨Nat.le_refl _, Nat.le_refl _⟩ rfl (c_X11_licenceAt hnx  (fun r26 h26 => ?_))
  subst h26
  refine aw_laldr dX11_isIdleBy_29 (hc44 hnx) (by omega) (by decide) (hL 0) (fun q29 => ?_)
  refine aw_svl (a := A 6 l) ((hA.l6 (by omega)).symm) ?_
  refine aw_lmul dX11_isIdleBy_30 ?_
  refine aw_lif_ge (tgt := 39) dX11_isIdleBy_31 dX11_isIdleBy_32 rfl (by omega) (fun c31 => ?_) (fun c31 => ?_)
  · skip
    refine aw_iconst dX11_isIdleBy_39 ?_
    exact aw_zreturn dX11_isIdleBy_40 rfl (by omega) ⟨Nat.le_refl _, Nat.le_refl _⟩ (hQ _ (by unfold idleP; omega))
  · skip
    refine aw_iconst dX11_isIdleBy_35 ?_
    refine aw_goto (tgt := 40) dX11_isIdleBy_36 rfl ?_
    exact aw_zreturn dX11_isIdleBy_40 rfl (by omega) ⟨Nat.le_refl _, Nat.le_refl _⟩ (hQ _ (by unfold idleP; omega))

set_option maxHeartbeats 1000000 in
theorem c_X11_endedLast {Γ : GT} {S T U V A : St} {G : Gw} {nx d : Nat} {Q : QT} (hnx : 52 ≤ nx) {i a : Int} {c : Int} (hI : Inv c A) (hA : Ag A (V 0)) (hL : RgL V) (hia : inI i ∧ inI a) (hQ : ∀ r, r = endL A i a (nS A) → Q (some (vi r)) (hp Γ S T U V G) nx) : AM Γ MX11_endedLast (d + 3, 0, 0) [rf Γ 43, vi i, vi a] (hp Γ S T U V G) nx Q := by
  refine am_of (by decide) (Nat.le_of_ble_eq_true rfl) (ls := [some (rf Γ 43), some _, some _, none, none]) rfl ?_
  have hR := hI.R
  have i1 := hI.i1
  have hz : 0 ≤ A 28 0 ∧ A 28 0 ≤ 60 := i1.2.2.1
  have hkS : nS A = (A 28 0).toNat := rfl
  have hkI : nIm A = (A 27 0).toNat := rfl
  have hkO : nOr A = (A 26 0).toNat := rfl
  refine aw_iconst dX11_endedLast_0 ?_
  refine aw_istore_n (ls' := [some (rf Γ 43), some _, some _, some _, none]) dX11_endedLast_1 (by decide) rfl ?_
  refine aw_iconst dX11_endedLast_2 ?_
  refine aw_istore (ls' := [some (rf Γ 43), some _, some _, some _, some _]) dX11_endedLast_3 (by decide) rfl ?_
  refine loopN (nS A) (P := fun k => ∀ (x : Int) , x = endL A i a k →  AW Γ MX11_endedLast _ _ (0, 0) 5 [some (rf Γ 43), some (vi i), some (vi a), some (vi x), some (vi (k : Int))] [] (hp Γ S T U V G) nx) (fun k hk ih => ?_) 0 (Nat.zero_le _) _ rfl
  intro x i5_0
  refine aw_iload dX11_endedLast_5 rfl ?_
  refine aw_aload_n dX11_endedLast_7 rfl ?_
  refine aw_bipush dX11_endedLast_8 rfl ?_
  refine aw_callV (As := [_]) (ρ := (_, 0, 0)) (kn' := (0, 0)) cv_X11_164 dX11_endedLast_10 rfl rfl (hc43 hnx) rfl rfl (Nat.le_of_ble_eq_true rfl) (rmR _ _ _) ⟨Nat.le_refl _, Nat.le_refl _⟩ rfl (c_X11_many_8 hnx hI hA hL  (fun r10 h10 => ?_))
  subst h10
  refine aw_icmp_ge (tgt := 68) dX11_endedLast_13 rfl (by omega) (fun c13 => ?_) (fun c13 => ?_)
  · skip
    obtain rfl : k = nS A := by omega
    refine aw_iload_n dX11_endedLast_68 rfl ?_
    exact aw_ireturn dX11_endedLast_69 rfl rfl ⟨Nat.le_refl _, Nat.le_refl _⟩ (hQ _ (by omega))
  · skip
    have he := endL_in A i a k
    have hs := endL_st A i a k
    refine aw_aload_n dX11_endedLast_16 rfl ?_
    refine aw_iload dX11_endedLast_17 rfl ?_
    refine aw_iload_n dX11_endedLast_19 rfl ?_
    refine aw_iload_n dX11_endedLast_20 rfl ?_
    refine aw_callV (As := [_, _, _]) (ρ := (_, 0, 0)) (kn' := (0, 0)) cv_X11_202 dX11_endedLast_21 rfl rfl (hc43 hnx) rfl rfl (Nat.le_of_ble_eq_true rfl) (rmR _ _ _) ⟨Nat.le_refl _, Nat.le_refl _⟩ rfl (c_X11_isOf hnx hI hA hL (by omega) (by omega) (fun r21 h21 => ?_))
    rcases h21 with ⟨rfl, h21⟩ | ⟨rfl, h21⟩
    · skip
      refine aw_if_eq (tgt := 62) dX11_endedLast_24 rfl (by decide) (fun c => absurd c (by decide)) (fun _ => ?_)
      refine aw_aload_n dX11_endedLast_27 rfl ?_
      refine aw_iload dX11_endedLast_28 rfl ?_
      refine aw_callV (As := [_]) (ρ := (_, 0, 0)) (kn' := (0, 0)) cv_X11_199 dX11_endedLast_30 rfl rfl (hc43 hnx) rfl rfl (Nat.le_of_ble_eq_true rfl) (rmR _ _ _) ⟨Nat.le_refl _, Nat.le_refl _⟩ rfl (c_X11_isOpen hnx hI hA hL (by omega) (fun r30 h30 => ?_))
      rcases h30 with ⟨rfl, h30⟩ | ⟨rfl, h30⟩
      · skip
        refine aw_if_ne (tgt := 62) dX11_endedLast_33 rfl (by decide) (fun _ => ?_) (fun c => absurd c (by decide))
        refine aw_iinc (ls' := [some (rf Γ 43), some _, some _, some _, some _]) dX11_endedLast_62 rfl (by decide) rfl ?_
        refine aw_goto (tgt := 5) dX11_endedLast_65 rfl ?_
        exact ih (by omega) x  (by subst i5_0; simp only [endL]; split <;> omega)
      · skip
        refine aw_if_ne (tgt := 62) dX11_endedLast_33 rfl (by decide) (fun c => absurd c (by decide)) (fun _ => ?_)
        refine aw_iload_n dX11_endedLast_36 rfl ?_
        refine aw_iconst dX11_endedLast_37 ?_
        refine aw_icmp_eq (tgt := 59) dX11_endedLast_38 rfl (by omega) (fun c38 => ?_) (fun c38 => ?_)
        · skip
          refine aw_iload dX11_endedLast_59 rfl ?_
          refine aw_istore_n (ls' := [some (rf Γ 43), some _, some _, some _, some _]) dX11_endedLast_61 (by decide) rfl ?_
          refine aw_iinc (ls' := [some (rf Γ 43), some _, some _, some _, some _]) dX11_endedLast_62 rfl (by decide) rfl ?_
          refine aw_goto (tgt := 5) dX11_endedLast_65 rfl ?_
          exact ih (by omega) (k : Int)  (by subst i5_0; simp only [endL]; split <;> omega)
        · skip
          refine aw_aload_n dX11_endedLast_41 rfl ?_
          refine aw_iload dX11_endedLast_42 rfl ?_
          refine aw_bipush dX11_endedLast_44 rfl ?_
          refine aw_callV (As := [_, _]) (ρ := (_, 0, 0)) (kn' := (0, 0)) cv_X11_196 dX11_endedLast_46 rfl rfl (hc43 hnx) rfl rfl (Nat.le_of_ble_eq_true rfl) (rmR _ _ _) ⟨Nat.le_refl _, Nat.le_refl _⟩ rfl (c_X11_ofLicence_7 hnx hI hA hL (by omega) h30 (fun r46 h46 => ?_))
          have r11 := hR 11 (by decide) (k : Int)
          refine aw_aload_n dX11_endedLast_49 rfl ?_
          refine aw_iload_n dX11_endedLast_50 rfl ?_
          refine aw_bipush dX11_endedLast_51 rfl ?_
          refine aw_callV (As := [_, _]) (ρ := (_, 0, 0)) (kn' := (0, 0)) cv_X11_196 dX11_endedLast_53 rfl rfl (hc43 hnx) rfl rfl (Nat.le_of_ble_eq_true rfl) (rmR _ _ _) ⟨Nat.le_refl _, Nat.le_refl _⟩ rfl (c_X11_ofLicence_7 hnx hI hA hL (l := x) (by omega) (by subst i5_0; exact hs.resolve_left c38) (fun r53 h53 => ?_))
          have r12 := hR 11 (by decide) (endL A i a k)
          rw [i5_0] at h53
          refine aw_icmp_lt (tgt := 62) dX11_endedLast_56 rfl (by omega) (fun c56 => ?_) (fun c56 => ?_)
          · skip
            refine aw_iinc (ls' := [some (rf Γ 43), some _, some _, some _, some _]) dX11_endedLast_62 rfl (by decide) rfl ?_
            refine aw_goto (tgt := 5) dX11_endedLast_65 rfl ?_
            exact ih (by omega) x  (by subst i5_0; simp only [endL]; split <;> omega)
          · skip
            refine aw_iload dX11_endedLast_59 rfl ?_
            refine aw_istore_n (ls' := [some (rf Γ 43), some _, some _, some _, some _]) dX11_endedLast_61 (by decide) rfl ?_
            refine aw_iinc (ls' := [some (rf Γ 43), some _, some _, some _, some _]) dX11_endedLast_62 rfl (by decide) rfl ?_
            refine aw_goto (tgt := 5) dX11_endedLast_65 rfl ?_
            exact ih (by omega) (k : Int)  (by subst i5_0; simp only [endL]; split <;> omega)
    · skip
      refine aw_if_eq (tgt := 62) dX11_endedLast_24 rfl (by decide) (fun _ => ?_) (fun c => absurd c (by decide))
      refine aw_iinc (ls' := [some (rf Γ 43), some _, some _, some _, some _]) dX11_endedLast_62 rfl (by decide) rfl ?_
      refine aw_goto (tgt := 5) dX11_endedLast_65 rfl ?_
      exact ih (by omega) x  (by subst i5_0; simp only [endL]; split <;> omega)

set_option maxHeartbeats 1000000 in
theorem c_X11_wasIdle {Γ : GT} {S T U V A : St} {G : Gw} {nx d : Nat} {Q : QT} (hnx : 52 ≤ nx) {i a : Int} {c : Int} (hI : Inv c A) (hA : Ag A (V 0)) (hL : RgL V) (hi : 0 ≤ i ∧ i < A 27 0)(ha : 0 ≤ a ∧ a < A 26 0) (hQ : ∀ r, (r = 1 ∧ (kept A i a) ∨ r = 0 ∧ ¬ (kept A i a)) → Q (some (vi r)) (hp Γ S T U V G) nx) : AM Γ MX11_wasIdle (d + 4, 0, 0) [rf Γ 43, vi i, vi a] (hp Γ S T U V G) nx Q := by
  refine am_of (by decide) (Nat.le_of_ble_eq_true rfl) (ls := [some (rf Γ 43), some _, some _, none]) rfl ?_
  have hR := hI.R
  have i1 := hI.i1
  have hz : 0 ≤ A 28 0 ∧ A 28 0 ≤ 60 := i1.2.2.1
  have hkS : nS A = (A 28 0).toNat := rfl
  have hkI : nIm A = (A 27 0).toNat := rfl
  have hkO : nOr A = (A 26 0).toNat := rfl
  have he := endL_in A i a (nS A)
  refine aw_aload_n dX11_wasIdle_0 rfl ?_
  refine aw_iload_n dX11_wasIdle_1 rfl ?_
  refine aw_iload_n dX11_wasIdle_2 rfl ?_
  refine aw_callV (As := [_, _]) (ρ := (_, 0, 0)) (kn' := (0, 0)) cv_X11_206 dX11_wasIdle_3 rfl rfl (hc43 hnx) rfl rfl (Nat.le_of_ble_eq_true rfl) (rmR _ _ _) ⟨Nat.le_refl _, Nat.le_refl _⟩ rfl (c_X11_endedLast hnx hI hA hL (by omega) (fun r3 h3 => ?_))
  subst h3
  refine aw_istore_n (ls' := [some (rf Γ 43), some _, some _, some _]) dX11_wasIdle_6 (by decide) rfl ?_
  refine aw_iload_n dX11_wasIdle_7 rfl ?_
  refine aw_iconst dX11_wasIdle_8 ?_
  refine aw_icmp_eq (tgt := 24) dX11_wasIdle_9 rfl (by omega) (fun c9 => ?_) (fun c9 => ?_)
  · skip
    refine aw_iconst dX11_wasIdle_24 ?_
    exact aw_zreturn dX11_wasIdle_25 rfl (by omega) ⟨Nat.le_refl _, Nat.le_refl _⟩ (hQ _ (by unfold kept; omega))
  · skip
    refine aw_aload_n dX11_wasIdle_12 rfl ?_
    refine aw_iload_n dX11_wasIdle_13 rfl ?_
    refine aw_callV (As := [_]) (ρ := (_, 0, 0)) (kn' := (0, 0)) cv_X11_209 dX11_wasIdle_14 rfl rfl (hc43 hnx) rfl rfl (Nat.le_of_ble_eq_true rfl) (rmR _ _ _) ⟨Nat.le_refl _, Nat.le_refl _⟩ rfl (c_X11_isIdleBy hnx hI hA hL (l := endL A i a (nS A)) (by omega) (fun r14 h14 => ?_))
    rcases h14 with ⟨rfl, h14⟩ | ⟨rfl, h14⟩
    · skip
      refine aw_if_eq (tgt := 24) dX11_wasIdle_17 rfl (by decide) (fun c => absurd c (by decide)) (fun _ => ?_)
      refine aw_iconst dX11_wasIdle_20 ?_
      refine aw_goto (tgt := 25) dX11_wasIdle_21 rfl ?_
      exact aw_zreturn dX11_wasIdle_25 rfl (by omega) ⟨Nat.le_refl _, Nat.le_refl _⟩ (hQ _ (by unfold kept; omega))
    · skip
      refine aw_if_eq (tgt := 24) dX11_wasIdle_17 rfl (by decide) (fun _ => ?_) (fun c => absurd c (by decide))
      refine aw_iconst dX11_wasIdle_24 ?_
      exact aw_zreturn dX11_wasIdle_25 rfl (by omega) ⟨Nat.le_refl _, Nat.le_refl _⟩ (hQ _ (by unfold kept; omega))

set_option maxHeartbeats 1000000 in
theorem c_X11_isOfThisPeriod {Γ : GT} {S T U V A : St} {G : Gw} {nx d : Nat} {Q : QT} (hnx : 52 ≤ nx) {l : Int} {c : Int} (hI : Inv c A) (hA : Ag A (V 0)) (hL : RgL V) (hl : 0 ≤ l ∧ l < A 28 0) (hQ : ∀ r, (r = 1 ∧ (A 7 l / 90 = A 25 0 / 90) ∨ r = 0 ∧ ¬ (A 7 l / 90 = A 25 0 / 90)) → Q (some (vi r)) (hp Γ S T U V G) nx) : AM Γ MX11_isOfThisPeriod (d + 1, 0, 0) [rf Γ 43, vi l] (hp Γ S T U V G) nx Q := by
  refine am_of (by decide) (Nat.le_of_ble_eq_true rfl) (ls := [some (rf Γ 43), some _]) rfl ?_
  have hR := hI.R
  have i1 := hI.i1
  have hz : 0 ≤ A 28 0 ∧ A 28 0 ≤ 60 := i1.2.2.1
  have hkS : nS A = (A 28 0).toNat := rfl
  have hkI : nIm A = (A 27 0).toNat := rfl
  have hkO : nOr A = (A 26 0).toNat := rfl
  have li := hI.li hl
  refine aw_aload_n dX11_isOfThisPeriod_0 rfl ?_
  refine aw_getf fg_X11_9 dX11_isOfThisPeriod_1 (hc43 hnx) rfl ?_
  refine aw_iload_n dX11_isOfThisPeriod_4 rfl ?_
  refine aw_iconst dX11_isOfThisPeriod_5 ?_
  refine aw_callS (As := [_, _]) (ρ := (_, 0, 0)) (kn' := (0, 0)) cs_X11_48 dX11_isOfThisPeriod_6 rfl rfl (Nat.le_of_ble_eq_true rfl) (rmR _ _ _) ⟨Nat.le_refl _, Nat.le_refl _⟩ rfl (c_X11_licenceAt hnx  (fun r6 h6 => ?_))
  subst h6
  refine aw_laldr dX11_isOfThisPeriod_9 (hc44 hnx) (by omega) (by decide) (hL 0) (fun q9 => ?_)
  refine aw_svl (a := A 7 l) ((hA.l7 (by omega)).symm) ?_
  refine aw_ldc2 dX11_isOfThisPeriod_10 qk_X11_212 ?_
  refine aw_st (st' := vl 90 :: _) rfl ?_
  refine aw_ldiv dX11_isOfThisPeriod_13 (by omega) (by omega) ?_
  refine aw_aload_n dX11_isOfThisPeriod_14 rfl ?_
  refine aw_getf fg_X11_9 dX11_isOfThisPeriod_15 (hc43 hnx) rfl ?_
  refine aw_bipush dX11_isOfThisPeriod_18 rfl ?_
  refine aw_laldr dX11_isOfThisPeriod_20 (hc44 hnx) (by omega) (by decide) (hL 0) (fun q20 => ?_)
  refine aw_svl (a := A 25 0) (hA.c9.symm) ?_
  refine aw_ldc2 dX11_isOfThisPeriod_21 qk_X11_212 ?_
  refine aw_st (st' := vl 90 :: _) rfl ?_
  refine aw_ldiv dX11_isOfThisPeriod_24 (by omega) (by omega) ?_
  refine aw_lif_ne (tgt := 33) dX11_isOfThisPeriod_25 dX11_isOfThisPeriod_26 rfl (by omega) (fun c25 => ?_) (fun c25 => ?_)
  · skip
    refine aw_iconst dX11_isOfThisPeriod_33 ?_
    exact aw_zreturn dX11_isOfThisPeriod_34 rfl (by omega) ⟨Nat.le_refl _, Nat.le_refl _⟩ (hQ _ (by omega))
  · skip
    refine aw_iconst dX11_isOfThisPeriod_29 ?_
    refine aw_goto (tgt := 34) dX11_isOfThisPeriod_30 rfl ?_
    exact aw_zreturn dX11_isOfThisPeriod_34 rfl (by omega) ⟨Nat.le_refl _, Nat.le_refl _⟩ (hQ _ (by omega))

set_option maxHeartbeats 1000000 in
theorem c_X11_isTraditional {Γ : GT} {S T U V A : St} {G : Gw} {nx d : Nat} {Q : QT} (hnx : 52 ≤ nx) {i a : Int} {c : Int} (hI : Inv c A) (hA : Ag A (V 0)) (hL : RgL V) (hi : 0 ≤ i ∧ i < A 27 0)(ha : 0 ≤ a ∧ a < A 26 0) (hQ : ∀ r, (r = 1 ∧ (A 0 5 ≤ yws A (4 * i + a)) ∨ r = 0 ∧ ¬ (A 0 5 ≤ yws A (4 * i + a))) → Q (some (vi r)) (hp Γ S T U V G) nx) : AM Γ MX11_isTraditional (d + 2, 0, 0) [rf Γ 43, vi i, vi a] (hp Γ S T U V G) nx Q := by
  refine am_of (by decide) (Nat.le_of_ble_eq_true rfl) (ls := [some (rf Γ 43), some _, some _, none, none]) rfl ?_
  have hR := hI.R
  have i1 := hI.i1
  have hz : 0 ≤ A 28 0 ∧ A 28 0 ≤ 60 := i1.2.2.1
  have hkS : nS A = (A 28 0).toNat := rfl
  have hkI : nIm A = (A 27 0).toNat := rfl
  have hkO : nOr A = (A 26 0).toNat := rfl
  refine aw_iconst dX11_isTraditional_0 ?_
  refine aw_istore_n (ls' := [some (rf Γ 43), some _, some _, some _, none]) dX11_isTraditional_1 (by decide) rfl ?_
  refine aw_iconst dX11_isTraditional_2 ?_
  refine aw_istore (ls' := [some (rf Γ 43), some _, some _, some _, some _]) dX11_isTraditional_3 (by decide) rfl ?_
  refine loopN (3) (P := fun k => ∀ (x : Int) , x = ywk A (4 * i + a) k →  AW Γ MX11_isTraditional _ _ (0, 0) 5 [some (rf Γ 43), some (vi i), some (vi a), some (vi x), some (vi (k : Int))] [] (hp Γ S T U V G) nx) (fun k hk ih => ?_) 0 (Nat.zero_le _) _ rfl
  intro x i5_0
  refine aw_iload dX11_isTraditional_5 rfl ?_
  refine aw_iconst dX11_isTraditional_7 ?_
  refine aw_icmp_ge (tgt := 41) dX11_isTraditional_8 rfl (by omega) (fun c8 => ?_) (fun c8 => ?_)
  · skip
    obtain rfl : k = 3 := by omega
    have yk := ywk_in A (4 * i + a) 3
    rw [ywk_3] at i5_0 yk
    refine aw_iload_n dX11_isTraditional_41 rfl ?_
    refine aw_aload_n dX11_isTraditional_42 rfl ?_
    refine aw_iconst dX11_isTraditional_43 ?_
    refine aw_callV (As := [_]) (ρ := (_, 0, 0)) (kn' := (0, 0)) cv_X11_164 dX11_isTraditional_44 rfl rfl (hc43 hnx) rfl rfl (Nat.le_of_ble_eq_true rfl) (rmR _ _ _) ⟨Nat.le_refl _, Nat.le_refl _⟩ rfl (c_X11_many_5 hnx hI hA hL  (fun r44 h44 => ?_))
    have r5 := hR 0 (by decide) 5
    refine aw_icmp_lt (tgt := 54) dX11_isTraditional_47 rfl (by omega) (fun c47 => ?_) (fun c47 => ?_)
    · skip
      refine aw_iconst dX11_isTraditional_54 ?_
      exact aw_zreturn dX11_isTraditional_55 rfl (by omega) ⟨Nat.le_refl _, Nat.le_refl _⟩ (hQ _ (by omega))
    · skip
      refine aw_iconst dX11_isTraditional_50 ?_
      refine aw_goto (tgt := 55) dX11_isTraditional_51 rfl ?_
      exact aw_zreturn dX11_isTraditional_55 rfl (by omega) ⟨Nat.le_refl _, Nat.le_refl _⟩ (hQ _ (by omega))
  · skip
    refine aw_iload_n dX11_isTraditional_11 rfl ?_
    refine aw_aload_n dX11_isTraditional_12 rfl ?_
    refine aw_iload_n dX11_isTraditional_13 rfl ?_
    refine aw_iload_n dX11_isTraditional_14 rfl ?_
    refine aw_iconst dX11_isTraditional_15 ?_
    refine aw_iload dX11_isTraditional_16 rfl ?_
    refine aw_iadd dX11_isTraditional_18 ?_
    refine aw_callV (As := [_, _, _]) (ρ := (_, 0, 0)) (kn' := (0, 0)) cv_X11_167 dX11_isTraditional_19 rfl rfl (hc43 hnx) rfl rfl (Nat.le_of_ble_eq_true rfl) (rmR _ _ _) ⟨Nat.le_refl _, Nat.le_refl _⟩ rfl (c_X11_ofPair hnx hL (by omega) (by omega) (by omega) (fun r19 h19 => ?_))
    rw [show (0 : Int) + (k : Int) = k by omega, hA.p2 hi ha (by omega) (w := (k : Int)) (by omega)] at h19
    have r2 := hR 2 (by decide) ((4 * i + a) * 3 + (k : Int))
    refine aw_if_le (tgt := 29) dX11_isTraditional_22 rfl (by omega) (fun c22 => ?_) (fun c22 => ?_)
    · skip
      refine aw_iconst dX11_isTraditional_29 ?_
      refine aw_callS (As := [_]) (ρ := (_, 0, 0)) (kn' := (0, 0)) cs_X11_122 dX11_isTraditional_30 rfl rfl (Nat.le_of_ble_eq_true rfl) (rmR _ _ _) ⟨Nat.le_refl _, Nat.le_refl _⟩ rfl (c_X11_truth hnx (by omega) (fun r30 h30 => ?_))
      refine aw_iadd dX11_isTraditional_33 ?_
      refine aw_nmI (fun x3_34 hx3_34 => ?_)
      refine aw_istore_n (ls' := [some (rf Γ 43), some _, some _, some _, some _]) dX11_isTraditional_34 (by decide) rfl ?_
      refine aw_iinc (ls' := [some (rf Γ 43), some _, some _, some _, some _]) dX11_isTraditional_35 rfl (by decide) rfl ?_
      refine aw_goto (tgt := 5) dX11_isTraditional_38 rfl ?_
      exact ih (by omega) x3_34  (by rw [ywk, b1]; split <;> omega)
    · skip
      refine aw_iconst dX11_isTraditional_25 ?_
      refine aw_goto (tgt := 30) dX11_isTraditional_26 rfl ?_
      refine aw_callS (As := [_]) (ρ := (_, 0, 0)) (kn' := (0, 0)) cs_X11_122 dX11_isTraditional_30 rfl rfl (Nat.le_of_ble_eq_true rfl) (rmR _ _ _) ⟨Nat.le_refl _, Nat.le_refl _⟩ rfl (c_X11_truth hnx (by omega) (fun r30 h30 => ?_))
      refine aw_iadd dX11_isTraditional_33 ?_
      refine aw_nmI (fun x3_34 hx3_34 => ?_)
      refine aw_istore_n (ls' := [some (rf Γ 43), some _, some _, some _, some _]) dX11_isTraditional_34 (by decide) rfl ?_
      refine aw_iinc (ls' := [some (rf Γ 43), some _, some _, some _, some _]) dX11_isTraditional_35 rfl (by decide) rfl ?_
      refine aw_goto (tgt := 5) dX11_isTraditional_38 rfl ?_
      exact ih (by omega) x3_34  (by rw [ywk, b1]; split <;> omega)

set_option maxHeartbeats 1000000 in
theorem c_X11_allImported {Γ : GT} {S T U V A : St} {G : Gw} {nx d : Nat} {Q : QT} (hnx : 52 ≤ nx) {a : Int} {c : Int} (hI : Inv c A) (hA : Ag A (V 0)) (hL : RgL V) (ha : 0 ≤ a ∧ a < A 26 0) (hQ : ∀ r, r = allT A a (nIm A) → Q (some (vl r)) (hp Γ S T U V G) nx) : AM Γ MX11_allImported (d + 2, 0, 0) [rf Γ 43, vi a] (hp Γ S T U V G) nx Q := by
  refine am_of (by decide) (Nat.le_of_ble_eq_true rfl) (ls := [some (rf Γ 43), some _, none, none, none]) rfl ?_
  have hR := hI.R
  have i1 := hI.i1
  have hz : 0 ≤ A 28 0 ∧ A 28 0 ≤ 60 := i1.2.2.1
  have hkS : nS A = (A 28 0).toNat := rfl
  have hkI : nIm A = (A 27 0).toNat := rfl
  have hkO : nOr A = (A 26 0).toNat := rfl
  refine aw_lconst0 dX11_allImported_0 ?_
  refine aw_lstore_n (ls' := [some (rf Γ 43), some _, some _, none, none]) dX11_allImported_1 (by decide) rfl ?_
  refine aw_iconst dX11_allImported_2 ?_
  refine aw_istore (ls' := [some (rf Γ 43), some _, some _, none, some _]) dX11_allImported_3 (by decide) rfl ?_
  refine loopN (nIm A) (P := fun k => ∀ (x : Int) , x = allT A a k →  AW Γ MX11_allImported _ _ (0, 0) 5 [some (rf Γ 43), some (vi a), some (vl x), none, some (vi (k : Int))] [] (hp Γ S T U V G) nx) (fun k hk ih => ?_) 0 (Nat.zero_le _) _ rfl
  intro x i5_0
  refine aw_iload dX11_allImported_5 rfl ?_
  refine aw_aload_n dX11_allImported_7 rfl ?_
  refine aw_bipush dX11_allImported_8 rfl ?_
  refine aw_callV (As := [_]) (ρ := (_, 0, 0)) (kn' := (0, 0)) cv_X11_164 dX11_allImported_10 rfl rfl (hc43 hnx) rfl rfl (Nat.le_of_ble_eq_true rfl) (rmR _ _ _) ⟨Nat.le_refl _, Nat.le_refl _⟩ rfl (c_X11_many_7 hnx hI hA hL  (fun r10 h10 => ?_))
  subst h10
  refine aw_icmp_ge (tgt := 48) dX11_allImported_13 rfl (by omega) (fun c13 => ?_) (fun c13 => ?_)
  · skip
    obtain rfl : k = nIm A := by omega
    refine aw_lload_n dX11_allImported_48 rfl ?_
    exact aw_lreturn dX11_allImported_49 rfl ⟨Nat.le_refl _, Nat.le_refl _⟩ (hQ _ (by omega))
  · skip
    refine aw_lload_n dX11_allImported_16 rfl ?_
    refine aw_aload_n dX11_allImported_17 rfl ?_
    refine aw_iload dX11_allImported_18 rfl ?_
    refine aw_iload_n dX11_allImported_20 rfl ?_
    refine aw_iconst dX11_allImported_21 ?_
    refine aw_callV (As := [_, _, _]) (ρ := (_, 0, 0)) (kn' := (0, 0)) cv_X11_167 dX11_allImported_22 rfl rfl (hc43 hnx) rfl rfl (Nat.le_of_ble_eq_true rfl) (rmR _ _ _) ⟨Nat.le_refl _, Nat.le_refl _⟩ rfl (c_X11_ofPair_4 hnx hI hA hL (by omega) (by omega) (fun r22 h22 => ?_))
    have r15 := hR 15 (by decide) (4 * (k : Int) + a)
    refine aw_iconst dX11_allImported_25 ?_
    refine aw_icmp_ne (tgt := 39) dX11_allImported_26 rfl (by omega) (fun c26 => ?_) (fun c26 => ?_)
    · skip
      refine aw_lconst0 dX11_allImported_39 ?_
      refine aw_ladd dX11_allImported_40 ?_
      refine aw_nmL (fun x2_41 hx2_41 => ?_)
      refine aw_lstore_n (ls' := [some (rf Γ 43), some _, some _, none, some _]) dX11_allImported_41 (by decide) rfl ?_
      refine aw_iinc (ls' := [some (rf Γ 43), some _, some _, none, some _]) dX11_allImported_42 rfl (by decide) rfl ?_
      refine aw_goto (tgt := 5) dX11_allImported_45 rfl ?_
      exact ih (by omega) x2_41  (by simp only [allT, sm] at i5_0 ⊢; split <;> omega)
    · skip
      refine aw_aload_n dX11_allImported_29 rfl ?_
      refine aw_iload dX11_allImported_30 rfl ?_
      refine aw_iload_n dX11_allImported_32 rfl ?_
      refine aw_callV (As := [_, _]) (ρ := (_, 0, 0)) (kn' := (0, 0)) cv_X11_170 dX11_allImported_33 rfl rfl (hc43 hnx) rfl rfl (Nat.le_of_ble_eq_true rfl) (rmR _ _ _) ⟨Nat.le_refl _, Nat.le_refl _⟩ rfl (c_X11_importedOf hnx hI hA hL (by omega) (by omega) (fun r33 h33 => ?_))
      refine aw_goto (tgt := 40) dX11_allImported_36 rfl ?_
      refine aw_ladd dX11_allImported_40 ?_
      refine aw_nmL (fun x2_41 hx2_41 => ?_)
      refine aw_lstore_n (ls' := [some (rf Γ 43), some _, some _, none, some _]) dX11_allImported_41 (by decide) rfl ?_
      refine aw_iinc (ls' := [some (rf Γ 43), some _, some _, none, some _]) dX11_allImported_42 rfl (by decide) rfl ?_
      refine aw_goto (tgt := 5) dX11_allImported_45 rfl ?_
      exact ih (by omega) x2_41  (by simp only [allT, sm] at i5_0 ⊢; split <;> omega)

set_option maxHeartbeats 1000000 in
theorem c_X11_shareBy {Γ : GT} {S T U V A : St} {G : Gw} {nx d : Nat} {Q : QT} (hnx : 52 ≤ nx) {i a q p : Int} {c : Int} (hI : Inv c A) (hA : Ag A (V 0)) (hL : RgL V) (hi : 0 ≤ i ∧ i < A 27 0)(ha : 0 ≤ a ∧ a < A 26 0)(hpp : 0 ≤ p ∧ p ≤ 100) (hq : 0 ≤ q ∧ q ≤ 99999) (hQ : ∀ r, r = shr A i a p q → Q (some (vi r)) (hp Γ S T U V G) nx) : AM Γ MX11_shareBy (d + 3, 0, 0) [rf Γ 43, vi i, vi a, vl q, vl p] (hp Γ S T U V G) nx Q := by
  refine am_of (by decide) (Nat.le_of_ble_eq_true rfl) (ls := [some (rf Γ 43), some _, some _, some _, none, some _, none]) rfl ?_
  have hR := hI.R
  have i1 := hI.i1
  have hz : 0 ≤ A 28 0 ∧ A 28 0 ≤ 60 := i1.2.2.1
  have hkS : nS A = (A 28 0).toNat := rfl
  have hkI : nIm A = (A 27 0).toNat := rfl
  have hkO : nOr A = (A 26 0).toNat := rfl
  have m1 := hI.old (p := 4 * i + a) (by omega)
  have m2 := mul_rg hq hpp
  have m5 := mul_rg (a := q * p / 100) (b := old A (4 * i + a)) (A := 99999) (B := 153598464) ⟨by omega, by omega⟩ m1
  have r15 := hR 15 (by decide) (4 * i + a)
  have m4 := hI.z.allT (o := a) (by omega) (nIm A) (by omega)
  refine aw_aload_n dX11_shareBy_0 rfl ?_
  refine aw_iload_n dX11_shareBy_1 rfl ?_
  refine aw_iload_n dX11_shareBy_2 rfl ?_
  refine aw_iconst dX11_shareBy_3 ?_
  refine aw_callV (As := [_, _, _]) (ρ := (_, 0, 0)) (kn' := (0, 0)) cv_X11_167 dX11_shareBy_4 rfl rfl (hc43 hnx) rfl rfl (Nat.le_of_ble_eq_true rfl) (rmR _ _ _) ⟨Nat.le_refl _, Nat.le_refl _⟩ rfl (c_X11_ofPair_4 hnx hI hA hL (by omega) (by omega) (fun r4 h4 => ?_))
  refine aw_iconst dX11_shareBy_7 ?_
  refine aw_icmp_ne (tgt := 36) dX11_shareBy_8 rfl (by omega) (fun c8 => ?_) (fun c8 => ?_)
  · skip
    refine aw_iconst dX11_shareBy_36 ?_
    exact aw_ireturn dX11_shareBy_37 rfl rfl ⟨Nat.le_refl _, Nat.le_refl _⟩ (hQ _ (by unfold shr poa; first | (rw [if_neg (by omega)]) | (rw [if_pos (by omega), if_pos (by omega), Int.mul_comm p q])))
  · skip
    refine aw_lload_n dX11_shareBy_11 rfl ?_
    refine aw_lload dX11_shareBy_12 rfl ?_
    refine aw_lmul dX11_shareBy_14 ?_
    refine aw_ldc2 dX11_shareBy_15 qk_X11_174 ?_
    refine aw_st (st' := vl 100 :: _) rfl ?_
    refine aw_ldiv dX11_shareBy_18 (by omega) (by omega) ?_
    refine aw_aload_n dX11_shareBy_19 rfl ?_
    refine aw_iload_n dX11_shareBy_20 rfl ?_
    refine aw_iload_n dX11_shareBy_21 rfl ?_
    refine aw_callV (As := [_, _]) (ρ := (_, 0, 0)) (kn' := (0, 0)) cv_X11_170 dX11_shareBy_22 rfl rfl (hc43 hnx) rfl rfl (Nat.le_of_ble_eq_true rfl) (rmR _ _ _) ⟨Nat.le_refl _, Nat.le_refl _⟩ rfl (c_X11_importedOf hnx hI hA hL (by omega) (by omega) (fun r22 h22 => ?_))
    subst h22
    refine aw_lmul dX11_shareBy_25 ?_
    refine aw_aload_n dX11_shareBy_26 rfl ?_
    refine aw_iload_n dX11_shareBy_27 rfl ?_
    refine aw_callV (As := [_]) (ρ := (_, 0, 0)) (kn' := (0, 0)) cv_X11_176 dX11_shareBy_28 rfl rfl (hc43 hnx) rfl rfl (Nat.le_of_ble_eq_true rfl) (rmR _ _ _) ⟨Nat.le_refl _, Nat.le_refl _⟩ rfl (c_X11_allImported hnx hI hA hL (by omega) (fun r28 h28 => ?_))
    subst h28
    have a1 := hI.allT1 hi ha (by omega)
    refine aw_ldiv dX11_shareBy_31 (by omega) (by omega) ?_
    refine aw_l2i dX11_shareBy_32 ?_
    refine aw_goto (tgt := 37) dX11_shareBy_33 rfl ?_
    exact aw_ireturn dX11_shareBy_37 rfl rfl ⟨Nat.le_refl _, Nat.le_refl _⟩ (hQ _ (by unfold shr poa; first | (rw [if_neg (by omega)]) | (rw [if_pos (by omega), if_pos (by omega), Int.mul_comm p q])))

set_option maxHeartbeats 1000000 in
theorem c_X11_leaves {Γ : GT} {S T U V A : St} {G : Gw} {nx d : Nat} {Q : QT} (hnx : 52 ≤ nx) {a : Int} {c : Int} (hI : Inv c A) (hA : Ag A (V 0)) (hL : RgL V) (ha : 0 ≤ a ∧ a < A 26 0) (hQ : ∀ r, r = leftI A a → Q (some (vl r)) (hp Γ S T U V G) nx) : AM Γ MX11_leaves (d + 1, 0, 0) [rf Γ 43, vi a] (hp Γ S T U V G) nx Q := by
  refine am_of (by decide) (Nat.le_of_ble_eq_true rfl) (ls := [some (rf Γ 43), some _, none, none, none]) rfl ?_
  have hR := hI.R
  have i1 := hI.i1
  have hz : 0 ≤ A 28 0 ∧ A 28 0 ≤ 60 := i1.2.2.1
  have hkS : nS A = (A 28 0).toNat := rfl
  have hkI : nIm A = (A 27 0).toNat := rfl
  have hkO : nOr A = (A 26 0).toNat := rfl
  refine aw_aload_n dX11_leaves_0 rfl ?_
  refine aw_getf fg_X11_9 dX11_leaves_1 (hc43 hnx) rfl ?_
  refine aw_iload_n dX11_leaves_4 rfl ?_
  refine aw_iconst dX11_leaves_5 ?_
  refine aw_callS (As := [_, _]) (ρ := (_, 0, 0)) (kn' := (0, 0)) cs_X11_40 dX11_leaves_6 rfl rfl (Nat.le_of_ble_eq_true rfl) (rmR _ _ _) ⟨Nat.le_refl _, Nat.le_refl _⟩ rfl (c_X11_originAt hnx  (fun r6 h6 => ?_))
  subst h6
  refine aw_laldr dX11_leaves_9 (hc44 hnx) (by omega) (by decide) (hL 0) (fun q9 => ?_)
  refine aw_svl (a := A 14 (a * 8 + 3)) ((hA.of ha (by omega)).symm) ?_
  refine aw_nmL (fun x2_10 hx2_10 => ?_)
  refine aw_lstore_n (ls' := [some (rf Γ 43), some _, some _, none, none]) dX11_leaves_10 (by decide) rfl ?_
  refine aw_iconst dX11_leaves_11 ?_
  refine aw_istore (ls' := [some (rf Γ 43), some _, some _, none, some _]) dX11_leaves_12 (by decide) rfl ?_
  refine loopN (nIm A) (P := fun k => ∀ (x : Int) , x = A 14 (a * 8 + 3) + lefts A a k →  AW Γ MX11_leaves _ _ (0, 0) 14 [some (rf Γ 43), some (vi a), some (vl x), none, some (vi (k : Int))] [] (hp Γ S T U V G) nx) (fun k hk ih => ?_) 0 (Nat.zero_le _) _ (by rw [lefts, sm]; omega)
  intro x i14_0
  refine aw_iload dX11_leaves_14 rfl ?_
  refine aw_aload_n dX11_leaves_16 rfl ?_
  refine aw_bipush dX11_leaves_17 rfl ?_
  refine aw_callV (As := [_]) (ρ := (_, 0, 0)) (kn' := (0, 0)) cv_X11_164 dX11_leaves_19 rfl rfl (hc43 hnx) rfl rfl (Nat.le_of_ble_eq_true rfl) (rmR _ _ _) ⟨Nat.le_refl _, Nat.le_refl _⟩ rfl (c_X11_many_7 hnx hI hA hL  (fun r19 h19 => ?_))
  subst h19
  refine aw_icmp_ge (tgt := 47) dX11_leaves_22 rfl (by omega) (fun c22 => ?_) (fun c22 => ?_)
  · skip
    obtain rfl : k = nIm A := by omega
    refine aw_lload_n dX11_leaves_47 rfl ?_
    exact aw_lreturn dX11_leaves_48 rfl ⟨Nat.le_refl _, Nat.le_refl _⟩ (hQ _ (by unfold leftI; omega))
  · skip
    refine aw_lload_n dX11_leaves_25 rfl ?_
    refine aw_aload_n dX11_leaves_26 rfl ?_
    refine aw_getf fg_X11_9 dX11_leaves_27 (hc43 hnx) rfl ?_
    refine aw_iload dX11_leaves_30 rfl ?_
    refine aw_iload_n dX11_leaves_32 rfl ?_
    refine aw_bipush dX11_leaves_33 rfl ?_
    refine aw_callS (As := [_, _, _]) (ρ := (_, 0, 0)) (kn' := (0, 0)) cs_X11_44 dX11_leaves_35 rfl rfl (Nat.le_of_ble_eq_true rfl) (rmR _ _ _) ⟨Nat.le_refl _, Nat.le_refl _⟩ rfl (c_X11_pairAt hnx  (fun r35 h35 => ?_))
    subst h35
    refine aw_laldr dX11_leaves_38 (hc44 hnx) (by omega) (by decide) (hL 0) (fun q38 => ?_)
    refine aw_svl (a := A 17 (4 * (k : Int) + a)) ((hA.p17 (by omega) ha (by omega)).symm) ?_
    refine aw_ladd dX11_leaves_39 ?_
    refine aw_nmL (fun x2_40 hx2_40 => ?_)
    refine aw_lstore_n (ls' := [some (rf Γ 43), some _, some _, none, some _]) dX11_leaves_40 (by decide) rfl ?_
    refine aw_iinc (ls' := [some (rf Γ 43), some _, some _, none, some _]) dX11_leaves_41 rfl (by decide) rfl ?_
    refine aw_goto (tgt := 14) dX11_leaves_44 rfl ?_
    exact ih (by omega) x2_40  (by simp only [lefts, sm] at i14_0 ⊢; omega)

set_option maxHeartbeats 1000000 in
theorem c_X11_grantable {Γ : GT} {S T U V A : St} {G : Gw} {nx d : Nat} {Q : QT} (hnx : 52 ≤ nx) {i a n : Int} {c : Int} (hI : Inv c A) (hA : Ag A (V 0)) (hL : RgL V) (hi : 0 ≤ i ∧ i < A 27 0)(ha : 0 ≤ a ∧ a < A 26 0)(hn : inI n) (hQ : ∀ r, r = offer A i a n (A 14 (a * 8 + 3)) (A 28 0) → Q (some (vi r)) (hp Γ S T U V G) nx) : AM Γ MX11_grantable (d + 5, 0, 0) [rf Γ 43, vi i, vi a, vi n] (hp Γ S T U V G) nx Q := by
  refine am_of (by decide) (Nat.le_of_ble_eq_true rfl) (ls := [some (rf Γ 43), some _, some _, some _, none, none]) rfl ?_
  have hR := hI.R
  have i1 := hI.i1
  have hz : 0 ≤ A 28 0 ∧ A 28 0 ≤ 60 := i1.2.2.1
  have hkS : nS A = (A 28 0).toNat := rfl
  have hkI : nIm A = (A 27 0).toNat := rfl
  have hkO : nOr A = (A 26 0).toNat := rfl
  have pr := hI.pr hi ha
  have fg := hI.fg ha
  have f3 := hR 14 (by decide) (a * 8 + 3)
  have t1 := hR 0 (by decide) 1
  have r17 := hR 17 (by decide) (4 * i + a)
  refine aw_aload_n dX11_grantable_0 rfl ?_
  refine aw_bipush dX11_grantable_1 rfl ?_
  refine aw_callV (As := [_]) (ρ := (_, 0, 0)) (kn' := (0, 0)) cv_X11_164 dX11_grantable_3 rfl rfl (hc43 hnx) rfl rfl (Nat.le_of_ble_eq_true rfl) (rmR _ _ _) ⟨Nat.le_refl _, Nat.le_refl _⟩ rfl (c_X11_many_8 hnx hI hA hL  (fun r3 h3 => ?_))
  subst h3
  refine aw_bipush dX11_grantable_6 rfl ?_
  refine aw_icmp_ne (tgt := 14) dX11_grantable_8 rfl (by omega) (fun c8 => ?_) (fun c8 => ?_)
  · skip
    refine aw_aload_n dX11_grantable_14 rfl ?_
    refine aw_iload_n dX11_grantable_15 rfl ?_
    refine aw_iload_n dX11_grantable_16 rfl ?_
    refine aw_iconst dX11_grantable_17 ?_
    refine aw_callV (As := [_, _, _]) (ρ := (_, 0, 0)) (kn' := (0, 0)) cv_X11_167 dX11_grantable_18 rfl rfl (hc43 hnx) rfl rfl (Nat.le_of_ble_eq_true rfl) (rmR _ _ _) ⟨Nat.le_refl _, Nat.le_refl _⟩ rfl (c_X11_ofPair_4 hnx hI hA hL (by omega) (by omega) (fun r18 h18 => ?_))
    refine aw_iconst dX11_grantable_21 ?_
    refine aw_icmp_ne (tgt := 29) dX11_grantable_22 rfl (by omega) (fun c22 => ?_) (fun c22 => ?_)
    · skip
      refine aw_iconst dX11_grantable_29 ?_
      refine aw_istore (ls' := [some (rf Γ 43), some _, some _, some _, some _, none]) dX11_grantable_30 (by decide) rfl ?_
      refine aw_iload dX11_grantable_32 rfl ?_
      refine aw_if_ne (tgt := 75) dX11_grantable_34 rfl (by omega) (fun c34 => ?_) (fun c34 => ?_)
      · skip
        refine aw_iload dX11_grantable_75 rfl ?_
        refine aw_if_eq (tgt := 91) dX11_grantable_77 rfl (by omega) (fun c77 => ?_) (fun c77 => ?_)
        · skip
          refine aw_aload_n dX11_grantable_91 rfl ?_
          refine aw_iload_n dX11_grantable_92 rfl ?_
          refine aw_iconst dX11_grantable_93 ?_
          refine aw_callV (As := [_, _]) (ρ := (_, 0, 0)) (kn' := (0, 0)) cv_X11_226 dX11_grantable_94 rfl rfl (hc43 hnx) rfl rfl (Nat.le_of_ble_eq_true rfl) (rmR _ _ _) ⟨Nat.le_refl _, Nat.le_refl _⟩ rfl (c_X11_ofOrigin_3 hnx hI hA hL (by omega) (fun r94 h94 => ?_))
          refine aw_istore (ls' := [some (rf Γ 43), some _, some _, some _, some _, some _]) dX11_grantable_97 (by decide) rfl ?_
          refine aw_iload dX11_grantable_99 rfl ?_
          refine aw_if_ne (tgt := 109) dX11_grantable_101 rfl (by omega) (fun c101 => ?_) (fun c101 => ?_)
          · skip
            refine aw_iload_n dX11_grantable_109 rfl ?_
            refine aw_iload dX11_grantable_110 rfl ?_
            refine aw_mmin qm_X11_117 dX11_grantable_112 (by omega) (rmN13 _ _ _ (Nat.le_of_ble_eq_true rfl)) ⟨Nat.le_refl _, Nat.le_refl _⟩ (fun r112 h112 => ?_)
            exact aw_ireturn dX11_grantable_115 rfl rfl ⟨Nat.le_refl _, Nat.le_refl _⟩ (hQ _ (by unfold offer; (repeat' split) <;> omega))
          · skip
            refine aw_bipush dX11_grantable_104 rfl ?_
            refine aw_goto (tgt := 115) dX11_grantable_106 rfl ?_
            exact aw_ireturn dX11_grantable_115 rfl rfl ⟨Nat.le_refl _, Nat.le_refl _⟩ (hQ _ (by unfold offer; (repeat' split) <;> omega))
        · skip
          refine aw_aload_n dX11_grantable_80 rfl ?_
          refine aw_iload_n dX11_grantable_81 rfl ?_
          refine aw_iload_n dX11_grantable_82 rfl ?_
          refine aw_bipush dX11_grantable_83 rfl ?_
          refine aw_callV (As := [_, _, _]) (ρ := (_, 0, 0)) (kn' := (0, 0)) cv_X11_167 dX11_grantable_85 rfl rfl (hc43 hnx) rfl rfl (Nat.le_of_ble_eq_true rfl) (rmR _ _ _) ⟨Nat.le_refl _, Nat.le_refl _⟩ rfl (c_X11_ofPair_6 hnx hI hA hL (by omega) (by omega) (fun r85 h85 => ?_))
          refine aw_goto (tgt := 97) dX11_grantable_88 rfl ?_
          refine aw_istore (ls' := [some (rf Γ 43), some _, some _, some _, some _, some _]) dX11_grantable_97 (by decide) rfl ?_
          refine aw_iload dX11_grantable_99 rfl ?_
          refine aw_if_ne (tgt := 109) dX11_grantable_101 rfl (by omega) (fun c101 => ?_) (fun c101 => ?_)
          · skip
            refine aw_iload_n dX11_grantable_109 rfl ?_
            refine aw_iload dX11_grantable_110 rfl ?_
            refine aw_mmin qm_X11_117 dX11_grantable_112 (by omega) (rmN13 _ _ _ (Nat.le_of_ble_eq_true rfl)) ⟨Nat.le_refl _, Nat.le_refl _⟩ (fun r112 h112 => ?_)
            exact aw_ireturn dX11_grantable_115 rfl rfl ⟨Nat.le_refl _, Nat.le_refl _⟩ (hQ _ (by unfold offer; (repeat' split) <;> omega))
          · skip
            refine aw_bipush dX11_grantable_104 rfl ?_
            refine aw_goto (tgt := 115) dX11_grantable_106 rfl ?_
            exact aw_ireturn dX11_grantable_115 rfl rfl ⟨Nat.le_refl _, Nat.le_refl _⟩ (hQ _ (by unfold offer; (repeat' split) <;> omega))
      · skip
        refine aw_iload_n dX11_grantable_37 rfl ?_
        refine aw_aload_n dX11_grantable_38 rfl ?_
        refine aw_iconst dX11_grantable_39 ?_
        refine aw_callV (As := [_]) (ρ := (_, 0, 0)) (kn' := (0, 0)) cv_X11_164 dX11_grantable_40 rfl rfl (hc43 hnx) rfl rfl (Nat.le_of_ble_eq_true rfl) (rmR _ _ _) ⟨Nat.le_refl _, Nat.le_refl _⟩ rfl (c_X11_many_1 hnx hI hA hL  (fun r40 h40 => ?_))
        refine aw_icmp_le (tgt := 49) dX11_grantable_43 rfl (by omega) (fun c43 => ?_) (fun c43 => ?_)
        · skip
          refine aw_aload_n dX11_grantable_49 rfl ?_
          refine aw_iload_n dX11_grantable_50 rfl ?_
          refine aw_iload_n dX11_grantable_51 rfl ?_
          refine aw_bipush dX11_grantable_52 rfl ?_
          refine aw_callV (As := [_, _, _]) (ρ := (_, 0, 0)) (kn' := (0, 0)) cv_X11_167 dX11_grantable_54 rfl rfl (hc43 hnx) rfl rfl (Nat.le_of_ble_eq_true rfl) (rmR _ _ _) ⟨Nat.le_refl _, Nat.le_refl _⟩ rfl (c_X11_ofPair_7 hnx hI hA hL (by omega) (by omega) (fun r54 h54 => ?_))
          refine aw_if_le (tgt := 63) dX11_grantable_57 rfl (by omega) (fun c57 => ?_) (fun c57 => ?_)
          · skip
            refine aw_aload_n dX11_grantable_63 rfl ?_
            refine aw_iload_n dX11_grantable_64 rfl ?_
            refine aw_iload_n dX11_grantable_65 rfl ?_
            refine aw_callV (As := [_, _]) (ρ := (_, 0, 0)) (kn' := (0, 0)) cv_X11_223 dX11_grantable_66 rfl rfl (hc43 hnx) rfl rfl (Nat.le_of_ble_eq_true rfl) (rmR _ _ _) ⟨Nat.le_refl _, Nat.le_refl _⟩ rfl (c_X11_wasIdle hnx hI hA hL hi ha (fun r66 h66 => ?_))
            rcases h66 with ⟨rfl, h66⟩ | ⟨rfl, h66⟩
            · skip
              refine aw_if_eq (tgt := 75) dX11_grantable_69 rfl (by decide) (fun c => absurd c (by decide)) (fun _ => ?_)
              refine aw_bipush dX11_grantable_72 rfl ?_
              exact aw_ireturn dX11_grantable_74 rfl rfl ⟨Nat.le_refl _, Nat.le_refl _⟩ (hQ _ (by unfold offer; (repeat' split) <;> omega))
            · skip
              refine aw_if_eq (tgt := 75) dX11_grantable_69 rfl (by decide) (fun _ => ?_) (fun c => absurd c (by decide))
              refine aw_iload dX11_grantable_75 rfl ?_
              refine aw_if_eq (tgt := 91) dX11_grantable_77 rfl (by omega) (fun c77 => ?_) (fun c77 => ?_)
              · skip
                refine aw_aload_n dX11_grantable_91 rfl ?_
                refine aw_iload_n dX11_grantable_92 rfl ?_
                refine aw_iconst dX11_grantable_93 ?_
                refine aw_callV (As := [_, _]) (ρ := (_, 0, 0)) (kn' := (0, 0)) cv_X11_226 dX11_grantable_94 rfl rfl (hc43 hnx) rfl rfl (Nat.le_of_ble_eq_true rfl) (rmR _ _ _) ⟨Nat.le_refl _, Nat.le_refl _⟩ rfl (c_X11_ofOrigin_3 hnx hI hA hL (by omega) (fun r94 h94 => ?_))
                refine aw_istore (ls' := [some (rf Γ 43), some _, some _, some _, some _, some _]) dX11_grantable_97 (by decide) rfl ?_
                refine aw_iload dX11_grantable_99 rfl ?_
                refine aw_if_ne (tgt := 109) dX11_grantable_101 rfl (by omega) (fun c101 => ?_) (fun c101 => ?_)
                · skip
                  refine aw_iload_n dX11_grantable_109 rfl ?_
                  refine aw_iload dX11_grantable_110 rfl ?_
                  refine aw_mmin qm_X11_117 dX11_grantable_112 (by omega) (rmN13 _ _ _ (Nat.le_of_ble_eq_true rfl)) ⟨Nat.le_refl _, Nat.le_refl _⟩ (fun r112 h112 => ?_)
                  exact aw_ireturn dX11_grantable_115 rfl rfl ⟨Nat.le_refl _, Nat.le_refl _⟩ (hQ _ (by unfold offer; (repeat' split) <;> omega))
                · skip
                  refine aw_bipush dX11_grantable_104 rfl ?_
                  refine aw_goto (tgt := 115) dX11_grantable_106 rfl ?_
                  exact aw_ireturn dX11_grantable_115 rfl rfl ⟨Nat.le_refl _, Nat.le_refl _⟩ (hQ _ (by unfold offer; (repeat' split) <;> omega))
              · skip
                refine aw_aload_n dX11_grantable_80 rfl ?_
                refine aw_iload_n dX11_grantable_81 rfl ?_
                refine aw_iload_n dX11_grantable_82 rfl ?_
                refine aw_bipush dX11_grantable_83 rfl ?_
                refine aw_callV (As := [_, _, _]) (ρ := (_, 0, 0)) (kn' := (0, 0)) cv_X11_167 dX11_grantable_85 rfl rfl (hc43 hnx) rfl rfl (Nat.le_of_ble_eq_true rfl) (rmR _ _ _) ⟨Nat.le_refl _, Nat.le_refl _⟩ rfl (c_X11_ofPair_6 hnx hI hA hL (by omega) (by omega) (fun r85 h85 => ?_))
                refine aw_goto (tgt := 97) dX11_grantable_88 rfl ?_
                refine aw_istore (ls' := [some (rf Γ 43), some _, some _, some _, some _, some _]) dX11_grantable_97 (by decide) rfl ?_
                refine aw_iload dX11_grantable_99 rfl ?_
                refine aw_if_ne (tgt := 109) dX11_grantable_101 rfl (by omega) (fun c101 => ?_) (fun c101 => ?_)
                · skip
                  refine aw_iload_n dX11_grantable_109 rfl ?_
                  refine aw_iload dX11_grantable_110 rfl ?_
                  refine aw_mmin qm_X11_117 dX11_grantable_112 (by omega) (rmN13 _ _ _ (Nat.le_of_ble_eq_true rfl)) ⟨Nat.le_refl _, Nat.le_refl _⟩ (fun r112 h112 => ?_)
                  exact aw_ireturn dX11_grantable_115 rfl rfl ⟨Nat.le_refl _, Nat.le_refl _⟩ (hQ _ (by unfold offer; (repeat' split) <;> omega))
                · skip
                  refine aw_bipush dX11_grantable_104 rfl ?_
                  refine aw_goto (tgt := 115) dX11_grantable_106 rfl ?_
                  exact aw_ireturn dX11_grantable_115 rfl rfl ⟨Nat.le_refl _, Nat.le_refl _⟩ (hQ _ (by unfold offer; (repeat' split) <;> omega))
          · skip
            refine aw_bipush dX11_grantable_60 rfl ?_
            exact aw_ireturn dX11_grantable_62 rfl rfl ⟨Nat.le_refl _, Nat.le_refl _⟩ (hQ _ (by unfold offer; (repeat' split) <;> omega))
        · skip
          refine aw_bipush dX11_grantable_46 rfl ?_
          exact aw_ireturn dX11_grantable_48 rfl rfl ⟨Nat.le_refl _, Nat.le_refl _⟩ (hQ _ (by unfold offer; (repeat' split) <;> omega))
    · skip
      refine aw_iconst dX11_grantable_25 ?_
      refine aw_goto (tgt := 30) dX11_grantable_26 rfl ?_
      refine aw_istore (ls' := [some (rf Γ 43), some _, some _, some _, some _, none]) dX11_grantable_30 (by decide) rfl ?_
      refine aw_iload dX11_grantable_32 rfl ?_
      refine aw_if_ne (tgt := 75) dX11_grantable_34 rfl (by omega) (fun c34 => ?_) (fun c34 => ?_)
      · skip
        refine aw_iload dX11_grantable_75 rfl ?_
        refine aw_if_eq (tgt := 91) dX11_grantable_77 rfl (by omega) (fun c77 => ?_) (fun c77 => ?_)
        · skip
          refine aw_aload_n dX11_grantable_91 rfl ?_
          refine aw_iload_n dX11_grantable_92 rfl ?_
          refine aw_iconst dX11_grantable_93 ?_
          refine aw_callV (As := [_, _]) (ρ := (_, 0, 0)) (kn' := (0, 0)) cv_X11_226 dX11_grantable_94 rfl rfl (hc43 hnx) rfl rfl (Nat.le_of_ble_eq_true rfl) (rmR _ _ _) ⟨Nat.le_refl _, Nat.le_refl _⟩ rfl (c_X11_ofOrigin_3 hnx hI hA hL (by omega) (fun r94 h94 => ?_))
          refine aw_istore (ls' := [some (rf Γ 43), some _, some _, some _, some _, some _]) dX11_grantable_97 (by decide) rfl ?_
          refine aw_iload dX11_grantable_99 rfl ?_
          refine aw_if_ne (tgt := 109) dX11_grantable_101 rfl (by omega) (fun c101 => ?_) (fun c101 => ?_)
          · skip
            refine aw_iload_n dX11_grantable_109 rfl ?_
            refine aw_iload dX11_grantable_110 rfl ?_
            refine aw_mmin qm_X11_117 dX11_grantable_112 (by omega) (rmN13 _ _ _ (Nat.le_of_ble_eq_true rfl)) ⟨Nat.le_refl _, Nat.le_refl _⟩ (fun r112 h112 => ?_)
            exact aw_ireturn dX11_grantable_115 rfl rfl ⟨Nat.le_refl _, Nat.le_refl _⟩ (hQ _ (by unfold offer; (repeat' split) <;> omega))
          · skip
            refine aw_bipush dX11_grantable_104 rfl ?_
            refine aw_goto (tgt := 115) dX11_grantable_106 rfl ?_
            exact aw_ireturn dX11_grantable_115 rfl rfl ⟨Nat.le_refl _, Nat.le_refl _⟩ (hQ _ (by unfold offer; (repeat' split) <;> omega))
        · skip
          refine aw_aload_n dX11_grantable_80 rfl ?_
          refine aw_iload_n dX11_grantable_81 rfl ?_
          refine aw_iload_n dX11_grantable_82 rfl ?_
          refine aw_bipush dX11_grantable_83 rfl ?_
          refine aw_callV (As := [_, _, _]) (ρ := (_, 0, 0)) (kn' := (0, 0)) cv_X11_167 dX11_grantable_85 rfl rfl (hc43 hnx) rfl rfl (Nat.le_of_ble_eq_true rfl) (rmR _ _ _) ⟨Nat.le_refl _, Nat.le_refl _⟩ rfl (c_X11_ofPair_6 hnx hI hA hL (by omega) (by omega) (fun r85 h85 => ?_))
          refine aw_goto (tgt := 97) dX11_grantable_88 rfl ?_
          refine aw_istore (ls' := [some (rf Γ 43), some _, some _, some _, some _, some _]) dX11_grantable_97 (by decide) rfl ?_
          refine aw_iload dX11_grantable_99 rfl ?_
          refine aw_if_ne (tgt := 109) dX11_grantable_101 rfl (by omega) (fun c101 => ?_) (fun c101 => ?_)
          · skip
            refine aw_iload_n dX11_grantable_109 rfl ?_
            refine aw_iload dX11_grantable_110 rfl ?_
            refine aw_mmin qm_X11_117 dX11_grantable_112 (by omega) (rmN13 _ _ _ (Nat.le_of_ble_eq_true rfl)) ⟨Nat.le_refl _, Nat.le_refl _⟩ (fun r112 h112 => ?_)
            exact aw_ireturn dX11_grantable_115 rfl rfl ⟨Nat.le_refl _, Nat.le_refl _⟩ (hQ _ (by unfold offer; (repeat' split) <;> omega))
          · skip
            refine aw_bipush dX11_grantable_104 rfl ?_
            refine aw_goto (tgt := 115) dX11_grantable_106 rfl ?_
            exact aw_ireturn dX11_grantable_115 rfl rfl ⟨Nat.le_refl _, Nat.le_refl _⟩ (hQ _ (by unfold offer; (repeat' split) <;> omega))
      · skip
        refine aw_iload_n dX11_grantable_37 rfl ?_
        refine aw_aload_n dX11_grantable_38 rfl ?_
        refine aw_iconst dX11_grantable_39 ?_
        refine aw_callV (As := [_]) (ρ := (_, 0, 0)) (kn' := (0, 0)) cv_X11_164 dX11_grantable_40 rfl rfl (hc43 hnx) rfl rfl (Nat.le_of_ble_eq_true rfl) (rmR _ _ _) ⟨Nat.le_refl _, Nat.le_refl _⟩ rfl (c_X11_many_1 hnx hI hA hL  (fun r40 h40 => ?_))
        refine aw_icmp_le (tgt := 49) dX11_grantable_43 rfl (by omega) (fun c43 => ?_) (fun c43 => ?_)
        · skip
          refine aw_aload_n dX11_grantable_49 rfl ?_
          refine aw_iload_n dX11_grantable_50 rfl ?_
          refine aw_iload_n dX11_grantable_51 rfl ?_
          refine aw_bipush dX11_grantable_52 rfl ?_
          refine aw_callV (As := [_, _, _]) (ρ := (_, 0, 0)) (kn' := (0, 0)) cv_X11_167 dX11_grantable_54 rfl rfl (hc43 hnx) rfl rfl (Nat.le_of_ble_eq_true rfl) (rmR _ _ _) ⟨Nat.le_refl _, Nat.le_refl _⟩ rfl (c_X11_ofPair_7 hnx hI hA hL (by omega) (by omega) (fun r54 h54 => ?_))
          refine aw_if_le (tgt := 63) dX11_grantable_57 rfl (by omega) (fun c57 => ?_) (fun c57 => ?_)
          · skip
            refine aw_aload_n dX11_grantable_63 rfl ?_
            refine aw_iload_n dX11_grantable_64 rfl ?_
            refine aw_iload_n dX11_grantable_65 rfl ?_
            refine aw_callV (As := [_, _]) (ρ := (_, 0, 0)) (kn' := (0, 0)) cv_X11_223 dX11_grantable_66 rfl rfl (hc43 hnx) rfl rfl (Nat.le_of_ble_eq_true rfl) (rmR _ _ _) ⟨Nat.le_refl _, Nat.le_refl _⟩ rfl (c_X11_wasIdle hnx hI hA hL hi ha (fun r66 h66 => ?_))
            rcases h66 with ⟨rfl, h66⟩ | ⟨rfl, h66⟩
            · skip
              refine aw_if_eq (tgt := 75) dX11_grantable_69 rfl (by decide) (fun c => absurd c (by decide)) (fun _ => ?_)
              refine aw_bipush dX11_grantable_72 rfl ?_
              exact aw_ireturn dX11_grantable_74 rfl rfl ⟨Nat.le_refl _, Nat.le_refl _⟩ (hQ _ (by unfold offer; (repeat' split) <;> omega))
            · skip
              refine aw_if_eq (tgt := 75) dX11_grantable_69 rfl (by decide) (fun _ => ?_) (fun c => absurd c (by decide))
              refine aw_iload dX11_grantable_75 rfl ?_
              refine aw_if_eq (tgt := 91) dX11_grantable_77 rfl (by omega) (fun c77 => ?_) (fun c77 => ?_)
              · skip
                refine aw_aload_n dX11_grantable_91 rfl ?_
                refine aw_iload_n dX11_grantable_92 rfl ?_
                refine aw_iconst dX11_grantable_93 ?_
                refine aw_callV (As := [_, _]) (ρ := (_, 0, 0)) (kn' := (0, 0)) cv_X11_226 dX11_grantable_94 rfl rfl (hc43 hnx) rfl rfl (Nat.le_of_ble_eq_true rfl) (rmR _ _ _) ⟨Nat.le_refl _, Nat.le_refl _⟩ rfl (c_X11_ofOrigin_3 hnx hI hA hL (by omega) (fun r94 h94 => ?_))
                refine aw_istore (ls' := [some (rf Γ 43), some _, some _, some _, some _, some _]) dX11_grantable_97 (by decide) rfl ?_
                refine aw_iload dX11_grantable_99 rfl ?_
                refine aw_if_ne (tgt := 109) dX11_grantable_101 rfl (by omega) (fun c101 => ?_) (fun c101 => ?_)
                · skip
                  refine aw_iload_n dX11_grantable_109 rfl ?_
                  refine aw_iload dX11_grantable_110 rfl ?_
                  refine aw_mmin qm_X11_117 dX11_grantable_112 (by omega) (rmN13 _ _ _ (Nat.le_of_ble_eq_true rfl)) ⟨Nat.le_refl _, Nat.le_refl _⟩ (fun r112 h112 => ?_)
                  exact aw_ireturn dX11_grantable_115 rfl rfl ⟨Nat.le_refl _, Nat.le_refl _⟩ (hQ _ (by unfold offer; (repeat' split) <;> omega))
                · skip
                  refine aw_bipush dX11_grantable_104 rfl ?_
                  refine aw_goto (tgt := 115) dX11_grantable_106 rfl ?_
                  exact aw_ireturn dX11_grantable_115 rfl rfl ⟨Nat.le_refl _, Nat.le_refl _⟩ (hQ _ (by unfold offer; (repeat' split) <;> omega))
              · skip
                refine aw_aload_n dX11_grantable_80 rfl ?_
                refine aw_iload_n dX11_grantable_81 rfl ?_
                refine aw_iload_n dX11_grantable_82 rfl ?_
                refine aw_bipush dX11_grantable_83 rfl ?_
                refine aw_callV (As := [_, _, _]) (ρ := (_, 0, 0)) (kn' := (0, 0)) cv_X11_167 dX11_grantable_85 rfl rfl (hc43 hnx) rfl rfl (Nat.le_of_ble_eq_true rfl) (rmR _ _ _) ⟨Nat.le_refl _, Nat.le_refl _⟩ rfl (c_X11_ofPair_6 hnx hI hA hL (by omega) (by omega) (fun r85 h85 => ?_))
                refine aw_goto (tgt := 97) dX11_grantable_88 rfl ?_
                refine aw_istore (ls' := [some (rf Γ 43), some _, some _, some _, some _, some _]) dX11_grantable_97 (by decide) rfl ?_
                refine aw_iload dX11_grantable_99 rfl ?_
                refine aw_if_ne (tgt := 109) dX11_grantable_101 rfl (by omega) (fun c101 => ?_) (fun c101 => ?_)
                · skip
                  refine aw_iload_n dX11_grantable_109 rfl ?_
                  refine aw_iload dX11_grantable_110 rfl ?_
                  refine aw_mmin qm_X11_117 dX11_grantable_112 (by omega) (rmN13 _ _ _ (Nat.le_of_ble_eq_true rfl)) ⟨Nat.le_refl _, Nat.le_refl _⟩ (fun r112 h112 => ?_)
                  exact aw_ireturn dX11_grantable_115 rfl rfl ⟨Nat.le_refl _, Nat.le_refl _⟩ (hQ _ (by unfold offer; (repeat' split) <;> omega))
                · skip
                  refine aw_bipush dX11_grantable_104 rfl ?_
                  refine aw_goto (tgt := 115) dX11_grantable_106 rfl ?_
                  exact aw_ireturn dX11_grantable_115 rfl rfl ⟨Nat.le_refl _, Nat.le_refl _⟩ (hQ _ (by unfold offer; (repeat' split) <;> omega))
          · skip
            refine aw_bipush dX11_grantable_60 rfl ?_
            exact aw_ireturn dX11_grantable_62 rfl rfl ⟨Nat.le_refl _, Nat.le_refl _⟩ (hQ _ (by unfold offer; (repeat' split) <;> omega))
        · skip
          refine aw_bipush dX11_grantable_46 rfl ?_
          exact aw_ireturn dX11_grantable_48 rfl rfl ⟨Nat.le_refl _, Nat.le_refl _⟩ (hQ _ (by unfold offer; (repeat' split) <;> omega))
  · skip
    refine aw_bipush dX11_grantable_11 rfl ?_
    exact aw_ireturn dX11_grantable_13 rfl rfl ⟨Nat.le_refl _, Nat.le_refl _⟩ (hQ _ (by unfold offer; (repeat' split) <;> omega))

set_option maxHeartbeats 1000000 in
theorem c_X11_aheadOf {Γ : GT} {S T U V A : St} {G : Gw} {nx d : Nat} {Q : QT} (hnx : 52 ≤ nx) {l : Int} {c : Int} (hI : Inv c A) (hA : Ag A (V 0)) (hL : RgL V) (hl : 0 ≤ l ∧ l < A 28 0) (hQ : ∀ r, r = aheadN A l (nS A) → Q (some (vi r)) (hp Γ S T U V G) nx) : AM Γ MX11_aheadOf (d + 3, 0, 0) [rf Γ 43, vi l] (hp Γ S T U V G) nx Q := by
  refine am_of (by decide) (Nat.le_of_ble_eq_true rfl) (ls := [some (rf Γ 43), some _, none, none, none, none]) rfl ?_
  have hR := hI.R
  have i1 := hI.i1
  have hz : 0 ≤ A 28 0 ∧ A 28 0 ≤ 60 := i1.2.2.1
  have hkS : nS A = (A 28 0).toNat := rfl
  have hkI : nIm A = (A 27 0).toNat := rfl
  have hkO : nOr A = (A 26 0).toNat := rfl
  refine aw_iconst dX11_aheadOf_0 ?_
  refine aw_istore_n (ls' := [some (rf Γ 43), some _, some _, none, none, none]) dX11_aheadOf_1 (by decide) rfl ?_
  refine aw_iconst dX11_aheadOf_2 ?_
  refine aw_istore_n (ls' := [some (rf Γ 43), some _, some _, some _, none, none]) dX11_aheadOf_3 (by decide) rfl ?_
  refine loopN (nS A) (P := fun k => ∀ (x : Int) , x = aheadN A l k →  AW Γ MX11_aheadOf _ _ (0, 0) 4 [some (rf Γ 43), some (vi l), some (vi x), some (vi (k : Int)), none, none] [] (hp Γ S T U V G) nx) (fun k hk ih => ?_) 0 (Nat.zero_le _) _ rfl
  intro x i4_0
  refine aw_iload_n dX11_aheadOf_4 rfl ?_
  refine aw_aload_n dX11_aheadOf_5 rfl ?_
  refine aw_bipush dX11_aheadOf_6 rfl ?_
  refine aw_callV (As := [_]) (ρ := (_, 0, 0)) (kn' := (0, 0)) cv_X11_164 dX11_aheadOf_8 rfl rfl (hc43 hnx) rfl rfl (Nat.le_of_ble_eq_true rfl) (rmR _ _ _) ⟨Nat.le_refl _, Nat.le_refl _⟩ rfl (c_X11_many_8 hnx hI hA hL  (fun r8 h8 => ?_))
  subst h8
  refine aw_icmp_ge (tgt := 76) dX11_aheadOf_11 rfl (by omega) (fun c11 => ?_) (fun c11 => ?_)
  · skip
    obtain rfl : k = nS A := by omega
    refine aw_iload_n dX11_aheadOf_76 rfl ?_
    exact aw_ireturn dX11_aheadOf_77 rfl rfl ⟨Nat.le_refl _, Nat.le_refl _⟩ (hQ _ (by omega))
  · skip
    refine aw_aload_n dX11_aheadOf_14 rfl ?_
    refine aw_iload_n dX11_aheadOf_15 rfl ?_
    refine aw_bipush dX11_aheadOf_16 rfl ?_
    refine aw_callV (As := [_, _]) (ρ := (_, 0, 0)) (kn' := (0, 0)) cv_X11_196 dX11_aheadOf_18 rfl rfl (hc43 hnx) rfl rfl (Nat.le_of_ble_eq_true rfl) (rmR _ _ _) ⟨Nat.le_refl _, Nat.le_refl _⟩ rfl (c_X11_ofLicence_6 hnx hI hA hL (by omega) (fun r18 h18 => ?_))
    refine aw_istore (ls' := [some (rf Γ 43), some _, some _, some _, some _, none]) dX11_aheadOf_21 (by decide) rfl ?_
    refine aw_aload_n dX11_aheadOf_23 rfl ?_
    refine aw_iload_n dX11_aheadOf_24 rfl ?_
    refine aw_bipush dX11_aheadOf_25 rfl ?_
    refine aw_callV (As := [_, _]) (ρ := (_, 0, 0)) (kn' := (0, 0)) cv_X11_196 dX11_aheadOf_27 rfl rfl (hc43 hnx) rfl rfl (Nat.le_of_ble_eq_true rfl) (rmR _ _ _) ⟨Nat.le_refl _, Nat.le_refl _⟩ rfl (c_X11_ofLicence_6 hnx hI hA hL (by omega) (fun r27 h27 => ?_))
    refine aw_istore (ls' := [some (rf Γ 43), some _, some _, some _, some _, some _]) dX11_aheadOf_30 (by decide) rfl ?_
    have r8 := hR 8 (by decide) (k : Int)
    have r8l := hR 8 (by decide) l
    refine aw_iload_n dX11_aheadOf_32 rfl ?_
    refine aw_aload_n dX11_aheadOf_33 rfl ?_
    refine aw_iload_n dX11_aheadOf_34 rfl ?_
    refine aw_callV (As := [_]) (ρ := (_, 0, 0)) (kn' := (0, 0)) cv_X11_199 dX11_aheadOf_35 rfl rfl (hc43 hnx) rfl rfl (Nat.le_of_ble_eq_true rfl) (rmR _ _ _) ⟨Nat.le_refl _, Nat.le_refl _⟩ rfl (c_X11_isOpen hnx hI hA hL (by omega) (fun r35 h35 => ?_))
    rcases h35 with ⟨rfl, h35⟩ | ⟨rfl, h35⟩
    · skip
      refine aw_if_eq (tgt := 64) dX11_aheadOf_38 rfl (by decide) (fun c => absurd c (by decide)) (fun _ => ?_)
      refine aw_iload dX11_aheadOf_41 rfl ?_
      refine aw_iload dX11_aheadOf_43 rfl ?_
      refine aw_icmp_lt (tgt := 60) dX11_aheadOf_45 rfl (by omega) (fun c45 => ?_) (fun c45 => ?_)
      · skip
        refine aw_iconst dX11_aheadOf_60 ?_
        refine aw_goto (tgt := 65) dX11_aheadOf_61 rfl ?_
        refine aw_callS (As := [_]) (ρ := (_, 0, 0)) (kn' := (0, 0)) cs_X11_122 dX11_aheadOf_65 rfl rfl (Nat.le_of_ble_eq_true rfl) (rmR _ _ _) ⟨Nat.le_refl _, Nat.le_refl _⟩ rfl (c_X11_truth hnx (by omega) (fun r65 h65 => ?_))
        refine aw_iadd dX11_aheadOf_68 ?_
        refine aw_nmI (fun x2_69 hx2_69 => ?_)
        refine aw_istore_n (ls' := [some (rf Γ 43), some _, some _, some _, some _, some _]) dX11_aheadOf_69 (by decide) rfl ?_
        refine aw_iinc (ls' := [some (rf Γ 43), some _, some _, some _, some _, some _]) dX11_aheadOf_70 rfl (by decide) rfl ?_
        refine aw_goto (tgt := 4) dX11_aheadOf_73 rfl ?_
        refine aw_fg [true, true, true, true, false, false] (ls' := [some (rf Γ 43), some _, some _, some _, none, none]) rfl ?_
        exact ih (by omega) x2_69  (by simp only [aheadN, sm] at i4_0 ⊢; split <;> omega)
      · skip
        refine aw_iload dX11_aheadOf_48 rfl ?_
        refine aw_iload dX11_aheadOf_50 rfl ?_
        refine aw_icmp_ne (tgt := 64) dX11_aheadOf_52 rfl (by omega) (fun c52 => ?_) (fun c52 => ?_)
        · skip
          refine aw_iconst dX11_aheadOf_64 ?_
          refine aw_callS (As := [_]) (ρ := (_, 0, 0)) (kn' := (0, 0)) cs_X11_122 dX11_aheadOf_65 rfl rfl (Nat.le_of_ble_eq_true rfl) (rmR _ _ _) ⟨Nat.le_refl _, Nat.le_refl _⟩ rfl (c_X11_truth hnx (by omega) (fun r65 h65 => ?_))
          refine aw_iadd dX11_aheadOf_68 ?_
          refine aw_nmI (fun x2_69 hx2_69 => ?_)
          refine aw_istore_n (ls' := [some (rf Γ 43), some _, some _, some _, some _, some _]) dX11_aheadOf_69 (by decide) rfl ?_
          refine aw_iinc (ls' := [some (rf Γ 43), some _, some _, some _, some _, some _]) dX11_aheadOf_70 rfl (by decide) rfl ?_
          refine aw_goto (tgt := 4) dX11_aheadOf_73 rfl ?_
          refine aw_fg [true, true, true, true, false, false] (ls' := [some (rf Γ 43), some _, some _, some _, none, none]) rfl ?_
          exact ih (by omega) x2_69  (by simp only [aheadN, sm] at i4_0 ⊢; split <;> omega)
        · skip
          refine aw_iload_n dX11_aheadOf_55 rfl ?_
          refine aw_iload_n dX11_aheadOf_56 rfl ?_
          refine aw_icmp_ge (tgt := 64) dX11_aheadOf_57 rfl (by omega) (fun c57 => ?_) (fun c57 => ?_)
          · skip
            refine aw_iconst dX11_aheadOf_64 ?_
            refine aw_callS (As := [_]) (ρ := (_, 0, 0)) (kn' := (0, 0)) cs_X11_122 dX11_aheadOf_65 rfl rfl (Nat.le_of_ble_eq_true rfl) (rmR _ _ _) ⟨Nat.le_refl _, Nat.le_refl _⟩ rfl (c_X11_truth hnx (by omega) (fun r65 h65 => ?_))
            refine aw_iadd dX11_aheadOf_68 ?_
            refine aw_nmI (fun x2_69 hx2_69 => ?_)
            refine aw_istore_n (ls' := [some (rf Γ 43), some _, some _, some _, some _, some _]) dX11_aheadOf_69 (by decide) rfl ?_
            refine aw_iinc (ls' := [some (rf Γ 43), some _, some _, some _, some _, some _]) dX11_aheadOf_70 rfl (by decide) rfl ?_
            refine aw_goto (tgt := 4) dX11_aheadOf_73 rfl ?_
            refine aw_fg [true, true, true, true, false, false] (ls' := [some (rf Γ 43), some _, some _, some _, none, none]) rfl ?_
            exact ih (by omega) x2_69  (by simp only [aheadN, sm] at i4_0 ⊢; split <;> omega)
          · skip
            refine aw_iconst dX11_aheadOf_60 ?_
            refine aw_goto (tgt := 65) dX11_aheadOf_61 rfl ?_
            refine aw_callS (As := [_]) (ρ := (_, 0, 0)) (kn' := (0, 0)) cs_X11_122 dX11_aheadOf_65 rfl rfl (Nat.le_of_ble_eq_true rfl) (rmR _ _ _) ⟨Nat.le_refl _, Nat.le_refl _⟩ rfl (c_X11_truth hnx (by omega) (fun r65 h65 => ?_))
            refine aw_iadd dX11_aheadOf_68 ?_
            refine aw_nmI (fun x2_69 hx2_69 => ?_)
            refine aw_istore_n (ls' := [some (rf Γ 43), some _, some _, some _, some _, some _]) dX11_aheadOf_69 (by decide) rfl ?_
            refine aw_iinc (ls' := [some (rf Γ 43), some _, some _, some _, some _, some _]) dX11_aheadOf_70 rfl (by decide) rfl ?_
            refine aw_goto (tgt := 4) dX11_aheadOf_73 rfl ?_
            refine aw_fg [true, true, true, true, false, false] (ls' := [some (rf Γ 43), some _, some _, some _, none, none]) rfl ?_
            exact ih (by omega) x2_69  (by simp only [aheadN, sm] at i4_0 ⊢; split <;> omega)
    · skip
      refine aw_if_eq (tgt := 64) dX11_aheadOf_38 rfl (by decide) (fun _ => ?_) (fun c => absurd c (by decide))
      refine aw_iconst dX11_aheadOf_64 ?_
      refine aw_callS (As := [_]) (ρ := (_, 0, 0)) (kn' := (0, 0)) cs_X11_122 dX11_aheadOf_65 rfl rfl (Nat.le_of_ble_eq_true rfl) (rmR _ _ _) ⟨Nat.le_refl _, Nat.le_refl _⟩ rfl (c_X11_truth hnx (by omega) (fun r65 h65 => ?_))
      refine aw_iadd dX11_aheadOf_68 ?_
      refine aw_nmI (fun x2_69 hx2_69 => ?_)
      refine aw_istore_n (ls' := [some (rf Γ 43), some _, some _, some _, some _, some _]) dX11_aheadOf_69 (by decide) rfl ?_
      refine aw_iinc (ls' := [some (rf Γ 43), some _, some _, some _, some _, some _]) dX11_aheadOf_70 rfl (by decide) rfl ?_
      refine aw_goto (tgt := 4) dX11_aheadOf_73 rfl ?_
      refine aw_fg [true, true, true, true, false, false] (ls' := [some (rf Γ 43), some _, some _, some _, none, none]) rfl ?_
      exact ih (by omega) x2_69  (by simp only [aheadN, sm] at i4_0 ⊢; split <;> omega)

set_option maxHeartbeats 1000000 in
theorem c_X11_openMany {Γ : GT} {S T U V A : St} {G : Gw} {nx d : Nat} {Q : QT} (hnx : 52 ≤ nx) {c : Int} (hI : Inv c A) (hA : Ag A (V 0)) (hL : RgL V)  (hQ : ∀ r, r = openN A (nS A) → Q (some (vi r)) (hp Γ S T U V G) nx) : AM Γ MX11_openMany (d + 3, 0, 0) [rf Γ 43] (hp Γ S T U V G) nx Q := by
  refine am_of (by decide) (Nat.le_of_ble_eq_true rfl) (ls := [some (rf Γ 43), none, none]) rfl ?_
  have hR := hI.R
  have i1 := hI.i1
  have hz : 0 ≤ A 28 0 ∧ A 28 0 ≤ 60 := i1.2.2.1
  have hkS : nS A = (A 28 0).toNat := rfl
  have hkI : nIm A = (A 27 0).toNat := rfl
  have hkO : nOr A = (A 26 0).toNat := rfl
  refine aw_iconst dX11_openMany_0 ?_
  refine aw_istore_n (ls' := [some (rf Γ 43), some _, none]) dX11_openMany_1 (by decide) rfl ?_
  refine aw_iconst dX11_openMany_2 ?_
  refine aw_istore_n (ls' := [some (rf Γ 43), some _, some _]) dX11_openMany_3 (by decide) rfl ?_
  refine loopN (nS A) (P := fun k => ∀ (x : Int) , x = openN A k →  AW Γ MX11_openMany _ _ (0, 0) 4 [some (rf Γ 43), some (vi x), some (vi (k : Int))] [] (hp Γ S T U V G) nx) (fun k hk ih => ?_) 0 (Nat.zero_le _) _ rfl
  intro x i4_0
  refine aw_iload_n dX11_openMany_4 rfl ?_
  refine aw_aload_n dX11_openMany_5 rfl ?_
  refine aw_bipush dX11_openMany_6 rfl ?_
  refine aw_callV (As := [_]) (ρ := (_, 0, 0)) (kn' := (0, 0)) cv_X11_164 dX11_openMany_8 rfl rfl (hc43 hnx) rfl rfl (Nat.le_of_ble_eq_true rfl) (rmR _ _ _) ⟨Nat.le_refl _, Nat.le_refl _⟩ rfl (c_X11_many_8 hnx hI hA hL  (fun r8 h8 => ?_))
  subst h8
  refine aw_icmp_ge (tgt := 31) dX11_openMany_11 rfl (by omega) (fun c11 => ?_) (fun c11 => ?_)
  · skip
    obtain rfl : k = nS A := by omega
    refine aw_iload_n dX11_openMany_31 rfl ?_
    exact aw_ireturn dX11_openMany_32 rfl rfl ⟨Nat.le_refl _, Nat.le_refl _⟩ (hQ _ (by omega))
  · skip
    refine aw_iload_n dX11_openMany_14 rfl ?_
    refine aw_aload_n dX11_openMany_15 rfl ?_
    refine aw_iload_n dX11_openMany_16 rfl ?_
    refine aw_callV (As := [_]) (ρ := (_, 0, 0)) (kn' := (0, 0)) cv_X11_199 dX11_openMany_17 rfl rfl (hc43 hnx) rfl rfl (Nat.le_of_ble_eq_true rfl) (rmR _ _ _) ⟨Nat.le_refl _, Nat.le_refl _⟩ rfl (c_X11_isOpen hnx hI hA hL (by omega) (fun r17 h17 => ?_))
    refine aw_callS (As := [_]) (ρ := (_, 0, 0)) (kn' := (0, 0)) cs_X11_122 dX11_openMany_20 rfl rfl (Nat.le_of_ble_eq_true rfl) (rmR _ _ _) ⟨Nat.le_refl _, Nat.le_refl _⟩ rfl (c_X11_truth hnx (by omega) (fun r20 h20 => ?_))
    refine aw_iadd dX11_openMany_23 ?_
    refine aw_nmI (fun x1_24 hx1_24 => ?_)
    refine aw_istore_n (ls' := [some (rf Γ 43), some _, some _]) dX11_openMany_24 (by decide) rfl ?_
    refine aw_iinc (ls' := [some (rf Γ 43), some _, some _]) dX11_openMany_25 rfl (by decide) rfl ?_
    refine aw_goto (tgt := 4) dX11_openMany_28 rfl ?_
    exact ih (by omega) x1_24  (by simp only [openN, sm] at i4_0 ⊢; split <;> omega)

set_option maxHeartbeats 1000000 in
theorem c_X11_yearOf {Γ : GT} {S T U V A : St} {G : Gw} {nx d : Nat} {Q : QT} (hnx : 52 ≤ nx) {i : Int} {c : Int} (hI : Inv c A) (hA : Ag A (V 0)) (hL : RgL V) (hi : 0 ≤ i ∧ i < A 27 0) (hQ : ∀ r, r = imI A i 12 → Q (some (vl r)) (hp Γ S T U V G) nx) : AM Γ MX11_yearOf (d, 0, 0) [rf Γ 43, vi i] (hp Γ S T U V G) nx Q := by
  refine am_of (by decide) (Nat.le_of_ble_eq_true rfl) (ls := [some (rf Γ 43), some _, none, none, none]) rfl ?_
  have hR := hI.R
  have i1 := hI.i1
  have hz : 0 ≤ A 28 0 ∧ A 28 0 ≤ 60 := i1.2.2.1
  have hkS : nS A = (A 28 0).toNat := rfl
  have hkI : nIm A = (A 27 0).toNat := rfl
  have hkO : nOr A = (A 26 0).toNat := rfl
  refine aw_lconst0 dX11_yearOf_0 ?_
  refine aw_lstore_n (ls' := [some (rf Γ 43), some _, some _, none, none]) dX11_yearOf_1 (by decide) rfl ?_
  refine aw_iconst dX11_yearOf_2 ?_
  refine aw_istore (ls' := [some (rf Γ 43), some _, some _, none, some _]) dX11_yearOf_3 (by decide) rfl ?_
  refine loopN (12) (P := fun k => ∀ (x : Int) , x = imI A i k →  AW Γ MX11_yearOf _ _ (0, 0) 5 [some (rf Γ 43), some (vi i), some (vl x), none, some (vi (k : Int))] [] (hp Γ S T U V G) nx) (fun k hk ih => ?_) 0 (Nat.zero_le _) _ rfl
  intro x i5_0
  refine aw_iload dX11_yearOf_5 rfl ?_
  refine aw_bipush dX11_yearOf_7 rfl ?_
  refine aw_icmp_ge (tgt := 37) dX11_yearOf_9 rfl (by omega) (fun c9 => ?_) (fun c9 => ?_)
  · skip
    obtain rfl : k = 12 := by omega
    refine aw_lload_n dX11_yearOf_37 rfl ?_
    exact aw_lreturn dX11_yearOf_38 rfl ⟨Nat.le_refl _, Nat.le_refl _⟩ (hQ _ (by omega))
  · skip
    refine aw_lload_n dX11_yearOf_12 rfl ?_
    refine aw_aload_n dX11_yearOf_13 rfl ?_
    refine aw_getf fg_X11_9 dX11_yearOf_14 (hc43 hnx) rfl ?_
    refine aw_sipush dX11_yearOf_17 rfl ?_
    refine aw_bipush dX11_yearOf_20 rfl ?_
    refine aw_iload_n dX11_yearOf_22 rfl ?_
    refine aw_imul dX11_yearOf_23 ?_
    refine aw_iadd dX11_yearOf_24 ?_
    refine aw_iload dX11_yearOf_25 rfl ?_
    refine aw_iadd dX11_yearOf_27 ?_
    refine aw_laldr dX11_yearOf_28 (hc44 hnx) (by omega) (by decide) (hL 0) (fun q28 => ?_)
    refine aw_svl (a := A 21 (i * 12 + (k : Int))) ((hA.m21 hi (by omega)).symm) ?_
    refine aw_ladd dX11_yearOf_29 ?_
    refine aw_nmL (fun x2_30 hx2_30 => ?_)
    refine aw_lstore_n (ls' := [some (rf Γ 43), some _, some _, none, some _]) dX11_yearOf_30 (by decide) rfl ?_
    refine aw_iinc (ls' := [some (rf Γ 43), some _, some _, none, some _]) dX11_yearOf_31 rfl (by decide) rfl ?_
    refine aw_goto (tgt := 5) dX11_yearOf_34 rfl ?_
    exact ih (by omega) x2_30  (by subst i5_0; subst hx2_30; rfl)

set_option maxHeartbeats 1000000 in
theorem c_X11_sumOf_4 {Γ : GT} {S T U V A : St} {G : Gw} {nx d : Nat} {Q : QT} (hnx : 52 ≤ nx) {i a : Int} {c : Int} (hI : Inv c A) (hA : Ag A (V 0)) (hL : RgL V) (hia : inI i ∧ inI a) (hQ : ∀ r, r = ofN A 9 i a (nS A) → Q (some (vl r)) (hp Γ S T U V G) nx) : AM Γ MX11_sumOf (d + 3, 0, 0) [rf Γ 43, vi i, vi a, vi 4] (hp Γ S T U V G) nx Q := by
  refine am_of (by decide) (Nat.le_of_ble_eq_true rfl) (ls := [some (rf Γ 43), some _, some _, some _, none, none, none]) rfl ?_
  have hR := hI.R
  have i1 := hI.i1
  have hz : 0 ≤ A 28 0 ∧ A 28 0 ≤ 60 := i1.2.2.1
  have hkS : nS A = (A 28 0).toNat := rfl
  have hkI : nIm A = (A 27 0).toNat := rfl
  have hkO : nOr A = (A 26 0).toNat := rfl
  refine aw_lconst0 dX11_sumOf_0 ?_
  refine aw_lstore (ls' := [some (rf Γ 43), some _, some _, some _, some _, none, none]) dX11_sumOf_1 (by decide) rfl ?_
  refine aw_iconst dX11_sumOf_3 ?_
  refine aw_istore (ls' := [some (rf Γ 43), some _, some _, some _, some _, none, some _]) dX11_sumOf_4 (by decide) rfl ?_
  refine loopN (nS A) (P := fun k => ∀ (x : Int) , x = ofN A 9 i a k →  AW Γ MX11_sumOf _ _ (0, 0) 6 [some (rf Γ 43), some (vi i), some (vi a), some (vi 4), some (vl x), none, some (vi (k : Int))] [] (hp Γ S T U V G) nx) (fun k hk ih => ?_) 0 (Nat.zero_le _) _ rfl
  intro x i6_0
  refine aw_iload dX11_sumOf_6 rfl ?_
  refine aw_aload_n dX11_sumOf_8 rfl ?_
  refine aw_bipush dX11_sumOf_9 rfl ?_
  refine aw_callV (As := [_]) (ρ := (_, 0, 0)) (kn' := (0, 0)) cv_X11_164 dX11_sumOf_11 rfl rfl (hc43 hnx) rfl rfl (Nat.le_of_ble_eq_true rfl) (rmR _ _ _) ⟨Nat.le_refl _, Nat.le_refl _⟩ rfl (c_X11_many_8 hnx hI hA hL  (fun r11 h11 => ?_))
  subst h11
  refine aw_icmp_ge (tgt := 54) dX11_sumOf_14 rfl (by omega) (fun c14 => ?_) (fun c14 => ?_)
  · skip
    obtain rfl : k = nS A := by omega
    refine aw_lload dX11_sumOf_54 rfl ?_
    exact aw_lreturn dX11_sumOf_56 rfl ⟨Nat.le_refl _, Nat.le_refl _⟩ (hQ _ (by omega))
  · skip
    refine aw_lload dX11_sumOf_17 rfl ?_
    refine aw_aload_n dX11_sumOf_19 rfl ?_
    refine aw_iload dX11_sumOf_20 rfl ?_
    refine aw_iload_n dX11_sumOf_22 rfl ?_
    refine aw_iload_n dX11_sumOf_23 rfl ?_
    refine aw_callV (As := [_, _, _]) (ρ := (_, 0, 0)) (kn' := (0, 0)) cv_X11_202 dX11_sumOf_24 rfl rfl (hc43 hnx) rfl rfl (Nat.le_of_ble_eq_true rfl) (rmR _ _ _) ⟨Nat.le_refl _, Nat.le_refl _⟩ rfl (c_X11_isOf hnx hI hA hL (by omega) (by omega) (fun r24 h24 => ?_))
    rcases h24 with ⟨rfl, h24⟩ | ⟨rfl, h24⟩
    · skip
      refine aw_if_eq (tgt := 44) dX11_sumOf_27 rfl (by decide) (fun c => absurd c (by decide)) (fun _ => ?_)
      refine aw_aload_n dX11_sumOf_30 rfl ?_
      refine aw_getf fg_X11_9 dX11_sumOf_31 (hc43 hnx) rfl ?_
      refine aw_iload dX11_sumOf_34 rfl ?_
      refine aw_iload_n dX11_sumOf_36 rfl ?_
      refine aw_callS (As := [_, _]) (ρ := (_, 0, 0)) (kn' := (0, 0)) cs_X11_48 dX11_sumOf_37 rfl rfl (Nat.le_of_ble_eq_true rfl) (rmR _ _ _) ⟨Nat.le_refl _, Nat.le_refl _⟩ rfl (c_X11_licenceAt hnx  (fun r37 h37 => ?_))
      subst h37
      refine aw_laldr dX11_sumOf_40 (hc44 hnx) (by omega) (by decide) (hL 0) (fun q40 => ?_)
      refine aw_svl (a := A 9 (k : Int)) ((hA.l9 (by omega)).symm) ?_
      refine aw_goto (tgt := 45) dX11_sumOf_41 rfl ?_
      refine aw_ladd dX11_sumOf_45 ?_
      refine aw_nmL (fun x4_46 hx4_46 => ?_)
      refine aw_lstore (ls' := [some (rf Γ 43), some _, some _, some _, some _, none, some _]) dX11_sumOf_46 (by decide) rfl ?_
      refine aw_iinc (ls' := [some (rf Γ 43), some _, some _, some _, some _, none, some _]) dX11_sumOf_48 rfl (by decide) rfl ?_
      refine aw_goto (tgt := 6) dX11_sumOf_51 rfl ?_
      exact ih (by omega) x4_46  (by simp only [ofN, sm] at i6_0 ⊢; split <;> omega)
    · skip
      refine aw_if_eq (tgt := 44) dX11_sumOf_27 rfl (by decide) (fun _ => ?_) (fun c => absurd c (by decide))
      refine aw_lconst0 dX11_sumOf_44 ?_
      refine aw_ladd dX11_sumOf_45 ?_
      refine aw_nmL (fun x4_46 hx4_46 => ?_)
      refine aw_lstore (ls' := [some (rf Γ 43), some _, some _, some _, some _, none, some _]) dX11_sumOf_46 (by decide) rfl ?_
      refine aw_iinc (ls' := [some (rf Γ 43), some _, some _, some _, some _, none, some _]) dX11_sumOf_48 rfl (by decide) rfl ?_
      refine aw_goto (tgt := 6) dX11_sumOf_51 rfl ?_
      exact ih (by omega) x4_46  (by simp only [ofN, sm] at i6_0 ⊢; split <;> omega)

set_option maxHeartbeats 1000000 in
theorem c_X11_sumOf_9 {Γ : GT} {S T U V A : St} {G : Gw} {nx d : Nat} {Q : QT} (hnx : 52 ≤ nx) {i a : Int} {c : Int} (hI : Inv c A) (hA : Ag A (V 0)) (hL : RgL V) (hia : inI i ∧ inI a) (hQ : ∀ r, r = ofN A 13 i a (nS A) → Q (some (vl r)) (hp Γ S T U V G) nx) : AM Γ MX11_sumOf (d + 3, 0, 0) [rf Γ 43, vi i, vi a, vi 9] (hp Γ S T U V G) nx Q := by
  refine am_of (by decide) (Nat.le_of_ble_eq_true rfl) (ls := [some (rf Γ 43), some _, some _, some _, none, none, none]) rfl ?_
  have hR := hI.R
  have i1 := hI.i1
  have hz : 0 ≤ A 28 0 ∧ A 28 0 ≤ 60 := i1.2.2.1
  have hkS : nS A = (A 28 0).toNat := rfl
  have hkI : nIm A = (A 27 0).toNat := rfl
  have hkO : nOr A = (A 26 0).toNat := rfl
  refine aw_lconst0 dX11_sumOf_0 ?_
  refine aw_lstore (ls' := [some (rf Γ 43), some _, some _, some _, some _, none, none]) dX11_sumOf_1 (by decide) rfl ?_
  refine aw_iconst dX11_sumOf_3 ?_
  refine aw_istore (ls' := [some (rf Γ 43), some _, some _, some _, some _, none, some _]) dX11_sumOf_4 (by decide) rfl ?_
  refine loopN (nS A) (P := fun k => ∀ (x : Int) , x = ofN A 13 i a k →  AW Γ MX11_sumOf _ _ (0, 0) 6 [some (rf Γ 43), some (vi i), some (vi a), some (vi 9), some (vl x), none, some (vi (k : Int))] [] (hp Γ S T U V G) nx) (fun k hk ih => ?_) 0 (Nat.zero_le _) _ rfl
  intro x i6_0
  refine aw_iload dX11_sumOf_6 rfl ?_
  refine aw_aload_n dX11_sumOf_8 rfl ?_
  refine aw_bipush dX11_sumOf_9 rfl ?_
  refine aw_callV (As := [_]) (ρ := (_, 0, 0)) (kn' := (0, 0)) cv_X11_164 dX11_sumOf_11 rfl rfl (hc43 hnx) rfl rfl (Nat.le_of_ble_eq_true rfl) (rmR _ _ _) ⟨Nat.le_refl _, Nat.le_refl _⟩ rfl (c_X11_many_8 hnx hI hA hL  (fun r11 h11 => ?_))
  subst h11
  refine aw_icmp_ge (tgt := 54) dX11_sumOf_14 rfl (by omega) (fun c14 => ?_) (fun c14 => ?_)
  · skip
    obtain rfl : k = nS A := by omega
    refine aw_lload dX11_sumOf_54 rfl ?_
    exact aw_lreturn dX11_sumOf_56 rfl ⟨Nat.le_refl _, Nat.le_refl _⟩ (hQ _ (by omega))
  · skip
    refine aw_lload dX11_sumOf_17 rfl ?_
    refine aw_aload_n dX11_sumOf_19 rfl ?_
    refine aw_iload dX11_sumOf_20 rfl ?_
    refine aw_iload_n dX11_sumOf_22 rfl ?_
    refine aw_iload_n dX11_sumOf_23 rfl ?_
    refine aw_callV (As := [_, _, _]) (ρ := (_, 0, 0)) (kn' := (0, 0)) cv_X11_202 dX11_sumOf_24 rfl rfl (hc43 hnx) rfl rfl (Nat.le_of_ble_eq_true rfl) (rmR _ _ _) ⟨Nat.le_refl _, Nat.le_refl _⟩ rfl (c_X11_isOf hnx hI hA hL (by omega) (by omega) (fun r24 h24 => ?_))
    rcases h24 with ⟨rfl, h24⟩ | ⟨rfl, h24⟩
    · skip
      refine aw_if_eq (tgt := 44) dX11_sumOf_27 rfl (by decide) (fun c => absurd c (by decide)) (fun _ => ?_)
      refine aw_aload_n dX11_sumOf_30 rfl ?_
      refine aw_getf fg_X11_9 dX11_sumOf_31 (hc43 hnx) rfl ?_
      refine aw_iload dX11_sumOf_34 rfl ?_
      refine aw_iload_n dX11_sumOf_36 rfl ?_
      refine aw_callS (As := [_, _]) (ρ := (_, 0, 0)) (kn' := (0, 0)) cs_X11_48 dX11_sumOf_37 rfl rfl (Nat.le_of_ble_eq_true rfl) (rmR _ _ _) ⟨Nat.le_refl _, Nat.le_refl _⟩ rfl (c_X11_licenceAt hnx  (fun r37 h37 => ?_))
      subst h37
      refine aw_laldr dX11_sumOf_40 (hc44 hnx) (by omega) (by decide) (hL 0) (fun q40 => ?_)
      refine aw_svl (a := A 13 (k : Int)) ((hA.l13 (by omega)).symm) ?_
      refine aw_goto (tgt := 45) dX11_sumOf_41 rfl ?_
      refine aw_ladd dX11_sumOf_45 ?_
      refine aw_nmL (fun x4_46 hx4_46 => ?_)
      refine aw_lstore (ls' := [some (rf Γ 43), some _, some _, some _, some _, none, some _]) dX11_sumOf_46 (by decide) rfl ?_
      refine aw_iinc (ls' := [some (rf Γ 43), some _, some _, some _, some _, none, some _]) dX11_sumOf_48 rfl (by decide) rfl ?_
      refine aw_goto (tgt := 6) dX11_sumOf_51 rfl ?_
      exact ih (by omega) x4_46  (by simp only [ofN, sm] at i6_0 ⊢; split <;> omega)
    · skip
      refine aw_if_eq (tgt := 44) dX11_sumOf_27 rfl (by decide) (fun _ => ?_) (fun c => absurd c (by decide))
      refine aw_lconst0 dX11_sumOf_44 ?_
      refine aw_ladd dX11_sumOf_45 ?_
      refine aw_nmL (fun x4_46 hx4_46 => ?_)
      refine aw_lstore (ls' := [some (rf Γ 43), some _, some _, some _, some _, none, some _]) dX11_sumOf_46 (by decide) rfl ?_
      refine aw_iinc (ls' := [some (rf Γ 43), some _, some _, some _, some _, none, some _]) dX11_sumOf_48 rfl (by decide) rfl ?_
      refine aw_goto (tgt := 6) dX11_sumOf_51 rfl ?_
      exact ih (by omega) x4_46  (by simp only [ofN, sm] at i6_0 ⊢; split <;> omega)

set_option maxHeartbeats 1000000 in
theorem c_X11_wouldBe_0 {Γ : GT} {S T U V A : St} {G : Gw} {nx d : Nat} {Q : QT} (hnx : 52 ≤ nx) {i a : Int} {c : Int} (hI : Inv c A) (hA : Ag A (V 0)) (hL : RgL V) (hi : 0 ≤ i ∧ i < A 27 0)(ha : 0 ≤ a ∧ a < A 26 0) (hQ : ∀ r, r = A 20 (4 * i + a) → Q (some (vi r)) (hp Γ S T U V G) nx) : AM Γ MX11_wouldBe (d + 2, 0, 0) [rf Γ 43, vi i, vi a, vi 0] (hp Γ S T U V G) nx Q := by
  refine am_of (by decide) (Nat.le_of_ble_eq_true rfl) (ls := [some (rf Γ 43), some _, some _, some _]) rfl ?_
  have hR := hI.R
  have i1 := hI.i1
  have hz : 0 ≤ A 28 0 ∧ A 28 0 ≤ 60 := i1.2.2.1
  have hkS : nS A = (A 28 0).toNat := rfl
  have hkI : nIm A = (A 27 0).toNat := rfl
  have hkO : nOr A = (A 26 0).toNat := rfl
  refine aw_aload_n dX11_wouldBe_0 rfl ?_
  refine aw_iload_n dX11_wouldBe_1 rfl ?_
  refine aw_iload_n dX11_wouldBe_2 rfl ?_
  refine aw_iload_n dX11_wouldBe_3 rfl ?_
  refine aw_if_ne (tgt := 11) dX11_wouldBe_4 rfl (by omega) (fun c4 => ?_) (fun c4 => ?_)
  · skip
    exact absurd c4 (by decide)
  · skip
    refine aw_iconst dX11_wouldBe_7 ?_
    refine aw_goto (tgt := 16) dX11_wouldBe_8 rfl ?_
    refine aw_callV (As := [_, _, _]) (ρ := (_, 0, 0)) (kn' := (0, 0)) cv_X11_167 dX11_wouldBe_16 rfl rfl (hc43 hnx) rfl rfl (Nat.le_of_ble_eq_true rfl) (rmR _ _ _) ⟨Nat.le_refl _, Nat.le_refl _⟩ rfl (c_X11_ofPair_3 hnx hI hA hL hi ha (fun r16 h16 => ?_))
    exact aw_ireturn dX11_wouldBe_19 rfl rfl ⟨Nat.le_refl _, Nat.le_refl _⟩ (hQ _ h16)

set_option maxHeartbeats 1000000 in
theorem c_X11_wouldBe_1 {Γ : GT} {S T U V A : St} {G : Gw} {nx d : Nat} {Q : QT} (hnx : 52 ≤ nx) {i a : Int} {c : Int} (hI : Inv c A) (hA : Ag A (V 0)) (hL : RgL V) (hi : 0 ≤ i ∧ i < A 27 0)(ha : 0 ≤ a ∧ a < A 26 0) (hQ : ∀ r, r = A 2 ((4 * i + a) * 3 + 0) → Q (some (vi r)) (hp Γ S T U V G) nx) : AM Γ MX11_wouldBe (d + 2, 0, 0) [rf Γ 43, vi i, vi a, vi 1] (hp Γ S T U V G) nx Q := by
  refine am_of (by decide) (Nat.le_of_ble_eq_true rfl) (ls := [some (rf Γ 43), some _, some _, some _]) rfl ?_
  have hR := hI.R
  have i1 := hI.i1
  have hz : 0 ≤ A 28 0 ∧ A 28 0 ≤ 60 := i1.2.2.1
  have hkS : nS A = (A 28 0).toNat := rfl
  have hkI : nIm A = (A 27 0).toNat := rfl
  have hkO : nOr A = (A 26 0).toNat := rfl
  refine aw_aload_n dX11_wouldBe_0 rfl ?_
  refine aw_iload_n dX11_wouldBe_1 rfl ?_
  refine aw_iload_n dX11_wouldBe_2 rfl ?_
  refine aw_iload_n dX11_wouldBe_3 rfl ?_
  refine aw_if_ne (tgt := 11) dX11_wouldBe_4 rfl (by omega) (fun c4 => ?_) (fun c4 => ?_)
  · skip
    refine aw_iconst dX11_wouldBe_11 ?_
    refine aw_iload_n dX11_wouldBe_12 rfl ?_
    refine aw_iadd dX11_wouldBe_13 ?_
    refine aw_iconst dX11_wouldBe_14 ?_
    refine aw_isub dX11_wouldBe_15 ?_
    refine aw_sv (a := 0) (by decide) ?_
    refine aw_callV (As := [_, _, _]) (ρ := (_, 0, 0)) (kn' := (0, 0)) cv_X11_167 dX11_wouldBe_16 rfl rfl (hc43 hnx) rfl rfl (Nat.le_of_ble_eq_true rfl) (rmR _ _ _) ⟨Nat.le_refl _, Nat.le_refl _⟩ rfl (c_X11_ofPair_0 hnx hI hA hL hi ha (fun r16 h16 => ?_))
    exact aw_ireturn dX11_wouldBe_19 rfl rfl ⟨Nat.le_refl _, Nat.le_refl _⟩ (hQ _ h16)
  · skip
    exact absurd c4 (by decide)

set_option maxHeartbeats 1000000 in
theorem c_X11_wouldBe_2 {Γ : GT} {S T U V A : St} {G : Gw} {nx d : Nat} {Q : QT} (hnx : 52 ≤ nx) {i a : Int} {c : Int} (hI : Inv c A) (hA : Ag A (V 0)) (hL : RgL V) (hi : 0 ≤ i ∧ i < A 27 0)(ha : 0 ≤ a ∧ a < A 26 0) (hQ : ∀ r, r = A 2 ((4 * i + a) * 3 + 1) → Q (some (vi r)) (hp Γ S T U V G) nx) : AM Γ MX11_wouldBe (d + 2, 0, 0) [rf Γ 43, vi i, vi a, vi 2] (hp Γ S T U V G) nx Q := by
  refine am_of (by decide) (Nat.le_of_ble_eq_true rfl) (ls := [some (rf Γ 43), some _, some _, some _]) rfl ?_
  have hR := hI.R
  have i1 := hI.i1
  have hz : 0 ≤ A 28 0 ∧ A 28 0 ≤ 60 := i1.2.2.1
  have hkS : nS A = (A 28 0).toNat := rfl
  have hkI : nIm A = (A 27 0).toNat := rfl
  have hkO : nOr A = (A 26 0).toNat := rfl
  refine aw_aload_n dX11_wouldBe_0 rfl ?_
  refine aw_iload_n dX11_wouldBe_1 rfl ?_
  refine aw_iload_n dX11_wouldBe_2 rfl ?_
  refine aw_iload_n dX11_wouldBe_3 rfl ?_
  refine aw_if_ne (tgt := 11) dX11_wouldBe_4 rfl (by omega) (fun c4 => ?_) (fun c4 => ?_)
  · skip
    refine aw_iconst dX11_wouldBe_11 ?_
    refine aw_iload_n dX11_wouldBe_12 rfl ?_
    refine aw_iadd dX11_wouldBe_13 ?_
    refine aw_iconst dX11_wouldBe_14 ?_
    refine aw_isub dX11_wouldBe_15 ?_
    refine aw_sv (a := 1) (by decide) ?_
    refine aw_callV (As := [_, _, _]) (ρ := (_, 0, 0)) (kn' := (0, 0)) cv_X11_167 dX11_wouldBe_16 rfl rfl (hc43 hnx) rfl rfl (Nat.le_of_ble_eq_true rfl) (rmR _ _ _) ⟨Nat.le_refl _, Nat.le_refl _⟩ rfl (c_X11_ofPair_1 hnx hI hA hL hi ha (fun r16 h16 => ?_))
    exact aw_ireturn dX11_wouldBe_19 rfl rfl ⟨Nat.le_refl _, Nat.le_refl _⟩ (hQ _ h16)
  · skip
    exact absurd c4 (by decide)

set_option maxHeartbeats 1000000 in
theorem c_X11_wouldAll {Γ : GT} {S T U V A : St} {G : Gw} {nx d : Nat} {Q : QT} (hnx : 52 ≤ nx) {i a : Int} {c : Int} (hI : Inv c A) (hA : Ag A (V 0)) (hL : RgL V) (hi : 0 ≤ i ∧ i < A 27 0)(ha : 0 ≤ a ∧ a < A 26 0) (hQ : ∀ r, r = A 20 (4 * i + a) + A 2 ((4 * i + a) * 3 + 0) + A 2 ((4 * i + a) * 3 + 1) → Q (some (vl r)) (hp Γ S T U V G) nx) : AM Γ MX11_wouldAll (d + 3, 0, 0) [rf Γ 43, vi i, vi a] (hp Γ S T U V G) nx Q := by
  refine am_of (by decide) (Nat.le_of_ble_eq_true rfl) (ls := [some (rf Γ 43), some _, some _]) rfl ?_
  have hR := hI.R
  have i1 := hI.i1
  have hz : 0 ≤ A 28 0 ∧ A 28 0 ≤ 60 := i1.2.2.1
  have hkS : nS A = (A 28 0).toNat := rfl
  have hkI : nIm A = (A 27 0).toNat := rfl
  have hkO : nOr A = (A 26 0).toNat := rfl
  have b0 := hR 20 (by decide) (4 * i + a)
  have b1_ := hR 2 (by decide) ((4 * i + a) * 3 + 0)
  have b2 := hR 2 (by decide) ((4 * i + a) * 3 + 1)
  refine aw_aload_n dX11_wouldAll_0 rfl ?_
  refine aw_iload_n dX11_wouldAll_1 rfl ?_
  refine aw_iload_n dX11_wouldAll_2 rfl ?_
  refine aw_iconst dX11_wouldAll_3 ?_
  refine aw_callV (As := [_, _, _]) (ρ := (_, 0, 0)) (kn' := (0, 0)) cv_X11_338 dX11_wouldAll_4 rfl rfl (hc43 hnx) rfl rfl (Nat.le_of_ble_eq_true rfl) (rmR _ _ _) ⟨Nat.le_refl _, Nat.le_refl _⟩ rfl (c_X11_wouldBe_0 hnx hI hA hL (by omega) (by omega) (fun r4 h4 => ?_))
  refine aw_i2l dX11_wouldAll_7 (by omega) ?_
  refine aw_aload_n dX11_wouldAll_8 rfl ?_
  refine aw_iload_n dX11_wouldAll_9 rfl ?_
  refine aw_iload_n dX11_wouldAll_10 rfl ?_
  refine aw_iconst dX11_wouldAll_11 ?_
  refine aw_callV (As := [_, _, _]) (ρ := (_, 0, 0)) (kn' := (0, 0)) cv_X11_338 dX11_wouldAll_12 rfl rfl (hc43 hnx) rfl rfl (Nat.le_of_ble_eq_true rfl) (rmR _ _ _) ⟨Nat.le_refl _, Nat.le_refl _⟩ rfl (c_X11_wouldBe_1 hnx hI hA hL (by omega) (by omega) (fun r12 h12 => ?_))
  refine aw_i2l dX11_wouldAll_15 (by omega) ?_
  refine aw_ladd dX11_wouldAll_16 ?_
  refine aw_aload_n dX11_wouldAll_17 rfl ?_
  refine aw_iload_n dX11_wouldAll_18 rfl ?_
  refine aw_iload_n dX11_wouldAll_19 rfl ?_
  refine aw_iconst dX11_wouldAll_20 ?_
  refine aw_callV (As := [_, _, _]) (ρ := (_, 0, 0)) (kn' := (0, 0)) cv_X11_338 dX11_wouldAll_21 rfl rfl (hc43 hnx) rfl rfl (Nat.le_of_ble_eq_true rfl) (rmR _ _ _) ⟨Nat.le_refl _, Nat.le_refl _⟩ rfl (c_X11_wouldBe_2 hnx hI hA hL (by omega) (by omega) (fun r21 h21 => ?_))
  refine aw_i2l dX11_wouldAll_24 (by omega) ?_
  refine aw_ladd dX11_wouldAll_25 ?_
  exact aw_lreturn dX11_wouldAll_26 rfl ⟨Nat.le_refl _, Nat.le_refl _⟩ (hQ _ (by omega))

set_option maxHeartbeats 1000000 in
theorem c_X11_wouldCount {Γ : GT} {S T U V A : St} {G : Gw} {nx d : Nat} {Q : QT} (hnx : 52 ≤ nx) {i a : Int} {c : Int} (hI : Inv c A) (hA : Ag A (V 0)) (hL : RgL V) (hi : 0 ≤ i ∧ i < A 27 0)(ha : 0 ≤ a ∧ a < A 26 0) (hQ : ∀ r, (r = 1 ∧ (A 0 5 ≤ b1 (0 < A 20 (4 * i + a)) + b1 (0 < A 2 ((4 * i + a) * 3 + 0)) + b1 (0 < A 2 ((4 * i + a) * 3 + 1))) ∨ r = 0 ∧ ¬ (A 0 5 ≤ b1 (0 < A 20 (4 * i + a)) + b1 (0 < A 2 ((4 * i + a) * 3 + 0)) + b1 (0 < A 2 ((4 * i + a) * 3 + 1)))) → Q (some (vi r)) (hp Γ S T U V G) nx) : AM Γ MX11_wouldCount (d + 3, 0, 0) [rf Γ 43, vi i, vi a] (hp Γ S T U V G) nx Q := by
  refine am_of (by decide) (Nat.le_of_ble_eq_true rfl) (ls := [some (rf Γ 43), some _, some _]) rfl ?_
  have hR := hI.R
  have i1 := hI.i1
  have hz : 0 ≤ A 28 0 ∧ A 28 0 ≤ 60 := i1.2.2.1
  have hkS : nS A = (A 28 0).toNat := rfl
  have hkI : nIm A = (A 27 0).toNat := rfl
  have hkO : nOr A = (A 26 0).toNat := rfl
  have b0 := hR 20 (by decide) (4 * i + a)
  have b1_ := hR 2 (by decide) ((4 * i + a) * 3 + 0)
  have b2 := hR 2 (by decide) ((4 * i + a) * 3 + 1)
  have r5 := hR 0 (by decide) 5
  have z0 := b1_c (0 < A 20 (4 * i + a))
  have z1 := b1_c (0 < A 2 ((4 * i + a) * 3 + 0))
  have z2 := b1_c (0 < A 2 ((4 * i + a) * 3 + 1))
  refine aw_aload_n dX11_wouldCount_0 rfl ?_
  refine aw_iload_n dX11_wouldCount_1 rfl ?_
  refine aw_iload_n dX11_wouldCount_2 rfl ?_
  refine aw_iconst dX11_wouldCount_3 ?_
  refine aw_callV (As := [_, _, _]) (ρ := (_, 0, 0)) (kn' := (0, 0)) cv_X11_338 dX11_wouldCount_4 rfl rfl (hc43 hnx) rfl rfl (Nat.le_of_ble_eq_true rfl) (rmR _ _ _) ⟨Nat.le_refl _, Nat.le_refl _⟩ rfl (c_X11_wouldBe_0 hnx hI hA hL (by omega) (by omega) (fun r4 h4 => ?_))
  refine aw_if_le (tgt := 14) dX11_wouldCount_7 rfl (by omega) (fun c7 => ?_) (fun c7 => ?_)
  · skip
    refine aw_iconst dX11_wouldCount_14 ?_
    refine aw_callS (As := [_]) (ρ := (_, 0, 0)) (kn' := (0, 0)) cs_X11_122 dX11_wouldCount_15 rfl rfl (Nat.le_of_ble_eq_true rfl) (rmR _ _ _) ⟨Nat.le_refl _, Nat.le_refl _⟩ rfl (c_X11_truth hnx (by omega) (fun r15 h15 => ?_))
    refine aw_aload_n dX11_wouldCount_18 rfl ?_
    refine aw_iload_n dX11_wouldCount_19 rfl ?_
    refine aw_iload_n dX11_wouldCount_20 rfl ?_
    refine aw_iconst dX11_wouldCount_21 ?_
    refine aw_callV (As := [_, _, _]) (ρ := (_, 0, 0)) (kn' := (0, 0)) cv_X11_338 dX11_wouldCount_22 rfl rfl (hc43 hnx) rfl rfl (Nat.le_of_ble_eq_true rfl) (rmR _ _ _) ⟨Nat.le_refl _, Nat.le_refl _⟩ rfl (c_X11_wouldBe_1 hnx hI hA hL (by omega) (by omega) (fun r22 h22 => ?_))
    refine aw_if_le (tgt := 32) dX11_wouldCount_25 rfl (by omega) (fun c25 => ?_) (fun c25 => ?_)
    · skip
      refine aw_iconst dX11_wouldCount_32 ?_
      refine aw_callS (As := [_]) (ρ := (_, 0, 0)) (kn' := (0, 0)) cs_X11_122 dX11_wouldCount_33 rfl rfl (Nat.le_of_ble_eq_true rfl) (rmR _ _ _) ⟨Nat.le_refl _, Nat.le_refl _⟩ rfl (c_X11_truth hnx (by omega) (fun r33 h33 => ?_))
      refine aw_iadd dX11_wouldCount_36 ?_
      refine aw_aload_n dX11_wouldCount_37 rfl ?_
      refine aw_iload_n dX11_wouldCount_38 rfl ?_
      refine aw_iload_n dX11_wouldCount_39 rfl ?_
      refine aw_iconst dX11_wouldCount_40 ?_
      refine aw_callV (As := [_, _, _]) (ρ := (_, 0, 0)) (kn' := (0, 0)) cv_X11_338 dX11_wouldCount_41 rfl rfl (hc43 hnx) rfl rfl (Nat.le_of_ble_eq_true rfl) (rmR _ _ _) ⟨Nat.le_refl _, Nat.le_refl _⟩ rfl (c_X11_wouldBe_2 hnx hI hA hL (by omega) (by omega) (fun r41 h41 => ?_))
      refine aw_if_le (tgt := 51) dX11_wouldCount_44 rfl (by omega) (fun c44 => ?_) (fun c44 => ?_)
      · skip
        refine aw_iconst dX11_wouldCount_51 ?_
        refine aw_callS (As := [_]) (ρ := (_, 0, 0)) (kn' := (0, 0)) cs_X11_122 dX11_wouldCount_52 rfl rfl (Nat.le_of_ble_eq_true rfl) (rmR _ _ _) ⟨Nat.le_refl _, Nat.le_refl _⟩ rfl (c_X11_truth hnx (by omega) (fun r52 h52 => ?_))
        refine aw_iadd dX11_wouldCount_55 ?_
        refine aw_aload_n dX11_wouldCount_56 rfl ?_
        refine aw_iconst dX11_wouldCount_57 ?_
        refine aw_callV (As := [_]) (ρ := (_, 0, 0)) (kn' := (0, 0)) cv_X11_164 dX11_wouldCount_58 rfl rfl (hc43 hnx) rfl rfl (Nat.le_of_ble_eq_true rfl) (rmR _ _ _) ⟨Nat.le_refl _, Nat.le_refl _⟩ rfl (c_X11_many_5 hnx hI hA hL  (fun r58 h58 => ?_))
        refine aw_icmp_lt (tgt := 68) dX11_wouldCount_61 rfl (by omega) (fun c61 => ?_) (fun c61 => ?_)
        · skip
          refine aw_iconst dX11_wouldCount_68 ?_
          exact aw_zreturn dX11_wouldCount_69 rfl (by omega) ⟨Nat.le_refl _, Nat.le_refl _⟩ (hQ _ (by omega))
        · skip
          refine aw_iconst dX11_wouldCount_64 ?_
          refine aw_goto (tgt := 69) dX11_wouldCount_65 rfl ?_
          exact aw_zreturn dX11_wouldCount_69 rfl (by omega) ⟨Nat.le_refl _, Nat.le_refl _⟩ (hQ _ (by omega))
      · skip
        refine aw_iconst dX11_wouldCount_47 ?_
        refine aw_goto (tgt := 52) dX11_wouldCount_48 rfl ?_
        refine aw_callS (As := [_]) (ρ := (_, 0, 0)) (kn' := (0, 0)) cs_X11_122 dX11_wouldCount_52 rfl rfl (Nat.le_of_ble_eq_true rfl) (rmR _ _ _) ⟨Nat.le_refl _, Nat.le_refl _⟩ rfl (c_X11_truth hnx (by omega) (fun r52 h52 => ?_))
        refine aw_iadd dX11_wouldCount_55 ?_
        refine aw_aload_n dX11_wouldCount_56 rfl ?_
        refine aw_iconst dX11_wouldCount_57 ?_
        refine aw_callV (As := [_]) (ρ := (_, 0, 0)) (kn' := (0, 0)) cv_X11_164 dX11_wouldCount_58 rfl rfl (hc43 hnx) rfl rfl (Nat.le_of_ble_eq_true rfl) (rmR _ _ _) ⟨Nat.le_refl _, Nat.le_refl _⟩ rfl (c_X11_many_5 hnx hI hA hL  (fun r58 h58 => ?_))
        refine aw_icmp_lt (tgt := 68) dX11_wouldCount_61 rfl (by omega) (fun c61 => ?_) (fun c61 => ?_)
        · skip
          refine aw_iconst dX11_wouldCount_68 ?_
          exact aw_zreturn dX11_wouldCount_69 rfl (by omega) ⟨Nat.le_refl _, Nat.le_refl _⟩ (hQ _ (by omega))
        · skip
          refine aw_iconst dX11_wouldCount_64 ?_
          refine aw_goto (tgt := 69) dX11_wouldCount_65 rfl ?_
          exact aw_zreturn dX11_wouldCount_69 rfl (by omega) ⟨Nat.le_refl _, Nat.le_refl _⟩ (hQ _ (by omega))
    · skip
      refine aw_iconst dX11_wouldCount_28 ?_
      refine aw_goto (tgt := 33) dX11_wouldCount_29 rfl ?_
      refine aw_callS (As := [_]) (ρ := (_, 0, 0)) (kn' := (0, 0)) cs_X11_122 dX11_wouldCount_33 rfl rfl (Nat.le_of_ble_eq_true rfl) (rmR _ _ _) ⟨Nat.le_refl _, Nat.le_refl _⟩ rfl (c_X11_truth hnx (by omega) (fun r33 h33 => ?_))
      refine aw_iadd dX11_wouldCount_36 ?_
      refine aw_aload_n dX11_wouldCount_37 rfl ?_
      refine aw_iload_n dX11_wouldCount_38 rfl ?_
      refine aw_iload_n dX11_wouldCount_39 rfl ?_
      refine aw_iconst dX11_wouldCount_40 ?_
      refine aw_callV (As := [_, _, _]) (ρ := (_, 0, 0)) (kn' := (0, 0)) cv_X11_338 dX11_wouldCount_41 rfl rfl (hc43 hnx) rfl rfl (Nat.le_of_ble_eq_true rfl) (rmR _ _ _) ⟨Nat.le_refl _, Nat.le_refl _⟩ rfl (c_X11_wouldBe_2 hnx hI hA hL (by omega) (by omega) (fun r41 h41 => ?_))
      refine aw_if_le (tgt := 51) dX11_wouldCount_44 rfl (by omega) (fun c44 => ?_) (fun c44 => ?_)
      · skip
        refine aw_iconst dX11_wouldCount_51 ?_
        refine aw_callS (As := [_]) (ρ := (_, 0, 0)) (kn' := (0, 0)) cs_X11_122 dX11_wouldCount_52 rfl rfl (Nat.le_of_ble_eq_true rfl) (rmR _ _ _) ⟨Nat.le_refl _, Nat.le_refl _⟩ rfl (c_X11_truth hnx (by omega) (fun r52 h52 => ?_))
        refine aw_iadd dX11_wouldCount_55 ?_
        refine aw_aload_n dX11_wouldCount_56 rfl ?_
        refine aw_iconst dX11_wouldCount_57 ?_
        refine aw_callV (As := [_]) (ρ := (_, 0, 0)) (kn' := (0, 0)) cv_X11_164 dX11_wouldCount_58 rfl rfl (hc43 hnx) rfl rfl (Nat.le_of_ble_eq_true rfl) (rmR _ _ _) ⟨Nat.le_refl _, Nat.le_refl _⟩ rfl (c_X11_many_5 hnx hI hA hL  (fun r58 h58 => ?_))
        refine aw_icmp_lt (tgt := 68) dX11_wouldCount_61 rfl (by omega) (fun c61 => ?_) (fun c61 => ?_)
        · skip
          refine aw_iconst dX11_wouldCount_68 ?_
          exact aw_zreturn dX11_wouldCount_69 rfl (by omega) ⟨Nat.le_refl _, Nat.le_refl _⟩ (hQ _ (by omega))
        · skip
          refine aw_iconst dX11_wouldCount_64 ?_
          refine aw_goto (tgt := 69) dX11_wouldCount_65 rfl ?_
          exact aw_zreturn dX11_wouldCount_69 rfl (by omega) ⟨Nat.le_refl _, Nat.le_refl _⟩ (hQ _ (by omega))
      · skip
        refine aw_iconst dX11_wouldCount_47 ?_
        refine aw_goto (tgt := 52) dX11_wouldCount_48 rfl ?_
        refine aw_callS (As := [_]) (ρ := (_, 0, 0)) (kn' := (0, 0)) cs_X11_122 dX11_wouldCount_52 rfl rfl (Nat.le_of_ble_eq_true rfl) (rmR _ _ _) ⟨Nat.le_refl _, Nat.le_refl _⟩ rfl (c_X11_truth hnx (by omega) (fun r52 h52 => ?_))
        refine aw_iadd dX11_wouldCount_55 ?_
        refine aw_aload_n dX11_wouldCount_56 rfl ?_
        refine aw_iconst dX11_wouldCount_57 ?_
        refine aw_callV (As := [_]) (ρ := (_, 0, 0)) (kn' := (0, 0)) cv_X11_164 dX11_wouldCount_58 rfl rfl (hc43 hnx) rfl rfl (Nat.le_of_ble_eq_true rfl) (rmR _ _ _) ⟨Nat.le_refl _, Nat.le_refl _⟩ rfl (c_X11_many_5 hnx hI hA hL  (fun r58 h58 => ?_))
        refine aw_icmp_lt (tgt := 68) dX11_wouldCount_61 rfl (by omega) (fun c61 => ?_) (fun c61 => ?_)
        · skip
          refine aw_iconst dX11_wouldCount_68 ?_
          exact aw_zreturn dX11_wouldCount_69 rfl (by omega) ⟨Nat.le_refl _, Nat.le_refl _⟩ (hQ _ (by omega))
        · skip
          refine aw_iconst dX11_wouldCount_64 ?_
          refine aw_goto (tgt := 69) dX11_wouldCount_65 rfl ?_
          exact aw_zreturn dX11_wouldCount_69 rfl (by omega) ⟨Nat.le_refl _, Nat.le_refl _⟩ (hQ _ (by omega))
  · skip
    refine aw_iconst dX11_wouldCount_10 ?_
    refine aw_goto (tgt := 15) dX11_wouldCount_11 rfl ?_
    refine aw_callS (As := [_]) (ρ := (_, 0, 0)) (kn' := (0, 0)) cs_X11_122 dX11_wouldCount_15 rfl rfl (Nat.le_of_ble_eq_true rfl) (rmR _ _ _) ⟨Nat.le_refl _, Nat.le_refl _⟩ rfl (c_X11_truth hnx (by omega) (fun r15 h15 => ?_))
    refine aw_aload_n dX11_wouldCount_18 rfl ?_
    refine aw_iload_n dX11_wouldCount_19 rfl ?_
    refine aw_iload_n dX11_wouldCount_20 rfl ?_
    refine aw_iconst dX11_wouldCount_21 ?_
    refine aw_callV (As := [_, _, _]) (ρ := (_, 0, 0)) (kn' := (0, 0)) cv_X11_338 dX11_wouldCount_22 rfl rfl (hc43 hnx) rfl rfl (Nat.le_of_ble_eq_true rfl) (rmR _ _ _) ⟨Nat.le_refl _, Nat.le_refl _⟩ rfl (c_X11_wouldBe_1 hnx hI hA hL (by omega) (by omega) (fun r22 h22 => ?_))
    refine aw_if_le (tgt := 32) dX11_wouldCount_25 rfl (by omega) (fun c25 => ?_) (fun c25 => ?_)
    · skip
      refine aw_iconst dX11_wouldCount_32 ?_
      refine aw_callS (As := [_]) (ρ := (_, 0, 0)) (kn' := (0, 0)) cs_X11_122 dX11_wouldCount_33 rfl rfl (Nat.le_of_ble_eq_true rfl) (rmR _ _ _) ⟨Nat.le_refl _, Nat.le_refl _⟩ rfl (c_X11_truth hnx (by omega) (fun r33 h33 => ?_))
      refine aw_iadd dX11_wouldCount_36 ?_
      refine aw_aload_n dX11_wouldCount_37 rfl ?_
      refine aw_iload_n dX11_wouldCount_38 rfl ?_
      refine aw_iload_n dX11_wouldCount_39 rfl ?_
      refine aw_iconst dX11_wouldCount_40 ?_
      refine aw_callV (As := [_, _, _]) (ρ := (_, 0, 0)) (kn' := (0, 0)) cv_X11_338 dX11_wouldCount_41 rfl rfl (hc43 hnx) rfl rfl (Nat.le_of_ble_eq_true rfl) (rmR _ _ _) ⟨Nat.le_refl _, Nat.le_refl _⟩ rfl (c_X11_wouldBe_2 hnx hI hA hL (by omega) (by omega) (fun r41 h41 => ?_))
      refine aw_if_le (tgt := 51) dX11_wouldCount_44 rfl (by omega) (fun c44 => ?_) (fun c44 => ?_)
      · skip
        refine aw_iconst dX11_wouldCount_51 ?_
        refine aw_callS (As := [_]) (ρ := (_, 0, 0)) (kn' := (0, 0)) cs_X11_122 dX11_wouldCount_52 rfl rfl (Nat.le_of_ble_eq_true rfl) (rmR _ _ _) ⟨Nat.le_refl _, Nat.le_refl _⟩ rfl (c_X11_truth hnx (by omega) (fun r52 h52 => ?_))
        refine aw_iadd dX11_wouldCount_55 ?_
        refine aw_aload_n dX11_wouldCount_56 rfl ?_
        refine aw_iconst dX11_wouldCount_57 ?_
        refine aw_callV (As := [_]) (ρ := (_, 0, 0)) (kn' := (0, 0)) cv_X11_164 dX11_wouldCount_58 rfl rfl (hc43 hnx) rfl rfl (Nat.le_of_ble_eq_true rfl) (rmR _ _ _) ⟨Nat.le_refl _, Nat.le_refl _⟩ rfl (c_X11_many_5 hnx hI hA hL  (fun r58 h58 => ?_))
        refine aw_icmp_lt (tgt := 68) dX11_wouldCount_61 rfl (by omega) (fun c61 => ?_) (fun c61 => ?_)
        · skip
          refine aw_iconst dX11_wouldCount_68 ?_
          exact aw_zreturn dX11_wouldCount_69 rfl (by omega) ⟨Nat.le_refl _, Nat.le_refl _⟩ (hQ _ (by omega))
        · skip
          refine aw_iconst dX11_wouldCount_64 ?_
          refine aw_goto (tgt := 69) dX11_wouldCount_65 rfl ?_
          exact aw_zreturn dX11_wouldCount_69 rfl (by omega) ⟨Nat.le_refl _, Nat.le_refl _⟩ (hQ _ (by omega))
      · skip
        refine aw_iconst dX11_wouldCount_47 ?_
        refine aw_goto (tgt := 52) dX11_wouldCount_48 rfl ?_
        refine aw_callS (As := [_]) (ρ := (_, 0, 0)) (kn' := (0, 0)) cs_X11_122 dX11_wouldCount_52 rfl rfl (Nat.le_of_ble_eq_true rfl) (rmR _ _ _) ⟨Nat.le_refl _, Nat.le_refl _⟩ rfl (c_X11_truth hnx (by omega) (fun r52 h52 => ?_))
        refine aw_iadd dX11_wouldCount_55 ?_
        refine aw_aload_n dX11_wouldCount_56 rfl ?_
        refine aw_iconst dX11_wouldCount_57 ?_
        refine aw_callV (As := [_]) (ρ := (_, 0, 0)) (kn' := (0, 0)) cv_X11_164 dX11_wouldCount_58 rfl rfl (hc43 hnx) rfl rfl (Nat.le_of_ble_eq_true rfl) (rmR _ _ _) ⟨Nat.le_refl _, Nat.le_refl _⟩ rfl (c_X11_many_5 hnx hI hA hL  (fun r58 h58 => ?_))
        refine aw_icmp_lt (tgt := 68) dX11_wouldCount_61 rfl (by omega) (fun c61 => ?_) (fun c61 => ?_)
        · skip
          refine aw_iconst dX11_wouldCount_68 ?_
          exact aw_zreturn dX11_wouldCount_69 rfl (by omega) ⟨Nat.le_refl _, Nat.le_refl _⟩ (hQ _ (by omega))
        · skip
          refine aw_iconst dX11_wouldCount_64 ?_
          refine aw_goto (tgt := 69) dX11_wouldCount_65 rfl ?_
          exact aw_zreturn dX11_wouldCount_69 rfl (by omega) ⟨Nat.le_refl _, Nat.le_refl _⟩ (hQ _ (by omega))
    · skip
      refine aw_iconst dX11_wouldCount_28 ?_
      refine aw_goto (tgt := 33) dX11_wouldCount_29 rfl ?_
      refine aw_callS (As := [_]) (ρ := (_, 0, 0)) (kn' := (0, 0)) cs_X11_122 dX11_wouldCount_33 rfl rfl (Nat.le_of_ble_eq_true rfl) (rmR _ _ _) ⟨Nat.le_refl _, Nat.le_refl _⟩ rfl (c_X11_truth hnx (by omega) (fun r33 h33 => ?_))
      refine aw_iadd dX11_wouldCount_36 ?_
      refine aw_aload_n dX11_wouldCount_37 rfl ?_
      refine aw_iload_n dX11_wouldCount_38 rfl ?_
      refine aw_iload_n dX11_wouldCount_39 rfl ?_
      refine aw_iconst dX11_wouldCount_40 ?_
      refine aw_callV (As := [_, _, _]) (ρ := (_, 0, 0)) (kn' := (0, 0)) cv_X11_338 dX11_wouldCount_41 rfl rfl (hc43 hnx) rfl rfl (Nat.le_of_ble_eq_true rfl) (rmR _ _ _) ⟨Nat.le_refl _, Nat.le_refl _⟩ rfl (c_X11_wouldBe_2 hnx hI hA hL (by omega) (by omega) (fun r41 h41 => ?_))
      refine aw_if_le (tgt := 51) dX11_wouldCount_44 rfl (by omega) (fun c44 => ?_) (fun c44 => ?_)
      · skip
        refine aw_iconst dX11_wouldCount_51 ?_
        refine aw_callS (As := [_]) (ρ := (_, 0, 0)) (kn' := (0, 0)) cs_X11_122 dX11_wouldCount_52 rfl rfl (Nat.le_of_ble_eq_true rfl) (rmR _ _ _) ⟨Nat.le_refl _, Nat.le_refl _⟩ rfl (c_X11_truth hnx (by omega) (fun r52 h52 => ?_))
        refine aw_iadd dX11_wouldCount_55 ?_
        refine aw_aload_n dX11_wouldCount_56 rfl ?_
        refine aw_iconst dX11_wouldCount_57 ?_
        refine aw_callV (As := [_]) (ρ := (_, 0, 0)) (kn' := (0, 0)) cv_X11_164 dX11_wouldCount_58 rfl rfl (hc43 hnx) rfl rfl (Nat.le_of_ble_eq_true rfl) (rmR _ _ _) ⟨Nat.le_refl _, Nat.le_refl _⟩ rfl (c_X11_many_5 hnx hI hA hL  (fun r58 h58 => ?_))
        refine aw_icmp_lt (tgt := 68) dX11_wouldCount_61 rfl (by omega) (fun c61 => ?_) (fun c61 => ?_)
        · skip
          refine aw_iconst dX11_wouldCount_68 ?_
          exact aw_zreturn dX11_wouldCount_69 rfl (by omega) ⟨Nat.le_refl _, Nat.le_refl _⟩ (hQ _ (by omega))
        · skip
          refine aw_iconst dX11_wouldCount_64 ?_
          refine aw_goto (tgt := 69) dX11_wouldCount_65 rfl ?_
          exact aw_zreturn dX11_wouldCount_69 rfl (by omega) ⟨Nat.le_refl _, Nat.le_refl _⟩ (hQ _ (by omega))
      · skip
        refine aw_iconst dX11_wouldCount_47 ?_
        refine aw_goto (tgt := 52) dX11_wouldCount_48 rfl ?_
        refine aw_callS (As := [_]) (ρ := (_, 0, 0)) (kn' := (0, 0)) cs_X11_122 dX11_wouldCount_52 rfl rfl (Nat.le_of_ble_eq_true rfl) (rmR _ _ _) ⟨Nat.le_refl _, Nat.le_refl _⟩ rfl (c_X11_truth hnx (by omega) (fun r52 h52 => ?_))
        refine aw_iadd dX11_wouldCount_55 ?_
        refine aw_aload_n dX11_wouldCount_56 rfl ?_
        refine aw_iconst dX11_wouldCount_57 ?_
        refine aw_callV (As := [_]) (ρ := (_, 0, 0)) (kn' := (0, 0)) cv_X11_164 dX11_wouldCount_58 rfl rfl (hc43 hnx) rfl rfl (Nat.le_of_ble_eq_true rfl) (rmR _ _ _) ⟨Nat.le_refl _, Nat.le_refl _⟩ rfl (c_X11_many_5 hnx hI hA hL  (fun r58 h58 => ?_))
        refine aw_icmp_lt (tgt := 68) dX11_wouldCount_61 rfl (by omega) (fun c61 => ?_) (fun c61 => ?_)
        · skip
          refine aw_iconst dX11_wouldCount_68 ?_
          exact aw_zreturn dX11_wouldCount_69 rfl (by omega) ⟨Nat.le_refl _, Nat.le_refl _⟩ (hQ _ (by omega))
        · skip
          refine aw_iconst dX11_wouldCount_64 ?_
          refine aw_goto (tgt := 69) dX11_wouldCount_65 rfl ?_
          exact aw_zreturn dX11_wouldCount_69 rfl (by omega) ⟨Nat.le_refl _, Nat.le_refl _⟩ (hQ _ (by omega))

set_option maxHeartbeats 1000000 in
theorem c_X11_rateOf {Γ : GT} {S T U V A : St} {G : Gw} {nx d : Nat} {Q : QT} (hnx : 52 ≤ nx) {i : Int} {c : Int} (hI : Inv c A) (hA : Ag A (V 0)) (hL : RgL V) (hij : inI i) (hQ : Q (some (.double (rateD A i (nS A)))) (hp Γ S T U V G) nx) : AM Γ MX11_rateOf (d + 3, 0, 0) [rf Γ 43, vi i] (hp Γ S T U V G) nx Q := by
  refine am_of (by decide) (Nat.le_of_ble_eq_true rfl) (ls := [some (rf Γ 43), some _, none, none, none, none, none]) rfl ?_
  have hR := hI.R
  have i1 := hI.i1
  have hz : 0 ≤ A 28 0 ∧ A 28 0 ≤ 60 := i1.2.2.1
  have hkS : nS A = (A 28 0).toNat := rfl
  have hkI : nIm A = (A 27 0).toNat := rfl
  have hkO : nOr A = (A 26 0).toNat := rfl
  refine aw_lconst0 dX11_rateOf_0 ?_
  refine aw_lstore_n (ls' := [some (rf Γ 43), some _, some _, none, none, none, none]) dX11_rateOf_1 (by decide) rfl ?_
  refine aw_lconst0 dX11_rateOf_2 ?_
  refine aw_lstore (ls' := [some (rf Γ 43), some _, some _, none, some _, none, none]) dX11_rateOf_3 (by decide) rfl ?_
  refine aw_iconst dX11_rateOf_5 ?_
  refine aw_istore (ls' := [some (rf Γ 43), some _, some _, none, some _, none, some _]) dX11_rateOf_6 (by decide) rfl ?_
  refine loopN (nS A) (P := fun k => ∀ (y : Int) (x : Int) , y = takN A i k → x = allN A i k →  AW Γ MX11_rateOf _ _ (0, 0) 8 [some (rf Γ 43), some (vi i), some (vl y), none, some (vl x), none, some (vi (k : Int))] [] (hp Γ S T U V G) nx) (fun k hk ih => ?_) 0 (Nat.zero_le _) _ _ rfl rfl
  intro y x i8_0 i8_1
  refine aw_iload dX11_rateOf_8 rfl ?_
  refine aw_aload_n dX11_rateOf_10 rfl ?_
  refine aw_bipush dX11_rateOf_11 rfl ?_
  refine aw_callV (As := [_]) (ρ := (_, 0, 0)) (kn' := (0, 0)) cv_X11_164 dX11_rateOf_13 rfl rfl (hc43 hnx) rfl rfl (Nat.le_of_ble_eq_true rfl) (rmR _ _ _) ⟨Nat.le_refl _, Nat.le_refl _⟩ rfl (c_X11_many_8 hnx hI hA hL  (fun r13 h13 => ?_))
  subst h13
  refine aw_icmp_ge (tgt := 75) dX11_rateOf_16 rfl (by omega) (fun c16 => ?_) (fun c16 => ?_)
  · skip
    obtain rfl : k = nS A := by omega
    have b := hI.all i (nS A) (Nat.le_refl _)
    refine aw_lload dX11_rateOf_75 rfl ?_
    refine aw_lconst0 dX11_rateOf_77 ?_
    refine aw_lif_ne (tgt := 88) dX11_rateOf_78 dX11_rateOf_79 rfl (by omega) (fun c78 => ?_) (fun c78 => ?_)
    · skip
      refine aw_lload_n dX11_rateOf_88 rfl ?_
      refine aw_l2d dX11_rateOf_89 ?_
      refine aw_sd (a := FP.i2d (I (takN A i (nS A)))) (by rw [i8_0]; exact (l2d_i (by omega)).symm) ?_
      refine aw_lload dX11_rateOf_90 rfl ?_
      refine aw_l2d dX11_rateOf_92 ?_
      refine aw_sd (a := FP.i2d (I (allN A i (nS A)))) (by rw [i8_1]; exact (l2d_i (by omega)).symm) ?_
      have hd := hI.rateDn i (by omega)
      rw [rateD, if_pos (by omega)] at hd
      refine aw_ddiv dX11_rateOf_93 (hd.n64 (by omega)) ?_
      first | refine aw_sd (a := rateD A i (nS A)) (by rw [rateD, if_pos (by omega)]) ?_ | refine aw_sd (a := rateD A i (nS A)) (by rw [rateD, if_neg (by omega)]) ?_
      exact aw_dreturn dX11_rateOf_94 rfl ⟨Nat.le_refl _, Nat.le_refl _⟩ hQ
    · skip
      refine aw_ldc2d dX11_rateOf_82 qk_X11_307 ?_
      refine aw_goto (tgt := 94) dX11_rateOf_85 rfl ?_
      first | refine aw_sd (a := rateD A i (nS A)) (by rw [rateD, if_pos (by omega)]) ?_ | refine aw_sd (a := rateD A i (nS A)) (by rw [rateD, if_neg (by omega)]) ?_
      exact aw_dreturn dX11_rateOf_94 rfl ⟨Nat.le_refl _, Nat.le_refl _⟩ hQ
  · skip
    refine aw_aload_n dX11_rateOf_19 rfl ?_
    refine aw_iload dX11_rateOf_20 rfl ?_
    refine aw_iconst dX11_rateOf_22 ?_
    refine aw_callV (As := [_, _]) (ρ := (_, 0, 0)) (kn' := (0, 0)) cv_X11_196 dX11_rateOf_23 rfl rfl (hc43 hnx) rfl rfl (Nat.le_of_ble_eq_true rfl) (rmR _ _ _) ⟨Nat.le_refl _, Nat.le_refl _⟩ rfl (c_X11_ofLicence_0 hnx hI hA hL (by omega) (fun r23 h23 => ?_))
    have r4 := hR 4 (by decide) (k : Int)
    refine aw_iload_n dX11_rateOf_26 rfl ?_
    refine aw_icmp_ne (tgt := 69) dX11_rateOf_27 rfl (by omega) (fun c27 => ?_) (fun c27 => ?_)
    · skip
      refine aw_iinc (ls' := [some (rf Γ 43), some _, some _, none, some _, none, some _]) dX11_rateOf_69 rfl (by decide) rfl ?_
      refine aw_goto (tgt := 8) dX11_rateOf_72 rfl ?_
      exact ih (by omega) y x  (by simp only [takN, sm] at i8_0 ⊢; split <;> omega) (by simp only [allN, sm] at i8_1 ⊢; split <;> omega)
    · skip
      refine aw_aload_n dX11_rateOf_30 rfl ?_
      refine aw_iload dX11_rateOf_31 rfl ?_
      refine aw_callV (As := [_]) (ρ := (_, 0, 0)) (kn' := (0, 0)) cv_X11_199 dX11_rateOf_33 rfl rfl (hc43 hnx) rfl rfl (Nat.le_of_ble_eq_true rfl) (rmR _ _ _) ⟨Nat.le_refl _, Nat.le_refl _⟩ rfl (c_X11_isOpen hnx hI hA hL (by omega) (fun r33 h33 => ?_))
      rcases h33 with ⟨rfl, h33⟩ | ⟨rfl, h33⟩
      · skip
        refine aw_if_ne (tgt := 69) dX11_rateOf_36 rfl (by decide) (fun _ => ?_) (fun c => absurd c (by decide))
        refine aw_iinc (ls' := [some (rf Γ 43), some _, some _, none, some _, none, some _]) dX11_rateOf_69 rfl (by decide) rfl ?_
        refine aw_goto (tgt := 8) dX11_rateOf_72 rfl ?_
        exact ih (by omega) y x  (by simp only [takN, sm] at i8_0 ⊢; split <;> omega) (by simp only [allN, sm] at i8_1 ⊢; split <;> omega)
      · skip
        refine aw_if_ne (tgt := 69) dX11_rateOf_36 rfl (by decide) (fun c => absurd c (by decide)) (fun _ => ?_)
        refine aw_lload_n dX11_rateOf_39 rfl ?_
        refine aw_aload_n dX11_rateOf_40 rfl ?_
        refine aw_getf fg_X11_9 dX11_rateOf_41 (hc43 hnx) rfl ?_
        refine aw_iload dX11_rateOf_44 rfl ?_
        refine aw_iconst dX11_rateOf_46 ?_
        refine aw_callS (As := [_, _]) (ρ := (_, 0, 0)) (kn' := (0, 0)) cs_X11_48 dX11_rateOf_47 rfl rfl (Nat.le_of_ble_eq_true rfl) (rmR _ _ _) ⟨Nat.le_refl _, Nat.le_refl _⟩ rfl (c_X11_licenceAt hnx  (fun r47 h47 => ?_))
        subst h47
        refine aw_laldr dX11_rateOf_50 (hc44 hnx) (by omega) (by decide) (hL 0) (fun q50 => ?_)
        refine aw_svl (a := A 9 (k : Int)) ((hA.l9 (by omega)).symm) ?_
        refine aw_ladd dX11_rateOf_51 ?_
        refine aw_nmL (fun x2_52 hx2_52 => ?_)
        refine aw_lstore_n (ls' := [some (rf Γ 43), some _, some _, none, some _, none, some _]) dX11_rateOf_52 (by decide) rfl ?_
        refine aw_lload dX11_rateOf_53 rfl ?_
        refine aw_aload_n dX11_rateOf_55 rfl ?_
        refine aw_getf fg_X11_9 dX11_rateOf_56 (hc43 hnx) rfl ?_
        refine aw_iload dX11_rateOf_59 rfl ?_
        refine aw_iconst dX11_rateOf_61 ?_
        refine aw_callS (As := [_, _]) (ρ := (_, 0, 0)) (kn' := (0, 0)) cs_X11_48 dX11_rateOf_62 rfl rfl (Nat.le_of_ble_eq_true rfl) (rmR _ _ _) ⟨Nat.le_refl _, Nat.le_refl _⟩ rfl (c_X11_licenceAt hnx  (fun r62 h62 => ?_))
        subst h62
        refine aw_laldr dX11_rateOf_65 (hc44 hnx) (by omega) (by decide) (hL 0) (fun q65 => ?_)
        refine aw_svl (a := A 6 (k : Int)) ((hA.l6 (by omega)).symm) ?_
        refine aw_ladd dX11_rateOf_66 ?_
        refine aw_nmL (fun x4_67 hx4_67 => ?_)
        refine aw_lstore (ls' := [some (rf Γ 43), some _, some _, none, some _, none, some _]) dX11_rateOf_67 (by decide) rfl ?_
        refine aw_iinc (ls' := [some (rf Γ 43), some _, some _, none, some _, none, some _]) dX11_rateOf_69 rfl (by decide) rfl ?_
        refine aw_goto (tgt := 8) dX11_rateOf_72 rfl ?_
        exact ih (by omega) x2_52 x4_67  (by simp only [takN, sm] at i8_0 ⊢; split <;> omega) (by simp only [allN, sm] at i8_1 ⊢; split <;> omega)


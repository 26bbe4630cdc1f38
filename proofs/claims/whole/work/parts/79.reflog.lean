/-! the reference: the log -/
def lsR (r : Int → Int) (k : Nat) : Int → Int := fun p => if 1216 - (k : Int) ≤ p ∧ p < 1216 then r (p - 20) else r p
def loR (r : Int → Int) (k : Nat) : Int → Int := fun p => if 1056 ≤ p ∧ p < 1056 + 5 * (k : Int) then r (16 + 8 * ((p - 1056) / 5) + LG ((p - 1056) % 5)) else lsR r 140 p
theorem lsR_0 (r : Int → Int) : lsR r 0 = r := by funext p; unfold lsR; rw [if_neg (by omega)]
theorem loR_0 (r : Int → Int) : loR r 0 = lsR r 140 := by funext p; unfold loR; rw [if_neg (by omega)]
theorem lsR_lo (r : Int → Int) (k : Nat) {p : Int} (h : p < 1216 - (k : Int)) : lsR r k p = r p := by unfold lsR; rw [if_neg (by omega)]
theorem loR_lo (r : Int → Int) (k : Nat) {p : Int} (h : p < 1056) : loR r k p = r p := by unfold loR; rw [if_neg (by omega), lsR_lo _ _ (by omega)]
theorem sset_id (V : St) {f : Nat} {a : Int → Int} (h : a = V f) : sset V f a = V := by
  funext g; unfold sset; split
  · rename_i e; rw [e, h]
  · rfl
theorem lsR_st (V : St) (k : Nat) (hk : k < 140) : u1 (sset V 0 (lsR (V 0) k)) 0 (1215 - (k : Int)) (V 0 (1215 - (k : Int) - 20)) = sset V 0 (lsR (V 0) (k + 1)) := by
  rw [u1_sset]; congr 1; funext p; unfold uz lsR
  by_cases h : p = 1215 - (k : Int)
  · subst h; rw [if_pos rfl, if_pos (by omega)]
  · rw [if_neg h]
    by_cases h2 : 1216 - (k : Int) ≤ p ∧ p < 1216
    · rw [if_pos h2, if_pos (by omega)]
    · rw [if_neg h2, if_neg (by omega)]
theorem loR_st (V : St) (k : Nat) : u1 (u1 (u1 (u1 (u1 (sset V 0 (loR (V 0) k)) 0 (1056 + 5 * (k : Int)) (V 0 (16 + 8 * (k : Int) + 1))) 0 (1056 + 5 * (k : Int) + 1) (V 0 (16 + 8 * (k : Int) + 2))) 0 (1056 + 5 * (k : Int) + 2) (V 0 (16 + 8 * (k : Int) + 4))) 0 (1056 + 5 * (k : Int) + 3) (V 0 (16 + 8 * (k : Int) + 5))) 0 (1056 + 5 * (k : Int) + 4) (V 0 (16 + 8 * (k : Int) + 6)) = sset V 0 (loR (V 0) (k + 1)) := by
  rw [u1_sset, u1_sset, u1_sset, u1_sset, u1_sset]; congr 1; funext p
  have a5 : ∀ w : Int, 0 ≤ w → w < 5 → p = 1056 + 5 * (k : Int) + w → loR (V 0) (k + 1) p = V 0 (16 + 8 * (k : Int) + LG w) := by
    intro w h1 h2 h; unfold loR; rw [if_pos (by omega), show (p - 1056) / 5 = (k : Int) by omega, show (p - 1056) % 5 = w by omega]
  simp only [uz]
  by_cases h4 : p = 1056 + 5 * (k : Int) + 4
  · rw [if_pos h4, a5 4 (by omega) (by omega) h4]; rfl
  rw [if_neg h4]
  by_cases h3 : p = 1056 + 5 * (k : Int) + 3
  · rw [if_pos h3, a5 3 (by omega) (by omega) h3]; rfl
  rw [if_neg h3]
  by_cases h2 : p = 1056 + 5 * (k : Int) + 2
  · rw [if_pos h2, a5 2 (by omega) (by omega) h2]; rfl
  rw [if_neg h2]
  by_cases h1 : p = 1056 + 5 * (k : Int) + 1
  · rw [if_pos h1, a5 1 (by omega) (by omega) h1]; rfl
  rw [if_neg h1]
  by_cases h0 : p = 1056 + 5 * (k : Int)
  · rw [if_pos h0, a5 0 (by omega) (by omega) (by omega)]; rfl
  rw [if_neg h0]
  unfold loR
  by_cases h : 1056 ≤ p ∧ p < 1056 + 5 * (k : Int)
  · rw [if_pos h, if_pos (by omega)]
  · rw [if_neg h, if_neg (by omega)]
theorem logA {A : St} {r : Int → Int} (hA : Ag A r) (b : bd A) : Ag (logS A) (uz (loR r 4) 10 (min (A 29 0 + 1) 8)) := by
  obtain ⟨b1, b2, b3, b4⟩ := id b
  intro f i hu
  have e29 : logS A 29 0 = min (A 29 0 + 1) 8 := rfl
  by_cases h29 : f = 29
  · subst h29
    have e : i = 0 := (show 29 ≤ 29 ∧ i = 0 from hu).2
    subst e; exact uz_s _ _ _
  by_cases h19 : f = 19
  · subst h19
    have hu2 : 0 ≤ i ∧ i / 20 < logS A 29 0 ∧ i % 20 / 5 < A 26 0 := hu
    rw [e29] at hu2
    show uz (loR r 4) 10 _ (1056 + i) = lg2 A 20 i
    rw [uz_n _ _ (by omega)]; unfold loR lg2
    by_cases h : i < 20
    · rw [if_pos (by omega), if_pos (by omega), show (1056 + i - 1056) = i by omega]
      have lg := LG_in ((i % 5).toNat)
      have e5 : (((i % 5).toNat : Nat) : Int) = i % 5 := by omega
      rw [e5] at lg
      exact hA.of (o := i / 5) (w := LG (i % 5)) (by omega) (by omega)
    · rw [if_neg (by omega), if_neg (by omega)]; unfold lsR lg1
      rw [if_pos (by omega), if_pos (by omega)]
      have e := hA 19 (i - 20) (show 0 ≤ i - 20 ∧ (i - 20) / 20 < A 29 0 ∧ (i - 20) % 20 / 5 < A 26 0 by omega)
      rw [← e]; congr 1; show _ = 1056 + (i - 20); omega
  have hu2 : us A f i := by
    unfold us at hu ⊢
    rw [if_neg h19] at hu ⊢
    exact hu
  have e1 : logS A f i = A f i := by unfold logS; rw [u0_at, if_neg h29, sset_ne _ _ h19]
  have p1 := pl_ne b hu2 (show dec 10 = (29, 0) by decide) (fun z => h29 z.1)
  have p2 : pl f i < 1056 := by
    have q := pl_all b f i hu2
    by_cases h : pl f i < 1056
    · exact h
    · exfalso
      have e := q.1
      have e3 : dec (pl f i) = (19, pl f i - 1056) := by
        unfold dec; simp only [if_neg (show ¬ pl f i < 6 by omega), if_neg (show ¬ pl f i = 6 by omega), if_neg (show ¬ pl f i = 7 by omega), if_neg (show ¬ pl f i = 8 by omega), if_neg (show ¬ pl f i = 9 by omega), if_neg (show ¬ pl f i = 10 by omega), if_neg (show ¬ pl f i < 16 by omega), if_neg (show ¬ pl f i < 48 by omega), if_neg (show ¬ pl f i < 304 by omega), if_neg (show ¬ pl f i < 312 by omega), if_neg (show ¬ pl f i < 408 by omega), if_neg (show ¬ pl f i < 456 by omega), if_neg (show ¬ pl f i < 1056 by omega), show (pl f i < 48) = False from eq_false (by omega), show (pl f i < 304) = False from eq_false (by omega), show (pl f i < 1056) = False from eq_false (by omega), false_and, if_false]
      rw [e] at e3
      injection e3 with e4 e5
      exact h19 e4
  rw [e1, uz_n _ _ p1, loR_lo _ _ p2]
  exact hA f i hu2

set_option maxHeartbeats 1000000 in
theorem c_X11_logs {Γ : GT} {S T U V A : St} {G : Gw} {nx d : Nat} {Q : QT} (hnx : 52 ≤ nx) (hA : Ag A (V 0)) (hb : bd A) (hL : RgL V)  (hQ : ∀ V2, VX V V2 → RgL V2 → Ag (logS A) (V2 0) → Q none (hp Γ S T U V2 G) nx) : AM Γ MX11_logs (d + 1, 0, 0) [rf Γ 43] (hp Γ S T U V G) nx Q := by
  refine am_of (by decide) (Nat.le_of_ble_eq_true rfl) (ls := [some (rf Γ 43), none, none, none]) rfl ?_
  obtain ⟨b1, b2, b3, b4⟩ := id hb
  have hL0 := hL
  refine aw_bipush dX11_logs_0 rfl ?_
  refine aw_istore_n (ls' := [some (rf Γ 43), some _, none, none]) dX11_logs_2 (by decide) rfl ?_
  refine aw_sipush dX11_logs_3 rfl ?_
  refine aw_bipush dX11_logs_6 rfl ?_
  refine aw_iload_n dX11_logs_8 rfl ?_
  refine aw_imul dX11_logs_9 ?_
  refine aw_iadd dX11_logs_10 ?_
  refine aw_iconst dX11_logs_11 ?_
  refine aw_isub dX11_logs_12 ?_
  refine aw_nmI (fun x2_13 hx2_13 => ?_)
  refine aw_istore_n (ls' := [some (rf Γ 43), some _, some _, none]) dX11_logs_13 (by decide) rfl ?_
  refine aw_hp (V' := sset V 0 (lsR (V 0) 0)) rfl rfl rfl (by rw [lsR_0]; exact sset_id V rfl) rfl ?_
  refine loopN (140) (P := fun k => ∀ (m : Int) , m = 1215 - (k : Int) →  AW Γ MX11_logs _ _ (0, 0) 14 [some (rf Γ 43), some (vi 20), some (vi m), none] [] (hp Γ S T U (sset V 0 (lsR (V 0) k)) G) nx) (fun k hk ih => ?_) 0 (Nat.zero_le _) _ (by omega)
  intro m i14_0
  refine aw_iload_n dX11_logs_14 rfl ?_
  replace hL := hL0.sset (f := 0) (a := lsR (V 0) k) (fun q => by unfold lsR; split <;> exact hL0 _ _)
  refine aw_sipush dX11_logs_15 rfl ?_
  refine aw_iload_n dX11_logs_18 rfl ?_
  refine aw_iadd dX11_logs_19 ?_
  refine aw_icmp_lt (tgt := 43) dX11_logs_20 rfl (by omega) (fun c20 => ?_) (fun c20 => ?_)
  · skip
    obtain rfl : k = 140 := by omega
    refine aw_iconst dX11_logs_43 ?_
    refine aw_istore_n (ls' := [some (rf Γ 43), some _, some _, none]) dX11_logs_44 (by decide) rfl ?_
    refine aw_hp (V' := sset V 0 (loR (V 0) 0)) rfl rfl rfl (by rw [loR_0]) rfl ?_
    refine loopN (4) (P := fun k =>  AW Γ MX11_logs _ _ (0, 0) 45 [some (rf Γ 43), some (vi 20), some (vi (k : Int)), none] [] (hp Γ S T U (sset V 0 (loR (V 0) k)) G) nx) (fun k hk ih => ?_) 0 (Nat.zero_le _) 
    refine aw_iload_n dX11_logs_45 rfl ?_
    replace hL := hL0.sset (f := 0) (a := loR (V 0) k) (fun q => by unfold loR lsR; split; exact hL0 _ _; split <;> exact hL0 _ _)
    refine aw_iconst dX11_logs_46 ?_
    refine aw_icmp_ge (tgt := 153) dX11_logs_47 rfl (by omega) (fun c47 => ?_) (fun c47 => ?_)
    · skip
      obtain rfl : k = 4 := by omega
      refine aw_aload_n dX11_logs_153 rfl ?_
      refine aw_getf fg_X11_9 dX11_logs_154 (hc43 hnx) rfl ?_
      refine aw_bipush dX11_logs_157 rfl ?_
      refine aw_ldc2 dX11_logs_159 qk_X11_133 ?_
      refine aw_st (st' := vl 8 :: _) rfl ?_
      refine aw_aload_n dX11_logs_162 rfl ?_
      refine aw_getf fg_X11_9 dX11_logs_163 (hc43 hnx) rfl ?_
      refine aw_bipush dX11_logs_166 rfl ?_
      refine aw_laldr dX11_logs_168 (hc44 hnx) (by omega) (by decide) (hL 0) (fun q168 => ?_)
      refine aw_svl (a := A 29 0) ((by rw [sset_eq, loR_lo _ _ (by omega)]; exact hA.c10.symm)) ?_
      refine aw_lconst1 dX11_logs_169 ?_
      refine aw_ladd dX11_logs_170 ?_
      refine aw_mminL qm_X11_193 dX11_logs_171 (by omega) (rmN _ _ _ (Nat.le_of_ble_eq_true rfl)) ⟨Nat.le_refl _, Nat.le_refl _⟩ (fun r171 h171 => ?_)
      have em : r171 = min (A 29 0 + 1) 8 := by omega
      subst em
      refine aw_lastV dX11_logs_174 (hc44 hnx) (by omega) (by decide) hL (by omega) (fun _ => hu44) (fun hL => ?_)
      exact aw_return dX11_logs_175 rfl ⟨Nat.le_refl _, Nat.le_refl _⟩ (hQ _ (fun f hf => by unfold u1; rw [sset_ne _ _ hf, sset_ne _ _ hf]) hL (logA hA hb))
    · skip
      refine aw_sipush dX11_logs_50 rfl ?_
      refine aw_iconst dX11_logs_53 ?_
      refine aw_iload_n dX11_logs_54 rfl ?_
      refine aw_imul dX11_logs_55 ?_
      refine aw_iadd dX11_logs_56 ?_
      refine aw_nmI (fun x3_57 hx3_57 => ?_)
      refine aw_istore_n (ls' := [some (rf Γ 43), some _, some _, some _]) dX11_logs_57 (by decide) rfl ?_
      subst hx3_57
      refine aw_aload_n dX11_logs_58 rfl ?_
      refine aw_getf fg_X11_9 dX11_logs_59 (hc43 hnx) rfl ?_
      refine aw_iload_n dX11_logs_62 rfl ?_
      refine aw_aload_n dX11_logs_63 rfl ?_
      refine aw_getf fg_X11_9 dX11_logs_64 (hc43 hnx) rfl ?_
      refine aw_iload_n dX11_logs_67 rfl ?_
      refine aw_iconst dX11_logs_68 ?_
      refine aw_callS (As := [_, _]) (ρ := (_, 0, 0)) (kn' := (0, 0)) cs_X11_40 dX11_logs_69 rfl rfl (Nat.le_of_ble_eq_true rfl) (rmR _ _ _) ⟨Nat.le_refl _, Nat.le_refl _⟩ rfl (c_X11_originAt hnx  (fun r69 h69 => ?_))
      subst h69
      refine aw_laldr dX11_logs_72 (hc44 hnx) (by omega) (by decide) (hL 0) (fun q72 => ?_)
      refine aw_svl (a := V 0 (16 + 8 * (k : Int) + 1)) ((by simp only [sset_eq]; rw [loR_lo _ _ (by omega)])) ?_
      have rw1 := hL0 0 (16 + 8 * (k : Int) + 1)
      refine aw_lastV dX11_logs_73 (hc44 hnx) (by omega) (by decide) hL (by omega) (fun _ => hu44) (fun hL => ?_)
      refine aw_aload_n dX11_logs_74 rfl ?_
      refine aw_getf fg_X11_9 dX11_logs_75 (hc43 hnx) rfl ?_
      refine aw_iload_n dX11_logs_78 rfl ?_
      refine aw_iconst dX11_logs_79 ?_
      refine aw_iadd dX11_logs_80 ?_
      refine aw_aload_n dX11_logs_81 rfl ?_
      refine aw_getf fg_X11_9 dX11_logs_82 (hc43 hnx) rfl ?_
      refine aw_iload_n dX11_logs_85 rfl ?_
      refine aw_iconst dX11_logs_86 ?_
      refine aw_callS (As := [_, _]) (ρ := (_, 0, 0)) (kn' := (0, 0)) cs_X11_40 dX11_logs_87 rfl rfl (Nat.le_of_ble_eq_true rfl) (rmR _ _ _) ⟨Nat.le_refl _, Nat.le_refl _⟩ rfl (c_X11_originAt hnx  (fun r87 h87 => ?_))
      subst h87
      refine aw_laldr dX11_logs_90 (hc44 hnx) (by omega) (by decide) (hL 0) (fun q90 => ?_)
      refine aw_svl (a := V 0 (16 + 8 * (k : Int) + 2)) ((by unfold u1; simp only [sset_eq]; (iterate 1 rw [uz_n _ _ (by omega)]); rw [loR_lo _ _ (by omega)])) ?_
      have rw2 := hL0 0 (16 + 8 * (k : Int) + 2)
      refine aw_lastV dX11_logs_91 (hc44 hnx) (by omega) (by decide) hL (by omega) (fun _ => hu44) (fun hL => ?_)
      refine aw_aload_n dX11_logs_92 rfl ?_
      refine aw_getf fg_X11_9 dX11_logs_93 (hc43 hnx) rfl ?_
      refine aw_iload_n dX11_logs_96 rfl ?_
      refine aw_iconst dX11_logs_97 ?_
      refine aw_iadd dX11_logs_98 ?_
      refine aw_aload_n dX11_logs_99 rfl ?_
      refine aw_getf fg_X11_9 dX11_logs_100 (hc43 hnx) rfl ?_
      refine aw_iload_n dX11_logs_103 rfl ?_
      refine aw_iconst dX11_logs_104 ?_
      refine aw_callS (As := [_, _]) (ρ := (_, 0, 0)) (kn' := (0, 0)) cs_X11_40 dX11_logs_105 rfl rfl (Nat.le_of_ble_eq_true rfl) (rmR _ _ _) ⟨Nat.le_refl _, Nat.le_refl _⟩ rfl (c_X11_originAt hnx  (fun r105 h105 => ?_))
      subst h105
      refine aw_laldr dX11_logs_108 (hc44 hnx) (by omega) (by decide) (hL 0) (fun q108 => ?_)
      refine aw_svl (a := V 0 (16 + 8 * (k : Int) + 4)) ((by unfold u1; simp only [sset_eq]; (iterate 2 rw [uz_n _ _ (by omega)]); rw [loR_lo _ _ (by omega)])) ?_
      have rw4 := hL0 0 (16 + 8 * (k : Int) + 4)
      refine aw_lastV dX11_logs_109 (hc44 hnx) (by omega) (by decide) hL (by omega) (fun _ => hu44) (fun hL => ?_)
      refine aw_aload_n dX11_logs_110 rfl ?_
      refine aw_getf fg_X11_9 dX11_logs_111 (hc43 hnx) rfl ?_
      refine aw_iload_n dX11_logs_114 rfl ?_
      refine aw_iconst dX11_logs_115 ?_
      refine aw_iadd dX11_logs_116 ?_
      refine aw_aload_n dX11_logs_117 rfl ?_
      refine aw_getf fg_X11_9 dX11_logs_118 (hc43 hnx) rfl ?_
      refine aw_iload_n dX11_logs_121 rfl ?_
      refine aw_iconst dX11_logs_122 ?_
      refine aw_callS (As := [_, _]) (ρ := (_, 0, 0)) (kn' := (0, 0)) cs_X11_40 dX11_logs_123 rfl rfl (Nat.le_of_ble_eq_true rfl) (rmR _ _ _) ⟨Nat.le_refl _, Nat.le_refl _⟩ rfl (c_X11_originAt hnx  (fun r123 h123 => ?_))
      subst h123
      refine aw_laldr dX11_logs_126 (hc44 hnx) (by omega) (by decide) (hL 0) (fun q126 => ?_)
      refine aw_svl (a := V 0 (16 + 8 * (k : Int) + 5)) ((by unfold u1; simp only [sset_eq]; (iterate 3 rw [uz_n _ _ (by omega)]); rw [loR_lo _ _ (by omega)])) ?_
      have rw5 := hL0 0 (16 + 8 * (k : Int) + 5)
      refine aw_lastV dX11_logs_127 (hc44 hnx) (by omega) (by decide) hL (by omega) (fun _ => hu44) (fun hL => ?_)
      refine aw_aload_n dX11_logs_128 rfl ?_
      refine aw_getf fg_X11_9 dX11_logs_129 (hc43 hnx) rfl ?_
      refine aw_iload_n dX11_logs_132 rfl ?_
      refine aw_iconst dX11_logs_133 ?_
      refine aw_iadd dX11_logs_134 ?_
      refine aw_aload_n dX11_logs_135 rfl ?_
      refine aw_getf fg_X11_9 dX11_logs_136 (hc43 hnx) rfl ?_
      refine aw_iload_n dX11_logs_139 rfl ?_
      refine aw_bipush dX11_logs_140 rfl ?_
      refine aw_callS (As := [_, _]) (ρ := (_, 0, 0)) (kn' := (0, 0)) cs_X11_40 dX11_logs_142 rfl rfl (Nat.le_of_ble_eq_true rfl) (rmR _ _ _) ⟨Nat.le_refl _, Nat.le_refl _⟩ rfl (c_X11_originAt hnx  (fun r142 h142 => ?_))
      subst h142
      refine aw_laldr dX11_logs_145 (hc44 hnx) (by omega) (by decide) (hL 0) (fun q145 => ?_)
      refine aw_svl (a := V 0 (16 + 8 * (k : Int) + 6)) ((by unfold u1; simp only [sset_eq]; (iterate 4 rw [uz_n _ _ (by omega)]); rw [loR_lo _ _ (by omega)])) ?_
      have rw6 := hL0 0 (16 + 8 * (k : Int) + 6)
      refine aw_lastV dX11_logs_146 (hc44 hnx) (by omega) (by decide) hL (by omega) (fun _ => hu44) (fun hL => ?_)
      refine aw_hp (V' := sset V 0 (loR (V 0) (k + 1))) rfl rfl rfl (loR_st V k).symm rfl ?_
      refine aw_iinc (ls' := [some (rf Γ 43), some _, some _, some _]) dX11_logs_147 rfl (by decide) rfl ?_
      refine aw_goto (tgt := 45) dX11_logs_150 rfl ?_
      refine aw_fg [true, true, true, false] (ls' := [some (rf Γ 43), some _, some _, none]) rfl ?_
      exact ih (by omega)   
  · skip
    subst i14_0
    refine aw_aload_n dX11_logs_23 rfl ?_
    refine aw_getf fg_X11_9 dX11_logs_24 (hc43 hnx) rfl ?_
    refine aw_iload_n dX11_logs_27 rfl ?_
    refine aw_aload_n dX11_logs_28 rfl ?_
    refine aw_getf fg_X11_9 dX11_logs_29 (hc43 hnx) rfl ?_
    refine aw_iload_n dX11_logs_32 rfl ?_
    refine aw_iload_n dX11_logs_33 rfl ?_
    refine aw_isub dX11_logs_34 ?_
    refine aw_laldr dX11_logs_35 (hc44 hnx) (by omega) (by decide) (hL 0) (fun q35 => ?_)
    refine aw_svl (a := V 0 (1215 - (k : Int) - 20)) ((by rw [sset_eq, lsR_lo _ _ (by omega)])) ?_
    have rV := hL0 0 (1215 - (k : Int) - 20)
    refine aw_lastV dX11_logs_36 (hc44 hnx) (by omega) (by decide) hL (by omega) (fun _ => hu44) (fun hL => ?_)
    refine aw_hp (V' := sset V 0 (lsR (V 0) (k + 1))) rfl rfl rfl (lsR_st V k (by omega)).symm rfl ?_
    refine aw_iinc (ls' := [some (rf Γ 43), some _, some _, none]) dX11_logs_37 rfl (by decide) rfl ?_
    refine aw_goto (tgt := 14) dX11_logs_40 rfl ?_
    exact ih (by omega) _  (by omega)


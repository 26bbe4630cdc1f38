/-! the reference: a period begins -/
theorem prt_rg {S : St} (h : Inv0 S) {o q : Int} (ho : 0 ≤ o ∧ o < 4) (ht : 0 ≤ S 0 0 ∧ S 0 0 ≤ 100) (hq : 0 ≤ q ∧ q ≤ 99999) : ∀ n : Nat, n ≤ nIm S → 0 ≤ prt S o q n ∧ prt S o q n ≤ 99999 * (n : Int)
  | 0, _ => by unfold prt; rw [sm]; omega
  | n + 1, hn => by
    have ih := prt_rg h ho ht hq n (by omega)
    have sb := h.shp (q := q) (j := 4 * (n : Int) + o) ho (by omega) ht hq
    unfold prt at ih ⊢; rw [sm]
    show 0 ≤ _ + shp S o q (4 * (n : Int) + o) ∧ _ + shp S o q (4 * (n : Int) + o) ≤ _
    omega

set_option maxHeartbeats 2000000 in
theorem t_X11_periodBegins {Γ : GT} {S T U V A : St} {G : Gw} {nx d : Nat} {Q : QT} (hnx : 52 ≤ nx) (hA : Ag A (V 0)) (hb : bd A) (hL : RgL V) (hP : InvP A) (h5 : 1 ≤ A 0 5) {g : Int} (hg : g = 1 ∧ A 25 0 % 360 = 0 ∨ g = 0 ∧ ¬ A 25 0 % 360 = 0) (hQ : ∀ V2, VX V V2 → RgL V2 → Ag (prdF A (nOr A)) (V2 0) → Q none (hp Γ S T U V2 G) nx) : AW Γ MX11_periodBegins (rmm (d + 4, 0, 0)) (MF Γ Q (d + 4, 0, 0)) (0, 0) 22 [some (rf Γ 43), some (vi g), none, none, none, none, none, none, none, none, none] [] (hp Γ S T U V G) nx := by
  obtain ⟨b1, b2, b3, b4⟩ := id hb
  have hkI : nIm A = (A 27 0).toNat := rfl
  have hkO : nOr A = (A 26 0).toNat := rfl
  refine aw_iconst dX11_periodBegins_22 ?_
  refine aw_istore_n (ls' := [some (rf Γ 43), some _, some _, none, none, none, none, none, none, none, none]) dX11_periodBegins_23 (by decide) rfl ?_
  refine loopN (nOr A) (P := fun k => ∀  (W : St), VX V W → RgL W → Ag (prdF A k) (W 0) →  AW Γ MX11_periodBegins _ _ (0, 0) 24 [some (rf Γ 43), some (vi g), some (vi (k : Int)), none, none, none, none, none, none, none, none] [] (hp Γ S T U W G) nx) (fun k hk ih => ?_) 0 (Nat.zero_le _) V VX.rfl hL (by rw [prd_0]; exact hA)
  intro  W i24_0 i24_1 i24_2
  refine aw_iload_n dX11_periodBegins_24 rfl ?_
  have hX := i24_0
  replace hL := i24_1
  replace hA := i24_2
  refine aw_aload_n dX11_periodBegins_25 rfl ?_
  refine aw_bipush dX11_periodBegins_26 rfl ?_
  refine aw_callV (As := [_]) (ρ := (_, 0, 0)) (kn' := (0, 0)) cv_X11_164 dX11_periodBegins_28 rfl rfl (hc43 hnx) rfl rfl (Nat.le_of_ble_eq_true rfl) (rmR _ _ _) ⟨Nat.le_refl _, Nat.le_refl _⟩ rfl (c_X11_many hnx hL (by omega) (fun r28 h28 => ?_))
  replace h28 : r28 = A 26 0 := h28.trans hA.c6
  refine aw_icmp_ge (tgt := 268) dX11_periodBegins_31 rfl (by omega) (fun c31 => ?_) (fun c31 => ?_)
  · skip
    obtain rfl : k = nOr A := by omega
    exact aw_return dX11_periodBegins_268 rfl ⟨Nat.le_refl _, Nat.le_refl _⟩ (hQ _ hX hL hA)
  · skip
    have sk : 0 ≤ (k : Int) ∧ (k : Int) < A 26 0 := by omega
    have hk4 : k < 4 := by omega
    have q1 := hP.2.2.1 k (by omega) (by omega)
    have hc := hP.2.2.2.2 k (by omega) (by omega)
    have ht := hP.2.1
    have hRk := prd_in hP (n := k) (by omega)
    have hZk : Inv0 (prdF A k) := ⟨hRk, hP.1.2.1, hP.1.2.2.1, hP.1.2.2.2⟩
    refine aw_iload_n dX11_periodBegins_34 rfl ?_
    refine aw_if_eq (tgt := 42) dX11_periodBegins_35 rfl (by omega) (fun c35 => ?_) (fun c35 => ?_)
    · skip
      refine aw_aload_n dX11_periodBegins_42 rfl ?_
      refine aw_iload_n dX11_periodBegins_43 rfl ?_
      refine aw_callV (As := [_]) (ρ := (_, 0, 0)) (kn' := (0, 0)) cv_X11_182 dX11_periodBegins_44 rfl rfl (hc43 hnx) rfl rfl (Nat.le_of_ble_eq_true rfl) (rmR _ _ _) ⟨Nat.le_refl _, Nat.le_refl _⟩ rfl (c_X11_leaves_m (A := prdF A k) hnx hA hb hL hRk sk (fun r44 h44 => ?_))
      refine aw_svl (a := cr A k) ((by first | (have w : A 25 0 % 360 = 0 := (by omega); unfold cr; rw [if_pos w]) | (have w : ¬ A 25 0 % 360 = 0 := (by omega); unfold cr; rw [if_neg w, h44]; exact (prd_left A k hk4).symm))) ?_
      refine aw_lstore_n (ls' := [some (rf Γ 43), some _, some _, some _, none, none, none, none, none, none, none]) dX11_periodBegins_47 (by decide) rfl ?_
      refine aw_aload_n dX11_periodBegins_48 rfl ?_
      refine aw_getf fg_X11_9 dX11_periodBegins_49 (hc43 hnx) rfl ?_
      refine aw_iload_n dX11_periodBegins_52 rfl ?_
      refine aw_iconst dX11_periodBegins_53 ?_
      refine aw_callS (As := [_, _]) (ρ := (_, 0, 0)) (kn' := (0, 0)) cs_X11_40 dX11_periodBegins_54 rfl rfl (Nat.le_of_ble_eq_true rfl) (rmR _ _ _) ⟨Nat.le_refl _, Nat.le_refl _⟩ rfl (c_X11_originAt hnx  (fun r54 h54 => ?_))
      refine aw_rdA (f := 1) (i := (k : Int)) (v := (A 1 k)) dX11_periodBegins_57 hnx hL hA hb (un_1 sk) (by show _ = 16 + 8 * ((k : Int)); omega) (rfl) (fun q57 => ?_)
      refine aw_lstore (ls' := [some (rf Γ 43), some _, some _, some _, none, some _, none, none, none, none, none]) dX11_periodBegins_58 (by decide) rfl ?_
      refine aw_iconst dX11_periodBegins_60 ?_
      refine aw_istore (ls' := [some (rf Γ 43), some _, some _, some _, none, some _, none, some _, none, none, none]) dX11_periodBegins_61 (by decide) rfl ?_
      refine loopN (nIm A) (P := fun j => ∀  (W2 : St), VX V W2 → RgL W2 → Ag (tp1 (prdF A k) k j) (W2 0) →  AW Γ MX11_periodBegins _ _ (0, 0) 63 [some (rf Γ 43), some (vi g), some (vi (k : Int)), some (vl (cr A k)), none, some (vl (A 1 k)), none, some (vi (j : Int)), none, none, none] [] (hp Γ S T U W2 G) nx) (fun j hj ihj => ?_) 0 (Nat.zero_le _) W hX hL (by rw [tp1_0]; exact hA)
      intro  W2 i63_0 i63_1 i63_2
      refine aw_iload dX11_periodBegins_63 rfl ?_
      replace hX := i63_0
      replace hL := i63_1
      replace hA := i63_2
      refine aw_aload_n dX11_periodBegins_65 rfl ?_
      refine aw_bipush dX11_periodBegins_66 rfl ?_
      refine aw_callV (As := [_]) (ρ := (_, 0, 0)) (kn' := (0, 0)) cv_X11_164 dX11_periodBegins_68 rfl rfl (hc43 hnx) rfl rfl (Nat.le_of_ble_eq_true rfl) (rmR _ _ _) ⟨Nat.le_refl _, Nat.le_refl _⟩ rfl (c_X11_many hnx hL (by omega) (fun r68 h68 => ?_))
      replace h68 : r68 = A 27 0 := h68.trans hA.c7
      refine aw_icmp_ge (tgt := 103) dX11_periodBegins_71 rfl (by omega) (fun c71 => ?_) (fun c71 => ?_)
      · skip
        obtain rfl : j = nIm A := by omega
        refine aw_lload dX11_periodBegins_103 rfl ?_
        refine aw_lload_n dX11_periodBegins_105 rfl ?_
        refine aw_ladd dX11_periodBegins_106 ?_
        refine aw_nmL (fun x7_107 hx7_107 => ?_)
        refine aw_lstore (ls' := [some (rf Γ 43), some _, some _, some _, none, some _, none, some _, none, none, none]) dX11_periodBegins_107 (by decide) rfl ?_
        refine aw_iconst dX11_periodBegins_109 ?_
        refine aw_istore (ls' := [some (rf Γ 43), some _, some _, some _, none, some _, none, some _, none, some _, none]) dX11_periodBegins_110 (by decide) rfl ?_
        refine loopN (nIm A) (P := fun m => ∀ (y : Int) (W3 : St), y = A 1 k + cr A k - prt A k (A 1 k) m → VX V W3 → RgL W3 → Ag (tp2 (prdF A k) k (A 1 k) m) (W3 0) →  AW Γ MX11_periodBegins _ _ (0, 0) 112 [some (rf Γ 43), some (vi g), some (vi (k : Int)), some (vl (cr A k)), none, some (vl (A 1 k)), none, some (vl y), none, some (vi (m : Int)), none] [] (hp Γ S T U W3 G) nx) (fun m hm ihm => ?_) 0 (Nat.zero_le _) _ W2 (by unfold prt; rw [sm]; omega) hX hL (by rw [tp2_0]; exact hA)
        intro y W3 i112_0 i112_1 i112_2 i112_3
        refine aw_iload dX11_periodBegins_112 rfl ?_
        replace hX := i112_1
        replace hL := i112_2
        replace hA := i112_3
        refine aw_aload_n dX11_periodBegins_114 rfl ?_
        refine aw_bipush dX11_periodBegins_115 rfl ?_
        refine aw_callV (As := [_]) (ρ := (_, 0, 0)) (kn' := (0, 0)) cv_X11_164 dX11_periodBegins_117 rfl rfl (hc43 hnx) rfl rfl (Nat.le_of_ble_eq_true rfl) (rmR _ _ _) ⟨Nat.le_refl _, Nat.le_refl _⟩ rfl (c_X11_many hnx hL (by omega) (fun r117 h117 => ?_))
        replace h117 : r117 = A 27 0 := h117.trans hA.c7
        refine aw_icmp_ge (tgt := 199) dX11_periodBegins_120 rfl (by omega) (fun c120 => ?_) (fun c120 => ?_)
        · skip
          obtain rfl : m = nIm A := by omega
          have pz := prt_rg hP.1 (o := k) (q := A 1 k) (by omega) ht q1 (nIm A) (by omega)
          refine aw_aload_n dX11_periodBegins_199 rfl ?_
          refine aw_getf fg_X11_9 dX11_periodBegins_200 (hc43 hnx) rfl ?_
          refine aw_iload_n dX11_periodBegins_203 rfl ?_
          refine aw_iconst dX11_periodBegins_204 ?_
          refine aw_callS (As := [_, _]) (ρ := (_, 0, 0)) (kn' := (0, 0)) cs_X11_40 dX11_periodBegins_205 rfl rfl (Nat.le_of_ble_eq_true rfl) (rmR _ _ _) ⟨Nat.le_refl _, Nat.le_refl _⟩ rfl (c_X11_originAt hnx  (fun r205 h205 => ?_))
          refine aw_lload dX11_periodBegins_208 rfl ?_
          refine aw_stA (f := 14) (i := (k : Int) * 8 + 1) (v := A 1 k) dX11_periodBegins_210 hnx hX hL hA hb (un_14 sk (by decide)) (by decide) (by show _ = 16 + ((k : Int) * 8 + 1); omega) (by omega) (by omega) (fun V210 hX hL hA => ?_)
          refine aw_aload_n dX11_periodBegins_211 rfl ?_
          refine aw_getf fg_X11_9 dX11_periodBegins_212 (hc43 hnx) rfl ?_
          refine aw_iload_n dX11_periodBegins_215 rfl ?_
          refine aw_iconst dX11_periodBegins_216 ?_
          refine aw_callS (As := [_, _]) (ρ := (_, 0, 0)) (kn' := (0, 0)) cs_X11_40 dX11_periodBegins_217 rfl rfl (Nat.le_of_ble_eq_true rfl) (rmR _ _ _) ⟨Nat.le_refl _, Nat.le_refl _⟩ rfl (c_X11_originAt hnx  (fun r217 h217 => ?_))
          refine aw_lload_n dX11_periodBegins_220 rfl ?_
          refine aw_stA (f := 14) (i := (k : Int) * 8 + 2) (v := cr A k) dX11_periodBegins_221 hnx hX hL hA hb (un_14 sk (by decide)) (by decide) (by show _ = 16 + ((k : Int) * 8 + 2); omega) (by omega) (by omega) (fun V221 hX hL hA => ?_)
          refine aw_aload_n dX11_periodBegins_222 rfl ?_
          refine aw_getf fg_X11_9 dX11_periodBegins_223 (hc43 hnx) rfl ?_
          refine aw_iload_n dX11_periodBegins_226 rfl ?_
          refine aw_iconst dX11_periodBegins_227 ?_
          refine aw_callS (As := [_, _]) (ρ := (_, 0, 0)) (kn' := (0, 0)) cs_X11_40 dX11_periodBegins_228 rfl rfl (Nat.le_of_ble_eq_true rfl) (rmR _ _ _) ⟨Nat.le_refl _, Nat.le_refl _⟩ rfl (c_X11_originAt hnx  (fun r228 h228 => ?_))
          refine aw_lload dX11_periodBegins_231 rfl ?_
          refine aw_stA (f := 14) (i := (k : Int) * 8 + 3) (v := A 1 k + cr A k - prt A k (A 1 k) (nIm A)) dX11_periodBegins_233 hnx hX hL hA hb (un_14 sk (by decide)) (by decide) (by show _ = 16 + ((k : Int) * 8 + 3); omega) (by omega) (by omega) (fun V233 hX hL hA => ?_)
          refine aw_iconst dX11_periodBegins_234 ?_
          refine aw_istore (ls' := [some (rf Γ 43), some _, some _, some _, none, some _, none, some _, none, some _, none]) dX11_periodBegins_235 (by decide) rfl ?_
          refine loopN (4) (P := fun z => ∀ (u : Int) (W4 : St), u = 4 + (z : Int) → VX V W4 → RgL W4 → Ag (tp3 (tpX A k) k z) (W4 0) →  AW Γ MX11_periodBegins _ _ (0, 0) 237 [some (rf Γ 43), some (vi g), some (vi (k : Int)), some (vl (cr A k)), none, some (vl (A 1 k)), none, some (vl y), none, some (vi u), none] [] (hp Γ S T U W4 G) nx) (fun z hz ihz => ?_) 0 (Nat.zero_le _) _ V233 (by omega) hX hL (by rw [tp3_0]; exact hA)
          intro u W4 i237_0 i237_1 i237_2 i237_3
          refine aw_iload dX11_periodBegins_237 rfl ?_
          replace hX := i237_1
          replace hL := i237_2
          replace hA := i237_3
          refine aw_bipush dX11_periodBegins_239 rfl ?_
          refine aw_icmp_gt (tgt := 262) dX11_periodBegins_241 rfl (by omega) (fun c241 => ?_) (fun c241 => ?_)
          · skip
            obtain rfl : z = 4 := by omega
            refine aw_iinc (ls' := [some (rf Γ 43), some _, some _, some _, none, some _, none, some _, none, some _, none]) dX11_periodBegins_262 rfl (by decide) rfl ?_
            refine aw_goto (tgt := 24) dX11_periodBegins_265 rfl ?_
            refine aw_fg [true, true, true, false, true, false, true, false, true, false, true] (ls' := [some (rf Γ 43), some _, some _, none, none, none, none, none, none, none, none]) rfl ?_
            exact ih (by omega)  W4 hX hL (perA1 hk4 hA)
          · skip
            refine aw_aload_n dX11_periodBegins_244 rfl ?_
            refine aw_getf fg_X11_9 dX11_periodBegins_245 (hc43 hnx) rfl ?_
            refine aw_iload_n dX11_periodBegins_248 rfl ?_
            refine aw_iload dX11_periodBegins_249 rfl ?_
            refine aw_callS (As := [_, _]) (ρ := (_, 0, 0)) (kn' := (0, 0)) cs_X11_40 dX11_periodBegins_251 rfl rfl (Nat.le_of_ble_eq_true rfl) (rmR _ _ _) ⟨Nat.le_refl _, Nat.le_refl _⟩ rfl (c_X11_originAt hnx  (fun r251 h251 => ?_))
            refine aw_lconst0 dX11_periodBegins_254 ?_
            refine aw_stA (f := 14) (i := (k : Int) * 8 + (4 + (z : Int))) (v := 0) dX11_periodBegins_255 hnx hX hL hA hb (un_14 sk (by omega)) (by decide) (by show _ = 16 + ((k : Int) * 8 + (4 + (z : Int))); omega) (by omega) (by omega) (fun V255 hX hL hA => ?_)
            refine aw_iinc (ls' := [some (rf Γ 43), some _, some _, some _, none, some _, none, some _, none, some _, none]) dX11_periodBegins_256 rfl (by decide) rfl ?_
            refine aw_goto (tgt := 237) dX11_periodBegins_259 rfl ?_
            exact ihz (by omega) _ V255 (by omega) hX hL (by rw [← tp3_s]; exact hA)
        · skip
          have sm_ : 0 ≤ (m : Int) ∧ (m : Int) < A 27 0 := by omega
          have hZ2 := tp2_Z (P := prdF A k) (o := k) (q := A 1 k) hZk (by omega) ht q1 (n := m) (by show m ≤ nIm A; omega)
          have sb := hP.1.shp (o := k) (q := A 1 k) (j := 4 * (m : Int) + k) (by omega) (by omega) ht q1
          refine aw_aload_n dX11_periodBegins_123 rfl ?_
          refine aw_iload dX11_periodBegins_124 rfl ?_
          refine aw_iload_n dX11_periodBegins_126 rfl ?_
          refine aw_lload dX11_periodBegins_127 rfl ?_
          refine aw_aload_n dX11_periodBegins_129 rfl ?_
          refine aw_getf fg_X11_9 dX11_periodBegins_130 (hc43 hnx) rfl ?_
          refine aw_iconst dX11_periodBegins_133 ?_
          refine aw_rdA (f := 0) (i := 0) (v := (A 0 0)) dX11_periodBegins_134 hnx hL hA hb (un_0 (by decide)) (by show _ = (0); omega) (rfl) (fun q134 => ?_)
          refine aw_callV (As := [_, _, _, _]) (ρ := (_, 0, 0)) (kn' := (0, 0)) cv_X11_189 dX11_periodBegins_135 rfl rfl (hc43 hnx) rfl rfl (Nat.le_of_ble_eq_true rfl) (rmR _ _ _) ⟨Nat.le_refl _, Nat.le_refl _⟩ rfl (c_X11_shareBy_m (A := tp2 (prdF A k) k (A 1 k) m) hnx hA hb hL hZ2 sm_ sk ht q1 (fun h => tp_pos hZk h5 sm_ (by omega) h) (fun r135 h135 => ?_))
          replace h135 : r135 = shp A k (A 1 k) (4 * (m : Int) + k) := h135.trans (tp_shr (prdF A k) sm_ (by omega))
          refine aw_istore (ls' := [some (rf Γ 43), some _, some _, some _, none, some _, none, some _, none, some _, some _]) dX11_periodBegins_138 (by decide) rfl ?_
          refine aw_aload_n dX11_periodBegins_140 rfl ?_
          refine aw_getf fg_X11_9 dX11_periodBegins_141 (hc43 hnx) rfl ?_
          refine aw_iload dX11_periodBegins_144 rfl ?_
          refine aw_iload_n dX11_periodBegins_146 rfl ?_
          refine aw_iconst dX11_periodBegins_147 ?_
          refine aw_callS (As := [_, _, _]) (ρ := (_, 0, 0)) (kn' := (0, 0)) cs_X11_44 dX11_periodBegins_148 rfl rfl (Nat.le_of_ble_eq_true rfl) (rmR _ _ _) ⟨Nat.le_refl _, Nat.le_refl _⟩ rfl (c_X11_pairAt hnx  (fun r148 h148 => ?_))
          refine aw_iload dX11_periodBegins_151 rfl ?_
          refine aw_i2l dX11_periodBegins_153 (by omega) ?_
          refine aw_stA (f := 16) (i := 4 * (m : Int) + k) (v := shp A k (A 1 k) (4 * (m : Int) + k)) dX11_periodBegins_154 hnx hX hL hA hb (un_16 hb sm_ sk) (by decide) (by show _ = 48 + 8 * (4 * (m : Int) + k) + 5; omega) (by omega) (by omega) (fun V154 hX hL hA => ?_)
          refine aw_aload_n dX11_periodBegins_155 rfl ?_
          refine aw_getf fg_X11_9 dX11_periodBegins_156 (hc43 hnx) rfl ?_
          refine aw_iload dX11_periodBegins_159 rfl ?_
          refine aw_iload_n dX11_periodBegins_161 rfl ?_
          refine aw_bipush dX11_periodBegins_162 rfl ?_
          refine aw_callS (As := [_, _, _]) (ρ := (_, 0, 0)) (kn' := (0, 0)) cs_X11_44 dX11_periodBegins_164 rfl rfl (Nat.le_of_ble_eq_true rfl) (rmR _ _ _) ⟨Nat.le_refl _, Nat.le_refl _⟩ rfl (c_X11_pairAt hnx  (fun r164 h164 => ?_))
          refine aw_iload dX11_periodBegins_167 rfl ?_
          refine aw_i2l dX11_periodBegins_169 (by omega) ?_
          refine aw_stA (f := 17) (i := 4 * (m : Int) + k) (v := shp A k (A 1 k) (4 * (m : Int) + k)) dX11_periodBegins_170 hnx hX hL hA hb (un_17 hb sm_ sk) (by decide) (by show _ = 48 + 8 * (4 * (m : Int) + k) + 6; omega) (by omega) (by omega) (fun V170 hX hL hA => ?_)
          refine aw_aload_n dX11_periodBegins_171 rfl ?_
          refine aw_getf fg_X11_9 dX11_periodBegins_172 (hc43 hnx) rfl ?_
          refine aw_iload dX11_periodBegins_175 rfl ?_
          refine aw_iload_n dX11_periodBegins_177 rfl ?_
          refine aw_bipush dX11_periodBegins_178 rfl ?_
          refine aw_callS (As := [_, _, _]) (ρ := (_, 0, 0)) (kn' := (0, 0)) cs_X11_44 dX11_periodBegins_180 rfl rfl (Nat.le_of_ble_eq_true rfl) (rmR _ _ _) ⟨Nat.le_refl _, Nat.le_refl _⟩ rfl (c_X11_pairAt hnx  (fun r180 h180 => ?_))
          refine aw_lconst0 dX11_periodBegins_183 ?_
          refine aw_stA (f := 18) (i := 4 * (m : Int) + k) (v := 0) dX11_periodBegins_184 hnx hX hL hA hb (un_18 hb sm_ sk) (by decide) (by show _ = 48 + 8 * (4 * (m : Int) + k) + 7; omega) (by omega) (by omega) (fun V184 hX hL hA => ?_)
          refine aw_lload dX11_periodBegins_185 rfl ?_
          refine aw_iload dX11_periodBegins_187 rfl ?_
          refine aw_i2l dX11_periodBegins_189 (by omega) ?_
          refine aw_lsub dX11_periodBegins_190 ?_
          refine aw_nmL (fun x7_191 hx7_191 => ?_)
          refine aw_lstore (ls' := [some (rf Γ 43), some _, some _, some _, none, some _, none, some _, none, some _, some _]) dX11_periodBegins_191 (by decide) rfl ?_
          refine aw_iinc (ls' := [some (rf Γ 43), some _, some _, some _, none, some _, none, some _, none, some _, some _]) dX11_periodBegins_193 rfl (by decide) rfl ?_
          refine aw_goto (tgt := 112) dX11_periodBegins_196 rfl ?_
          refine aw_fg [true, true, true, true, true, true, true, true, true, true, false] (ls' := [some (rf Γ 43), some _, some _, some _, none, some _, none, some _, none, some _, none]) rfl ?_
          exact ihm (by omega) x7_191 V184 (by unfold prt at i112_0 ⊢; rw [sm]; show _ = _ - (_ + shp A k (A 1 k) (4 * (m : Int) + k)); omega) hX hL (by have e := tp2_s (prdF A k) k (A 1 k) m (v := shp A k (A 1 k) (4 * (m : Int) + k)) (by omega) rfl; rw [← e]; exact hA)
      · skip
        have sj : 0 ≤ (j : Int) ∧ (j : Int) < A 27 0 := by omega
        refine aw_aload_n dX11_periodBegins_74 rfl ?_
        refine aw_getf fg_X11_9 dX11_periodBegins_75 (hc43 hnx) rfl ?_
        refine aw_iload dX11_periodBegins_78 rfl ?_
        refine aw_iload_n dX11_periodBegins_80 rfl ?_
        refine aw_iconst dX11_periodBegins_81 ?_
        refine aw_callS (As := [_, _, _]) (ρ := (_, 0, 0)) (kn' := (0, 0)) cs_X11_44 dX11_periodBegins_82 rfl rfl (Nat.le_of_ble_eq_true rfl) (rmR _ _ _) ⟨Nat.le_refl _, Nat.le_refl _⟩ rfl (c_X11_pairAt hnx  (fun r82 h82 => ?_))
        refine aw_aload_n dX11_periodBegins_85 rfl ?_
        refine aw_iload dX11_periodBegins_86 rfl ?_
        refine aw_iload_n dX11_periodBegins_88 rfl ?_
        refine aw_callV (As := [_, _]) (ρ := (_, 0, 0)) (kn' := (0, 0)) cv_X11_185 dX11_periodBegins_89 rfl rfl (hc43 hnx) rfl rfl (Nat.le_of_ble_eq_true rfl) (rmR _ _ _) ⟨Nat.le_refl _, Nat.le_refl _⟩ rfl (c_X11_isTraditional_m (A := tp1 (prdF A k) k j) hnx hA hb hL (tp1_R hRk _ _) sj sk (fun r89 h89 => ?_))
        replace h89 : r89 = 1 ∧ prdF A k 0 5 ≤ yws (prdF A k) (4 * (j : Int) + k) ∨ r89 = 0 ∧ ¬ (prdF A k 0 5 ≤ yws (prdF A k) (4 * (j : Int) + k)) := h89
        refine aw_callS (As := [_]) (ρ := (_, 0, 0)) (kn' := (0, 0)) cs_X11_122 dX11_periodBegins_92 rfl rfl (Nat.le_of_ble_eq_true rfl) (rmR _ _ _) ⟨Nat.le_refl _, Nat.le_refl _⟩ rfl (c_X11_truth hnx (by omega) (fun r92 h92 => ?_))
        refine aw_i2l dX11_periodBegins_95 (by omega) ?_
        refine aw_stA (f := 15) (i := 4 * (j : Int) + k) (v := srt (prdF A k) (4 * (j : Int) + k)) dX11_periodBegins_96 hnx hX hL hA hb (un_15 hb sj sk) (by decide) (by show _ = 48 + 8 * (4 * (j : Int) + k) + 4; omega) (by unfold srt; split <;> omega) (by unfold srt; split <;> exact ⟨by decide, by decide⟩) (fun V96 hX hL hA => ?_)
        refine aw_iinc (ls' := [some (rf Γ 43), some _, some _, some _, none, some _, none, some _, none, none, none]) dX11_periodBegins_97 rfl (by decide) rfl ?_
        refine aw_goto (tgt := 63) dX11_periodBegins_100 rfl ?_
        exact ihj (by omega)  V96 hX hL (by rw [← tp1_s (prdF A k) k j (by omega) rfl]; exact hA)
    · skip
      refine aw_lconst0 dX11_periodBegins_38 ?_
      refine aw_goto (tgt := 47) dX11_periodBegins_39 rfl ?_
      refine aw_svl (a := cr A k) ((by first | (have w : A 25 0 % 360 = 0 := (by omega); unfold cr; rw [if_pos w]) | (have w : ¬ A 25 0 % 360 = 0 := (by omega); unfold cr; rw [if_neg w, h44]; exact (prd_left A k hk4).symm))) ?_
      refine aw_lstore_n (ls' := [some (rf Γ 43), some _, some _, some _, none, none, none, none, none, none, none]) dX11_periodBegins_47 (by decide) rfl ?_
      refine aw_aload_n dX11_periodBegins_48 rfl ?_
      refine aw_getf fg_X11_9 dX11_periodBegins_49 (hc43 hnx) rfl ?_
      refine aw_iload_n dX11_periodBegins_52 rfl ?_
      refine aw_iconst dX11_periodBegins_53 ?_
      refine aw_callS (As := [_, _]) (ρ := (_, 0, 0)) (kn' := (0, 0)) cs_X11_40 dX11_periodBegins_54 rfl rfl (Nat.le_of_ble_eq_true rfl) (rmR _ _ _) ⟨Nat.le_refl _, Nat.le_refl _⟩ rfl (c_X11_originAt hnx  (fun r54 h54 => ?_))
      refine aw_rdA (f := 1) (i := (k : Int)) (v := (A 1 k)) dX11_periodBegins_57 hnx hL hA hb (un_1 sk) (by show _ = 16 + 8 * ((k : Int)); omega) (rfl) (fun q57 => ?_)
      refine aw_lstore (ls' := [some (rf Γ 43), some _, some _, some _, none, some _, none, none, none, none, none]) dX11_periodBegins_58 (by decide) rfl ?_
      refine aw_iconst dX11_periodBegins_60 ?_
      refine aw_istore (ls' := [some (rf Γ 43), some _, some _, some _, none, some _, none, some _, none, none, none]) dX11_periodBegins_61 (by decide) rfl ?_
      refine loopN (nIm A) (P := fun j => ∀  (W2 : St), VX V W2 → RgL W2 → Ag (tp1 (prdF A k) k j) (W2 0) →  AW Γ MX11_periodBegins _ _ (0, 0) 63 [some (rf Γ 43), some (vi g), some (vi (k : Int)), some (vl (cr A k)), none, some (vl (A 1 k)), none, some (vi (j : Int)), none, none, none] [] (hp Γ S T U W2 G) nx) (fun j hj ihj => ?_) 0 (Nat.zero_le _) W hX hL (by rw [tp1_0]; exact hA)
      intro  W2 i63_0 i63_1 i63_2
      refine aw_iload dX11_periodBegins_63 rfl ?_
      replace hX := i63_0
      replace hL := i63_1
      replace hA := i63_2
      refine aw_aload_n dX11_periodBegins_65 rfl ?_
      refine aw_bipush dX11_periodBegins_66 rfl ?_
      refine aw_callV (As := [_]) (ρ := (_, 0, 0)) (kn' := (0, 0)) cv_X11_164 dX11_periodBegins_68 rfl rfl (hc43 hnx) rfl rfl (Nat.le_of_ble_eq_true rfl) (rmR _ _ _) ⟨Nat.le_refl _, Nat.le_refl _⟩ rfl (c_X11_many hnx hL (by omega) (fun r68 h68 => ?_))
      replace h68 : r68 = A 27 0 := h68.trans hA.c7
      refine aw_icmp_ge (tgt := 103) dX11_periodBegins_71 rfl (by omega) (fun c71 => ?_) (fun c71 => ?_)
      · skip
        obtain rfl : j = nIm A := by omega
        refine aw_lload dX11_periodBegins_103 rfl ?_
        refine aw_lload_n dX11_periodBegins_105 rfl ?_
        refine aw_ladd dX11_periodBegins_106 ?_
        refine aw_nmL (fun x7_107 hx7_107 => ?_)
        refine aw_lstore (ls' := [some (rf Γ 43), some _, some _, some _, none, some _, none, some _, none, none, none]) dX11_periodBegins_107 (by decide) rfl ?_
        refine aw_iconst dX11_periodBegins_109 ?_
        refine aw_istore (ls' := [some (rf Γ 43), some _, some _, some _, none, some _, none, some _, none, some _, none]) dX11_periodBegins_110 (by decide) rfl ?_
        refine loopN (nIm A) (P := fun m => ∀ (y : Int) (W3 : St), y = A 1 k + cr A k - prt A k (A 1 k) m → VX V W3 → RgL W3 → Ag (tp2 (prdF A k) k (A 1 k) m) (W3 0) →  AW Γ MX11_periodBegins _ _ (0, 0) 112 [some (rf Γ 43), some (vi g), some (vi (k : Int)), some (vl (cr A k)), none, some (vl (A 1 k)), none, some (vl y), none, some (vi (m : Int)), none] [] (hp Γ S T U W3 G) nx) (fun m hm ihm => ?_) 0 (Nat.zero_le _) _ W2 (by unfold prt; rw [sm]; omega) hX hL (by rw [tp2_0]; exact hA)
        intro y W3 i112_0 i112_1 i112_2 i112_3
        refine aw_iload dX11_periodBegins_112 rfl ?_
        replace hX := i112_1
        replace hL := i112_2
        replace hA := i112_3
        refine aw_aload_n dX11_periodBegins_114 rfl ?_
        refine aw_bipush dX11_periodBegins_115 rfl ?_
        refine aw_callV (As := [_]) (ρ := (_, 0, 0)) (kn' := (0, 0)) cv_X11_164 dX11_periodBegins_117 rfl rfl (hc43 hnx) rfl rfl (Nat.le_of_ble_eq_true rfl) (rmR _ _ _) ⟨Nat.le_refl _, Nat.le_refl _⟩ rfl (c_X11_many hnx hL (by omega) (fun r117 h117 => ?_))
        replace h117 : r117 = A 27 0 := h117.trans hA.c7
        refine aw_icmp_ge (tgt := 199) dX11_periodBegins_120 rfl (by omega) (fun c120 => ?_) (fun c120 => ?_)
        · skip
          obtain rfl : m = nIm A := by omega
          have pz := prt_rg hP.1 (o := k) (q := A 1 k) (by omega) ht q1 (nIm A) (by omega)
          refine aw_aload_n dX11_periodBegins_199 rfl ?_
          refine aw_getf fg_X11_9 dX11_periodBegins_200 (hc43 hnx) rfl ?_
          refine aw_iload_n dX11_periodBegins_203 rfl ?_
          refine aw_iconst dX11_periodBegins_204 ?_
          refine aw_callS (As := [_, _]) (ρ := (_, 0, 0)) (kn' := (0, 0)) cs_X11_40 dX11_periodBegins_205 rfl rfl (Nat.le_of_ble_eq_true rfl) (rmR _ _ _) ⟨Nat.le_refl _, Nat.le_refl _⟩ rfl (c_X11_originAt hnx  (fun r205 h205 => ?_))
          refine aw_lload dX11_periodBegins_208 rfl ?_
          refine aw_stA (f := 14) (i := (k : Int) * 8 + 1) (v := A 1 k) dX11_periodBegins_210 hnx hX hL hA hb (un_14 sk (by decide)) (by decide) (by show _ = 16 + ((k : Int) * 8 + 1); omega) (by omega) (by omega) (fun V210 hX hL hA => ?_)
          refine aw_aload_n dX11_periodBegins_211 rfl ?_
          refine aw_getf fg_X11_9 dX11_periodBegins_212 (hc43 hnx) rfl ?_
          refine aw_iload_n dX11_periodBegins_215 rfl ?_
          refine aw_iconst dX11_periodBegins_216 ?_
          refine aw_callS (As := [_, _]) (ρ := (_, 0, 0)) (kn' := (0, 0)) cs_X11_40 dX11_periodBegins_217 rfl rfl (Nat.le_of_ble_eq_true rfl) (rmR _ _ _) ⟨Nat.le_refl _, Nat.le_refl _⟩ rfl (c_X11_originAt hnx  (fun r217 h217 => ?_))
          refine aw_lload_n dX11_periodBegins_220 rfl ?_
          refine aw_stA (f := 14) (i := (k : Int) * 8 + 2) (v := cr A k) dX11_periodBegins_221 hnx hX hL hA hb (un_14 sk (by decide)) (by decide) (by show _ = 16 + ((k : Int) * 8 + 2); omega) (by omega) (by omega) (fun V221 hX hL hA => ?_)
          refine aw_aload_n dX11_periodBegins_222 rfl ?_
          refine aw_getf fg_X11_9 dX11_periodBegins_223 (hc43 hnx) rfl ?_
          refine aw_iload_n dX11_periodBegins_226 rfl ?_
          refine aw_iconst dX11_periodBegins_227 ?_
          refine aw_callS (As := [_, _]) (ρ := (_, 0, 0)) (kn' := (0, 0)) cs_X11_40 dX11_periodBegins_228 rfl rfl (Nat.le_of_ble_eq_true rfl) (rmR _ _ _) ⟨Nat.le_refl _, Nat.le_refl _⟩ rfl (c_X11_originAt hnx  (fun r228 h228 => ?_))
          refine aw_lload dX11_periodBegins_231 rfl ?_
          refine aw_stA (f := 14) (i := (k : Int) * 8 + 3) (v := A 1 k + cr A k - prt A k (A 1 k) (nIm A)) dX11_periodBegins_233 hnx hX hL hA hb (un_14 sk (by decide)) (by decide) (by show _ = 16 + ((k : Int) * 8 + 3); omega) (by omega) (by omega) (fun V233 hX hL hA => ?_)
          refine aw_iconst dX11_periodBegins_234 ?_
          refine aw_istore (ls' := [some (rf Γ 43), some _, some _, some _, none, some _, none, some _, none, some _, none]) dX11_periodBegins_235 (by decide) rfl ?_
          refine loopN (4) (P := fun z => ∀ (u : Int) (W4 : St), u = 4 + (z : Int) → VX V W4 → RgL W4 → Ag (tp3 (tpX A k) k z) (W4 0) →  AW Γ MX11_periodBegins _ _ (0, 0) 237 [some (rf Γ 43), some (vi g), some (vi (k : Int)), some (vl (cr A k)), none, some (vl (A 1 k)), none, some (vl y), none, some (vi u), none] [] (hp Γ S T U W4 G) nx) (fun z hz ihz => ?_) 0 (Nat.zero_le _) _ V233 (by omega) hX hL (by rw [tp3_0]; exact hA)
          intro u W4 i237_0 i237_1 i237_2 i237_3
          refine aw_iload dX11_periodBegins_237 rfl ?_
          replace hX := i237_1
          replace hL := i237_2
          replace hA := i237_3
          refine aw_bipush dX11_periodBegins_239 rfl ?_
          refine aw_icmp_gt (tgt := 262) dX11_periodBegins_241 rfl (by omega) (fun c241 => ?_) (fun c241 => ?_)
          · skip
            obtain rfl : z = 4 := by omega
            refine aw_iinc (ls' := [some (rf Γ 43), some _, some _, some _, none, some _, none, some _, none, some _, none]) dX11_periodBegins_262 rfl (by decide) rfl ?_
            refine aw_goto (tgt := 24) dX11_periodBegins_265 rfl ?_
            refine aw_fg [true, true, true, false, true, false, true, false, true, false, true] (ls' := [some (rf Γ 43), some _, some _, none, none, none, none, none, none, none, none]) rfl ?_
            exact ih (by omega)  W4 hX hL (perA1 hk4 hA)
          · skip
            refine aw_aload_n dX11_periodBegins_244 rfl ?_
            refine aw_getf fg_X11_9 dX11_periodBegins_245 (hc43 hnx) rfl ?_
            refine aw_iload_n dX11_periodBegins_248 rfl ?_
            refine aw_iload dX11_periodBegins_249 rfl ?_
            refine aw_callS (As := [_, _]) (ρ := (_, 0, 0)) (kn' := (0, 0)) cs_X11_40 dX11_periodBegins_251 rfl rfl (Nat.le_of_ble_eq_true rfl) (rmR _ _ _) ⟨Nat.le_refl _, Nat.le_refl _⟩ rfl (c_X11_originAt hnx  (fun r251 h251 => ?_))
            refine aw_lconst0 dX11_periodBegins_254 ?_
            refine aw_stA (f := 14) (i := (k : Int) * 8 + (4 + (z : Int))) (v := 0) dX11_periodBegins_255 hnx hX hL hA hb (un_14 sk (by omega)) (by decide) (by show _ = 16 + ((k : Int) * 8 + (4 + (z : Int))); omega) (by omega) (by omega) (fun V255 hX hL hA => ?_)
            refine aw_iinc (ls' := [some (rf Γ 43), some _, some _, some _, none, some _, none, some _, none, some _, none]) dX11_periodBegins_256 rfl (by decide) rfl ?_
            refine aw_goto (tgt := 237) dX11_periodBegins_259 rfl ?_
            exact ihz (by omega) _ V255 (by omega) hX hL (by rw [← tp3_s]; exact hA)
        · skip
          have sm_ : 0 ≤ (m : Int) ∧ (m : Int) < A 27 0 := by omega
          have hZ2 := tp2_Z (P := prdF A k) (o := k) (q := A 1 k) hZk (by omega) ht q1 (n := m) (by show m ≤ nIm A; omega)
          have sb := hP.1.shp (o := k) (q := A 1 k) (j := 4 * (m : Int) + k) (by omega) (by omega) ht q1
          refine aw_aload_n dX11_periodBegins_123 rfl ?_
          refine aw_iload dX11_periodBegins_124 rfl ?_
          refine aw_iload_n dX11_periodBegins_126 rfl ?_
          refine aw_lload dX11_periodBegins_127 rfl ?_
          refine aw_aload_n dX11_periodBegins_129 rfl ?_
          refine aw_getf fg_X11_9 dX11_periodBegins_130 (hc43 hnx) rfl ?_
          refine aw_iconst dX11_periodBegins_133 ?_
          refine aw_rdA (f := 0) (i := 0) (v := (A 0 0)) dX11_periodBegins_134 hnx hL hA hb (un_0 (by decide)) (by show _ = (0); omega) (rfl) (fun q134 => ?_)
          refine aw_callV (As := [_, _, _, _]) (ρ := (_, 0, 0)) (kn' := (0, 0)) cv_X11_189 dX11_periodBegins_135 rfl rfl (hc43 hnx) rfl rfl (Nat.le_of_ble_eq_true rfl) (rmR _ _ _) ⟨Nat.le_refl _, Nat.le_refl _⟩ rfl (c_X11_shareBy_m (A := tp2 (prdF A k) k (A 1 k) m) hnx hA hb hL hZ2 sm_ sk ht q1 (fun h => tp_pos hZk h5 sm_ (by omega) h) (fun r135 h135 => ?_))
          replace h135 : r135 = shp A k (A 1 k) (4 * (m : Int) + k) := h135.trans (tp_shr (prdF A k) sm_ (by omega))
          refine aw_istore (ls' := [some (rf Γ 43), some _, some _, some _, none, some _, none, some _, none, some _, some _]) dX11_periodBegins_138 (by decide) rfl ?_
          refine aw_aload_n dX11_periodBegins_140 rfl ?_
          refine aw_getf fg_X11_9 dX11_periodBegins_141 (hc43 hnx) rfl ?_
          refine aw_iload dX11_periodBegins_144 rfl ?_
          refine aw_iload_n dX11_periodBegins_146 rfl ?_
          refine aw_iconst dX11_periodBegins_147 ?_
          refine aw_callS (As := [_, _, _]) (ρ := (_, 0, 0)) (kn' := (0, 0)) cs_X11_44 dX11_periodBegins_148 rfl rfl (Nat.le_of_ble_eq_true rfl) (rmR _ _ _) ⟨Nat.le_refl _, Nat.le_refl _⟩ rfl (c_X11_pairAt hnx  (fun r148 h148 => ?_))
          refine aw_iload dX11_periodBegins_151 rfl ?_
          refine aw_i2l dX11_periodBegins_153 (by omega) ?_
          refine aw_stA (f := 16) (i := 4 * (m : Int) + k) (v := shp A k (A 1 k) (4 * (m : Int) + k)) dX11_periodBegins_154 hnx hX hL hA hb (un_16 hb sm_ sk) (by decide) (by show _ = 48 + 8 * (4 * (m : Int) + k) + 5; omega) (by omega) (by omega) (fun V154 hX hL hA => ?_)
          refine aw_aload_n dX11_periodBegins_155 rfl ?_
          refine aw_getf fg_X11_9 dX11_periodBegins_156 (hc43 hnx) rfl ?_
          refine aw_iload dX11_periodBegins_159 rfl ?_
          refine aw_iload_n dX11_periodBegins_161 rfl ?_
          refine aw_bipush dX11_periodBegins_162 rfl ?_
          refine aw_callS (As := [_, _, _]) (ρ := (_, 0, 0)) (kn' := (0, 0)) cs_X11_44 dX11_periodBegins_164 rfl rfl (Nat.le_of_ble_eq_true rfl) (rmR _ _ _) ⟨Nat.le_refl _, Nat.le_refl _⟩ rfl (c_X11_pairAt hnx  (fun r164 h164 => ?_))
          refine aw_iload dX11_periodBegins_167 rfl ?_
          refine aw_i2l dX11_periodBegins_169 (by omega) ?_
          refine aw_stA (f := 17) (i := 4 * (m : Int) + k) (v := shp A k (A 1 k) (4 * (m : Int) + k)) dX11_periodBegins_170 hnx hX hL hA hb (un_17 hb sm_ sk) (by decide) (by show _ = 48 + 8 * (4 * (m : Int) + k) + 6; omega) (by omega) (by omega) (fun V170 hX hL hA => ?_)
          refine aw_aload_n dX11_periodBegins_171 rfl ?_
          refine aw_getf fg_X11_9 dX11_periodBegins_172 (hc43 hnx) rfl ?_
          refine aw_iload dX11_periodBegins_175 rfl ?_
          refine aw_iload_n dX11_periodBegins_177 rfl ?_
          refine aw_bipush dX11_periodBegins_178 rfl ?_
          refine aw_callS (As := [_, _, _]) (ρ := (_, 0, 0)) (kn' := (0, 0)) cs_X11_44 dX11_periodBegins_180 rfl rfl (Nat.le_of_ble_eq_true rfl) (rmR _ _ _) ⟨Nat.le_refl _, Nat.le_refl _⟩ rfl (c_X11_pairAt hnx  (fun r180 h180 => ?_))
          refine aw_lconst0 dX11_periodBegins_183 ?_
          refine aw_stA (f := 18) (i := 4 * (m : Int) + k) (v := 0) dX11_periodBegins_184 hnx hX hL hA hb (un_18 hb sm_ sk) (by decide) (by show _ = 48 + 8 * (4 * (m : Int) + k) + 7; omega) (by omega) (by omega) (fun V184 hX hL hA => ?_)
          refine aw_lload dX11_periodBegins_185 rfl ?_
          refine aw_iload dX11_periodBegins_187 rfl ?_
          refine aw_i2l dX11_periodBegins_189 (by omega) ?_
          refine aw_lsub dX11_periodBegins_190 ?_
          refine aw_nmL (fun x7_191 hx7_191 => ?_)
          refine aw_lstore (ls' := [some (rf Γ 43), some _, some _, some _, none, some _, none, some _, none, some _, some _]) dX11_periodBegins_191 (by decide) rfl ?_
          refine aw_iinc (ls' := [some (rf Γ 43), some _, some _, some _, none, some _, none, some _, none, some _, some _]) dX11_periodBegins_193 rfl (by decide) rfl ?_
          refine aw_goto (tgt := 112) dX11_periodBegins_196 rfl ?_
          refine aw_fg [true, true, true, true, true, true, true, true, true, true, false] (ls' := [some (rf Γ 43), some _, some _, some _, none, some _, none, some _, none, some _, none]) rfl ?_
          exact ihm (by omega) x7_191 V184 (by unfold prt at i112_0 ⊢; rw [sm]; show _ = _ - (_ + shp A k (A 1 k) (4 * (m : Int) + k)); omega) hX hL (by have e := tp2_s (prdF A k) k (A 1 k) m (v := shp A k (A 1 k) (4 * (m : Int) + k)) (by omega) rfl; rw [← e]; exact hA)
      · skip
        have sj : 0 ≤ (j : Int) ∧ (j : Int) < A 27 0 := by omega
        refine aw_aload_n dX11_periodBegins_74 rfl ?_
        refine aw_getf fg_X11_9 dX11_periodBegins_75 (hc43 hnx) rfl ?_
        refine aw_iload dX11_periodBegins_78 rfl ?_
        refine aw_iload_n dX11_periodBegins_80 rfl ?_
        refine aw_iconst dX11_periodBegins_81 ?_
        refine aw_callS (As := [_, _, _]) (ρ := (_, 0, 0)) (kn' := (0, 0)) cs_X11_44 dX11_periodBegins_82 rfl rfl (Nat.le_of_ble_eq_true rfl) (rmR _ _ _) ⟨Nat.le_refl _, Nat.le_refl _⟩ rfl (c_X11_pairAt hnx  (fun r82 h82 => ?_))
        refine aw_aload_n dX11_periodBegins_85 rfl ?_
        refine aw_iload dX11_periodBegins_86 rfl ?_
        refine aw_iload_n dX11_periodBegins_88 rfl ?_
        refine aw_callV (As := [_, _]) (ρ := (_, 0, 0)) (kn' := (0, 0)) cv_X11_185 dX11_periodBegins_89 rfl rfl (hc43 hnx) rfl rfl (Nat.le_of_ble_eq_true rfl) (rmR _ _ _) ⟨Nat.le_refl _, Nat.le_refl _⟩ rfl (c_X11_isTraditional_m (A := tp1 (prdF A k) k j) hnx hA hb hL (tp1_R hRk _ _) sj sk (fun r89 h89 => ?_))
        replace h89 : r89 = 1 ∧ prdF A k 0 5 ≤ yws (prdF A k) (4 * (j : Int) + k) ∨ r89 = 0 ∧ ¬ (prdF A k 0 5 ≤ yws (prdF A k) (4 * (j : Int) + k)) := h89
        refine aw_callS (As := [_]) (ρ := (_, 0, 0)) (kn' := (0, 0)) cs_X11_122 dX11_periodBegins_92 rfl rfl (Nat.le_of_ble_eq_true rfl) (rmR _ _ _) ⟨Nat.le_refl _, Nat.le_refl _⟩ rfl (c_X11_truth hnx (by omega) (fun r92 h92 => ?_))
        refine aw_i2l dX11_periodBegins_95 (by omega) ?_
        refine aw_stA (f := 15) (i := 4 * (j : Int) + k) (v := srt (prdF A k) (4 * (j : Int) + k)) dX11_periodBegins_96 hnx hX hL hA hb (un_15 hb sj sk) (by decide) (by show _ = 48 + 8 * (4 * (j : Int) + k) + 4; omega) (by unfold srt; split <;> omega) (by unfold srt; split <;> exact ⟨by decide, by decide⟩) (fun V96 hX hL hA => ?_)
        refine aw_iinc (ls' := [some (rf Γ 43), some _, some _, some _, none, some _, none, some _, none, none, none]) dX11_periodBegins_97 rfl (by decide) rfl ?_
        refine aw_goto (tgt := 63) dX11_periodBegins_100 rfl ?_
        exact ihj (by omega)  V96 hX hL (by rw [← tp1_s (prdF A k) k j (by omega) rfl]; exact hA)

set_option maxHeartbeats 1000000 in
theorem c_X11_periodBegins {Γ : GT} {S T U V A : St} {G : Gw} {nx d : Nat} {Q : QT} (hnx : 52 ≤ nx) (hA : Ag A (V 0)) (hb : bd A) (hL : RgL V) (hP : InvP A) (h5 : 1 ≤ A 0 5)  (hQ : ∀ V2, VX V V2 → RgL V2 → Ag (prdF A (nOr A)) (V2 0) → Q none (hp Γ S T U V2 G) nx) : AM Γ MX11_periodBegins (d + 4, 0, 0) [rf Γ 43] (hp Γ S T U V G) nx Q := by
  refine am_of (by decide) (Nat.le_of_ble_eq_true rfl) (ls := [some (rf Γ 43), none, none, none, none, none, none, none, none, none, none]) rfl ?_
  have dy := hP.2.2.2.1
  refine aw_aload_n dX11_periodBegins_0 rfl ?_
  refine aw_getf fg_X11_9 dX11_periodBegins_1 (hc43 hnx) rfl ?_
  refine aw_bipush dX11_periodBegins_4 rfl ?_
  refine aw_rdA (f := 25) (i := 0) (v := A 25 0) dX11_periodBegins_6 hnx hL hA hb (un_25) (by show _ = (9 : Int); omega) (rfl) (fun q6 => ?_)
  refine aw_ldc2 dX11_periodBegins_7 qk_X11_180 ?_
  refine aw_st (st' := vl 360 :: _) rfl ?_
  refine aw_lrem dX11_periodBegins_10 (by omega) (by omega) ?_
  refine aw_lconst0 dX11_periodBegins_11 ?_
  refine aw_lif_ne (tgt := 20) dX11_periodBegins_12 dX11_periodBegins_13 rfl (by omega) (fun c12 => ?_) (fun c12 => ?_)
  · skip
    refine aw_iconst dX11_periodBegins_20 ?_
    refine aw_istore_n (ls' := [some (rf Γ 43), some _, none, none, none, none, none, none, none, none, none]) dX11_periodBegins_21 (by decide) rfl ?_
    exact t_X11_periodBegins (g := 0) hnx hA hb hL hP h5 (Or.inr ⟨rfl, by omega⟩) hQ
  · skip
    refine aw_iconst dX11_periodBegins_16 ?_
    refine aw_goto (tgt := 21) dX11_periodBegins_17 rfl ?_
    refine aw_istore_n (ls' := [some (rf Γ 43), some _, none, none, none, none, none, none, none, none, none]) dX11_periodBegins_21 (by decide) rfl ?_
    exact t_X11_periodBegins (g := 1) hnx hA hb hL hP h5 (Or.inl ⟨rfl, by omega⟩) hQ


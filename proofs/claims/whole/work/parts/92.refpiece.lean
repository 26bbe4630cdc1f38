/-! the reference: what it has heard, piece by piece -/
def HR (A : St) (h : Int → Int) : Prop := (∀ w : Int, 0 ≤ w → w < 6 → h w = A 0 w) ∧ h 6 = A 26 0 ∧ h 7 = A 27 0 ∧ (∀ x : Int, 0 ≤ x → x < A 26 0 → h (16 + 8 * x) = A 1 x) ∧ (∀ k : Int, 0 ≤ k → k < 96 → h (48 + 8 * (k / 3) + k % 3) = A 2 k) ∧ (∀ k : Int, 8 ≤ k → k < 1216 → ¬ (16 ≤ k ∧ k < 48 ∧ k % 8 = 0) → ¬ (48 ≤ k ∧ k < 304 ∧ k % 8 < 3) → h k = 0)
theorem HR.trm {A : St} {h : Int → Int} (H : HR A h) {k v : Int} (hk : 0 ≤ k ∧ k < 6) : HR (u1 A 0 k v) (uz h k v) := by
  refine ⟨fun w h0 h1 => ?_, ?_, ?_, fun x h0 h1 => ?_, fun j h0 h1 => ?_, fun j h0 h1 h2 h3 => ?_⟩
  · rw [u1_at]
    by_cases e : w = k
    · rw [e, uz_s, if_pos ⟨rfl, rfl⟩]
    · rw [uz_n _ _ e, if_neg (fun z => e z.2)]; exact H.1 w h0 h1
  · rw [uz_n _ _ (by omega)]; exact H.2.1
  · rw [uz_n _ _ (by omega)]; exact H.2.2.1
  · rw [uz_n _ _ (by omega)]; exact H.2.2.2.1 x h0 h1
  · rw [uz_n _ _ (by omega)]; exact H.2.2.2.2.1 j h0 h1
  · rw [uz_n _ _ (by omega)]; exact H.2.2.2.2.2 j h0 h1 h2 h3
theorem HR.org {A : St} {h : Int → Int} (H : HR A h) {v : Int} (ho : 0 ≤ A 26 0 ∧ A 26 0 < 4) : HR (u0 (u1 A 1 (A 26 0) v) 26 (A 26 0 + 1)) (uz (uz h (16 + 8 * A 26 0 + 0) v) 6 (A 26 0 + 1)) := by
  refine ⟨fun w h0 h1 => ?_, ?_, ?_, fun x h0 h1 => ?_, fun j h0 h1 => ?_, fun j h0 h1 h2 h3 => ?_⟩
  · rw [uz_n _ _ (by omega), uz_n _ _ (by omega)]; exact H.1 w h0 h1
  · exact uz_s _ _ _
  · rw [uz_n _ _ (by omega), uz_n _ _ (by omega)]; exact H.2.2.1
  · have h2 : x < A 26 0 + 1 := h1
    rw [uz_n _ _ (by omega)]
    show _ = u1 A 1 (A 26 0) v 1 x
    rw [u1_at]
    by_cases e : x = A 26 0
    · rw [if_pos ⟨rfl, e⟩, show 16 + 8 * x = 16 + 8 * A 26 0 + 0 by omega, uz_s]
    · rw [if_neg (fun z => e z.2), uz_n _ _ (by omega)]; exact H.2.2.2.1 x h0 (by omega)
  · rw [uz_n _ _ (by omega), uz_n _ _ (by omega)]; exact H.2.2.2.2.1 j h0 h1
  · rw [uz_n _ _ (by omega), uz_n _ _ (by omega)]; exact H.2.2.2.2.2 j h0 h1 h2 h3
theorem HR.imp {A : St} {h : Int → Int} (H : HR A h) {v : Int} : HR (u0 A 27 v) (uz h 7 v) := by
  refine ⟨fun w h0 h1 => ?_, ?_, ?_, fun x h0 h1 => ?_, fun j h0 h1 => ?_, fun j h0 h1 h2 h3 => ?_⟩
  · rw [uz_n _ _ (by omega)]; exact H.1 w h0 h1
  · rw [uz_n _ _ (by omega)]; exact H.2.1
  · exact uz_s _ _ _
  · rw [uz_n _ _ (by omega)]; exact H.2.2.2.1 x h0 h1
  · rw [uz_n _ _ (by omega)]; exact H.2.2.2.2.1 j h0 h1
  · rw [uz_n _ _ (by omega)]; exact H.2.2.2.2.2 j h0 h1 h2 h3
theorem HR.pst {A : St} {h : Int → Int} (H : HR A h) {P x y z : Int} (hP : 0 ≤ P ∧ P < 32) (h4 : A 26 0 ≤ 4) : HR (u1 (u1 (u1 A 2 (P * 3 + 2) x) 2 (P * 3 + 1) y) 2 (P * 3 + 0) z) (uz (uz (uz h (48 + 8 * P + 0) z) (48 + 8 * P + 1) y) (48 + 8 * P + 2) x) := by
  refine ⟨fun w h0 h1 => ?_, ?_, ?_, fun x h0 h1 => ?_, fun j h0 h1 => ?_, fun j h0 h1 h2 h3 => ?_⟩
  · rw [uz_n _ _ (by omega), uz_n _ _ (by omega), uz_n _ _ (by omega)]; exact H.1 w h0 h1
  · rw [uz_n _ _ (by omega), uz_n _ _ (by omega), uz_n _ _ (by omega)]; exact H.2.1
  · rw [uz_n _ _ (by omega), uz_n _ _ (by omega), uz_n _ _ (by omega)]; exact H.2.2.1
  · have h2 : x < A 26 0 := h1
    rw [uz_n _ _ (by omega), uz_n _ _ (by omega), uz_n _ _ (by omega)]; exact H.2.2.2.1 x h0 h1
  · rw [u1_at, u1_at, u1_at]
    by_cases e2 : j = P * 3 + 2
    · rw [if_neg (by omega), if_neg (by omega), if_pos ⟨rfl, e2⟩, show 48 + 8 * (j / 3) + j % 3 = 48 + 8 * P + 2 by omega, uz_s]
    · by_cases e1 : j = P * 3 + 1
      · rw [if_neg (by omega), if_pos ⟨rfl, e1⟩, show 48 + 8 * (j / 3) + j % 3 = 48 + 8 * P + 1 by omega, uz_n _ _ (by omega), uz_s]
      · by_cases e0 : j = P * 3 + 0
        · rw [if_pos ⟨rfl, e0⟩, show 48 + 8 * (j / 3) + j % 3 = 48 + 8 * P + 0 by omega, uz_n _ _ (by omega), uz_n _ _ (by omega), uz_s]
        · rw [if_neg (fun z => e0 z.2), if_neg (fun z => e1 z.2), if_neg (fun z => e2 z.2), uz_n _ _ (by omega), uz_n _ _ (by omega), uz_n _ _ (by omega)]; exact H.2.2.2.2.1 j h0 h1
  · rw [uz_n _ _ (by omega), uz_n _ _ (by omega), uz_n _ _ (by omega)]; exact H.2.2.2.2.2 j h0 h1 h2 h3

/-- where the reference stands when the class has come to p -/
def RP (n : Int) (p : Int × Int × St) (a : Int) (h : Int → Int) : Prop := (0 ≤ a ∧ a ≤ n) ∧ (p.2.1 = 0 → a = p.1 ∧ HR p.2.2 h)
section PCE
variable {B : Int → Int} {n a : Int} {A : St}
theorem sB_len : (sB 0).length = 6 ∧ (sB 1).length = 6 ∧ (sB 2).length = 8 ∧ (sB 3).length = 4 := by decide
theorem pce_0 : pce B n (a, 0, A) = pc1 B n A (skb B n a) (ltr B n (skb B n a)) := if_pos rfl
theorem pce_1 (w : isW B n (skb B n a) 1) (h : A 26 0 = 4) : pce B n (a, 0, A) = (ltr B n (skb B n a), 8 * skb B n a + 3, A) := by
  rw [pce_0]; unfold pc1; rw [if_pos w]; unfold orgA orgF orgT; rw [if_pos (by omega), if_pos (by omega), if_pos (by omega)]
theorem pce_1b (w : isW B n (skb B n a) 1) (h : A 26 0 < 4) : pce B n (a, 0, A) = (nA B n (ltr B n (skb B n a)) 0, nF B n 0 99999 (ltr B n (skb B n a)) 0, u0 (u1 A 1 (A 26 0) (nV B n 0 99999 (ltr B n (skb B n a)) 0)) 26 (A 26 0 + 1)) := by
  rw [pce_0]; unfold pc1; rw [if_pos w]; unfold orgA orgF orgT; rw [if_neg (by omega), if_neg (by omega), if_neg (by omega)]
theorem pce_2 (w : isW B n (skb B n a) 2) (h : A 27 0 = 8) : pce B n (a, 0, A) = (ltr B n (skb B n a), 8 * skb B n a + 3, A) := by
  have l := sB_len
  rw [pce_0]; unfold pc1; rw [if_neg (fun z => by have := z.1; have := w.1; omega), if_pos w]; unfold impF impT; rw [if_pos (by omega), if_pos (by omega)]
theorem pce_2b (w : isW B n (skb B n a) 2) (h : A 27 0 < 8) : pce B n (a, 0, A) = (ltr B n (skb B n a), 0, u0 A 27 (A 27 0 + 1)) := by
  have l := sB_len
  rw [pce_0]; unfold pc1; rw [if_neg (fun z => by have := z.1; have := w.1; omega), if_pos w]; unfold impF impT; rw [if_neg (by omega), if_neg (by omega)]
theorem pce_3 (w : isW B n (skb B n a) 3) : pce B n (a, 0, A) = ((ps5 B n A (ltr B n (skb B n a))).1, (ps5 B n A (ltr B n (skb B n a))).2, pstT B n A (ltr B n (skb B n a))) := by
  have l := sB_len
  rw [pce_0]; unfold pc1; rw [if_neg (fun z => by have := z.1; have := w.1; omega), if_neg (fun z => by have := z.1; have := w.1; omega), if_pos w]
theorem pce_4 (w1 : ¬ isW B n (skb B n a) 1) (w2 : ¬ isW B n (skb B n a) 2) (w3 : ¬ isW B n (skb B n a) 3) : pce B n (a, 0, A) = (ltr B n (skb B n a), 8 * skb B n a + 1, A) := by
  rw [pce_0]; unfold pc1; rw [if_neg w1, if_neg w2, if_neg w3]
end PCE

set_option maxHeartbeats 1000000 in
theorem j_X11_readsPiece_58 {Γ : GT} {S T U V A : St} {G : Gw} {nx d : Nat} {Q : QT} (hnx : 52 ≤ nx) {a : Int} {m h : Int → Int} (hB : ∀ j : Int, -128 ≤ V 6 j ∧ V 6 j ≤ 127) (hn : 0 ≤ V 11 0 ∧ V 11 0 ≤ 400) (ha : 0 ≤ a ∧ a ≤ V 11 0) (H : HR A h) (a26 : 0 ≤ A 26 0 ∧ A 26 0 ≤ 4) (a27 : 0 ≤ A 27 0 ∧ A 27 0 ≤ 8) (hL : RgL (vr V (skb (V 6) (V 11 0) a) (ff 0) m h)) (n1 : ¬ (isW (V 6) (V 11 0) (skb (V 6) (V 11 0) a) 1 ∧ A 26 0 = 4)) (n2 : ¬ (isW (V 6) (V 11 0) (skb (V 6) (V 11 0) a) 2 ∧ A 27 0 = 8)) (hQ : ∀ (p : Int × Int × St) (a2 : Int) (m2 h2 : Int → Int), p = pce (V 6) (V 11 0) (a, 0, A) → RP (V 11 0) p a2 h2 → RgL (vr V a2 (ff p.2.1) m2 h2) → Q none (hp Γ S T U (vr V a2 (ff p.2.1) m2 h2) G) nx) : AW Γ MX11_readsPiece (rmm (d + 6, 0, 0)) (MF Γ Q (d + 6, 0, 0)) (0, 0) 58 [some (rf Γ 43), none, none, none, none, none] [] (hp Γ S T U (vr V (skb (V 6) (V 11 0) a) (ff 0) m h) G) nx := by
  have sk := skb_in (B := V 6) (n := V 11 0) (a := a) (by omega)
  have lt := ltr_in (B := V 6) (n := V 11 0) (a := (skb (V 6) (V 11 0) a)) (by omega)
  have hsk := skb_idem (B := V 6) (n := V 11 0) (a := a) (by omega)
  refine aw_aload_n dX11_readsPiece_58 rfl ?_
  refine aw_ldcS dX11_readsPiece_59 9 rfl rfl rfl ?_
  refine aw_callV (As := [_]) (ρ := (_, 0, 0)) (kn' := (0, 0)) cv_X11_135 dX11_readsPiece_61 rfl rfl (hc43 hnx) rfl rfl (Nat.le_of_ble_eq_true rfl) (rmR _ _ _) ⟨Nat.le_refl _, Nat.le_refl _⟩ rfl (c_X11_takes hnx (i := 9) (jj := 1) (by decide) rfl hsk hB hn (by omega) hL (fun r61 h61 hL => ?_))
  rcases h61 with ⟨rfl, h61⟩ | ⟨rfl, h61⟩
  · skip
    refine aw_if_eq (tgt := 115) dX11_readsPiece_64 rfl (by decide) (fun c => absurd c (by decide)) (fun _ => ?_)
    rw [if_pos h61] at hL ⊢
    have a4 : A 26 0 < 4 := by have : ¬ A 26 0 = 4 := fun z => n1 ⟨h61, z⟩; omega
    refine aw_aload_n dX11_readsPiece_67 rfl ?_
    refine aw_iconst dX11_readsPiece_68 ?_
    refine aw_ldc dX11_readsPiece_69 qk_X11_126 ?_
    refine aw_st (st' := vi 99999 :: _) rfl ?_
    refine aw_callV (As := [_, _]) (ρ := (_, 0, 0)) (kn' := (0, 0)) cv_X11_138 dX11_readsPiece_71 rfl rfl (hc43 hnx) rfl rfl (Nat.le_of_ble_eq_true rfl) (rmR _ _ _) ⟨Nat.le_refl _, Nat.le_refl _⟩ rfl (c_X11_number hnx (a := (ltr (V 6) (V 11 0) (skb (V 6) (V 11 0) a))) (f := 0) (p := 0) (q := 99999) hB hn (by omega) (by omega) (by omega) (by omega) hL (fun r71 m71 h71 hL => ?_))
    have nf := nF_in (B := V 6) (n := V 11 0) (lo := 0) (hi := 99999) (a := (ltr (V 6) (V 11 0) (skb (V 6) (V 11 0) a))) (f := 0) (by omega) hn.2 (by omega)
    have na := nA_in (B := V 6) (n := V 11 0) (a := (ltr (V 6) (V 11 0) (skb (V 6) (V 11 0) a))) (f := 0) (by omega)
    have nu := nU_in (B := V 6) (n := V 11 0) (lo := 0) (hi := 99999) (a := (ltr (V 6) (V 11 0) (skb (V 6) (V 11 0) a))) (f := 0) (by omega)
    have f0 := ff_0 nf.1
    refine aw_istore_n (ls' := [some (rf Γ 43), some _, none, none, none, none]) dX11_readsPiece_74 (by decide) rfl ?_
    refine aw_aload_n dX11_readsPiece_75 rfl ?_
    refine aw_callV (As := []) (ρ := (_, 0, 0)) (kn' := (0, 0)) cv_X11_81 dX11_readsPiece_76 rfl rfl (hc43 hnx) rfl rfl (Nat.le_of_ble_eq_true rfl) (rmR _ _ _) ⟨Nat.le_refl _, Nat.le_refl _⟩ rfl (c_X11_isRight hnx (ff_in (by omega)) (fun r76 h76 => ?_))
    rcases h76 with ⟨rfl, h76⟩ | ⟨rfl, h76⟩
    · skip
      refine aw_if_eq (tgt := 112) dX11_readsPiece_79 rfl (by decide) (fun c => absurd c (by decide)) (fun _ => ?_)
      have hL1 := hL
      have e0 : nF (V 6) (V 11 0) 0 99999 (ltr (V 6) (V 11 0) (skb (V 6) (V 11 0) a)) 0 = 0 := f0.mp h76
      have eV : r71 = nV (V 6) (V 11 0) 0 99999 (ltr (V 6) (V 11 0) (skb (V 6) (V 11 0) a)) 0 := by rw [h71]; unfold nU; rw [if_pos e0]
      refine aw_aload_n dX11_readsPiece_82 rfl ?_
      refine aw_getf fg_X11_13 dX11_readsPiece_83 (hc43 hnx) rfl ?_
      refine aw_aload_n dX11_readsPiece_86 rfl ?_
      refine aw_getf fg_X11_13 dX11_readsPiece_87 (hc43 hnx) rfl ?_
      refine aw_bipush dX11_readsPiece_90 rfl ?_
      refine aw_laldr dX11_readsPiece_92 (hc45 hnx) (by omega) (by decide) (hL 1) (fun q92 => ?_)
      refine aw_svl (a := A 26 0) (H.2.1.symm) ?_
      refine aw_l2i dX11_readsPiece_93 ?_
      refine aw_iconst dX11_readsPiece_94 ?_
      refine aw_callS (As := [_, _]) (ρ := (_, 0, 0)) (kn' := (0, 0)) cs_X11_40 dX11_readsPiece_95 rfl rfl (Nat.le_of_ble_eq_true rfl) (rmR _ _ _) ⟨Nat.le_refl _, Nat.le_refl _⟩ rfl (c_X11_originAt hnx  (fun r95 h95 => ?_))
      subst h95
      refine aw_iload_n dX11_readsPiece_98 rfl ?_
      refine aw_i2l dX11_readsPiece_99 (by omega) ?_
      refine aw_lastV dX11_readsPiece_100 (hc45 hnx) (by omega) (by decide) hL (by omega) (fun _ => hu45) (fun hL => ?_)
      refine aw_hp (V' := vr V (nA (V 6) (V 11 0) (ltr (V 6) (V 11 0) (skb (V 6) (V 11 0) a)) 0) (ff (nF (V 6) (V 11 0) 0 99999 (ltr (V 6) (V 11 0) (skb (V 6) (V 11 0) a)) 0)) m71 (uz h (16 + 8 * A 26 0 + 0) r71)) rfl rfl rfl (vr_h V _ _ _ _ _ _) rfl ?_
      replace hL := vr_Lh hL1 (16 + 8 * A 26 0 + 0) r71 (by omega)
      refine aw_aload_n dX11_readsPiece_101 rfl ?_
      have hL2 := hL
      refine aw_getf fg_X11_13 dX11_readsPiece_102 (hc43 hnx) rfl ?_
      refine aw_bipush dX11_readsPiece_105 rfl ?_
      refine aw_dup2_11 dX11_readsPiece_107 rfl rfl ?_
      refine aw_laldr dX11_readsPiece_108 (hc45 hnx) (by omega) (by decide) (hL 1) (fun q108 => ?_)
      refine aw_svl (a := A 26 0) (by show _ = uz h _ r71 6; rw [uz_n _ _ (by omega)]; exact H.2.1.symm) ?_
      refine aw_lconst1 dX11_readsPiece_109 ?_
      refine aw_ladd dX11_readsPiece_110 ?_
      refine aw_lastV dX11_readsPiece_111 (hc45 hnx) (by omega) (by decide) hL (by omega) (fun _ => hu45) (fun hL => ?_)
      first | (refine aw_hp (V' := vr V (nA (V 6) (V 11 0) (ltr (V 6) (V 11 0) (skb (V 6) (V 11 0) a)) 0) (ff (nF (V 6) (V 11 0) 0 99999 (ltr (V 6) (V 11 0) (skb (V 6) (V 11 0) a)) 0)) m71 (uz (uz h (16 + 8 * A 26 0 + 0) r71) 6 (A 26 0 + 1))) rfl rfl rfl (vr_h V _ _ _ _ _ _) rfl ?_; have hE := hQ _ _ _ _ (pce_1b h61 a4).symm ⟨by omega, fun _ => ⟨rfl, by rw [← eV]; exact H.org (by omega)⟩⟩ (vr_Lh hL2 6 (A 26 0 + 1) (by omega))) | (have hE := hQ _ _ _ _ (pce_1b h61 a4).symm ⟨by omega, fun z => absurd (f0.mpr z) h76⟩ hL)
      refine aw_goto (tgt := 265) dX11_readsPiece_112 rfl ?_
      first | (have hE0 := hE) | (refine aw_hp (V' := vr V (skb (V 6) (V 11 0) a) (ff (8 * (skb (V 6) (V 11 0) a) + 1)) m h) rfl rfl rfl (by rw [fz_ff (by omega) (by omega), if_pos rfl]) rfl ?_; have hE := hQ _ (skb (V 6) (V 11 0) a) m h (pce_4 h61 h118 h141).symm ⟨by omega, fun z => absurd z (by show ¬ 8 * (skb (V 6) (V 11 0) a) + 1 = 0; omega)⟩ (by show RgL (vr V (skb (V 6) (V 11 0) a) (ff (8 * (skb (V 6) (V 11 0) a) + 1)) m h); rw [show ff (8 * (skb (V 6) (V 11 0) a) + 1) = fz (ff 0) (8 * (skb (V 6) (V 11 0) a) + 1) by rw [fz_ff (by omega) (by omega), if_pos rfl]]; exact hL))
      exact aw_return dX11_readsPiece_265 rfl ⟨Nat.le_refl _, Nat.le_refl _⟩ hE
    · skip
      refine aw_if_eq (tgt := 112) dX11_readsPiece_79 rfl (by decide) (fun _ => ?_) (fun c => absurd c (by decide))
      first | (refine aw_hp (V' := vr V (nA (V 6) (V 11 0) (ltr (V 6) (V 11 0) (skb (V 6) (V 11 0) a)) 0) (ff (nF (V 6) (V 11 0) 0 99999 (ltr (V 6) (V 11 0) (skb (V 6) (V 11 0) a)) 0)) m71 (uz (uz h (16 + 8 * A 26 0 + 0) r71) 6 (A 26 0 + 1))) rfl rfl rfl (vr_h V _ _ _ _ _ _) rfl ?_; have hE := hQ _ _ _ _ (pce_1b h61 a4).symm ⟨by omega, fun _ => ⟨rfl, by rw [← eV]; exact H.org (by omega)⟩⟩ (vr_Lh hL2 6 (A 26 0 + 1) (by omega))) | (have hE := hQ _ _ _ _ (pce_1b h61 a4).symm ⟨by omega, fun z => absurd (f0.mpr z) h76⟩ hL)
      refine aw_goto (tgt := 265) dX11_readsPiece_112 rfl ?_
      first | (have hE0 := hE) | (refine aw_hp (V' := vr V (skb (V 6) (V 11 0) a) (ff (8 * (skb (V 6) (V 11 0) a) + 1)) m h) rfl rfl rfl (by rw [fz_ff (by omega) (by omega), if_pos rfl]) rfl ?_; have hE := hQ _ (skb (V 6) (V 11 0) a) m h (pce_4 h61 h118 h141).symm ⟨by omega, fun z => absurd z (by show ¬ 8 * (skb (V 6) (V 11 0) a) + 1 = 0; omega)⟩ (by show RgL (vr V (skb (V 6) (V 11 0) a) (ff (8 * (skb (V 6) (V 11 0) a) + 1)) m h); rw [show ff (8 * (skb (V 6) (V 11 0) a) + 1) = fz (ff 0) (8 * (skb (V 6) (V 11 0) a) + 1) by rw [fz_ff (by omega) (by omega), if_pos rfl]]; exact hL))
      exact aw_return dX11_readsPiece_265 rfl ⟨Nat.le_refl _, Nat.le_refl _⟩ hE
  · skip
    refine aw_if_eq (tgt := 115) dX11_readsPiece_64 rfl (by decide) (fun _ => ?_) (fun c => absurd c (by decide))
    rw [if_neg h61] at hL ⊢
    refine aw_aload_n dX11_readsPiece_115 rfl ?_
    refine aw_ldcS dX11_readsPiece_116 10 rfl rfl rfl ?_
    refine aw_callV (As := [_]) (ρ := (_, 0, 0)) (kn' := (0, 0)) cv_X11_135 dX11_readsPiece_118 rfl rfl (hc43 hnx) rfl rfl (Nat.le_of_ble_eq_true rfl) (rmR _ _ _) ⟨Nat.le_refl _, Nat.le_refl _⟩ rfl (c_X11_takes hnx (i := 10) (jj := 2) (by decide) rfl hsk hB hn (by omega) hL (fun r118 h118 hL => ?_))
    rcases h118 with ⟨rfl, h118⟩ | ⟨rfl, h118⟩
    · skip
      refine aw_if_eq (tgt := 138) dX11_readsPiece_121 rfl (by decide) (fun c => absurd c (by decide)) (fun _ => ?_)
      rw [if_pos h118] at hL ⊢
      have a8 : A 27 0 < 8 := by have : ¬ A 27 0 = 8 := fun z => n2 ⟨h118, z⟩; omega
      have hL1 := hL
      refine aw_aload_n dX11_readsPiece_124 rfl ?_
      refine aw_getf fg_X11_13 dX11_readsPiece_125 (hc43 hnx) rfl ?_
      refine aw_bipush dX11_readsPiece_128 rfl ?_
      refine aw_dup2_11 dX11_readsPiece_130 rfl rfl ?_
      refine aw_laldr dX11_readsPiece_131 (hc45 hnx) (by omega) (by decide) (hL 1) (fun q131 => ?_)
      refine aw_svl (a := A 27 0) (H.2.2.1.symm) ?_
      refine aw_lconst1 dX11_readsPiece_132 ?_
      refine aw_ladd dX11_readsPiece_133 ?_
      refine aw_lastV dX11_readsPiece_134 (hc45 hnx) (by omega) (by decide) hL (by omega) (fun _ => hu45) (fun hL => ?_)
      refine aw_hp (V' := vr V (ltr (V 6) (V 11 0) (skb (V 6) (V 11 0) a)) (ff 0) m (uz h 7 (A 27 0 + 1))) rfl rfl rfl (vr_h V _ _ _ _ _ _) rfl ?_
      have hE := hQ _ _ _ _ (pce_2b h118 a8).symm ⟨by show 0 ≤ (ltr (V 6) (V 11 0) (skb (V 6) (V 11 0) a)) ∧ _; omega, fun _ => ⟨rfl, H.imp⟩⟩ (vr_Lh hL1 7 (A 27 0 + 1) (by omega))
      refine aw_goto (tgt := 265) dX11_readsPiece_135 rfl ?_
      first | (have hE0 := hE) | (refine aw_hp (V' := vr V (skb (V 6) (V 11 0) a) (ff (8 * (skb (V 6) (V 11 0) a) + 1)) m h) rfl rfl rfl (by rw [fz_ff (by omega) (by omega), if_pos rfl]) rfl ?_; have hE := hQ _ (skb (V 6) (V 11 0) a) m h (pce_4 h61 h118 h141).symm ⟨by omega, fun z => absurd z (by show ¬ 8 * (skb (V 6) (V 11 0) a) + 1 = 0; omega)⟩ (by show RgL (vr V (skb (V 6) (V 11 0) a) (ff (8 * (skb (V 6) (V 11 0) a) + 1)) m h); rw [show ff (8 * (skb (V 6) (V 11 0) a) + 1) = fz (ff 0) (8 * (skb (V 6) (V 11 0) a) + 1) by rw [fz_ff (by omega) (by omega), if_pos rfl]]; exact hL))
      exact aw_return dX11_readsPiece_265 rfl ⟨Nat.le_refl _, Nat.le_refl _⟩ hE
    · skip
      refine aw_if_eq (tgt := 138) dX11_readsPiece_121 rfl (by decide) (fun _ => ?_) (fun c => absurd c (by decide))
      rw [if_neg h118] at hL ⊢
      refine aw_aload_n dX11_readsPiece_138 rfl ?_
      refine aw_ldcS dX11_readsPiece_139 11 rfl rfl rfl ?_
      refine aw_callV (As := [_]) (ρ := (_, 0, 0)) (kn' := (0, 0)) cv_X11_135 dX11_readsPiece_141 rfl rfl (hc43 hnx) rfl rfl (Nat.le_of_ble_eq_true rfl) (rmR _ _ _) ⟨Nat.le_refl _, Nat.le_refl _⟩ rfl (c_X11_takes hnx (i := 11) (jj := 3) (by decide) rfl hsk hB hn (by omega) hL (fun r141 h141 hL => ?_))
      rcases h141 with ⟨rfl, h141⟩ | ⟨rfl, h141⟩
      · skip
        refine aw_if_eq (tgt := 256) dX11_readsPiece_144 rfl (by decide) (fun c => absurd c (by decide)) (fun _ => ?_)
        rw [if_pos h141] at hL ⊢
        have pin := ps_in (B := V 6) (n := V 11 0) A (a := (ltr (V 6) (V 11 0) (skb (V 6) (V 11 0) a))) (by omega) hn.2
        have n1 := nU_in (B := V 6) (n := V 11 0) (lo := 0) (hi := (A 27 0 - 1)) (a := (ltr (V 6) (V 11 0) (skb (V 6) (V 11 0) a))) (f := 0) (by omega)
        have n2 := nU_in (B := V 6) (n := V 11 0) (lo := 0) (hi := (A 26 0 - 1)) (a := (ps1 (V 6) (V 11 0) A (ltr (V 6) (V 11 0) (skb (V 6) (V 11 0) a))).1) (f := (ps1 (V 6) (V 11 0) A (ltr (V 6) (V 11 0) (skb (V 6) (V 11 0) a))).2) (by omega)
        have n3 := nU_in (B := V 6) (n := V 11 0) (lo := 0) (hi := 99999) (a := (ps2 (V 6) (V 11 0) A (ltr (V 6) (V 11 0) (skb (V 6) (V 11 0) a))).1) (f := (ps2 (V 6) (V 11 0) A (ltr (V 6) (V 11 0) (skb (V 6) (V 11 0) a))).2) (by omega)
        have n4 := nU_in (B := V 6) (n := V 11 0) (lo := 0) (hi := 99999) (a := (ps3 (V 6) (V 11 0) A (ltr (V 6) (V 11 0) (skb (V 6) (V 11 0) a))).1) (f := (ps3 (V 6) (V 11 0) A (ltr (V 6) (V 11 0) (skb (V 6) (V 11 0) a))).2) (by omega)
        have n5 := nU_in (B := V 6) (n := V 11 0) (lo := 0) (hi := 99999) (a := (ps4 (V 6) (V 11 0) A (ltr (V 6) (V 11 0) (skb (V 6) (V 11 0) a))).1) (f := (ps4 (V 6) (V 11 0) A (ltr (V 6) (V 11 0) (skb (V 6) (V 11 0) a))).2) (by omega)
        have f0 := ff_0 (f := (ps5 (V 6) (V 11 0) A (ltr (V 6) (V 11 0) (skb (V 6) (V 11 0) a))).2) (by omega)
        refine aw_aload_n dX11_readsPiece_147 rfl ?_
        refine aw_iconst dX11_readsPiece_148 ?_
        refine aw_aload_n dX11_readsPiece_149 rfl ?_
        refine aw_getf fg_X11_13 dX11_readsPiece_150 (hc43 hnx) rfl ?_
        refine aw_bipush dX11_readsPiece_153 rfl ?_
        refine aw_laldr dX11_readsPiece_155 (hc45 hnx) (by omega) (by decide) (hL 1) (fun q155 => ?_)
        refine aw_svl (a := A 27 0) (H.2.2.1.symm) ?_
        refine aw_l2i dX11_readsPiece_156 ?_
        refine aw_iconst dX11_readsPiece_157 ?_
        refine aw_isub dX11_readsPiece_158 ?_
        refine aw_callV (As := [_, _]) (ρ := (_, 0, 0)) (kn' := (0, 0)) cv_X11_138 dX11_readsPiece_159 rfl rfl (hc43 hnx) rfl rfl (Nat.le_of_ble_eq_true rfl) (rmR _ _ _) ⟨Nat.le_refl _, Nat.le_refl _⟩ rfl (c_X11_number hnx (a := (ltr (V 6) (V 11 0) (skb (V 6) (V 11 0) a))) (f := 0) (p := 0) (q := (A 27 0 - 1)) hB hn (by omega) (by omega) (by omega) (by omega) hL (fun r159 m159 h159 hL => ?_))
        refine aw_istore_n (ls' := [some (rf Γ 43), some _, none, none, none, none]) dX11_readsPiece_162 (by decide) rfl ?_
        refine aw_aload_n dX11_readsPiece_163 rfl ?_
        refine aw_iconst dX11_readsPiece_164 ?_
        refine aw_aload_n dX11_readsPiece_165 rfl ?_
        refine aw_getf fg_X11_13 dX11_readsPiece_166 (hc43 hnx) rfl ?_
        refine aw_bipush dX11_readsPiece_169 rfl ?_
        refine aw_laldr dX11_readsPiece_171 (hc45 hnx) (by omega) (by decide) (hL 1) (fun q171 => ?_)
        refine aw_svl (a := A 26 0) (H.2.1.symm) ?_
        refine aw_l2i dX11_readsPiece_172 ?_
        refine aw_iconst dX11_readsPiece_173 ?_
        refine aw_isub dX11_readsPiece_174 ?_
        refine aw_callV (As := [_, _]) (ρ := (_, 0, 0)) (kn' := (0, 0)) cv_X11_138 dX11_readsPiece_175 rfl rfl (hc43 hnx) rfl rfl (Nat.le_of_ble_eq_true rfl) (rmR _ _ _) ⟨Nat.le_refl _, Nat.le_refl _⟩ rfl (c_X11_number hnx (a := (ps1 (V 6) (V 11 0) A (ltr (V 6) (V 11 0) (skb (V 6) (V 11 0) a))).1) (f := (ps1 (V 6) (V 11 0) A (ltr (V 6) (V 11 0) (skb (V 6) (V 11 0) a))).2) (p := 0) (q := (A 26 0 - 1)) hB hn (by omega) (by omega) (by omega) (by omega) hL (fun r175 m175 h175 hL => ?_))
        refine aw_istore_n (ls' := [some (rf Γ 43), some _, some _, none, none, none]) dX11_readsPiece_178 (by decide) rfl ?_
        refine aw_aload_n dX11_readsPiece_179 rfl ?_
        refine aw_iconst dX11_readsPiece_180 ?_
        refine aw_ldc dX11_readsPiece_181 qk_X11_126 ?_
        refine aw_st (st' := vi 99999 :: _) rfl ?_
        refine aw_callV (As := [_, _]) (ρ := (_, 0, 0)) (kn' := (0, 0)) cv_X11_138 dX11_readsPiece_183 rfl rfl (hc43 hnx) rfl rfl (Nat.le_of_ble_eq_true rfl) (rmR _ _ _) ⟨Nat.le_refl _, Nat.le_refl _⟩ rfl (c_X11_number hnx (a := (ps2 (V 6) (V 11 0) A (ltr (V 6) (V 11 0) (skb (V 6) (V 11 0) a))).1) (f := (ps2 (V 6) (V 11 0) A (ltr (V 6) (V 11 0) (skb (V 6) (V 11 0) a))).2) (p := 0) (q := 99999) hB hn (by omega) (by omega) (by omega) (by omega) hL (fun r183 m183 h183 hL => ?_))
        refine aw_istore_n (ls' := [some (rf Γ 43), some _, some _, some _, none, none]) dX11_readsPiece_186 (by decide) rfl ?_
        refine aw_aload_n dX11_readsPiece_187 rfl ?_
        refine aw_iconst dX11_readsPiece_188 ?_
        refine aw_ldc dX11_readsPiece_189 qk_X11_126 ?_
        refine aw_st (st' := vi 99999 :: _) rfl ?_
        refine aw_callV (As := [_, _]) (ρ := (_, 0, 0)) (kn' := (0, 0)) cv_X11_138 dX11_readsPiece_191 rfl rfl (hc43 hnx) rfl rfl (Nat.le_of_ble_eq_true rfl) (rmR _ _ _) ⟨Nat.le_refl _, Nat.le_refl _⟩ rfl (c_X11_number hnx (a := (ps3 (V 6) (V 11 0) A (ltr (V 6) (V 11 0) (skb (V 6) (V 11 0) a))).1) (f := (ps3 (V 6) (V 11 0) A (ltr (V 6) (V 11 0) (skb (V 6) (V 11 0) a))).2) (p := 0) (q := 99999) hB hn (by omega) (by omega) (by omega) (by omega) hL (fun r191 m191 h191 hL => ?_))
        refine aw_istore (ls' := [some (rf Γ 43), some _, some _, some _, some _, none]) dX11_readsPiece_194 (by decide) rfl ?_
        refine aw_aload_n dX11_readsPiece_196 rfl ?_
        refine aw_iconst dX11_readsPiece_197 ?_
        refine aw_ldc dX11_readsPiece_198 qk_X11_126 ?_
        refine aw_st (st' := vi 99999 :: _) rfl ?_
        refine aw_callV (As := [_, _]) (ρ := (_, 0, 0)) (kn' := (0, 0)) cv_X11_138 dX11_readsPiece_200 rfl rfl (hc43 hnx) rfl rfl (Nat.le_of_ble_eq_true rfl) (rmR _ _ _) ⟨Nat.le_refl _, Nat.le_refl _⟩ rfl (c_X11_number hnx (a := (ps4 (V 6) (V 11 0) A (ltr (V 6) (V 11 0) (skb (V 6) (V 11 0) a))).1) (f := (ps4 (V 6) (V 11 0) A (ltr (V 6) (V 11 0) (skb (V 6) (V 11 0) a))).2) (p := 0) (q := 99999) hB hn (by omega) (by omega) (by omega) (by omega) hL (fun r200 m200 h200 hL => ?_))
        refine aw_istore (ls' := [some (rf Γ 43), some _, some _, some _, some _, some _]) dX11_readsPiece_203 (by decide) rfl ?_
        refine aw_aload_n dX11_readsPiece_205 rfl ?_
        refine aw_callV (As := []) (ρ := (_, 0, 0)) (kn' := (0, 0)) cv_X11_81 dX11_readsPiece_206 rfl rfl (hc43 hnx) rfl rfl (Nat.le_of_ble_eq_true rfl) (rmR _ _ _) ⟨Nat.le_refl _, Nat.le_refl _⟩ rfl (c_X11_isRight hnx (g := ff (ps5 (V 6) (V 11 0) A (ltr (V 6) (V 11 0) (skb (V 6) (V 11 0) a))).2) (ff_in (by omega)) (fun r206 h206 => ?_))
        rcases h206 with ⟨rfl, h206⟩ | ⟨rfl, h206⟩
        · skip
          refine aw_if_eq (tgt := 253) dX11_readsPiece_209 rfl (by decide) (fun c => absurd c (by decide)) (fun _ => ?_)
          have e5 : (ps5 (V 6) (V 11 0) A (ltr (V 6) (V 11 0) (skb (V 6) (V 11 0) a))).2 = 0 := f0.mp h206
          have ok := ps_ok (B := V 6) (n := V 11 0) (T := A) (a := (ltr (V 6) (V 11 0) (skb (V 6) (V 11 0) a))) (by omega) hn.2 e5
          have k5 := nV_ok (B := V 6) (n := V 11 0) (lo := 0) (hi := 99999) (a := (ps4 (V 6) (V 11 0) A (ltr (V 6) (V 11 0) (skb (V 6) (V 11 0) a))).1) (f := (ps4 (V 6) (V 11 0) A (ltr (V 6) (V 11 0) (skb (V 6) (V 11 0) a))).2) e5 (by omega)
          have k4 := nV_ok (B := V 6) (n := V 11 0) (lo := 0) (hi := 99999) (a := (ps3 (V 6) (V 11 0) A (ltr (V 6) (V 11 0) (skb (V 6) (V 11 0) a))).1) (f := (ps3 (V 6) (V 11 0) A (ltr (V 6) (V 11 0) (skb (V 6) (V 11 0) a))).2) k5.1 (by omega)
          have k3 := nV_ok (B := V 6) (n := V 11 0) (lo := 0) (hi := 99999) (a := (ps2 (V 6) (V 11 0) A (ltr (V 6) (V 11 0) (skb (V 6) (V 11 0) a))).1) (f := (ps2 (V 6) (V 11 0) A (ltr (V 6) (V 11 0) (skb (V 6) (V 11 0) a))).2) k4.1 (by omega)
          have k2 := nV_ok (B := V 6) (n := V 11 0) (lo := 0) (hi := A 26 0 - 1) (a := (ps1 (V 6) (V 11 0) A (ltr (V 6) (V 11 0) (skb (V 6) (V 11 0) a))).1) (f := (ps1 (V 6) (V 11 0) A (ltr (V 6) (V 11 0) (skb (V 6) (V 11 0) a))).2) k3.1 (by omega)
          have g1 : r159 = pv1 (V 6) (V 11 0) A (ltr (V 6) (V 11 0) (skb (V 6) (V 11 0) a)) := by rw [h159]; exact if_pos k2.1
          have g2 : r175 = pv2 (V 6) (V 11 0) A (ltr (V 6) (V 11 0) (skb (V 6) (V 11 0) a)) := by rw [h175]; exact if_pos k3.1
          have g3 : r183 = pv3 (V 6) (V 11 0) A (ltr (V 6) (V 11 0) (skb (V 6) (V 11 0) a)) := by rw [h183]; exact if_pos k4.1
          have g4 : r191 = pv4 (V 6) (V 11 0) A (ltr (V 6) (V 11 0) (skb (V 6) (V 11 0) a)) := by rw [h191]; exact if_pos k5.1
          have g5 : r200 = pv5 (V 6) (V 11 0) A (ltr (V 6) (V 11 0) (skb (V 6) (V 11 0) a)) := by rw [h200]; exact if_pos e5
          have hL1 := hL
          refine aw_aload_n dX11_readsPiece_212 rfl ?_
          refine aw_getf fg_X11_13 dX11_readsPiece_213 (hc43 hnx) rfl ?_
          refine aw_iload_n dX11_readsPiece_216 rfl ?_
          refine aw_iload_n dX11_readsPiece_217 rfl ?_
          refine aw_iconst dX11_readsPiece_218 ?_
          refine aw_callS (As := [_, _, _]) (ρ := (_, 0, 0)) (kn' := (0, 0)) cs_X11_44 dX11_readsPiece_219 rfl rfl (Nat.le_of_ble_eq_true rfl) (rmR _ _ _) ⟨Nat.le_refl _, Nat.le_refl _⟩ rfl (c_X11_pairAt hnx  (fun r219 h219 => ?_))
          subst h219
          refine aw_iload dX11_readsPiece_222 rfl ?_
          refine aw_i2l dX11_readsPiece_224 (by omega) ?_
          refine aw_lastV dX11_readsPiece_225 (hc45 hnx) (by omega) (by decide) hL (by omega) (fun _ => hu45) (fun hL => ?_)
          refine aw_hp (V' := vr V (ps5 (V 6) (V 11 0) A (ltr (V 6) (V 11 0) (skb (V 6) (V 11 0) a))).1 (ff (ps5 (V 6) (V 11 0) A (ltr (V 6) (V 11 0) (skb (V 6) (V 11 0) a))).2) m200 (uz h (48 + 8 * (4 * r159 + r175) + 0) r200)) rfl rfl rfl (vr_h V _ _ _ _ _ _) rfl ?_
          replace hL := vr_Lh hL1 (48 + 8 * (4 * r159 + r175) + 0) r200 (by omega)
          have hL2 := hL
          refine aw_aload_n dX11_readsPiece_226 rfl ?_
          refine aw_getf fg_X11_13 dX11_readsPiece_227 (hc43 hnx) rfl ?_
          refine aw_iload_n dX11_readsPiece_230 rfl ?_
          refine aw_iload_n dX11_readsPiece_231 rfl ?_
          refine aw_iconst dX11_readsPiece_232 ?_
          refine aw_callS (As := [_, _, _]) (ρ := (_, 0, 0)) (kn' := (0, 0)) cs_X11_44 dX11_readsPiece_233 rfl rfl (Nat.le_of_ble_eq_true rfl) (rmR _ _ _) ⟨Nat.le_refl _, Nat.le_refl _⟩ rfl (c_X11_pairAt hnx  (fun r233 h233 => ?_))
          subst h233
          refine aw_iload dX11_readsPiece_236 rfl ?_
          refine aw_i2l dX11_readsPiece_238 (by omega) ?_
          refine aw_lastV dX11_readsPiece_239 (hc45 hnx) (by omega) (by decide) hL (by omega) (fun _ => hu45) (fun hL => ?_)
          refine aw_hp (V' := vr V (ps5 (V 6) (V 11 0) A (ltr (V 6) (V 11 0) (skb (V 6) (V 11 0) a))).1 (ff (ps5 (V 6) (V 11 0) A (ltr (V 6) (V 11 0) (skb (V 6) (V 11 0) a))).2) m200 (uz (uz h (48 + 8 * (4 * r159 + r175) + 0) r200) (48 + 8 * (4 * r159 + r175) + 1) r191)) rfl rfl rfl (vr_h V _ _ _ _ _ _) rfl ?_
          replace hL := vr_Lh hL2 (48 + 8 * (4 * r159 + r175) + 1) r191 (by omega)
          have hL3 := hL
          refine aw_aload_n dX11_readsPiece_240 rfl ?_
          refine aw_getf fg_X11_13 dX11_readsPiece_241 (hc43 hnx) rfl ?_
          refine aw_iload_n dX11_readsPiece_244 rfl ?_
          refine aw_iload_n dX11_readsPiece_245 rfl ?_
          refine aw_iconst dX11_readsPiece_246 ?_
          refine aw_callS (As := [_, _, _]) (ρ := (_, 0, 0)) (kn' := (0, 0)) cs_X11_44 dX11_readsPiece_247 rfl rfl (Nat.le_of_ble_eq_true rfl) (rmR _ _ _) ⟨Nat.le_refl _, Nat.le_refl _⟩ rfl (c_X11_pairAt hnx  (fun r247 h247 => ?_))
          subst h247
          refine aw_iload_n dX11_readsPiece_250 rfl ?_
          refine aw_i2l dX11_readsPiece_251 (by omega) ?_
          refine aw_lastV dX11_readsPiece_252 (hc45 hnx) (by omega) (by decide) hL (by omega) (fun _ => hu45) (fun hL => ?_)
          first | (refine aw_hp (V' := vr V (ps5 (V 6) (V 11 0) A (ltr (V 6) (V 11 0) (skb (V 6) (V 11 0) a))).1 (ff (ps5 (V 6) (V 11 0) A (ltr (V 6) (V 11 0) (skb (V 6) (V 11 0) a))).2) m200 (uz (uz (uz h (48 + 8 * (4 * r159 + r175) + 0) r200) (48 + 8 * (4 * r159 + r175) + 1) r191) (48 + 8 * (4 * r159 + r175) + 2) r183)) rfl rfl rfl (vr_h V _ _ _ _ _ _) rfl ?_; have hE := hQ _ _ _ _ (pce_3 h141).symm ⟨by show 0 ≤ (ps5 (V 6) (V 11 0) A (ltr (V 6) (V 11 0) (skb (V 6) (V 11 0) a))).1 ∧ _; omega, fun _ => ⟨rfl, by show HR (pstT (V 6) (V 11 0) A (ltr (V 6) (V 11 0) (skb (V 6) (V 11 0) a))) _; unfold pstT; rw [if_pos e5, ← g1, ← g2, ← g3, ← g4, ← g5]; exact H.pst (by omega) (by omega)⟩⟩ (vr_Lh hL3 (48 + 8 * (4 * r159 + r175) + 2) r183 (by omega))) | (have hE := hQ _ (ps5 (V 6) (V 11 0) A (ltr (V 6) (V 11 0) (skb (V 6) (V 11 0) a))).1 m200 h (pce_3 h141).symm ⟨by omega, fun z => absurd (f0.mpr z) h206⟩ hL)
          refine aw_goto (tgt := 265) dX11_readsPiece_253 rfl ?_
          first | (have hE0 := hE) | (refine aw_hp (V' := vr V (skb (V 6) (V 11 0) a) (ff (8 * (skb (V 6) (V 11 0) a) + 1)) m h) rfl rfl rfl (by rw [fz_ff (by omega) (by omega), if_pos rfl]) rfl ?_; have hE := hQ _ (skb (V 6) (V 11 0) a) m h (pce_4 h61 h118 h141).symm ⟨by omega, fun z => absurd z (by show ¬ 8 * (skb (V 6) (V 11 0) a) + 1 = 0; omega)⟩ (by show RgL (vr V (skb (V 6) (V 11 0) a) (ff (8 * (skb (V 6) (V 11 0) a) + 1)) m h); rw [show ff (8 * (skb (V 6) (V 11 0) a) + 1) = fz (ff 0) (8 * (skb (V 6) (V 11 0) a) + 1) by rw [fz_ff (by omega) (by omega), if_pos rfl]]; exact hL))
          exact aw_return dX11_readsPiece_265 rfl ⟨Nat.le_refl _, Nat.le_refl _⟩ hE
        · skip
          refine aw_if_eq (tgt := 253) dX11_readsPiece_209 rfl (by decide) (fun _ => ?_) (fun c => absurd c (by decide))
          first | (refine aw_hp (V' := vr V (ps5 (V 6) (V 11 0) A (ltr (V 6) (V 11 0) (skb (V 6) (V 11 0) a))).1 (ff (ps5 (V 6) (V 11 0) A (ltr (V 6) (V 11 0) (skb (V 6) (V 11 0) a))).2) m200 (uz (uz (uz h (48 + 8 * (4 * r159 + r175) + 0) r200) (48 + 8 * (4 * r159 + r175) + 1) r191) (48 + 8 * (4 * r159 + r175) + 2) r183)) rfl rfl rfl (vr_h V _ _ _ _ _ _) rfl ?_; have hE := hQ _ _ _ _ (pce_3 h141).symm ⟨by show 0 ≤ (ps5 (V 6) (V 11 0) A (ltr (V 6) (V 11 0) (skb (V 6) (V 11 0) a))).1 ∧ _; omega, fun _ => ⟨rfl, by show HR (pstT (V 6) (V 11 0) A (ltr (V 6) (V 11 0) (skb (V 6) (V 11 0) a))) _; unfold pstT; rw [if_pos e5, ← g1, ← g2, ← g3, ← g4, ← g5]; exact H.pst (by omega) (by omega)⟩⟩ (vr_Lh hL3 (48 + 8 * (4 * r159 + r175) + 2) r183 (by omega))) | (have hE := hQ _ (ps5 (V 6) (V 11 0) A (ltr (V 6) (V 11 0) (skb (V 6) (V 11 0) a))).1 m200 h (pce_3 h141).symm ⟨by omega, fun z => absurd (f0.mpr z) h206⟩ hL)
          refine aw_goto (tgt := 265) dX11_readsPiece_253 rfl ?_
          first | (have hE0 := hE) | (refine aw_hp (V' := vr V (skb (V 6) (V 11 0) a) (ff (8 * (skb (V 6) (V 11 0) a) + 1)) m h) rfl rfl rfl (by rw [fz_ff (by omega) (by omega), if_pos rfl]) rfl ?_; have hE := hQ _ (skb (V 6) (V 11 0) a) m h (pce_4 h61 h118 h141).symm ⟨by omega, fun z => absurd z (by show ¬ 8 * (skb (V 6) (V 11 0) a) + 1 = 0; omega)⟩ (by show RgL (vr V (skb (V 6) (V 11 0) a) (ff (8 * (skb (V 6) (V 11 0) a) + 1)) m h); rw [show ff (8 * (skb (V 6) (V 11 0) a) + 1) = fz (ff 0) (8 * (skb (V 6) (V 11 0) a) + 1) by rw [fz_ff (by omega) (by omega), if_pos rfl]]; exact hL))
          exact aw_return dX11_readsPiece_265 rfl ⟨Nat.le_refl _, Nat.le_refl _⟩ hE
      · skip
        refine aw_if_eq (tgt := 256) dX11_readsPiece_144 rfl (by decide) (fun _ => ?_) (fun c => absurd c (by decide))
        rw [if_neg h141] at hL ⊢
        refine aw_aload_n dX11_readsPiece_256 rfl ?_
        refine aw_iconst dX11_readsPiece_257 ?_
        refine aw_aload_n dX11_readsPiece_258 rfl ?_
        refine aw_getf fg_X11_71 dX11_readsPiece_259 (hc43 hnx) rfl ?_
        refine aw_sv (a := (skb (V 6) (V 11 0) a)) (rfl) ?_
        refine aw_callV (As := [_, _]) (ρ := (_, 0, 0)) (kn' := (0, 0)) cv_X11_109 dX11_readsPiece_262 rfl rfl (hc43 hnx) rfl rfl (Nat.le_of_ble_eq_true rfl) (rmR _ _ _) ⟨Nat.le_refl _, Nat.le_refl _⟩ rfl (c_X11_fails hnx (ff_in (by omega)) (by omega) (by omega) hL (fun hL => ?_))
        first | (have hE0 := hE) | (refine aw_hp (V' := vr V (skb (V 6) (V 11 0) a) (ff (8 * (skb (V 6) (V 11 0) a) + 1)) m h) rfl rfl rfl (by rw [fz_ff (by omega) (by omega), if_pos rfl]) rfl ?_; have hE := hQ _ (skb (V 6) (V 11 0) a) m h (pce_4 h61 h118 h141).symm ⟨by omega, fun z => absurd z (by show ¬ 8 * (skb (V 6) (V 11 0) a) + 1 = 0; omega)⟩ (by show RgL (vr V (skb (V 6) (V 11 0) a) (ff (8 * (skb (V 6) (V 11 0) a) + 1)) m h); rw [show ff (8 * (skb (V 6) (V 11 0) a) + 1) = fz (ff 0) (8 * (skb (V 6) (V 11 0) a) + 1) by rw [fz_ff (by omega) (by omega), if_pos rfl]]; exact hL))
        exact aw_return dX11_readsPiece_265 rfl ⟨Nat.le_refl _, Nat.le_refl _⟩ hE

set_option maxHeartbeats 1000000 in
theorem c_X11_readsPiece {Γ : GT} {S T U V A : St} {G : Gw} {nx d : Nat} {Q : QT} (hnx : 52 ≤ nx) {a : Int} {m h : Int → Int} (hB : ∀ j : Int, -128 ≤ V 6 j ∧ V 6 j ≤ 127) (hn : 0 ≤ V 11 0 ∧ V 11 0 ≤ 400) (ha : 0 ≤ a ∧ a ≤ V 11 0) (H : HR A h) (a26 : 0 ≤ A 26 0 ∧ A 26 0 ≤ 4) (a27 : 0 ≤ A 27 0 ∧ A 27 0 ≤ 8) (hL : RgL (vr V a (ff 0) m h)) (hQ : ∀ (p : Int × Int × St) (a2 : Int) (m2 h2 : Int → Int), p = pce (V 6) (V 11 0) (a, 0, A) → RP (V 11 0) p a2 h2 → RgL (vr V a2 (ff p.2.1) m2 h2) → Q none (hp Γ S T U (vr V a2 (ff p.2.1) m2 h2) G) nx) : AM Γ MX11_readsPiece (d + 6, 0, 0) [rf Γ 43] (hp Γ S T U (vr V a (ff 0) m h) G) nx Q := by
  refine am_of (by decide) (Nat.le_of_ble_eq_true rfl) (ls := [some (rf Γ 43), none, none, none, none, none]) rfl ?_
  have sk := skb_in (B := V 6) (n := V 11 0) (a := a) (by omega)
  have lt := ltr_in (B := V 6) (n := V 11 0) (a := (skb (V 6) (V 11 0) a)) (by omega)
  have hsk := skb_idem (B := V 6) (n := V 11 0) (a := a) (by omega)
  have hs0 : (skb (V 6) (V 11 0) a) = (skb (V 6) (V 11 0) a) := rfl
  refine aw_aload_n dX11_readsPiece_0 rfl ?_
  refine aw_ldcS dX11_readsPiece_1 9 rfl rfl rfl ?_
  refine aw_callV (As := [_]) (ρ := (_, 0, 0)) (kn' := (0, 0)) cv_X11_101 dX11_readsPiece_3 rfl rfl (hc43 hnx) rfl rfl (Nat.le_of_ble_eq_true rfl) (rmR _ _ _) ⟨Nat.le_refl _, Nat.le_refl _⟩ rfl (c_X11_isWord hnx (i := 9) (jj := 1) (by decide) rfl hs0 hB hn (by omega) hL (fun r3 h3 hL => ?_))
  rcases h3 with ⟨rfl, h3⟩ | ⟨rfl, h3⟩
  · skip
    refine aw_if_eq (tgt := 23) dX11_readsPiece_6 rfl (by decide) (fun c => absurd c (by decide)) (fun _ => ?_)
    refine aw_aload_n dX11_readsPiece_9 rfl ?_
    refine aw_getf fg_X11_13 dX11_readsPiece_10 (hc43 hnx) rfl ?_
    refine aw_bipush dX11_readsPiece_13 rfl ?_
    refine aw_laldr dX11_readsPiece_15 (hc45 hnx) (by omega) (by decide) (hL 1) (fun q15 => ?_)
    refine aw_svl (a := A 26 0) (H.2.1.symm) ?_
    refine aw_ldc2 dX11_readsPiece_16 qk_X11_129 ?_
    refine aw_st (st' := vl 4 :: _) rfl ?_
    refine aw_lif_eq (tgt := 46) dX11_readsPiece_19 dX11_readsPiece_20 rfl (by omega) (fun c19 => ?_) (fun c19 => ?_)
    · skip
      refine aw_aload_n dX11_readsPiece_46 rfl ?_
      refine aw_iconst dX11_readsPiece_47 ?_
      refine aw_aload_n dX11_readsPiece_48 rfl ?_
      refine aw_getf fg_X11_71 dX11_readsPiece_49 (hc43 hnx) rfl ?_
      refine aw_sv (a := (skb (V 6) (V 11 0) a)) (rfl) ?_
      refine aw_callV (As := [_, _]) (ρ := (_, 0, 0)) (kn' := (0, 0)) cv_X11_109 dX11_readsPiece_52 rfl rfl (hc43 hnx) rfl rfl (Nat.le_of_ble_eq_true rfl) (rmR _ _ _) ⟨Nat.le_refl _, Nat.le_refl _⟩ rfl (c_X11_fails hnx (ff_in (by omega)) (by omega) (by omega) hL (fun hL => ?_))
      refine aw_hp (V' := vr V (skb (V 6) (V 11 0) a) (ff (8 * (skb (V 6) (V 11 0) a) + 3)) m h) rfl rfl rfl (by rw [fz_ff (by omega) (by omega), if_pos rfl]) rfl ?_
      replace hL : RgL (vr V (skb (V 6) (V 11 0) a) (ff (8 * (skb (V 6) (V 11 0) a) + 3)) m h) := (by rw [show ff (8 * (skb (V 6) (V 11 0) a) + 3) = fz (ff 0) (8 * (skb (V 6) (V 11 0) a) + 3) by rw [fz_ff (by omega) (by omega), if_pos rfl]]; exact hL)
      have rp : RP (V 11 0) ((ltr (V 6) (V 11 0) (skb (V 6) (V 11 0) a)), 8 * (skb (V 6) (V 11 0) a) + 3, A) (skb (V 6) (V 11 0) a) h := ⟨by omega, fun z => absurd z (by show ¬ 8 * (skb (V 6) (V 11 0) a) + 3 = 0; omega)⟩
      have hE := hQ ((ltr (V 6) (V 11 0) (skb (V 6) (V 11 0) a)), 8 * (skb (V 6) (V 11 0) a) + 3, A) _ _ _ (by first | exact (pce_1 h3 c19).symm | exact (pce_2 h26 c42).symm) rp hL
      refine aw_goto (tgt := 265) dX11_readsPiece_55 rfl ?_
      exact aw_return dX11_readsPiece_265 rfl ⟨Nat.le_refl _, Nat.le_refl _⟩ hE
    · skip
      refine aw_aload_n dX11_readsPiece_23 rfl ?_
      refine aw_ldcS dX11_readsPiece_24 10 rfl rfl rfl ?_
      refine aw_callV (As := [_]) (ρ := (_, 0, 0)) (kn' := (0, 0)) cv_X11_101 dX11_readsPiece_26 rfl rfl (hc43 hnx) rfl rfl (Nat.le_of_ble_eq_true rfl) (rmR _ _ _) ⟨Nat.le_refl _, Nat.le_refl _⟩ rfl (c_X11_isWord hnx (i := 10) (jj := 2) (by decide) rfl hsk hB hn (by omega) hL (fun r26 h26 hL => ?_))
      rcases h26 with ⟨rfl, h26⟩ | ⟨rfl, h26⟩
      · skip
        refine aw_if_eq (tgt := 58) dX11_readsPiece_29 rfl (by decide) (fun c => absurd c (by decide)) (fun _ => ?_)
        refine aw_aload_n dX11_readsPiece_32 rfl ?_
        refine aw_getf fg_X11_13 dX11_readsPiece_33 (hc43 hnx) rfl ?_
        refine aw_bipush dX11_readsPiece_36 rfl ?_
        refine aw_laldr dX11_readsPiece_38 (hc45 hnx) (by omega) (by decide) (hL 1) (fun q38 => ?_)
        refine aw_svl (a := A 27 0) (H.2.2.1.symm) ?_
        refine aw_ldc2 dX11_readsPiece_39 qk_X11_133 ?_
        refine aw_st (st' := vl 8 :: _) rfl ?_
        refine aw_lif_ne (tgt := 58) dX11_readsPiece_42 dX11_readsPiece_43 rfl (by omega) (fun c42 => ?_) (fun c42 => ?_)
        · skip
          exact j_X11_readsPiece_58 hnx hB hn ha H a26 a27 hL (by first | exact fun z => h3 z.1 | exact fun z => c19 z.2) (by first | exact fun z => h26 z.1 | exact fun z => c42 z.2) hQ
        · skip
          refine aw_aload_n dX11_readsPiece_46 rfl ?_
          refine aw_iconst dX11_readsPiece_47 ?_
          refine aw_aload_n dX11_readsPiece_48 rfl ?_
          refine aw_getf fg_X11_71 dX11_readsPiece_49 (hc43 hnx) rfl ?_
          refine aw_sv (a := (skb (V 6) (V 11 0) a)) (rfl) ?_
          refine aw_callV (As := [_, _]) (ρ := (_, 0, 0)) (kn' := (0, 0)) cv_X11_109 dX11_readsPiece_52 rfl rfl (hc43 hnx) rfl rfl (Nat.le_of_ble_eq_true rfl) (rmR _ _ _) ⟨Nat.le_refl _, Nat.le_refl _⟩ rfl (c_X11_fails hnx (ff_in (by omega)) (by omega) (by omega) hL (fun hL => ?_))
          refine aw_hp (V' := vr V (skb (V 6) (V 11 0) a) (ff (8 * (skb (V 6) (V 11 0) a) + 3)) m h) rfl rfl rfl (by rw [fz_ff (by omega) (by omega), if_pos rfl]) rfl ?_
          replace hL : RgL (vr V (skb (V 6) (V 11 0) a) (ff (8 * (skb (V 6) (V 11 0) a) + 3)) m h) := (by rw [show ff (8 * (skb (V 6) (V 11 0) a) + 3) = fz (ff 0) (8 * (skb (V 6) (V 11 0) a) + 3) by rw [fz_ff (by omega) (by omega), if_pos rfl]]; exact hL)
          have rp : RP (V 11 0) ((ltr (V 6) (V 11 0) (skb (V 6) (V 11 0) a)), 8 * (skb (V 6) (V 11 0) a) + 3, A) (skb (V 6) (V 11 0) a) h := ⟨by omega, fun z => absurd z (by show ¬ 8 * (skb (V 6) (V 11 0) a) + 3 = 0; omega)⟩
          have hE := hQ ((ltr (V 6) (V 11 0) (skb (V 6) (V 11 0) a)), 8 * (skb (V 6) (V 11 0) a) + 3, A) _ _ _ (by first | exact (pce_1 h3 c19).symm | exact (pce_2 h26 c42).symm) rp hL
          refine aw_goto (tgt := 265) dX11_readsPiece_55 rfl ?_
          exact aw_return dX11_readsPiece_265 rfl ⟨Nat.le_refl _, Nat.le_refl _⟩ hE
      · skip
        refine aw_if_eq (tgt := 58) dX11_readsPiece_29 rfl (by decide) (fun _ => ?_) (fun c => absurd c (by decide))
        exact j_X11_readsPiece_58 hnx hB hn ha H a26 a27 hL (by first | exact fun z => h3 z.1 | exact fun z => c19 z.2) (by first | exact fun z => h26 z.1 | exact fun z => c42 z.2) hQ
  · skip
    refine aw_if_eq (tgt := 23) dX11_readsPiece_6 rfl (by decide) (fun _ => ?_) (fun c => absurd c (by decide))
    refine aw_aload_n dX11_readsPiece_23 rfl ?_
    refine aw_ldcS dX11_readsPiece_24 10 rfl rfl rfl ?_
    refine aw_callV (As := [_]) (ρ := (_, 0, 0)) (kn' := (0, 0)) cv_X11_101 dX11_readsPiece_26 rfl rfl (hc43 hnx) rfl rfl (Nat.le_of_ble_eq_true rfl) (rmR _ _ _) ⟨Nat.le_refl _, Nat.le_refl _⟩ rfl (c_X11_isWord hnx (i := 10) (jj := 2) (by decide) rfl hsk hB hn (by omega) hL (fun r26 h26 hL => ?_))
    rcases h26 with ⟨rfl, h26⟩ | ⟨rfl, h26⟩
    · skip
      refine aw_if_eq (tgt := 58) dX11_readsPiece_29 rfl (by decide) (fun c => absurd c (by decide)) (fun _ => ?_)
      refine aw_aload_n dX11_readsPiece_32 rfl ?_
      refine aw_getf fg_X11_13 dX11_readsPiece_33 (hc43 hnx) rfl ?_
      refine aw_bipush dX11_readsPiece_36 rfl ?_
      refine aw_laldr dX11_readsPiece_38 (hc45 hnx) (by omega) (by decide) (hL 1) (fun q38 => ?_)
      refine aw_svl (a := A 27 0) (H.2.2.1.symm) ?_
      refine aw_ldc2 dX11_readsPiece_39 qk_X11_133 ?_
      refine aw_st (st' := vl 8 :: _) rfl ?_
      refine aw_lif_ne (tgt := 58) dX11_readsPiece_42 dX11_readsPiece_43 rfl (by omega) (fun c42 => ?_) (fun c42 => ?_)
      · skip
        exact j_X11_readsPiece_58 hnx hB hn ha H a26 a27 hL (by first | exact fun z => h3 z.1 | exact fun z => c19 z.2) (by first | exact fun z => h26 z.1 | exact fun z => c42 z.2) hQ
      · skip
        refine aw_aload_n dX11_readsPiece_46 rfl ?_
        refine aw_iconst dX11_readsPiece_47 ?_
        refine aw_aload_n dX11_readsPiece_48 rfl ?_
        refine aw_getf fg_X11_71 dX11_readsPiece_49 (hc43 hnx) rfl ?_
        refine aw_sv (a := (skb (V 6) (V 11 0) a)) (rfl) ?_
        refine aw_callV (As := [_, _]) (ρ := (_, 0, 0)) (kn' := (0, 0)) cv_X11_109 dX11_readsPiece_52 rfl rfl (hc43 hnx) rfl rfl (Nat.le_of_ble_eq_true rfl) (rmR _ _ _) ⟨Nat.le_refl _, Nat.le_refl _⟩ rfl (c_X11_fails hnx (ff_in (by omega)) (by omega) (by omega) hL (fun hL => ?_))
        refine aw_hp (V' := vr V (skb (V 6) (V 11 0) a) (ff (8 * (skb (V 6) (V 11 0) a) + 3)) m h) rfl rfl rfl (by rw [fz_ff (by omega) (by omega), if_pos rfl]) rfl ?_
        replace hL : RgL (vr V (skb (V 6) (V 11 0) a) (ff (8 * (skb (V 6) (V 11 0) a) + 3)) m h) := (by rw [show ff (8 * (skb (V 6) (V 11 0) a) + 3) = fz (ff 0) (8 * (skb (V 6) (V 11 0) a) + 3) by rw [fz_ff (by omega) (by omega), if_pos rfl]]; exact hL)
        have rp : RP (V 11 0) ((ltr (V 6) (V 11 0) (skb (V 6) (V 11 0) a)), 8 * (skb (V 6) (V 11 0) a) + 3, A) (skb (V 6) (V 11 0) a) h := ⟨by omega, fun z => absurd z (by show ¬ 8 * (skb (V 6) (V 11 0) a) + 3 = 0; omega)⟩
        have hE := hQ ((ltr (V 6) (V 11 0) (skb (V 6) (V 11 0) a)), 8 * (skb (V 6) (V 11 0) a) + 3, A) _ _ _ (by first | exact (pce_1 h3 c19).symm | exact (pce_2 h26 c42).symm) rp hL
        refine aw_goto (tgt := 265) dX11_readsPiece_55 rfl ?_
        exact aw_return dX11_readsPiece_265 rfl ⟨Nat.le_refl _, Nat.le_refl _⟩ hE
    · skip
      refine aw_if_eq (tgt := 58) dX11_readsPiece_29 rfl (by decide) (fun _ => ?_) (fun c => absurd c (by decide))
      exact j_X11_readsPiece_58 hnx hB hn ha H a26 a27 hL (by first | exact fun z => h3 z.1 | exact fun z => c19 z.2) (by first | exact fun z => h26 z.1 | exact fun z => c42 z.2) hQ


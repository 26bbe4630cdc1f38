/-! the reference: how it reads -/
def ff (f : Int) : Int := if f = 0 then -1 else f
theorem ff_in {f : Int} (h : 0 ≤ f ∧ f ≤ 4000) : -1 ≤ ff f ∧ ff f ≤ 4000 := by unfold ff; split <;> omega
theorem ff_0 {f : Int} (h : 0 ≤ f) : ff f = -1 ↔ f = 0 := by unfold ff; split <;> omega
def fz (g x : Int) : Int := if g = -1 then x else g
theorem fz_ff {f x : Int} (hf : 0 ≤ f) (hx : 0 < x) : fz (ff f) x = ff (if f = 0 then x else f) := by
  unfold fz ff
  by_cases h : f = 0
  · rw [if_pos h, if_pos rfl, if_pos h, if_neg (by omega)]
  · rw [if_neg h, if_neg (by omega), if_neg h, if_neg h]
def vr (V : St) (a g : Int) (m h : Int → Int) : St := sset (sset (u0 (u0 V 12 a) 13 g) 14 m) 1 h
theorem vr_a (V : St) (a g : Int) (m h : Int → Int) (x : Int) : vr V x g m h = u0 (vr V a g m h) 12 x := by
  funext f j; unfold vr u0 sset kf
  by_cases h1 : f = 1
  · simp [h1]
  · by_cases h2 : f = 14
    · simp [h2]
    · by_cases h3 : f = 13
      · simp [h3]
      · by_cases h4 : f = 12 <;> simp [h1, h2, h3, h4]
theorem vr_g (V : St) (a g : Int) (m h : Int → Int) (x : Int) : vr V a x m h = u0 (vr V a g m h) 13 x := by
  funext f j; unfold vr u0 sset kf
  by_cases h1 : f = 1
  · simp [h1]
  · by_cases h2 : f = 14
    · simp [h2]
    · by_cases h3 : f = 13 <;> simp [h1, h2, h3]
theorem vr_m (V : St) (a g : Int) (m h : Int → Int) (x : Int) : vr V a g (kf x) h = u0 (vr V a g m h) 14 x := by
  funext f j; unfold vr u0 sset kf
  by_cases h1 : f = 1
  · simp [h1]
  · by_cases h2 : f = 14 <;> simp [h1, h2]
theorem vr_h (V : St) (a g : Int) (m h : Int → Int) (i x : Int) : vr V a g m (uz h i x) = u1 (vr V a g m h) 1 i x := by
  funext f j; unfold vr u1 sset
  by_cases h1 : f = 1 <;> simp [h1]
theorem vr_La {V : St} {a g : Int} {m h : Int → Int} (hL : RgL (vr V a g m h)) (x : Int) (hx : inL x) : RgL (vr V x g m h) := by
  rw [vr_a V a g m h x]; exact hL.u0 hx
theorem vr_Lg {V : St} {a g : Int} {m h : Int → Int} (hL : RgL (vr V a g m h)) (x : Int) (hx : inL x) : RgL (vr V a x m h) := by
  rw [vr_g V a g m h x]; exact hL.u0 hx
theorem vr_Lh {V : St} {a g : Int} {m h : Int → Int} (hL : RgL (vr V a g m h)) (i x : Int) (hx : inL x) : RgL (vr V a g m (uz h i x)) := by
  rw [vr_h V a g m h i x]; exact hL.u1 hx
def sgn (B : Int → Int) (n a : Int) : Int := if a < n then B a % 256 else -1
theorem sgn_or (B : Int → Int) (n a : Int) : (a < n ∧ sgn B n a = B a % 256) ∨ (n ≤ a ∧ sgn B n a = -1) := by
  unfold sgn; split <;> omega
theorem and255' : ∀ k : Fin 256, I ((k.val : Int) - 128) &&& I 255 = I (((k.val : Int) - 128) % 256) := by decide +kernel
theorem and255 {b : Int} (h : -128 ≤ b ∧ b ≤ 127) : I b &&& I 255 = I (b % 256) := by
  have e := and255' ⟨(b + 128).toNat, by omega⟩
  have e2 : (((b + 128).toNat : Nat) : Int) - 128 = b := by omega
  simp only [e2] at e
  exact e
theorem run_idem (B : Int → Int) (n lo hi : Int) : ∀ (f : Nat) (a : Int), n - a ≤ (f : Int) → ¬ (run B n lo hi f a < n ∧ lo ≤ B (run B n lo hi f a) ∧ B (run B n lo hi f a) ≤ hi)
  | 0, a, h => by rw [run]; omega
  | f + 1, a, h => by
    rw [run]; split
    · exact run_idem B n lo hi f (a + 1) (by omega)
    · assumption
theorem skb_idem {B : Int → Int} {n a : Int} (h : 0 ≤ a ∧ n ≤ 400) : skb B n (skb B n a) = skb B n a := by
  have := run_idem B n 32 32 401 a (by omega)
  exact run_stop this
theorem skb_stop {B : Int → Int} {n a : Int} (h : 0 ≤ a ∧ n ≤ 400) : ¬ (skb B n a < n ∧ B (skb B n a) = 32) := by
  have := run_idem B n 32 32 401 a (by omega)
  unfold skb; omega
theorem isw_c {B : Int → Int} {n s : Int} {i j : Nat} (hij : sB i = sB j) : isW B n s i ↔ isW B n s j := by unfold isW; rw [hij]
theorem isw_fin {B : Int → Int} {n s w : Int} {i jj k j : Nat} (hij : sB i = sB jj) (el : ltr B n s = s + k) (i0 : w = 1 ∧ (k : Int) = ((sB i).length : Int) ∧ mis B s (sB i) j = 0 ∨ w = 0 ∧ ¬ ((k : Int) = ((sB i).length : Int) ∧ mis B s (sB i) (sB i).length = 0)) (hx : (j = k) ∨ w = 0) : w = 1 ∧ isW B n s jj ∨ w = 0 ∧ ¬ isW B n s jj := by
  rw [← isw_c hij]
  rcases i0 with z | z
  · refine Or.inl ⟨z.1, by rw [el]; omega, ?_⟩
    have e : j = (sB i).length := by omega
    rw [← e]; exact z.2.2
  · exact Or.inr ⟨z.1, fun q => z.2 ⟨by have := q.1; rw [el] at this; omega, q.2⟩⟩
def nU (B : Int → Int) (n lo hi a f : Int) : Int := if nF B n lo hi a f = 0 then nV B n lo hi a f else lo
theorem nU_in {B : Int → Int} {n lo hi a f : Int} (h : 0 ≤ lo ∧ lo ≤ 1) : 0 ≤ nU B n lo hi a f ∧ nU B n lo hi a f ≤ 100000 := by
  have := nV_in B n lo hi a f
  unfold nU; split <;> omega
theorem nb1 {B : Int → Int} {n lo hi a f : Int} (h : ¬ f = 0) : nA B n a f = a ∧ nF B n lo hi a f = f ∧ lo = nU B n lo hi a f := by
  have e : nF B n lo hi a f = f := by unfold nF; rw [if_neg h]
  refine ⟨by unfold nA; rw [if_neg h], e, ?_⟩
  unfold nU; rw [e, if_neg h]
theorem nb2 {B : Int → Int} {n lo hi a : Int} (ha : 0 ≤ a ∧ a ≤ n) (h : ¬ (skb B n a < n ∧ 48 ≤ B (skb B n a) ∧ B (skb B n a) ≤ 57)) : nA B n a 0 = skb B n a ∧ nF B n lo hi a 0 = 8 * skb B n a + 1 ∧ lo = nU B n lo hi a 0 := by
  have sk := skb_in (B := B) ha.2
  have ed : dgt B n (skb B n a) = skb B n a := run_stop h
  have e : nF B n lo hi a 0 = 8 * skb B n a + 1 := by unfold nF; rw [if_pos rfl, if_pos ed]
  refine ⟨by unfold nA; rw [if_pos rfl, ed], e, ?_⟩
  unfold nU; rw [e, if_neg (by omega)]
theorem nb3 {B : Int → Int} {n lo hi a x v : Int} (ha : 0 ≤ a ∧ a ≤ n) (ed : dgt B n (skb B n a) = x) (hx : skb B n a < x) (ev : nvl B n 401 (skb B n a) 0 = min v 100000) (hh : lo ≤ 1 ∧ hi ≤ 99999) (hv : ¬ (lo ≤ v ∧ v ≤ hi)) : nA B n a 0 = x ∧ nF B n lo hi a 0 = 8 * skb B n a + 2 ∧ lo = nU B n lo hi a 0 := by
  have sk := skb_in (B := B) ha.2
  have e : nF B n lo hi a 0 = 8 * skb B n a + 2 := by unfold nF nW; rw [if_pos rfl, ed, ev, if_neg (by omega), if_pos (by omega)]
  refine ⟨by unfold nA; rw [if_pos rfl, ed], e, ?_⟩
  unfold nU; rw [e, if_neg (by omega)]
theorem nb4 {B : Int → Int} {n lo hi a x v : Int} (ha : 0 ≤ a ∧ a ≤ n) (ed : dgt B n (skb B n a) = x) (hx : skb B n a < x) (ev : nvl B n 401 (skb B n a) 0 = min v 100000) (hh : lo ≤ 1 ∧ hi ≤ 99999) (hv : lo ≤ v ∧ v ≤ hi) : nA B n a 0 = x ∧ nF B n lo hi a 0 = 0 ∧ v = nU B n lo hi a 0 := by
  have sk := skb_in (B := B) ha.2
  have e : nF B n lo hi a 0 = 0 := by unfold nF nW; rw [if_pos rfl, ed, ev, if_neg (by omega), if_neg (by omega)]
  refine ⟨by unfold nA; rw [if_pos rfl, ed], e, ?_⟩
  unfold nU nV nW; rw [e, if_pos rfl, if_pos ⟨rfl, rfl⟩, ev]; omega

set_option maxHeartbeats 1000000 in
theorem c_X11_sign {Γ : GT} {S T U V : St} {G : Gw} {nx d : Nat} {Q : QT} (hnx : 52 ≤ nx) {a g : Int} {m h : Int → Int} (hB : ∀ j : Int, -128 ≤ V 6 j ∧ V 6 j ≤ 127) (hn : 0 ≤ V 11 0 ∧ V 11 0 ≤ 400) (ha : 0 ≤ a ∧ a ≤ V 11 0)  (hQ : ∀ r, r = sgn (V 6) (V 11 0) a → Q (some (vi r)) (hp Γ S T U (vr V a g m h) G) nx) : AM Γ MX11_sign (d, 0, 0) [rf Γ 43] (hp Γ S T U (vr V a g m h) G) nx Q := by
  refine am_of (by decide) (Nat.le_of_ble_eq_true rfl) (ls := [some (rf Γ 43)]) rfl ?_
  refine aw_aload_n dX11_sign_0 rfl ?_
  refine aw_getf fg_X11_71 dX11_sign_1 (hc43 hnx) rfl ?_
  refine aw_sv (a := a) (rfl) ?_
  refine aw_aload_n dX11_sign_4 rfl ?_
  refine aw_getf fg_X11_64 dX11_sign_5 (hc43 hnx) rfl ?_
  refine aw_sv (a := V 11 0) (rfl) ?_
  refine aw_icmp_ge (tgt := 27) dX11_sign_8 rfl (by omega) (fun c8 => ?_) (fun c8 => ?_)
  · skip
    refine aw_iconst dX11_sign_27 ?_
    exact aw_ireturn dX11_sign_28 rfl rfl ⟨Nat.le_refl _, Nat.le_refl _⟩ (hQ _ (by unfold sgn; first | rw [if_pos (by omega)] | rw [if_neg (by omega)]))
  · skip
    refine aw_aload_n dX11_sign_11 rfl ?_
    refine aw_getf fg_X11_29 dX11_sign_12 (hc43 hnx) rfl ?_
    refine aw_aload_n dX11_sign_15 rfl ?_
    refine aw_getf fg_X11_71 dX11_sign_16 (hc43 hnx) rfl ?_
    refine aw_sv (a := a) (rfl) ?_
    refine aw_bald dX11_sign_19 (hc50 hnx) (by omega) (by decide) ?_
    refine aw_sv (a := V 6 a) (rfl) ?_
    have b0 := hB a
    refine aw_sipush dX11_sign_20 rfl ?_
    refine aw_iand dX11_sign_23 (and255 b0) ?_
    refine aw_goto (tgt := 28) dX11_sign_24 rfl ?_
    exact aw_ireturn dX11_sign_28 rfl rfl ⟨Nat.le_refl _, Nat.le_refl _⟩ (hQ _ (by unfold sgn; first | rw [if_pos (by omega)] | rw [if_neg (by omega)]))

set_option maxHeartbeats 1000000 in
theorem c_X11_next {Γ : GT} {S T U V : St} {G : Gw} {nx d : Nat} {Q : QT} (hnx : 52 ≤ nx) {a g : Int} {m h : Int → Int} (hB : ∀ j : Int, -128 ≤ V 6 j ∧ V 6 j ≤ 127) (hn : 0 ≤ V 11 0 ∧ V 11 0 ≤ 400) (ha : 0 ≤ a ∧ a ≤ V 11 0) (hL : RgL (vr V a g m h))  (hQ : ∀ r, r = sgn (V 6) (V 11 0) (skb (V 6) (V 11 0) a) → RgL (vr V (skb (V 6) (V 11 0) a) g m h) → Q (some (vi r)) (hp Γ S T U (vr V (skb (V 6) (V 11 0) a) g m h) G) nx) : AM Γ MX11_next (d + 1, 0, 0) [rf Γ 43] (hp Γ S T U (vr V a g m h) G) nx Q := by
  refine am_of (by decide) (Nat.le_of_ble_eq_true rfl) (ls := [some (rf Γ 43)]) rfl ?_
  have hL0 := hL
  refine loopN (401) (P := fun k => ∀  (x : Int), x = a + (k : Int) → skb (V 6) (V 11 0) a = run (V 6) (V 11 0) 32 32 (401 - k) x → x ≤ V 11 0 →  AW Γ MX11_next _ _ (0, 0) 0 [some (rf Γ 43)] [] (hp Γ S T U (vr V x g m h) G) nx) (fun k hk ih => ?_) 0 (Nat.zero_le _) a (by omega) rfl (by omega)
  intro  x i0_0 i0_1 i0_2
  refine aw_aload_n dX11_next_0 rfl ?_
  have hL := vr_La hL0 x (by omega)
  have sg := sgn_or (V 6) (V 11 0) x
  have b0 := hB x
  refine aw_callV (As := []) (ρ := (_, 0, 0)) (kn' := (0, 0)) cv_X11_74 dX11_next_1 rfl rfl (hc43 hnx) rfl rfl (Nat.le_of_ble_eq_true rfl) (rmR _ _ _) ⟨Nat.le_refl _, Nat.le_refl _⟩ rfl (c_X11_sign hnx hB hn (by omega) (fun r1 h1 => ?_))
  refine aw_bipush dX11_next_4 rfl ?_
  refine aw_icmp_ne (tgt := 22) dX11_next_6 rfl (by omega) (fun c6 => ?_) (fun c6 => ?_)
  · skip
    have ex : skb (V 6) (V 11 0) a = x := by rw [i0_1]; exact run_stop (by omega)
    rw [ex] at hQ
    refine aw_aload_n dX11_next_22 rfl ?_
    refine aw_callV (As := []) (ρ := (_, 0, 0)) (kn' := (0, 0)) cv_X11_74 dX11_next_23 rfl rfl (hc43 hnx) rfl rfl (Nat.le_of_ble_eq_true rfl) (rmR _ _ _) ⟨Nat.le_refl _, Nat.le_refl _⟩ rfl (c_X11_sign hnx hB hn (by omega) (fun r23 h23 => ?_))
    exact aw_ireturn dX11_next_26 rfl rfl ⟨Nat.le_refl _, Nat.le_refl _⟩ (hQ _ h23 hL)
  · skip
    refine aw_aload_n dX11_next_9 rfl ?_
    refine aw_dup dX11_next_10 rfl ?_
    refine aw_getf fg_X11_71 dX11_next_11 (hc43 hnx) rfl ?_
    refine aw_sv (a := x) (rfl) ?_
    refine aw_iconst dX11_next_14 ?_
    refine aw_iadd dX11_next_15 ?_
    refine aw_putV fp_X11_71 dX11_next_16 (hc43 hnx) (Nat.le_of_ble_eq_true rfl) hL (by omega) hu43_12 (fun hL => ?_)
    refine aw_hp (V' := vr V (x + 1) g m h) rfl rfl rfl (vr_a V x g m h (x + 1)) rfl ?_
    refine aw_goto (tgt := 0) dX11_next_19 rfl ?_
    exact ih (by omega)  (x + 1) (by omega) (by rw [i0_1, show 401 - k = (401 - (k + 1)) + 1 by omega, run_step (by omega)]) (by omega)

set_option maxHeartbeats 1000000 in
theorem c_X11_isRight {Γ : GT} {S T U V : St} {G : Gw} {nx d : Nat} {Q : QT} (hnx : 52 ≤ nx) {a g : Int} {m h : Int → Int} (hg : -1 ≤ g ∧ g ≤ 4000) (hQ : ∀ r, (r = 1 ∧ (g = -1) ∨ r = 0 ∧ ¬ (g = -1)) → Q (some (vi r)) (hp Γ S T U (vr V a g m h) G) nx) : AM Γ MX11_isRight (d, 0, 0) [rf Γ 43] (hp Γ S T U (vr V a g m h) G) nx Q := by
  refine am_of (by decide) (Nat.le_of_ble_eq_true rfl) (ls := [some (rf Γ 43)]) rfl ?_
  refine aw_aload_n dX11_isRight_0 rfl ?_
  refine aw_getf fg_X11_78 dX11_isRight_1 (hc43 hnx) rfl ?_
  refine aw_sv (a := g) (rfl) ?_
  refine aw_iconst dX11_isRight_4 ?_
  refine aw_icmp_ne (tgt := 12) dX11_isRight_5 rfl (by omega) (fun c5 => ?_) (fun c5 => ?_)
  · skip
    refine aw_iconst dX11_isRight_12 ?_
    exact aw_zreturn dX11_isRight_13 rfl (by omega) ⟨Nat.le_refl _, Nat.le_refl _⟩ (hQ _ (by omega))
  · skip
    refine aw_iconst dX11_isRight_8 ?_
    refine aw_goto (tgt := 13) dX11_isRight_9 rfl ?_
    exact aw_zreturn dX11_isRight_13 rfl (by omega) ⟨Nat.le_refl _, Nat.le_refl _⟩ (hQ _ (by omega))

set_option maxHeartbeats 1000000 in
theorem c_X11_fails {Γ : GT} {S T U V : St} {G : Gw} {nx d : Nat} {Q : QT} (hnx : 52 ≤ nx) {y q : Int} {a g : Int} {m h : Int → Int} (hg : -1 ≤ g ∧ g ≤ 4000) (hy : 0 ≤ y ∧ y ≤ 400) (hq : 0 ≤ q ∧ q ≤ 4) (hL : RgL (vr V a g m h))  (hQ : RgL (vr V a (fz g (8 * y + q)) m h) → Q none (hp Γ S T U (vr V a (fz g (8 * y + q)) m h) G) nx) : AM Γ MX11_fails (d + 1, 0, 0) [rf Γ 43, vi q, vi y] (hp Γ S T U (vr V a g m h) G) nx Q := by
  refine am_of (by decide) (Nat.le_of_ble_eq_true rfl) (ls := [some (rf Γ 43), some _, some _]) rfl ?_
  have hL0 := hL
  refine aw_aload_n dX11_fails_0 rfl ?_
  refine aw_callV (As := []) (ρ := (_, 0, 0)) (kn' := (0, 0)) cv_X11_81 dX11_fails_1 rfl rfl (hc43 hnx) rfl rfl (Nat.le_of_ble_eq_true rfl) (rmR _ _ _) ⟨Nat.le_refl _, Nat.le_refl _⟩ rfl (c_X11_isRight hnx hg (fun r1 h1 => ?_))
  rcases h1 with ⟨rfl, h1⟩ | ⟨rfl, h1⟩
  · skip
    refine aw_if_eq (tgt := 17) dX11_fails_4 rfl (by decide) (fun c => absurd c (by decide)) (fun _ => ?_)
    refine aw_aload_n dX11_fails_7 rfl ?_
    refine aw_bipush dX11_fails_8 rfl ?_
    refine aw_iload_n dX11_fails_10 rfl ?_
    refine aw_imul dX11_fails_11 ?_
    refine aw_iload_n dX11_fails_12 rfl ?_
    refine aw_iadd dX11_fails_13 ?_
    refine aw_putV fp_X11_78 dX11_fails_14 (hc43 hnx) (Nat.le_of_ble_eq_true rfl) hL (by omega) hu43_13 (fun hL => ?_)
    first | (refine aw_hp (V' := vr V a (fz g (8 * y + q)) m h) rfl rfl rfl (by rw [fz, if_pos h1]; exact vr_g V a g m h _) rfl ?_) | (refine aw_hp (V' := vr V a (fz g (8 * y + q)) m h) rfl rfl rfl (by rw [fz, if_neg h1]) rfl ?_)
    exact aw_return dX11_fails_17 rfl ⟨Nat.le_refl _, Nat.le_refl _⟩ (hQ (vr_Lg hL0 _ (by unfold fz; split <;> omega)))
  · skip
    refine aw_if_eq (tgt := 17) dX11_fails_4 rfl (by decide) (fun _ => ?_) (fun c => absurd c (by decide))
    first | (refine aw_hp (V' := vr V a (fz g (8 * y + q)) m h) rfl rfl rfl (by rw [fz, if_pos h1]; exact vr_g V a g m h _) rfl ?_) | (refine aw_hp (V' := vr V a (fz g (8 * y + q)) m h) rfl rfl rfl (by rw [fz, if_neg h1]) rfl ?_)
    exact aw_return dX11_fails_17 rfl ⟨Nat.le_refl _, Nat.le_refl _⟩ (hQ (vr_Lg hL0 _ (by unfold fz; split <;> omega)))

set_option maxHeartbeats 1000000 in
theorem c_X11_isWord {Γ : GT} {S T U V : St} {G : Gw} {nx d : Nat} {Q : QT} (hnx : 52 ≤ nx) {a g : Int} {m h : Int → Int} {s : Int} {i jj : Nat} (hi : i < SR.length) (hij : sB i = sB jj) (hs : skb (V 6) (V 11 0) a = s) (hB : ∀ j : Int, -128 ≤ V 6 j ∧ V 6 j ≤ 127) (hn : 0 ≤ V 11 0 ∧ V 11 0 ≤ 400) (ha : 0 ≤ a ∧ a ≤ V 11 0) (hL : RgL (vr V a g m h))  (hQ : ∀ r, (r = 1 ∧ isW (V 6) (V 11 0) s jj ∨ r = 0 ∧ ¬ isW (V 6) (V 11 0) s jj) → RgL (vr V s g m h) → Q (some (vi r)) (hp Γ S T U (vr V s g m h) G) nx) : AM Γ MX11_isWord (d + 4, 0, 0) [rf Γ 43, .ref (gK Γ i)] (hp Γ S T U (vr V a g m h) G) nx Q := by
  refine am_of (by decide) (Nat.le_of_ble_eq_true rfl) (ls := [some (rf Γ 43), some _, none, none, none]) rfl ?_
  have hl := sB_small i hi
  have sk := skb_in (B := V 6) (n := V 11 0) (a := a) (by omega)
  refine aw_aload_n dX11_isWord_0 rfl ?_
  refine aw_callV (As := []) (ρ := (_, 0, 0)) (kn' := (0, 0)) cv_X11_85 dX11_isWord_1 rfl rfl (hc43 hnx) rfl rfl (Nat.le_of_ble_eq_true rfl) (rmR _ _ _) ⟨Nat.le_refl _, Nat.le_refl _⟩ rfl (c_X11_next hnx hB hn (by omega) hL (fun r1 h1 hL => ?_))
  subst hs
  obtain ⟨s, hs⟩ : ∃ s, s = (skb (V 6) (V 11 0) a) := ⟨_, rfl⟩
  rw [← hs] at hL hQ sk ⊢
  refine aw_pop dX11_isWord_4 rfl ?_
  refine aw_iconst dX11_isWord_5 ?_
  refine aw_istore_n (ls' := [some (rf Γ 43), some _, some _, none, none]) dX11_isWord_6 (by decide) rfl ?_
  refine loopN (401) (P := fun k => ltr (V 6) (V 11 0) s = run (V 6) (V 11 0) 97 122 (401 - k) (s + (k : Int)) → s + (k : Int) ≤ V 11 0 →  AW Γ MX11_isWord _ _ (0, 0) 7 [some (rf Γ 43), some (.ref (gK Γ i)), some (vi (k : Int)), none, none] [] (hp Γ S T U (vr V s g m h) G) nx) (fun k hk ih => ?_) 0 (Nat.zero_le _) (by show _ = run _ _ _ _ _ (s + 0); rw [Int.add_zero]; rfl) (by omega)
  intro  i7_0 i7_1
  refine aw_aload_n dX11_isWord_7 rfl ?_
  refine aw_getf fg_X11_71 dX11_isWord_8 (hc43 hnx) rfl ?_
  refine aw_sv (a := s) (rfl) ?_
  refine aw_iload_n dX11_isWord_11 rfl ?_
  refine aw_iadd dX11_isWord_12 ?_
  refine aw_aload_n dX11_isWord_13 rfl ?_
  refine aw_getf fg_X11_64 dX11_isWord_14 (hc43 hnx) rfl ?_
  refine aw_sv (a := V 11 0) (rfl) ?_
  refine aw_icmp_ge (tgt := 50) dX11_isWord_17 rfl (by omega) (fun c17 => ?_) (fun c17 => ?_)
  · skip
    have el : ltr (V 6) (V 11 0) s = s + (k : Int) := by rw [i7_0]; exact run_stop (by omega)
    refine aw_iload_n dX11_isWord_50 rfl ?_
    refine aw_aload_n dX11_isWord_51 rfl ?_
    refine aw_callVS (As := []) (ρ := (_, 0, 0)) (kn' := (0, 0)) cv_X11_92 dX11_isWord_52 rfl rfl hi rfl (Nat.le_of_ble_eq_true rfl) (rmR _ _ _) ⟨Nat.le_refl _, Nat.le_refl _⟩ rfl (c_J0_length hi ?_)
    refine aw_icmp_ne (tgt := 62) dX11_isWord_55 rfl (by omega) (fun c55 => ?_) (fun c55 => ?_)
    · skip
      refine aw_iconst dX11_isWord_62 ?_
      refine aw_istore_n (ls' := [some (rf Γ 43), some _, some _, some _, none]) dX11_isWord_63 (by decide) rfl ?_
      refine aw_iconst dX11_isWord_64 ?_
      refine aw_istore (ls' := [some (rf Γ 43), some _, some _, some _, some _]) dX11_isWord_65 (by decide) rfl ?_
      refine loopN (k) (P := fun j => ∀ (w : Int) , w = 1 ∧ (k : Int) = ((sB i).length : Int) ∧ mis (V 6) s (sB i) j = 0 ∨ w = 0 ∧ ¬ ((k : Int) = ((sB i).length : Int) ∧ mis (V 6) s (sB i) (sB i).length = 0) →  AW Γ MX11_isWord _ _ (0, 0) 67 [some (rf Γ 43), some (.ref (gK Γ i)), some (vi (k : Int)), some (vi w), some (vi (j : Int))] [] (hp Γ S T U (vr V s g m h) G) nx) (fun j hj ihj => ?_) 0 (Nat.zero_le _) _ (by first | exact Or.inl ⟨rfl, by omega, rfl⟩ | exact Or.inr ⟨rfl, fun z => by omega⟩)
      intro w i67_0
      refine aw_iload dX11_isWord_67 rfl ?_
      refine aw_iload_n dX11_isWord_69 rfl ?_
      refine aw_icmp_ge (tgt := 110) dX11_isWord_70 rfl (by omega) (fun c70 => ?_) (fun c70 => ?_)
      · skip
        refine aw_iload_n dX11_isWord_110 rfl ?_
        exact aw_zreturn dX11_isWord_111 rfl (by omega) ⟨Nat.le_refl _, Nat.le_refl _⟩ (hQ _ (isw_fin hij el i67_0 (by omega)) hL)
      · skip
        refine aw_iload_n dX11_isWord_73 rfl ?_
        refine aw_if_eq (tgt := 110) dX11_isWord_74 rfl (by omega) (fun c74 => ?_) (fun c74 => ?_)
        · skip
          refine aw_iload_n dX11_isWord_110 rfl ?_
          exact aw_zreturn dX11_isWord_111 rfl (by omega) ⟨Nat.le_refl _, Nat.le_refl _⟩ (hQ _ (isw_fin hij el i67_0 (by omega)) hL)
        · skip
          have z77 := i67_0.resolve_right (fun z => by omega)
          refine aw_aload_n dX11_isWord_77 rfl ?_
          refine aw_getf fg_X11_29 dX11_isWord_78 (hc43 hnx) rfl ?_
          refine aw_aload_n dX11_isWord_81 rfl ?_
          refine aw_getf fg_X11_71 dX11_isWord_82 (hc43 hnx) rfl ?_
          refine aw_sv (a := s) (rfl) ?_
          refine aw_iload dX11_isWord_85 rfl ?_
          refine aw_iadd dX11_isWord_87 ?_
          refine aw_bald dX11_isWord_88 (hc50 hnx) (by omega) (by decide) ?_
          refine aw_sv (a := V 6 (s + (j : Int))) (rfl) ?_
          have b0 := hB (s + (j : Int))
          refine aw_aload_n dX11_isWord_89 rfl ?_
          refine aw_iload dX11_isWord_90 rfl ?_
          refine aw_callVS (As := [_]) (ρ := (_, 0, 0)) (kn' := (0, 0)) cv_X11_97 dX11_isWord_92 rfl rfl hi rfl (Nat.le_of_ble_eq_true rfl) (rmR _ _ _) ⟨Nat.le_refl _, Nat.le_refl _⟩ rfl (c_J0_charAt hi (by omega) ?_)
          have b1 := sB_at hi (j := ((j : Int)).toNat) (by omega)
          refine aw_icmp_ne (tgt := 102) dX11_isWord_95 rfl (by omega) (fun c95 => ?_) (fun c95 => ?_)
          · skip
            refine aw_iconst dX11_isWord_102 ?_
            refine aw_istore_n (ls' := [some (rf Γ 43), some _, some _, some _, some _]) dX11_isWord_103 (by decide) rfl ?_
            refine aw_iinc (ls' := [some (rf Γ 43), some _, some _, some _, some _]) dX11_isWord_104 rfl (by decide) rfl ?_
            refine aw_goto (tgt := 67) dX11_isWord_107 rfl ?_
            exact ihj (by omega) 0  (by first | exact Or.inl ⟨rfl, z77.2.1, mis_s z77.2.2 (by rw [Int.toNat_natCast] at c95; omega)⟩ | exact Or.inr ⟨rfl, fun z => mis_1 (B := V 6) (s := s) (w := sB i) (j := j) (k := (sB i).length) (by omega) (by rw [Int.toNat_natCast] at c95; exact c95) z.2⟩)
          · skip
            refine aw_iconst dX11_isWord_98 ?_
            refine aw_goto (tgt := 103) dX11_isWord_99 rfl ?_
            refine aw_istore_n (ls' := [some (rf Γ 43), some _, some _, some _, some _]) dX11_isWord_103 (by decide) rfl ?_
            refine aw_iinc (ls' := [some (rf Γ 43), some _, some _, some _, some _]) dX11_isWord_104 rfl (by decide) rfl ?_
            refine aw_goto (tgt := 67) dX11_isWord_107 rfl ?_
            exact ihj (by omega) 1  (by first | exact Or.inl ⟨rfl, z77.2.1, mis_s z77.2.2 (by rw [Int.toNat_natCast] at c95; omega)⟩ | exact Or.inr ⟨rfl, fun z => mis_1 (B := V 6) (s := s) (w := sB i) (j := j) (k := (sB i).length) (by omega) (by rw [Int.toNat_natCast] at c95; exact c95) z.2⟩)
    · skip
      refine aw_iconst dX11_isWord_58 ?_
      refine aw_goto (tgt := 63) dX11_isWord_59 rfl ?_
      refine aw_istore_n (ls' := [some (rf Γ 43), some _, some _, some _, none]) dX11_isWord_63 (by decide) rfl ?_
      refine aw_iconst dX11_isWord_64 ?_
      refine aw_istore (ls' := [some (rf Γ 43), some _, some _, some _, some _]) dX11_isWord_65 (by decide) rfl ?_
      refine loopN (k) (P := fun j => ∀ (w : Int) , w = 1 ∧ (k : Int) = ((sB i).length : Int) ∧ mis (V 6) s (sB i) j = 0 ∨ w = 0 ∧ ¬ ((k : Int) = ((sB i).length : Int) ∧ mis (V 6) s (sB i) (sB i).length = 0) →  AW Γ MX11_isWord _ _ (0, 0) 67 [some (rf Γ 43), some (.ref (gK Γ i)), some (vi (k : Int)), some (vi w), some (vi (j : Int))] [] (hp Γ S T U (vr V s g m h) G) nx) (fun j hj ihj => ?_) 0 (Nat.zero_le _) _ (by first | exact Or.inl ⟨rfl, by omega, rfl⟩ | exact Or.inr ⟨rfl, fun z => by omega⟩)
      intro w i67_0
      refine aw_iload dX11_isWord_67 rfl ?_
      refine aw_iload_n dX11_isWord_69 rfl ?_
      refine aw_icmp_ge (tgt := 110) dX11_isWord_70 rfl (by omega) (fun c70 => ?_) (fun c70 => ?_)
      · skip
        refine aw_iload_n dX11_isWord_110 rfl ?_
        exact aw_zreturn dX11_isWord_111 rfl (by omega) ⟨Nat.le_refl _, Nat.le_refl _⟩ (hQ _ (isw_fin hij el i67_0 (by omega)) hL)
      · skip
        refine aw_iload_n dX11_isWord_73 rfl ?_
        refine aw_if_eq (tgt := 110) dX11_isWord_74 rfl (by omega) (fun c74 => ?_) (fun c74 => ?_)
        · skip
          refine aw_iload_n dX11_isWord_110 rfl ?_
          exact aw_zreturn dX11_isWord_111 rfl (by omega) ⟨Nat.le_refl _, Nat.le_refl _⟩ (hQ _ (isw_fin hij el i67_0 (by omega)) hL)
        · skip
          have z77 := i67_0.resolve_right (fun z => by omega)
          refine aw_aload_n dX11_isWord_77 rfl ?_
          refine aw_getf fg_X11_29 dX11_isWord_78 (hc43 hnx) rfl ?_
          refine aw_aload_n dX11_isWord_81 rfl ?_
          refine aw_getf fg_X11_71 dX11_isWord_82 (hc43 hnx) rfl ?_
          refine aw_sv (a := s) (rfl) ?_
          refine aw_iload dX11_isWord_85 rfl ?_
          refine aw_iadd dX11_isWord_87 ?_
          refine aw_bald dX11_isWord_88 (hc50 hnx) (by omega) (by decide) ?_
          refine aw_sv (a := V 6 (s + (j : Int))) (rfl) ?_
          have b0 := hB (s + (j : Int))
          refine aw_aload_n dX11_isWord_89 rfl ?_
          refine aw_iload dX11_isWord_90 rfl ?_
          refine aw_callVS (As := [_]) (ρ := (_, 0, 0)) (kn' := (0, 0)) cv_X11_97 dX11_isWord_92 rfl rfl hi rfl (Nat.le_of_ble_eq_true rfl) (rmR _ _ _) ⟨Nat.le_refl _, Nat.le_refl _⟩ rfl (c_J0_charAt hi (by omega) ?_)
          have b1 := sB_at hi (j := ((j : Int)).toNat) (by omega)
          refine aw_icmp_ne (tgt := 102) dX11_isWord_95 rfl (by omega) (fun c95 => ?_) (fun c95 => ?_)
          · skip
            refine aw_iconst dX11_isWord_102 ?_
            refine aw_istore_n (ls' := [some (rf Γ 43), some _, some _, some _, some _]) dX11_isWord_103 (by decide) rfl ?_
            refine aw_iinc (ls' := [some (rf Γ 43), some _, some _, some _, some _]) dX11_isWord_104 rfl (by decide) rfl ?_
            refine aw_goto (tgt := 67) dX11_isWord_107 rfl ?_
            exact ihj (by omega) 0  (by first | exact Or.inl ⟨rfl, z77.2.1, mis_s z77.2.2 (by rw [Int.toNat_natCast] at c95; omega)⟩ | exact Or.inr ⟨rfl, fun z => mis_1 (B := V 6) (s := s) (w := sB i) (j := j) (k := (sB i).length) (by omega) (by rw [Int.toNat_natCast] at c95; exact c95) z.2⟩)
          · skip
            refine aw_iconst dX11_isWord_98 ?_
            refine aw_goto (tgt := 103) dX11_isWord_99 rfl ?_
            refine aw_istore_n (ls' := [some (rf Γ 43), some _, some _, some _, some _]) dX11_isWord_103 (by decide) rfl ?_
            refine aw_iinc (ls' := [some (rf Γ 43), some _, some _, some _, some _]) dX11_isWord_104 rfl (by decide) rfl ?_
            refine aw_goto (tgt := 67) dX11_isWord_107 rfl ?_
            exact ihj (by omega) 1  (by first | exact Or.inl ⟨rfl, z77.2.1, mis_s z77.2.2 (by rw [Int.toNat_natCast] at c95; omega)⟩ | exact Or.inr ⟨rfl, fun z => mis_1 (B := V 6) (s := s) (w := sB i) (j := j) (k := (sB i).length) (by omega) (by rw [Int.toNat_natCast] at c95; exact c95) z.2⟩)
  · skip
    refine aw_aload_n dX11_isWord_20 rfl ?_
    refine aw_getf fg_X11_29 dX11_isWord_21 (hc43 hnx) rfl ?_
    refine aw_aload_n dX11_isWord_24 rfl ?_
    refine aw_getf fg_X11_71 dX11_isWord_25 (hc43 hnx) rfl ?_
    refine aw_sv (a := s) (rfl) ?_
    refine aw_iload_n dX11_isWord_28 rfl ?_
    refine aw_iadd dX11_isWord_29 ?_
    refine aw_bald dX11_isWord_30 (hc50 hnx) (by omega) (by decide) ?_
    refine aw_sv (a := V 6 (s + (k : Int))) (rfl) ?_
    have b0 := hB (s + (k : Int))
    refine aw_i2l dX11_isWord_31 (by omega) ?_
    refine aw_ldc2 dX11_isWord_32 qk_X11_88 ?_
    refine aw_st (st' := vl 97 :: _) rfl ?_
    refine aw_ldc2 dX11_isWord_35 qk_X11_90 ?_
    refine aw_st (st' := vl 122 :: _) rfl ?_
    refine aw_callS (As := [_, _, _]) (ρ := (_, 0, 0)) (kn' := (0, 0)) cs_X11_51 dX11_isWord_38 rfl rfl (Nat.le_of_ble_eq_true rfl) (rmR _ _ _) ⟨Nat.le_refl _, Nat.le_refl _⟩ rfl (c_X11_in hnx (by omega) (fun r38 h38 => ?_))
    rcases h38 with ⟨rfl, h38⟩ | ⟨rfl, h38⟩
    · skip
      refine aw_if_eq (tgt := 50) dX11_isWord_41 rfl (by decide) (fun c => absurd c (by decide)) (fun _ => ?_)
      refine aw_iinc (ls' := [some (rf Γ 43), some _, some _, none, none]) dX11_isWord_44 rfl (by decide) rfl ?_
      refine aw_goto (tgt := 7) dX11_isWord_47 rfl ?_
      exact ih (by omega)   (by rw [i7_0, show 401 - k = (401 - (k + 1)) + 1 by omega, run_step (by omega)]; congr 1; omega) (by omega)
    · skip
      refine aw_if_eq (tgt := 50) dX11_isWord_41 rfl (by decide) (fun _ => ?_) (fun c => absurd c (by decide))
      have el : ltr (V 6) (V 11 0) s = s + (k : Int) := by rw [i7_0]; exact run_stop (by omega)
      refine aw_iload_n dX11_isWord_50 rfl ?_
      refine aw_aload_n dX11_isWord_51 rfl ?_
      refine aw_callVS (As := []) (ρ := (_, 0, 0)) (kn' := (0, 0)) cv_X11_92 dX11_isWord_52 rfl rfl hi rfl (Nat.le_of_ble_eq_true rfl) (rmR _ _ _) ⟨Nat.le_refl _, Nat.le_refl _⟩ rfl (c_J0_length hi ?_)
      refine aw_icmp_ne (tgt := 62) dX11_isWord_55 rfl (by omega) (fun c55 => ?_) (fun c55 => ?_)
      · skip
        refine aw_iconst dX11_isWord_62 ?_
        refine aw_istore_n (ls' := [some (rf Γ 43), some _, some _, some _, none]) dX11_isWord_63 (by decide) rfl ?_
        refine aw_iconst dX11_isWord_64 ?_
        refine aw_istore (ls' := [some (rf Γ 43), some _, some _, some _, some _]) dX11_isWord_65 (by decide) rfl ?_
        refine loopN (k) (P := fun j => ∀ (w : Int) , w = 1 ∧ (k : Int) = ((sB i).length : Int) ∧ mis (V 6) s (sB i) j = 0 ∨ w = 0 ∧ ¬ ((k : Int) = ((sB i).length : Int) ∧ mis (V 6) s (sB i) (sB i).length = 0) →  AW Γ MX11_isWord _ _ (0, 0) 67 [some (rf Γ 43), some (.ref (gK Γ i)), some (vi (k : Int)), some (vi w), some (vi (j : Int))] [] (hp Γ S T U (vr V s g m h) G) nx) (fun j hj ihj => ?_) 0 (Nat.zero_le _) _ (by first | exact Or.inl ⟨rfl, by omega, rfl⟩ | exact Or.inr ⟨rfl, fun z => by omega⟩)
        intro w i67_0
        refine aw_iload dX11_isWord_67 rfl ?_
        refine aw_iload_n dX11_isWord_69 rfl ?_
        refine aw_icmp_ge (tgt := 110) dX11_isWord_70 rfl (by omega) (fun c70 => ?_) (fun c70 => ?_)
        · skip
          refine aw_iload_n dX11_isWord_110 rfl ?_
          exact aw_zreturn dX11_isWord_111 rfl (by omega) ⟨Nat.le_refl _, Nat.le_refl _⟩ (hQ _ (isw_fin hij el i67_0 (by omega)) hL)
        · skip
          refine aw_iload_n dX11_isWord_73 rfl ?_
          refine aw_if_eq (tgt := 110) dX11_isWord_74 rfl (by omega) (fun c74 => ?_) (fun c74 => ?_)
          · skip
            refine aw_iload_n dX11_isWord_110 rfl ?_
            exact aw_zreturn dX11_isWord_111 rfl (by omega) ⟨Nat.le_refl _, Nat.le_refl _⟩ (hQ _ (isw_fin hij el i67_0 (by omega)) hL)
          · skip
            have z77 := i67_0.resolve_right (fun z => by omega)
            refine aw_aload_n dX11_isWord_77 rfl ?_
            refine aw_getf fg_X11_29 dX11_isWord_78 (hc43 hnx) rfl ?_
            refine aw_aload_n dX11_isWord_81 rfl ?_
            refine aw_getf fg_X11_71 dX11_isWord_82 (hc43 hnx) rfl ?_
            refine aw_sv (a := s) (rfl) ?_
            refine aw_iload dX11_isWord_85 rfl ?_
            refine aw_iadd dX11_isWord_87 ?_
            refine aw_bald dX11_isWord_88 (hc50 hnx) (by omega) (by decide) ?_
            refine aw_sv (a := V 6 (s + (j : Int))) (rfl) ?_
            have b0 := hB (s + (j : Int))
            refine aw_aload_n dX11_isWord_89 rfl ?_
            refine aw_iload dX11_isWord_90 rfl ?_
            refine aw_callVS (As := [_]) (ρ := (_, 0, 0)) (kn' := (0, 0)) cv_X11_97 dX11_isWord_92 rfl rfl hi rfl (Nat.le_of_ble_eq_true rfl) (rmR _ _ _) ⟨Nat.le_refl _, Nat.le_refl _⟩ rfl (c_J0_charAt hi (by omega) ?_)
            have b1 := sB_at hi (j := ((j : Int)).toNat) (by omega)
            refine aw_icmp_ne (tgt := 102) dX11_isWord_95 rfl (by omega) (fun c95 => ?_) (fun c95 => ?_)
            · skip
              refine aw_iconst dX11_isWord_102 ?_
              refine aw_istore_n (ls' := [some (rf Γ 43), some _, some _, some _, some _]) dX11_isWord_103 (by decide) rfl ?_
              refine aw_iinc (ls' := [some (rf Γ 43), some _, some _, some _, some _]) dX11_isWord_104 rfl (by decide) rfl ?_
              refine aw_goto (tgt := 67) dX11_isWord_107 rfl ?_
              exact ihj (by omega) 0  (by first | exact Or.inl ⟨rfl, z77.2.1, mis_s z77.2.2 (by rw [Int.toNat_natCast] at c95; omega)⟩ | exact Or.inr ⟨rfl, fun z => mis_1 (B := V 6) (s := s) (w := sB i) (j := j) (k := (sB i).length) (by omega) (by rw [Int.toNat_natCast] at c95; exact c95) z.2⟩)
            · skip
              refine aw_iconst dX11_isWord_98 ?_
              refine aw_goto (tgt := 103) dX11_isWord_99 rfl ?_
              refine aw_istore_n (ls' := [some (rf Γ 43), some _, some _, some _, some _]) dX11_isWord_103 (by decide) rfl ?_
              refine aw_iinc (ls' := [some (rf Γ 43), some _, some _, some _, some _]) dX11_isWord_104 rfl (by decide) rfl ?_
              refine aw_goto (tgt := 67) dX11_isWord_107 rfl ?_
              exact ihj (by omega) 1  (by first | exact Or.inl ⟨rfl, z77.2.1, mis_s z77.2.2 (by rw [Int.toNat_natCast] at c95; omega)⟩ | exact Or.inr ⟨rfl, fun z => mis_1 (B := V 6) (s := s) (w := sB i) (j := j) (k := (sB i).length) (by omega) (by rw [Int.toNat_natCast] at c95; exact c95) z.2⟩)
      · skip
        refine aw_iconst dX11_isWord_58 ?_
        refine aw_goto (tgt := 63) dX11_isWord_59 rfl ?_
        refine aw_istore_n (ls' := [some (rf Γ 43), some _, some _, some _, none]) dX11_isWord_63 (by decide) rfl ?_
        refine aw_iconst dX11_isWord_64 ?_
        refine aw_istore (ls' := [some (rf Γ 43), some _, some _, some _, some _]) dX11_isWord_65 (by decide) rfl ?_
        refine loopN (k) (P := fun j => ∀ (w : Int) , w = 1 ∧ (k : Int) = ((sB i).length : Int) ∧ mis (V 6) s (sB i) j = 0 ∨ w = 0 ∧ ¬ ((k : Int) = ((sB i).length : Int) ∧ mis (V 6) s (sB i) (sB i).length = 0) →  AW Γ MX11_isWord _ _ (0, 0) 67 [some (rf Γ 43), some (.ref (gK Γ i)), some (vi (k : Int)), some (vi w), some (vi (j : Int))] [] (hp Γ S T U (vr V s g m h) G) nx) (fun j hj ihj => ?_) 0 (Nat.zero_le _) _ (by first | exact Or.inl ⟨rfl, by omega, rfl⟩ | exact Or.inr ⟨rfl, fun z => by omega⟩)
        intro w i67_0
        refine aw_iload dX11_isWord_67 rfl ?_
        refine aw_iload_n dX11_isWord_69 rfl ?_
        refine aw_icmp_ge (tgt := 110) dX11_isWord_70 rfl (by omega) (fun c70 => ?_) (fun c70 => ?_)
        · skip
          refine aw_iload_n dX11_isWord_110 rfl ?_
          exact aw_zreturn dX11_isWord_111 rfl (by omega) ⟨Nat.le_refl _, Nat.le_refl _⟩ (hQ _ (isw_fin hij el i67_0 (by omega)) hL)
        · skip
          refine aw_iload_n dX11_isWord_73 rfl ?_
          refine aw_if_eq (tgt := 110) dX11_isWord_74 rfl (by omega) (fun c74 => ?_) (fun c74 => ?_)
          · skip
            refine aw_iload_n dX11_isWord_110 rfl ?_
            exact aw_zreturn dX11_isWord_111 rfl (by omega) ⟨Nat.le_refl _, Nat.le_refl _⟩ (hQ _ (isw_fin hij el i67_0 (by omega)) hL)
          · skip
            have z77 := i67_0.resolve_right (fun z => by omega)
            refine aw_aload_n dX11_isWord_77 rfl ?_
            refine aw_getf fg_X11_29 dX11_isWord_78 (hc43 hnx) rfl ?_
            refine aw_aload_n dX11_isWord_81 rfl ?_
            refine aw_getf fg_X11_71 dX11_isWord_82 (hc43 hnx) rfl ?_
            refine aw_sv (a := s) (rfl) ?_
            refine aw_iload dX11_isWord_85 rfl ?_
            refine aw_iadd dX11_isWord_87 ?_
            refine aw_bald dX11_isWord_88 (hc50 hnx) (by omega) (by decide) ?_
            refine aw_sv (a := V 6 (s + (j : Int))) (rfl) ?_
            have b0 := hB (s + (j : Int))
            refine aw_aload_n dX11_isWord_89 rfl ?_
            refine aw_iload dX11_isWord_90 rfl ?_
            refine aw_callVS (As := [_]) (ρ := (_, 0, 0)) (kn' := (0, 0)) cv_X11_97 dX11_isWord_92 rfl rfl hi rfl (Nat.le_of_ble_eq_true rfl) (rmR _ _ _) ⟨Nat.le_refl _, Nat.le_refl _⟩ rfl (c_J0_charAt hi (by omega) ?_)
            have b1 := sB_at hi (j := ((j : Int)).toNat) (by omega)
            refine aw_icmp_ne (tgt := 102) dX11_isWord_95 rfl (by omega) (fun c95 => ?_) (fun c95 => ?_)
            · skip
              refine aw_iconst dX11_isWord_102 ?_
              refine aw_istore_n (ls' := [some (rf Γ 43), some _, some _, some _, some _]) dX11_isWord_103 (by decide) rfl ?_
              refine aw_iinc (ls' := [some (rf Γ 43), some _, some _, some _, some _]) dX11_isWord_104 rfl (by decide) rfl ?_
              refine aw_goto (tgt := 67) dX11_isWord_107 rfl ?_
              exact ihj (by omega) 0  (by first | exact Or.inl ⟨rfl, z77.2.1, mis_s z77.2.2 (by rw [Int.toNat_natCast] at c95; omega)⟩ | exact Or.inr ⟨rfl, fun z => mis_1 (B := V 6) (s := s) (w := sB i) (j := j) (k := (sB i).length) (by omega) (by rw [Int.toNat_natCast] at c95; exact c95) z.2⟩)
            · skip
              refine aw_iconst dX11_isWord_98 ?_
              refine aw_goto (tgt := 103) dX11_isWord_99 rfl ?_
              refine aw_istore_n (ls' := [some (rf Γ 43), some _, some _, some _, some _]) dX11_isWord_103 (by decide) rfl ?_
              refine aw_iinc (ls' := [some (rf Γ 43), some _, some _, some _, some _]) dX11_isWord_104 rfl (by decide) rfl ?_
              refine aw_goto (tgt := 67) dX11_isWord_107 rfl ?_
              exact ihj (by omega) 1  (by first | exact Or.inl ⟨rfl, z77.2.1, mis_s z77.2.2 (by rw [Int.toNat_natCast] at c95; omega)⟩ | exact Or.inr ⟨rfl, fun z => mis_1 (B := V 6) (s := s) (w := sB i) (j := j) (k := (sB i).length) (by omega) (by rw [Int.toNat_natCast] at c95; exact c95) z.2⟩)

set_option maxHeartbeats 1000000 in
theorem c_X11_takes {Γ : GT} {S T U V : St} {G : Gw} {nx d : Nat} {Q : QT} (hnx : 52 ≤ nx) {a g : Int} {m h : Int → Int} {s : Int} {i jj : Nat} (hi : i < SR.length) (hij : sB i = sB jj) (hs : skb (V 6) (V 11 0) a = s) (hB : ∀ j : Int, -128 ≤ V 6 j ∧ V 6 j ≤ 127) (hn : 0 ≤ V 11 0 ∧ V 11 0 ≤ 400) (ha : 0 ≤ a ∧ a ≤ V 11 0) (hL : RgL (vr V a g m h))  (hQ : ∀ r, (r = 1 ∧ isW (V 6) (V 11 0) s jj ∨ r = 0 ∧ ¬ isW (V 6) (V 11 0) s jj) → RgL (vr V (if isW (V 6) (V 11 0) s jj then ltr (V 6) (V 11 0) s else s) g m h) → Q (some (vi r)) (hp Γ S T U (vr V (if isW (V 6) (V 11 0) s jj then ltr (V 6) (V 11 0) s else s) g m h) G) nx) : AM Γ MX11_takes (d + 5, 0, 0) [rf Γ 43, .ref (gK Γ i)] (hp Γ S T U (vr V a g m h) G) nx Q := by
  refine am_of (by decide) (Nat.le_of_ble_eq_true rfl) (ls := [some (rf Γ 43), some _]) rfl ?_
  have hl := sB_small i hi
  have hL0 := hL
  have sk := skb_in (B := V 6) (n := V 11 0) (a := a) (by omega)
  have lt := ltr_in (B := V 6) (n := V 11 0) (a := s) (by omega)
  refine aw_aload_n dX11_takes_0 rfl ?_
  refine aw_aload_n dX11_takes_1 rfl ?_
  refine aw_callV (As := [_]) (ρ := (_, 0, 0)) (kn' := (0, 0)) cv_X11_101 dX11_takes_2 rfl rfl (hc43 hnx) rfl rfl (Nat.le_of_ble_eq_true rfl) (rmR _ _ _) ⟨Nat.le_refl _, Nat.le_refl _⟩ rfl (c_X11_isWord hnx hi hij hs hB hn ha hL (fun r2 h2 hL => ?_))
  rcases h2 with ⟨rfl, h2⟩ | ⟨rfl, h2⟩
  · skip
    refine aw_if_ne (tgt := 10) dX11_takes_5 rfl (by decide) (fun _ => ?_) (fun c => absurd c (by decide))
    refine aw_aload_n dX11_takes_10 rfl ?_
    refine aw_dup dX11_takes_11 rfl ?_
    refine aw_getf fg_X11_71 dX11_takes_12 (hc43 hnx) rfl ?_
    refine aw_sv (a := s) (rfl) ?_
    refine aw_aload_n dX11_takes_15 rfl ?_
    refine aw_callVS (As := []) (ρ := (_, 0, 0)) (kn' := (0, 0)) cv_X11_92 dX11_takes_16 rfl rfl hi rfl (Nat.le_of_ble_eq_true rfl) (rmR _ _ _) ⟨Nat.le_refl _, Nat.le_refl _⟩ rfl (c_J0_length hi ?_)
    refine aw_iadd dX11_takes_19 ?_
    refine aw_putV fp_X11_71 dX11_takes_20 (hc43 hnx) (Nat.le_of_ble_eq_true rfl) hL (by omega) hu43_12 (fun hL => ?_)
    rw [if_pos h2] at hQ
    have eL : s + ((sB i).length : Int) = ltr (V 6) (V 11 0) s := by have := h2.1; rw [← hij] at this; omega
    rw [eL] at hL ⊢
    refine aw_hp (V' := vr V (ltr (V 6) (V 11 0) s) g m h) rfl rfl rfl (vr_a V s g m h _) rfl ?_
    refine aw_iconst dX11_takes_23 ?_
    exact aw_zreturn dX11_takes_24 rfl (by omega) ⟨Nat.le_refl _, Nat.le_refl _⟩ (hQ 1 (by omega) (vr_La hL0 _ (by omega)))
  · skip
    refine aw_if_ne (tgt := 10) dX11_takes_5 rfl (by decide) (fun c => absurd c (by decide)) (fun _ => ?_)
    rw [if_neg h2] at hQ
    refine aw_iconst dX11_takes_8 ?_
    exact aw_zreturn dX11_takes_9 rfl (by omega) ⟨Nat.le_refl _, Nat.le_refl _⟩ (hQ 0 (by omega) hL)

set_option maxHeartbeats 1000000 in
theorem c_X11_number {Γ : GT} {S T U V : St} {G : Gw} {nx d : Nat} {Q : QT} (hnx : 52 ≤ nx) {a f p q : Int} {m h : Int → Int} (hB : ∀ j : Int, -128 ≤ V 6 j ∧ V 6 j ≤ 127) (hn : 0 ≤ V 11 0 ∧ V 11 0 ≤ 400) (ha : 0 ≤ a ∧ a ≤ V 11 0) (hf : 0 ≤ f ∧ f ≤ 4000) (hpp : 0 ≤ p ∧ p ≤ 1) (hq : -1 ≤ q ∧ q ≤ 99999) (hL : RgL (vr V a (ff f) m h)) (hQ : ∀ r m2, r = nU (V 6) (V 11 0) p q a f → RgL (vr V (nA (V 6) (V 11 0) a f) (ff (nF (V 6) (V 11 0) p q a f)) m2 h) → Q (some (vi r)) (hp Γ S T U (vr V (nA (V 6) (V 11 0) a f) (ff (nF (V 6) (V 11 0) p q a f)) m2 h) G) nx) : AM Γ MX11_number (d + 2, 0, 0) [rf Γ 43, vi p, vi q] (hp Γ S T U (vr V a (ff f) m h) G) nx Q := by
  refine am_of (by decide) (Nat.le_of_ble_eq_true rfl) (ls := [some (rf Γ 43), some _, some _, none]) rfl ?_
  have hg := ff_in hf
  have hz := ff_0 hf.1
  have sk := skb_in (B := V 6) (n := V 11 0) (a := a) (by omega)
  have sg := sgn_or (V 6) (V 11 0) (skb (V 6) (V 11 0) a)
  have b9 := hB (skb (V 6) (V 11 0) a)
  refine aw_aload_n dX11_number_0 rfl ?_
  refine aw_callV (As := []) (ρ := (_, 0, 0)) (kn' := (0, 0)) cv_X11_81 dX11_number_1 rfl rfl (hc43 hnx) rfl rfl (Nat.le_of_ble_eq_true rfl) (rmR _ _ _) ⟨Nat.le_refl _, Nat.le_refl _⟩ rfl (c_X11_isRight hnx hg (fun r1 h1 => ?_))
  rcases h1 with ⟨rfl, h1⟩ | ⟨rfl, h1⟩
  · skip
    refine aw_if_eq (tgt := 24) dX11_number_4 rfl (by decide) (fun c => absurd c (by decide)) (fun _ => ?_)
    obtain rfl : f = 0 := hz.mp h1
    refine aw_aload_n dX11_number_7 rfl ?_
    refine aw_callV (As := []) (ρ := (_, 0, 0)) (kn' := (0, 0)) cv_X11_85 dX11_number_8 rfl rfl (hc43 hnx) rfl rfl (Nat.le_of_ble_eq_true rfl) (rmR _ _ _) ⟨Nat.le_refl _, Nat.le_refl _⟩ rfl (c_X11_next hnx hB hn (by omega) hL (fun r8 h8 hL => ?_))
    refine aw_i2l dX11_number_11 (by omega) ?_
    refine aw_ldc2 dX11_number_12 qk_X11_105 ?_
    refine aw_st (st' := vl 48 :: _) rfl ?_
    refine aw_ldc2 dX11_number_15 qk_X11_107 ?_
    refine aw_st (st' := vl 57 :: _) rfl ?_
    refine aw_callS (As := [_, _, _]) (ρ := (_, 0, 0)) (kn' := (0, 0)) cs_X11_51 dX11_number_18 rfl rfl (Nat.le_of_ble_eq_true rfl) (rmR _ _ _) ⟨Nat.le_refl _, Nat.le_refl _⟩ rfl (c_X11_in hnx (by omega) (fun r18 h18 => ?_))
    rcases h18 with ⟨rfl, h18⟩ | ⟨rfl, h18⟩
    · skip
      refine aw_if_ne (tgt := 35) dX11_number_21 rfl (by decide) (fun _ => ?_) (fun c => absurd c (by decide))
      refine aw_aload_n dX11_number_35 rfl ?_
      refine aw_aload_n dX11_number_36 rfl ?_
      refine aw_getf fg_X11_71 dX11_number_37 (hc43 hnx) rfl ?_
      refine aw_sv (a := (skb (V 6) (V 11 0) a)) (rfl) ?_
      refine aw_putV fp_X11_113 dX11_number_40 (hc43 hnx) (Nat.le_of_ble_eq_true rfl) hL (by omega) hu43_14 (fun hL => ?_)
      refine aw_iconst dX11_number_43 ?_
      refine aw_istore_n (ls' := [some (rf Γ 43), some _, some _, some _]) dX11_number_44 (by decide) rfl ?_
      have hLq : RgL (vr V (skb (V 6) (V 11 0) a) (ff 0) (kf (skb (V 6) (V 11 0) a)) h) := by rw [vr_m V _ _ m h]; exact hL
      refine aw_hp (V' := vr V (skb (V 6) (V 11 0) a) (ff 0) (kf (skb (V 6) (V 11 0) a)) h) rfl rfl rfl (vr_m V _ _ m h _) rfl ?_
      refine loopN (401) (P := fun k => ∀ (v : Int) (x : Int), x = (skb (V 6) (V 11 0) a) + (k : Int) → dgt (V 6) (V 11 0) (skb (V 6) (V 11 0) a) = run (V 6) (V 11 0) 48 57 (401 - k) x → nvl (V 6) (V 11 0) 401 (skb (V 6) (V 11 0) a) 0 = nvl (V 6) (V 11 0) (401 - k) x (min v 100000) → 0 ≤ v ∧ v ≤ 1000000 → x ≤ V 11 0 →  AW Γ MX11_number _ _ (0, 0) 45 [some (rf Γ 43), some (vi p), some (vi q), some (vi v)] [] (hp Γ S T U (vr V x (ff 0) (kf (skb (V 6) (V 11 0) a)) h) G) nx) (fun k hk ih => ?_) 0 (Nat.zero_le _) _ (skb (V 6) (V 11 0) a) (by omega) rfl rfl (by omega) (by omega)
      intro v x i45_0 i45_1 i45_2 i45_3 i45_4
      refine aw_aload_n dX11_number_45 rfl ?_
      have hL := vr_La hLq x (by omega)
      have sx := sgn_or (V 6) (V 11 0) x
      have b0 := hB x
      refine aw_callV (As := []) (ρ := (_, 0, 0)) (kn' := (0, 0)) cv_X11_74 dX11_number_46 rfl rfl (hc43 hnx) rfl rfl (Nat.le_of_ble_eq_true rfl) (rmR _ _ _) ⟨Nat.le_refl _, Nat.le_refl _⟩ rfl (c_X11_sign hnx hB hn (by omega) (fun r46 h46 => ?_))
      refine aw_i2l dX11_number_49 (by omega) ?_
      refine aw_ldc2 dX11_number_50 qk_X11_105 ?_
      refine aw_st (st' := vl 48 :: _) rfl ?_
      refine aw_ldc2 dX11_number_53 qk_X11_107 ?_
      refine aw_st (st' := vl 57 :: _) rfl ?_
      refine aw_callS (As := [_, _, _]) (ρ := (_, 0, 0)) (kn' := (0, 0)) cs_X11_51 dX11_number_56 rfl rfl (Nat.le_of_ble_eq_true rfl) (rmR _ _ _) ⟨Nat.le_refl _, Nat.le_refl _⟩ rfl (c_X11_in hnx (by omega) (fun r56 h56 => ?_))
      rcases h56 with ⟨rfl, h56⟩ | ⟨rfl, h56⟩
      · skip
        refine aw_if_eq (tgt := 93) dX11_number_59 rfl (by decide) (fun c => absurd c (by decide)) (fun _ => ?_)
        refine aw_ldc dX11_number_62 qk_X11_116 ?_
        refine aw_st (st' := vi 1000000 :: _) rfl ?_
        refine aw_bipush dX11_number_64 rfl ?_
        refine aw_iload_n dX11_number_66 rfl ?_
        refine aw_imul dX11_number_67 ?_
        refine aw_aload_n dX11_number_68 rfl ?_
        refine aw_callV (As := []) (ρ := (_, 0, 0)) (kn' := (0, 0)) cv_X11_74 dX11_number_69 rfl rfl (hc43 hnx) rfl rfl (Nat.le_of_ble_eq_true rfl) (rmR _ _ _) ⟨Nat.le_refl _, Nat.le_refl _⟩ rfl (c_X11_sign hnx hB hn (by omega) (fun r69 h69 => ?_))
        refine aw_iadd dX11_number_72 ?_
        refine aw_bipush dX11_number_73 rfl ?_
        refine aw_isub dX11_number_75 ?_
        refine aw_mmin qm_X11_117 dX11_number_76 (by omega) (rmN13 _ _ _ (Nat.le_of_ble_eq_true rfl)) ⟨Nat.le_refl _, Nat.le_refl _⟩ (fun r76 h76 => ?_)
        refine aw_istore_n (ls' := [some (rf Γ 43), some _, some _, some _]) dX11_number_79 (by decide) rfl ?_
        refine aw_aload_n dX11_number_80 rfl ?_
        refine aw_dup dX11_number_81 rfl ?_
        refine aw_getf fg_X11_71 dX11_number_82 (hc43 hnx) rfl ?_
        refine aw_sv (a := x) (rfl) ?_
        refine aw_iconst dX11_number_85 ?_
        refine aw_iadd dX11_number_86 ?_
        refine aw_putV fp_X11_71 dX11_number_87 (hc43 hnx) (Nat.le_of_ble_eq_true rfl) hL (by omega) hu43_12 (fun hL => ?_)
        refine aw_hp (V' := vr V (x + 1) (ff 0) (kf (skb (V 6) (V 11 0) a)) h) rfl rfl rfl (vr_a V x _ _ h (x + 1)) rfl ?_
        refine aw_goto (tgt := 45) dX11_number_90 rfl ?_
        exact ih (by omega) r76 (x + 1) (by omega) (by rw [i45_1, show 401 - k = (401 - (k + 1)) + 1 by omega, run_step (by omega)]) (by rw [i45_2, show 401 - k = (401 - (k + 1)) + 1 by omega, nvl_step (by omega)]; congr 1; omega) (by omega) (by omega)
      · skip
        refine aw_if_eq (tgt := 93) dX11_number_59 rfl (by decide) (fun _ => ?_) (fun c => absurd c (by decide))
        have ed : dgt (V 6) (V 11 0) (skb (V 6) (V 11 0) a) = x := by rw [i45_1]; exact run_stop (by omega)
        have ev : nvl (V 6) (V 11 0) 401 (skb (V 6) (V 11 0) a) 0 = min v 100000 := by rw [i45_2]; exact nvl_stop (by omega)
        have e8 : ¬ (skb (V 6) (V 11 0) a) = x := fun e9 => by rw [← e9] at h46; omega
        have x0 : (skb (V 6) (V 11 0) a) < x := by omega
        refine aw_iload_n dX11_number_93 rfl ?_
        refine aw_i2l dX11_number_94 (by omega) ?_
        refine aw_iload_n dX11_number_95 rfl ?_
        refine aw_i2l dX11_number_96 (by omega) ?_
        refine aw_iload_n dX11_number_97 rfl ?_
        refine aw_i2l dX11_number_98 (by omega) ?_
        refine aw_callS (As := [_, _, _]) (ρ := (_, 0, 0)) (kn' := (0, 0)) cs_X11_51 dX11_number_99 rfl rfl (Nat.le_of_ble_eq_true rfl) (rmR _ _ _) ⟨Nat.le_refl _, Nat.le_refl _⟩ rfl (c_X11_in hnx (by omega) (fun r99 h99 => ?_))
        rcases h99 with ⟨rfl, h99⟩ | ⟨rfl, h99⟩
        · skip
          refine aw_if_ne (tgt := 116) dX11_number_102 rfl (by decide) (fun _ => ?_) (fun c => absurd c (by decide))
          obtain ⟨eA, eF, eU⟩ := nb4 (B := V 6) (n := V 11 0) (lo := p) (hi := q) (a := a) ha ed x0 ev (by omega) h99
          refine aw_iload_n dX11_number_116 rfl ?_
          exact aw_ireturn dX11_number_117 rfl rfl ⟨Nat.le_refl _, Nat.le_refl _⟩ (by have z := hQ v (kf (skb (V 6) (V 11 0) a)) eU; rw [eA, eF] at z; exact z hL)
        · skip
          refine aw_if_ne (tgt := 116) dX11_number_102 rfl (by decide) (fun c => absurd c (by decide)) (fun _ => ?_)
          refine aw_aload_n dX11_number_105 rfl ?_
          refine aw_iconst dX11_number_106 ?_
          refine aw_aload_n dX11_number_107 rfl ?_
          refine aw_getf fg_X11_113 dX11_number_108 (hc43 hnx) rfl ?_
          refine aw_sv (a := (skb (V 6) (V 11 0) a)) (rfl) ?_
          refine aw_callV (As := [_, _]) (ρ := (_, 0, 0)) (kn' := (0, 0)) cv_X11_109 dX11_number_111 rfl rfl (hc43 hnx) rfl rfl (Nat.le_of_ble_eq_true rfl) (rmR _ _ _) ⟨Nat.le_refl _, Nat.le_refl _⟩ rfl (c_X11_fails hnx hg (by omega) (by omega) hL (fun hL => ?_))
          refine aw_iload_n dX11_number_114 rfl ?_
          obtain ⟨eA, eF, eU⟩ := nb3 (B := V 6) (n := V 11 0) (lo := p) (hi := q) (a := a) ha ed x0 ev (by omega) h99
          have eG : ff (nF (V 6) (V 11 0) p q a 0) = fz (ff 0) (8 * (skb (V 6) (V 11 0) a) + 2) := (by rw [eF, fz_ff (by omega) (by omega), if_pos rfl])
          exact aw_ireturn dX11_number_115 rfl rfl ⟨Nat.le_refl _, Nat.le_refl _⟩ (by have z := hQ p (kf (skb (V 6) (V 11 0) a)) eU; rw [eA, eG] at z; exact z hL)
    · skip
      refine aw_if_ne (tgt := 35) dX11_number_21 rfl (by decide) (fun c => absurd c (by decide)) (fun _ => ?_)
      refine aw_aload_n dX11_number_24 rfl ?_
      refine aw_iconst dX11_number_25 ?_
      refine aw_aload_n dX11_number_26 rfl ?_
      refine aw_getf fg_X11_71 dX11_number_27 (hc43 hnx) rfl ?_
      first | (have w : ¬ f = 0 := (by omega); refine aw_sv (a := a) (rfl) ?_) | refine aw_sv (a := (skb (V 6) (V 11 0) a)) (rfl) ?_
      refine aw_callV (As := [_, _]) (ρ := (_, 0, 0)) (kn' := (0, 0)) cv_X11_109 dX11_number_30 rfl rfl (hc43 hnx) rfl rfl (Nat.le_of_ble_eq_true rfl) (rmR _ _ _) ⟨Nat.le_refl _, Nat.le_refl _⟩ rfl (c_X11_fails hnx hg (by omega) (by omega) hL (fun hL => ?_))
      refine aw_iload_n dX11_number_33 rfl ?_
      first | (have w : ¬ f = 0 := (by omega); obtain ⟨eA, eF, eU⟩ := nb1 (B := V 6) (n := V 11 0) (lo := p) (hi := q) (a := a) w; have eG : ff (nF (V 6) (V 11 0) p q a f) = fz (ff f) (8 * a + 1) := (by rw [eF, fz_ff hf.1 (by omega), if_neg w])) | (obtain ⟨eA, eF, eU⟩ := nb2 (B := V 6) (n := V 11 0) (lo := p) (hi := q) (a := a) ha (by omega); have eG : ff (nF (V 6) (V 11 0) p q a 0) = fz (ff 0) (8 * (skb (V 6) (V 11 0) a) + 1) := (by rw [eF, fz_ff (by omega) (by omega), if_pos rfl]))
      exact aw_ireturn dX11_number_34 rfl rfl ⟨Nat.le_refl _, Nat.le_refl _⟩ (by have z := hQ p m eU; rw [eA, eG] at z; exact z hL)
  · skip
    refine aw_if_eq (tgt := 24) dX11_number_4 rfl (by decide) (fun _ => ?_) (fun c => absurd c (by decide))
    refine aw_aload_n dX11_number_24 rfl ?_
    refine aw_iconst dX11_number_25 ?_
    refine aw_aload_n dX11_number_26 rfl ?_
    refine aw_getf fg_X11_71 dX11_number_27 (hc43 hnx) rfl ?_
    first | (have w : ¬ f = 0 := (by omega); refine aw_sv (a := a) (rfl) ?_) | refine aw_sv (a := (skb (V 6) (V 11 0) a)) (rfl) ?_
    refine aw_callV (As := [_, _]) (ρ := (_, 0, 0)) (kn' := (0, 0)) cv_X11_109 dX11_number_30 rfl rfl (hc43 hnx) rfl rfl (Nat.le_of_ble_eq_true rfl) (rmR _ _ _) ⟨Nat.le_refl _, Nat.le_refl _⟩ rfl (c_X11_fails hnx hg (by omega) (by omega) hL (fun hL => ?_))
    refine aw_iload_n dX11_number_33 rfl ?_
    first | (have w : ¬ f = 0 := (by omega); obtain ⟨eA, eF, eU⟩ := nb1 (B := V 6) (n := V 11 0) (lo := p) (hi := q) (a := a) w; have eG : ff (nF (V 6) (V 11 0) p q a f) = fz (ff f) (8 * a + 1) := (by rw [eF, fz_ff hf.1 (by omega), if_neg w])) | (obtain ⟨eA, eF, eU⟩ := nb2 (B := V 6) (n := V 11 0) (lo := p) (hi := q) (a := a) ha (by omega); have eG : ff (nF (V 6) (V 11 0) p q a 0) = fz (ff 0) (8 * (skb (V 6) (V 11 0) a) + 1) := (by rw [eF, fz_ff (by omega) (by omega), if_pos rfl]))
    exact aw_ireturn dX11_number_34 rfl rfl ⟨Nat.le_refl _, Nat.le_refl _⟩ (by have z := hQ p m eU; rw [eA, eG] at z; exact z hL)


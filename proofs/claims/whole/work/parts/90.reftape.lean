/-! the reference: its tape -/
def tv1 (V : St) (b : Int) : St := u0 (u1 V 6 (V 11 0) b) 11 (V 11 0 + 1)
def tvN (V : St) (v : Int) : Nat → St
  | 0 => V
  | k + 1 => tv1 (tvN V v k) (by8 v (24 - 8 * (k : Int)))
theorem tvN_11 (V : St) (v : Int) : ∀ k : Nat, tvN V v k 11 0 = V 11 0 + k
  | 0 => by show V 11 0 = V 11 0 + 0; omega
  | k + 1 => by show tvN V v k 11 0 + 1 = _; rw [tvN_11 V v k]; omega
theorem tv1_L {V : St} (hL : RgL V) {b : Int} (hb : inL b) (h : 0 ≤ V 11 0 ∧ V 11 0 ≤ 400) : RgL (tv1 V b) := (hL.u1 hb).u0 ⟨by omega, by omega⟩
theorem tvN_L {V : St} (hL : RgL V) (h : 0 ≤ V 11 0 ∧ V 11 0 + 4 ≤ 400) (v : Int) : ∀ k : Nat, k ≤ 4 → RgL (tvN V v k)
  | 0, _ => hL
  | k + 1, hk => by
    have e := tvN_11 V v k
    have b := by8_in v (24 - 8 * (k : Int))
    exact tv1_L (tvN_L hL h v k (by omega)) ⟨by omega, by omega⟩ (by omega)
def feedV (V : St) (a b c d e : Int) : St := tvN (tvN (tvN (tvN (tvN V a 4) b 4) c 4) d 4) e 4

set_option maxHeartbeats 1000000 in
theorem c_X11_puts {Γ : GT} {S T U V : St} {G : Gw} {nx d : Nat} {Q : QT} (hnx : 52 ≤ nx) {v : Int} (hL : RgL V) (hl : 0 ≤ V 11 0 ∧ V 11 0 + 4 ≤ 400) (hv : inI v) (hQ : RgL (tvN V v 4) → Q none (hp Γ S T U (tvN V v 4) G) nx) : AM Γ MX11_puts (d, 0, 0) [rf Γ 43, vi v] (hp Γ S T U V G) nx Q := by
  refine am_of (by decide) (Nat.le_of_ble_eq_true rfl) (ls := [some (rf Γ 43), some _, none]) rfl ?_
  have hL0 := hL
  refine aw_bipush dX11_puts_0 rfl ?_
  refine aw_istore_n (ls' := [some (rf Γ 43), some _, some _]) dX11_puts_2 (by decide) rfl ?_
  refine aw_hp (V' := tvN V v 0) rfl rfl rfl rfl rfl ?_
  refine loopN (4) (P := fun k =>  AW Γ MX11_puts _ _ (0, 0) 3 [some (rf Γ 43), some (vi v), some (vi (24 - 8 * (k : Int)))] [] (hp Γ S T U (tvN V v k) G) nx) (fun k hk ih => ?_) 0 (Nat.zero_le _) 
  refine aw_iload_n dX11_puts_3 rfl ?_
  have e11 := tvN_11 V v k
  replace hL := tvN_L hL0 hl v k (by omega)
  have b8 := by8_in v (24 - 8 * (k : Int))
  refine aw_if_lt (tgt := 36) dX11_puts_4 rfl (by omega) (fun c4 => ?_) (fun c4 => ?_)
  · skip
    obtain rfl : k = 4 := by omega
    exact aw_return dX11_puts_36 rfl ⟨Nat.le_refl _, Nat.le_refl _⟩ (hQ hL)
  · skip
    refine aw_aload_n dX11_puts_7 rfl ?_
    refine aw_getf fg_X11_29 dX11_puts_8 (hc43 hnx) rfl ?_
    refine aw_aload_n dX11_puts_11 rfl ?_
    refine aw_getf fg_X11_64 dX11_puts_12 (hc43 hnx) rfl ?_
    refine aw_sv (a := V 11 0 + (k : Int)) (e11.symm) ?_
    refine aw_iload_n dX11_puts_15 rfl ?_
    refine aw_iload_n dX11_puts_16 rfl ?_
    refine aw_ishr dX11_puts_17 rfl ?_
    refine aw_i2b dX11_puts_18 rfl ?_
    refine aw_si (a := I (by8 v (24 - 8 * (k : Int)))) (by8_I _ _).symm ?_
    refine aw_bastV dX11_puts_19 (hc50 hnx) (by omega) (by decide) hL (by omega) (by8_n _ _) (fun _ => hu50) (fun hL => ?_)
    refine aw_aload_n dX11_puts_20 rfl ?_
    refine aw_dup dX11_puts_21 rfl ?_
    refine aw_getf fg_X11_64 dX11_puts_22 (hc43 hnx) rfl ?_
    refine aw_sv (a := V 11 0 + (k : Int)) (e11.symm) ?_
    refine aw_iconst dX11_puts_25 ?_
    refine aw_iadd dX11_puts_26 ?_
    refine aw_putV fp_X11_64 dX11_puts_27 (hc43 hnx) (Nat.le_of_ble_eq_true rfl) hL (by omega) hu43_11 (fun hL => ?_)
    refine aw_hp (V' := tvN V v (k + 1)) rfl rfl rfl (by show tv1 (tvN V v k) _ = _; unfold tv1; rw [e11]) rfl ?_
    refine aw_iinc (ls' := [some (rf Γ 43), some _, some _]) dX11_puts_30 rfl (by decide) rfl ?_
    refine aw_goto (tgt := 3) dX11_puts_33 rfl ?_
    exact aw_ls2 (by rw [show 24 - 8 * (k : Int) + -8 = 24 - 8 * ((k + 1 : Nat) : Int) by omega]) (ih (by omega))

def aFeedV (V : St) : Int := if 380 < V 11 0 then -1 else V 11 0 + 20
set_option maxHeartbeats 1000000 in
theorem c_X11_feed {Γ : GT} {S T U V : St} {G : Gw} {nx d : Nat} {Q : QT} (hnx : 52 ≤ nx) {a b c e f : Int} (hL : RgL V) (hl : 0 ≤ V 11 0 ∧ V 11 0 ≤ 400) (ha : inI a ∧ inI b ∧ inI c ∧ inI e ∧ inI f) (hQ : ∀ r, r = aFeedV V → RgL (if 380 < V 11 0 then V else feedV V a b c e f) → Q (some (vi r)) (hp Γ S T U (if 380 < V 11 0 then V else feedV V a b c e f) G) nx) : AM Γ MX11_feed (d + 1, 0, 0) [rf Γ 43, vi a, vi b, vi c, vi e, vi f] (hp Γ S T U V G) nx Q := by
  refine am_of (by decide) (Nat.le_of_ble_eq_true rfl) (ls := [some (rf Γ 43), some _, some _, some _, some _, some _]) rfl ?_
  refine aw_aload_n dX11_feed_0 rfl ?_
  refine aw_getf fg_X11_64 dX11_feed_1 (hc43 hnx) rfl ?_
  refine aw_bipush dX11_feed_4 rfl ?_
  refine aw_iadd dX11_feed_6 ?_
  refine aw_sipush dX11_feed_7 rfl ?_
  refine aw_icmp_le (tgt := 15) dX11_feed_10 rfl (by omega) (fun c10 => ?_) (fun c10 => ?_)
  · skip
    refine aw_aload_n dX11_feed_15 rfl ?_
    refine aw_iload_n dX11_feed_16 rfl ?_
    refine aw_callV (As := [_]) (ρ := (_, 0, 0)) (kn' := (0, 0)) cv_X11_67 dX11_feed_17 rfl rfl (hc43 hnx) rfl rfl (Nat.le_of_ble_eq_true rfl) (rmR _ _ _) ⟨Nat.le_refl _, Nat.le_refl _⟩ rfl (c_X11_puts hnx hL (show 0 ≤ (V) 11 0 ∧ (V) 11 0 + 4 ≤ 400 by (try simp only [tvN_11]); omega) (by omega) (fun hL => ?_))
    refine aw_aload_n dX11_feed_20 rfl ?_
    refine aw_iload_n dX11_feed_21 rfl ?_
    refine aw_callV (As := [_]) (ρ := (_, 0, 0)) (kn' := (0, 0)) cv_X11_67 dX11_feed_22 rfl rfl (hc43 hnx) rfl rfl (Nat.le_of_ble_eq_true rfl) (rmR _ _ _) ⟨Nat.le_refl _, Nat.le_refl _⟩ rfl (c_X11_puts hnx hL (show 0 ≤ (tvN (V) a 4) 11 0 ∧ (tvN (V) a 4) 11 0 + 4 ≤ 400 by (try simp only [tvN_11]); omega) (by omega) (fun hL => ?_))
    refine aw_aload_n dX11_feed_25 rfl ?_
    refine aw_iload_n dX11_feed_26 rfl ?_
    refine aw_callV (As := [_]) (ρ := (_, 0, 0)) (kn' := (0, 0)) cv_X11_67 dX11_feed_27 rfl rfl (hc43 hnx) rfl rfl (Nat.le_of_ble_eq_true rfl) (rmR _ _ _) ⟨Nat.le_refl _, Nat.le_refl _⟩ rfl (c_X11_puts hnx hL (show 0 ≤ (tvN (tvN (V) a 4) b 4) 11 0 ∧ (tvN (tvN (V) a 4) b 4) 11 0 + 4 ≤ 400 by (try simp only [tvN_11]); omega) (by omega) (fun hL => ?_))
    refine aw_aload_n dX11_feed_30 rfl ?_
    refine aw_iload dX11_feed_31 rfl ?_
    refine aw_callV (As := [_]) (ρ := (_, 0, 0)) (kn' := (0, 0)) cv_X11_67 dX11_feed_33 rfl rfl (hc43 hnx) rfl rfl (Nat.le_of_ble_eq_true rfl) (rmR _ _ _) ⟨Nat.le_refl _, Nat.le_refl _⟩ rfl (c_X11_puts hnx hL (show 0 ≤ (tvN (tvN (tvN (V) a 4) b 4) c 4) 11 0 ∧ (tvN (tvN (tvN (V) a 4) b 4) c 4) 11 0 + 4 ≤ 400 by (try simp only [tvN_11]); omega) (by omega) (fun hL => ?_))
    refine aw_aload_n dX11_feed_36 rfl ?_
    refine aw_iload dX11_feed_37 rfl ?_
    refine aw_callV (As := [_]) (ρ := (_, 0, 0)) (kn' := (0, 0)) cv_X11_67 dX11_feed_39 rfl rfl (hc43 hnx) rfl rfl (Nat.le_of_ble_eq_true rfl) (rmR _ _ _) ⟨Nat.le_refl _, Nat.le_refl _⟩ rfl (c_X11_puts hnx hL (show 0 ≤ (tvN (tvN (tvN (tvN (V) a 4) b 4) c 4) e 4) 11 0 ∧ (tvN (tvN (tvN (tvN (V) a 4) b 4) c 4) e 4) 11 0 + 4 ≤ 400 by (try simp only [tvN_11]); omega) (by omega) (fun hL => ?_))
    refine aw_aload_n dX11_feed_42 rfl ?_
    refine aw_getf fg_X11_64 dX11_feed_43 (hc43 hnx) rfl ?_
    refine aw_sv (a := V 11 0 + 20) ((by show V 11 0 + 20 = feedV V a b c e f 11 0; unfold feedV; simp only [tvN_11]; omega)) ?_
    exact aw_ireturn dX11_feed_46 rfl rfl ⟨Nat.le_refl _, Nat.le_refl _⟩ (by have q := hQ (V 11 0 + 20) (by unfold aFeedV; rw [if_neg (by omega)]); rw [if_neg (by omega)] at q; exact q hL)
  · skip
    refine aw_iconst dX11_feed_13 ?_
    exact aw_ireturn dX11_feed_14 rfl rfl ⟨Nat.le_refl _, Nat.le_refl _⟩ (by have q := hQ (-1) (by unfold aFeedV; rw [if_pos (by omega)]); rw [if_pos (by omega)] at q; exact q hL)

set_option maxHeartbeats 1000000 in
theorem c_X11_end {Γ : GT} {S T U V : St} {G : Gw} {nx d : Nat} {Q : QT} (hnx : 52 ≤ nx) {n : Int} (hL : RgL V) (hl : 0 ≤ V 11 0 ∧ V 11 0 ≤ 400) (hn : inI n) (hQ : ∀ r, r = (if n < 0 ∨ V 11 0 < n then -1 else n) → RgL (if n < 0 ∨ V 11 0 < n then V else u0 V 11 n) → Q (some (vi r)) (hp Γ S T U (if n < 0 ∨ V 11 0 < n then V else u0 V 11 n) G) nx) : AM Γ MX11_end (d, 0, 0) [rf Γ 43, vi n] (hp Γ S T U V G) nx Q := by
  refine am_of (by decide) (Nat.le_of_ble_eq_true rfl) (ls := [some (rf Γ 43), some _]) rfl ?_
  refine aw_iload_n dX11_end_0 rfl ?_
  refine aw_if_lt (tgt := 12) dX11_end_1 rfl (by omega) (fun c1 => ?_) (fun c1 => ?_)
  · skip
    refine aw_iconst dX11_end_12 ?_
    exact aw_ireturn dX11_end_13 rfl rfl ⟨Nat.le_refl _, Nat.le_refl _⟩ (by have q := hQ (-1) (by rw [if_pos (by omega)]); rw [if_pos (by omega)] at q; exact q hL)
  · skip
    refine aw_iload_n dX11_end_4 rfl ?_
    refine aw_aload_n dX11_end_5 rfl ?_
    refine aw_getf fg_X11_64 dX11_end_6 (hc43 hnx) rfl ?_
    refine aw_icmp_le (tgt := 14) dX11_end_9 rfl (by omega) (fun c9 => ?_) (fun c9 => ?_)
    · skip
      refine aw_aload_n dX11_end_14 rfl ?_
      refine aw_iload_n dX11_end_15 rfl ?_
      refine aw_putV fp_X11_64 dX11_end_16 (hc43 hnx) (Nat.le_of_ble_eq_true rfl) hL (by omega) hu43_11 (fun hL => ?_)
      refine aw_iload_n dX11_end_19 rfl ?_
      exact aw_ireturn dX11_end_20 rfl rfl ⟨Nat.le_refl _, Nat.le_refl _⟩ (by have q := hQ n (by rw [if_neg (by omega)]); rw [if_neg (by omega)] at q; exact q hL)
    · skip
      refine aw_iconst dX11_end_12 ?_
      exact aw_ireturn dX11_end_13 rfl rfl ⟨Nat.le_refl _, Nat.le_refl _⟩ (by have q := hQ (-1) (by rw [if_pos (by omega)]); rw [if_pos (by omega)] at q; exact q hL)


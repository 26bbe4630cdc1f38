/-! numbers and pieces of the text -/
theorem nW_in (B : Int → Int) (n a : Int) : 0 ≤ nW B n a ∧ nW B n a ≤ 100000 := nvl_in B n 401 _ 0 (by omega)
theorem nV_in (B : Int → Int) (n lo hi a f : Int) : 0 ≤ nV B n lo hi a f ∧ nV B n lo hi a f ≤ 100000 := by
  have := nW_in B n a
  unfold nV; split <;> omega
theorem nA_in {B : Int → Int} {n a f : Int} (h : 0 ≤ a ∧ a ≤ n) : a ≤ nA B n a f ∧ nA B n a f ≤ n := by
  have h1 := skb_in (B := B) (n := n) (a := a) h.2
  have h2 := dgt_in (B := B) (n := n) (a := skb B n a) h1.2
  unfold nA; split <;> omega
theorem nF_in {B : Int → Int} {n lo hi a f : Int} (h : 0 ≤ a ∧ a ≤ n) (hn : n ≤ 400) (hf : 0 ≤ f ∧ f ≤ 4000) : 0 ≤ nF B n lo hi a f ∧ nF B n lo hi a f ≤ 4000 := by
  have h1 := skb_in (B := B) (n := n) (a := a) h.2
  unfold nF; (repeat' split) <;> omega
theorem nV_ok {B : Int → Int} {n lo hi a f : Int} (h : nF B n lo hi a f = 0) (h0 : 0 ≤ a ∧ a ≤ n) : f = 0 ∧ lo ≤ nV B n lo hi a f ∧ nV B n lo hi a f ≤ hi := by
  have h1 := skb_in (B := B) (n := n) (a := a) h0.2
  have hf : f = 0 := by
    unfold nF at h; split at h
    · assumption
    · exact absurd h (by assumption)
  have h2 := h
  unfold nV; rw [if_pos ⟨hf, h⟩]
  unfold nF at h2
  rw [if_pos hf] at h2
  refine ⟨hf, ?_⟩
  split at h2
  · omega
  · split at h2 <;> omega
def sepA (B : Int → Int) (n a f : Int) : Int := if f = 0 ∧ a < n ∧ B a = 59 then a + 1 else a
def sepF (B : Int → Int) (n a f : Int) : Int := if f = 0 then (if a < n ∧ B a = 59 then 0 else 8 * a + 1) else f
def ps1 (B : Int → Int) (n : Int) (T : St) (a : Int) : Int × Int := (nA B n a 0, nF B n 0 (T 27 0 - 1) a 0)
def ps2 (B : Int → Int) (n : Int) (T : St) (a : Int) : Int × Int := (nA B n (ps1 B n T a).1 (ps1 B n T a).2, nF B n 0 (T 26 0 - 1) (ps1 B n T a).1 (ps1 B n T a).2)
def ps3 (B : Int → Int) (n : Int) (T : St) (a : Int) : Int × Int := (nA B n (ps2 B n T a).1 (ps2 B n T a).2, nF B n 0 99999 (ps2 B n T a).1 (ps2 B n T a).2)
def ps4 (B : Int → Int) (n : Int) (T : St) (a : Int) : Int × Int := (nA B n (ps3 B n T a).1 (ps3 B n T a).2, nF B n 0 99999 (ps3 B n T a).1 (ps3 B n T a).2)
def ps5 (B : Int → Int) (n : Int) (T : St) (a : Int) : Int × Int := (nA B n (ps4 B n T a).1 (ps4 B n T a).2, nF B n 0 99999 (ps4 B n T a).1 (ps4 B n T a).2)
def pv1 (B : Int → Int) (n : Int) (T : St) (a : Int) : Int := nV B n 0 (T 27 0 - 1) a 0
def pv2 (B : Int → Int) (n : Int) (T : St) (a : Int) : Int := nV B n 0 (T 26 0 - 1) (ps1 B n T a).1 (ps1 B n T a).2
def pv3 (B : Int → Int) (n : Int) (T : St) (a : Int) : Int := nV B n 0 99999 (ps2 B n T a).1 (ps2 B n T a).2
def pv4 (B : Int → Int) (n : Int) (T : St) (a : Int) : Int := nV B n 0 99999 (ps3 B n T a).1 (ps3 B n T a).2
def pv5 (B : Int → Int) (n : Int) (T : St) (a : Int) : Int := nV B n 0 99999 (ps4 B n T a).1 (ps4 B n T a).2
def pstT (B : Int → Int) (n : Int) (T : St) (a : Int) : St := if (ps5 B n T a).2 = 0 then u1 (u1 (u1 T 2 ((4 * pv1 B n T a + pv2 B n T a) * 3 + 2) (pv3 B n T a)) 2 ((4 * pv1 B n T a + pv2 B n T a) * 3 + 1) (pv4 B n T a)) 2 ((4 * pv1 B n T a + pv2 B n T a) * 3 + 0) (pv5 B n T a) else T
theorem ps_in {B : Int → Int} {n : Int} (T : St) {a : Int} (h : 0 ≤ a ∧ a ≤ n) (hn : n ≤ 400) : ((a ≤ (ps1 B n T a).1 ∧ (ps1 B n T a).1 ≤ n) ∧ (0 ≤ (ps1 B n T a).2 ∧ (ps1 B n T a).2 ≤ 4000)) ∧ ((a ≤ (ps2 B n T a).1 ∧ (ps2 B n T a).1 ≤ n) ∧ (0 ≤ (ps2 B n T a).2 ∧ (ps2 B n T a).2 ≤ 4000)) ∧ ((a ≤ (ps3 B n T a).1 ∧ (ps3 B n T a).1 ≤ n) ∧ (0 ≤ (ps3 B n T a).2 ∧ (ps3 B n T a).2 ≤ 4000)) ∧ ((a ≤ (ps4 B n T a).1 ∧ (ps4 B n T a).1 ≤ n) ∧ (0 ≤ (ps4 B n T a).2 ∧ (ps4 B n T a).2 ≤ 4000)) ∧ ((a ≤ (ps5 B n T a).1 ∧ (ps5 B n T a).1 ≤ n) ∧ (0 ≤ (ps5 B n T a).2 ∧ (ps5 B n T a).2 ≤ 4000)) := by
  have s1 : (a ≤ (ps1 B n T a).1 ∧ (ps1 B n T a).1 ≤ n) ∧ (0 ≤ (ps1 B n T a).2 ∧ (ps1 B n T a).2 ≤ 4000) := ⟨nA_in (B := B) (n := n) (a := a) (f := 0) h, nF_in (B := B) (n := n) (lo := 0) (hi := T 27 0 - 1) (a := a) (f := 0) h hn (by omega)⟩
  have s2 : (a ≤ (ps2 B n T a).1 ∧ (ps2 B n T a).1 ≤ n) ∧ (0 ≤ (ps2 B n T a).2 ∧ (ps2 B n T a).2 ≤ 4000) := by
    have q := nA_in (B := B) (n := n) (a := (ps1 B n T a).1) (f := (ps1 B n T a).2) (by omega)
    exact ⟨by show a ≤ nA B n _ _ ∧ nA B n _ _ ≤ n; omega, nF_in (by omega) hn (by omega)⟩
  have s3 : (a ≤ (ps3 B n T a).1 ∧ (ps3 B n T a).1 ≤ n) ∧ (0 ≤ (ps3 B n T a).2 ∧ (ps3 B n T a).2 ≤ 4000) := by
    have q := nA_in (B := B) (n := n) (a := (ps2 B n T a).1) (f := (ps2 B n T a).2) (by omega)
    exact ⟨by show a ≤ nA B n _ _ ∧ nA B n _ _ ≤ n; omega, nF_in (by omega) hn (by omega)⟩
  have s4 : (a ≤ (ps4 B n T a).1 ∧ (ps4 B n T a).1 ≤ n) ∧ (0 ≤ (ps4 B n T a).2 ∧ (ps4 B n T a).2 ≤ 4000) := by
    have q := nA_in (B := B) (n := n) (a := (ps3 B n T a).1) (f := (ps3 B n T a).2) (by omega)
    exact ⟨by show a ≤ nA B n _ _ ∧ nA B n _ _ ≤ n; omega, nF_in (by omega) hn (by omega)⟩
  refine ⟨s1, s2, s3, s4, ?_⟩
  have q := nA_in (B := B) (n := n) (a := (ps4 B n T a).1) (f := (ps4 B n T a).2) (by omega)
  exact ⟨by show a ≤ nA B n _ _ ∧ nA B n _ _ ≤ n; omega, nF_in (by omega) hn (by omega)⟩
/-- when the last number is right, all were -/
theorem ps_ok {B : Int → Int} {n : Int} {T : St} {a : Int} (h : 0 ≤ a ∧ a ≤ n) (hn : n ≤ 400) (h5 : (ps5 B n T a).2 = 0) : (0 ≤ pv1 B n T a ∧ pv1 B n T a ≤ T 27 0 - 1) ∧ (0 ≤ pv2 B n T a ∧ pv2 B n T a ≤ T 26 0 - 1) ∧ (0 ≤ pv3 B n T a ∧ pv3 B n T a ≤ 99999) ∧ (0 ≤ pv4 B n T a ∧ pv4 B n T a ≤ 99999) ∧ (0 ≤ pv5 B n T a ∧ pv5 B n T a ≤ 99999) := by
  have pin := ps_in (B := B) T h hn
  have k5 := nV_ok (B := B) (n := n) (lo := 0) (hi := 99999) (a := (ps4 B n T a).1) (f := (ps4 B n T a).2) h5 (by omega)
  have k4 := nV_ok (B := B) (n := n) (lo := 0) (hi := 99999) (a := (ps3 B n T a).1) (f := (ps3 B n T a).2) k5.1 (by omega)
  have k3 := nV_ok (B := B) (n := n) (lo := 0) (hi := 99999) (a := (ps2 B n T a).1) (f := (ps2 B n T a).2) k4.1 (by omega)
  have k2 := nV_ok (B := B) (n := n) (lo := 0) (hi := T 26 0 - 1) (a := (ps1 B n T a).1) (f := (ps1 B n T a).2) k3.1 (by omega)
  have k1 := nV_ok (B := B) (n := n) (lo := 0) (hi := T 27 0 - 1) (a := a) (f := 0) k2.1 (by omega)
  exact ⟨k1.2, k2.2, k3.2, k4.2, k5.2⟩

set_option maxHeartbeats 1000000 in
theorem c_X4_readNumber {Γ : GT} {S T U V : St} {G : Gw} {nx d : Nat} {Q : QT} (hnx : 52 ≤ nx) {a f p q : Int} (hB : ∀ j : Int, -128 ≤ U 0 j ∧ U 0 j ≤ 127) (hn : 0 ≤ U 10 0 ∧ U 10 0 ≤ 400) (ha : 0 ≤ a ∧ a ≤ U 10 0) (hf : 0 ≤ f ∧ f ≤ 4000) (hpq : inI p ∧ inI q) (hQ : ∀ r, r = nV (U 0) (U 10 0) p q a f → Q (some (vi r)) (hp Γ S T (ua U (nA (U 0) (U 10 0) a f) (nF (U 0) (U 10 0) p q a f)) V G) nx) : AM Γ MX4_readNumber (d + 1, 0, 0) [rf Γ 1, vi p, vi q] (hp Γ S T (ua U a f) V G) nx Q := by
  refine am_of (by decide) (Nat.le_of_ble_eq_true rfl) (ls := [some (rf Γ 1), some _, some _, none, none]) rfl ?_
  refine aw_aload_n dX4_readNumber_0 rfl ?_
  refine aw_getf fg_X4_29 dX4_readNumber_1 (hc1 hnx) rfl ?_
  refine aw_sv (a := f) (rfl) ?_
  refine aw_if_eq (tgt := 9) dX4_readNumber_4 rfl (by omega) (fun c4 => ?_) (fun c4 => ?_)
  · skip
    subst c4
    refine aw_aload_n dX4_readNumber_9 rfl ?_
    refine aw_callV (As := []) (ρ := (_, 0, 0)) (kn' := (0, 0)) cv_X4_58 dX4_readNumber_10 rfl rfl (hc1 hnx) rfl rfl (Nat.le_of_ble_eq_true rfl) (rmR _ _ _) ⟨Nat.le_refl _, Nat.le_refl _⟩ rfl (c_X4_skipBlanks hnx hB hn (by omega) ?_)
    have sk := skb_in (B := U 0) (n := U 10 0) (a := a) (by omega)
    refine aw_aload_n dX4_readNumber_13 rfl ?_
    refine aw_getf fg_X4_25 dX4_readNumber_14 (hc1 hnx) rfl ?_
    refine aw_sv (a := skb (U 0) (U 10 0) a) (rfl) ?_
    refine aw_nmI (fun x3_17 hx3_17 => ?_)
    refine aw_istore_n (ls' := [some (rf Γ 1), some _, some _, some _, none]) dX4_readNumber_17 (by decide) rfl ?_
    refine aw_iconst dX4_readNumber_18 ?_
    refine aw_istore (ls' := [some (rf Γ 1), some _, some _, some _, some _]) dX4_readNumber_19 (by decide) rfl ?_
    refine aw_hp (U' := ua U x3_17 0) rfl rfl (by rw [hx3_17]) rfl rfl ?_
    refine loopN (401) (P := fun k => ∀ (v : Int) (x : Int), x = x3_17 + (k : Int) → dgt (U 0) (U 10 0) x3_17 = run (U 0) (U 10 0) 48 57 (401 - k) x → nvl (U 0) (U 10 0) 401 x3_17 0 = nvl (U 0) (U 10 0) (401 - k) x v → 0 ≤ v ∧ v ≤ 100000 → x ≤ U 10 0 →  AW Γ MX4_readNumber _ _ (0, 0) 21 [some (rf Γ 1), some (vi p), some (vi q), some (vi x3_17), some (vi v)] [] (hp Γ S T (ua U x 0) V G) nx) (fun k hk ih => ?_) 0 (Nat.zero_le _) _ x3_17 (by omega) rfl rfl (by omega) (by omega)
    intro v x i21_0 i21_1 i21_2 i21_3 i21_4
    refine aw_aload_n dX4_readNumber_21 rfl ?_
    refine aw_getf fg_X4_25 dX4_readNumber_22 (hc1 hnx) rfl ?_
    refine aw_sv (a := x) (rfl) ?_
    refine aw_aload_n dX4_readNumber_25 rfl ?_
    refine aw_getf fg_X4_12 dX4_readNumber_26 (hc1 hnx) rfl ?_
    refine aw_getf fg_X4_51 dX4_readNumber_29 (hc2 hnx) rfl ?_
    refine aw_sv (a := U 10 0) (rfl) ?_
    refine aw_icmp_ge (tgt := 110) dX4_readNumber_32 rfl (by omega) (fun c32 => ?_) (fun c32 => ?_)
    · skip
      have ed : dgt (U 0) (U 10 0) x3_17 = x := by rw [i21_1]; exact run_stop (by omega)
      have ev : nvl (U 0) (U 10 0) 401 x3_17 0 = v := by rw [i21_2]; exact nvl_stop (by omega)
      have eA : nA (U 0) (U 10 0) a 0 = x := by unfold nA; rw [if_pos rfl, ← hx3_17, ed]
      refine aw_aload_n dX4_readNumber_110 rfl ?_
      refine aw_getf fg_X4_25 dX4_readNumber_111 (hc1 hnx) rfl ?_
      refine aw_sv (a := x) (rfl) ?_
      refine aw_iload_n dX4_readNumber_114 rfl ?_
      refine aw_icmp_ne (tgt := 126) dX4_readNumber_115 rfl (by omega) (fun c115 => ?_) (fun c115 => ?_)
      · skip
        refine aw_iload dX4_readNumber_126 rfl ?_
        refine aw_iload_n dX4_readNumber_128 rfl ?_
        refine aw_icmp_lt (tgt := 138) dX4_readNumber_129 rfl (by omega) (fun c129 => ?_) (fun c129 => ?_)
        · skip
          refine aw_aload_n dX4_readNumber_138 rfl ?_
          refine aw_iload_n dX4_readNumber_139 rfl ?_
          refine aw_iconst dX4_readNumber_140 ?_
          refine aw_callV (As := [_, _]) (ρ := (_, 0, 0)) (kn' := (0, 0)) cv_X4_54 dX4_readNumber_141 rfl rfl (hc1 hnx) rfl rfl (Nat.le_of_ble_eq_true rfl) (rmR _ _ _) ⟨Nat.le_refl _, Nat.le_refl _⟩ rfl (c_X4_fail hnx (by omega) ?_)
          have eF : nF (U 0) (U 10 0) p q a 0 = (if (0 : Int) = 0 then 8 * x3_17 + 2 else 0) := by unfold nF nW; rw [if_pos rfl, if_pos rfl, ← hx3_17, ed, ev, if_neg (by omega), if_pos (by omega)]
          have eV : 0 = nV (U 0) (U 10 0) p q a 0 := by unfold nV; rw [eF, if_pos rfl, if_neg (by omega)]
          refine aw_iconst dX4_readNumber_144 ?_
          exact aw_ireturn dX4_readNumber_145 rfl rfl ⟨Nat.le_refl _, Nat.le_refl _⟩ (by have q2 := hQ 0 eV; rw [eA, eF] at q2; exact q2)
        · skip
          refine aw_iload dX4_readNumber_132 rfl ?_
          refine aw_iload_n dX4_readNumber_134 rfl ?_
          refine aw_icmp_le (tgt := 146) dX4_readNumber_135 rfl (by omega) (fun c135 => ?_) (fun c135 => ?_)
          · skip
            have eF : nF (U 0) (U 10 0) p q a 0 = 0 := by unfold nF nW; rw [if_pos rfl, ← hx3_17, ed, ev, if_neg (by omega), if_neg (by omega)]
            have eV : v = nV (U 0) (U 10 0) p q a 0 := by unfold nV nW; rw [eF, if_pos ⟨rfl, rfl⟩, ← hx3_17, ev]
            refine aw_iload dX4_readNumber_146 rfl ?_
            exact aw_ireturn dX4_readNumber_148 rfl rfl ⟨Nat.le_refl _, Nat.le_refl _⟩ (by have q2 := hQ v eV; rw [eA, eF] at q2; exact q2)
          · skip
            refine aw_aload_n dX4_readNumber_138 rfl ?_
            refine aw_iload_n dX4_readNumber_139 rfl ?_
            refine aw_iconst dX4_readNumber_140 ?_
            refine aw_callV (As := [_, _]) (ρ := (_, 0, 0)) (kn' := (0, 0)) cv_X4_54 dX4_readNumber_141 rfl rfl (hc1 hnx) rfl rfl (Nat.le_of_ble_eq_true rfl) (rmR _ _ _) ⟨Nat.le_refl _, Nat.le_refl _⟩ rfl (c_X4_fail hnx (by omega) ?_)
            have eF : nF (U 0) (U 10 0) p q a 0 = (if (0 : Int) = 0 then 8 * x3_17 + 2 else 0) := by unfold nF nW; rw [if_pos rfl, if_pos rfl, ← hx3_17, ed, ev, if_neg (by omega), if_pos (by omega)]
            have eV : 0 = nV (U 0) (U 10 0) p q a 0 := by unfold nV; rw [eF, if_pos rfl, if_neg (by omega)]
            refine aw_iconst dX4_readNumber_144 ?_
            exact aw_ireturn dX4_readNumber_145 rfl rfl ⟨Nat.le_refl _, Nat.le_refl _⟩ (by have q2 := hQ 0 eV; rw [eA, eF] at q2; exact q2)
      · skip
        refine aw_aload_n dX4_readNumber_118 rfl ?_
        refine aw_iload_n dX4_readNumber_119 rfl ?_
        refine aw_iconst dX4_readNumber_120 ?_
        refine aw_callV (As := [_, _]) (ρ := (_, 0, 0)) (kn' := (0, 0)) cv_X4_54 dX4_readNumber_121 rfl rfl (hc1 hnx) rfl rfl (Nat.le_of_ble_eq_true rfl) (rmR _ _ _) ⟨Nat.le_refl _, Nat.le_refl _⟩ rfl (c_X4_fail hnx (by omega) ?_)
        have eF : nF (U 0) (U 10 0) p q a 0 = (if (0 : Int) = 0 then 8 * x3_17 + 1 else 0) := by unfold nF; rw [if_pos rfl, if_pos rfl, ← hx3_17, ed, if_pos (by omega)]
        have eV : 0 = nV (U 0) (U 10 0) p q a 0 := by unfold nV; rw [eF, if_pos rfl, if_neg (by omega)]
        refine aw_iconst dX4_readNumber_124 ?_
        exact aw_ireturn dX4_readNumber_125 rfl rfl ⟨Nat.le_refl _, Nat.le_refl _⟩ (by have q2 := hQ 0 eV; rw [eA, eF] at q2; exact q2)
    · skip
      refine aw_aload_n dX4_readNumber_35 rfl ?_
      refine aw_getf fg_X4_12 dX4_readNumber_36 (hc1 hnx) rfl ?_
      refine aw_getf fg_X4_83 dX4_readNumber_39 (hc2 hnx) rfl ?_
      refine aw_aload_n dX4_readNumber_42 rfl ?_
      refine aw_getf fg_X4_25 dX4_readNumber_43 (hc1 hnx) rfl ?_
      refine aw_sv (a := x) (rfl) ?_
      refine aw_bald dX4_readNumber_46 (hc3 hnx) (by omega) (by decide) ?_
      refine aw_sv (a := U 0 x) (rfl) ?_
      have b0 := hB x
      refine aw_bipush dX4_readNumber_47 rfl ?_
      refine aw_icmp_lt (tgt := 110) dX4_readNumber_49 rfl (by omega) (fun c49 => ?_) (fun c49 => ?_)
      · skip
        have ed : dgt (U 0) (U 10 0) x3_17 = x := by rw [i21_1]; exact run_stop (by omega)
        have ev : nvl (U 0) (U 10 0) 401 x3_17 0 = v := by rw [i21_2]; exact nvl_stop (by omega)
        have eA : nA (U 0) (U 10 0) a 0 = x := by unfold nA; rw [if_pos rfl, ← hx3_17, ed]
        refine aw_aload_n dX4_readNumber_110 rfl ?_
        refine aw_getf fg_X4_25 dX4_readNumber_111 (hc1 hnx) rfl ?_
        refine aw_sv (a := x) (rfl) ?_
        refine aw_iload_n dX4_readNumber_114 rfl ?_
        refine aw_icmp_ne (tgt := 126) dX4_readNumber_115 rfl (by omega) (fun c115 => ?_) (fun c115 => ?_)
        · skip
          refine aw_iload dX4_readNumber_126 rfl ?_
          refine aw_iload_n dX4_readNumber_128 rfl ?_
          refine aw_icmp_lt (tgt := 138) dX4_readNumber_129 rfl (by omega) (fun c129 => ?_) (fun c129 => ?_)
          · skip
            refine aw_aload_n dX4_readNumber_138 rfl ?_
            refine aw_iload_n dX4_readNumber_139 rfl ?_
            refine aw_iconst dX4_readNumber_140 ?_
            refine aw_callV (As := [_, _]) (ρ := (_, 0, 0)) (kn' := (0, 0)) cv_X4_54 dX4_readNumber_141 rfl rfl (hc1 hnx) rfl rfl (Nat.le_of_ble_eq_true rfl) (rmR _ _ _) ⟨Nat.le_refl _, Nat.le_refl _⟩ rfl (c_X4_fail hnx (by omega) ?_)
            have eF : nF (U 0) (U 10 0) p q a 0 = (if (0 : Int) = 0 then 8 * x3_17 + 2 else 0) := by unfold nF nW; rw [if_pos rfl, if_pos rfl, ← hx3_17, ed, ev, if_neg (by omega), if_pos (by omega)]
            have eV : 0 = nV (U 0) (U 10 0) p q a 0 := by unfold nV; rw [eF, if_pos rfl, if_neg (by omega)]
            refine aw_iconst dX4_readNumber_144 ?_
            exact aw_ireturn dX4_readNumber_145 rfl rfl ⟨Nat.le_refl _, Nat.le_refl _⟩ (by have q2 := hQ 0 eV; rw [eA, eF] at q2; exact q2)
          · skip
            refine aw_iload dX4_readNumber_132 rfl ?_
            refine aw_iload_n dX4_readNumber_134 rfl ?_
            refine aw_icmp_le (tgt := 146) dX4_readNumber_135 rfl (by omega) (fun c135 => ?_) (fun c135 => ?_)
            · skip
              have eF : nF (U 0) (U 10 0) p q a 0 = 0 := by unfold nF nW; rw [if_pos rfl, ← hx3_17, ed, ev, if_neg (by omega), if_neg (by omega)]
              have eV : v = nV (U 0) (U 10 0) p q a 0 := by unfold nV nW; rw [eF, if_pos ⟨rfl, rfl⟩, ← hx3_17, ev]
              refine aw_iload dX4_readNumber_146 rfl ?_
              exact aw_ireturn dX4_readNumber_148 rfl rfl ⟨Nat.le_refl _, Nat.le_refl _⟩ (by have q2 := hQ v eV; rw [eA, eF] at q2; exact q2)
            · skip
              refine aw_aload_n dX4_readNumber_138 rfl ?_
              refine aw_iload_n dX4_readNumber_139 rfl ?_
              refine aw_iconst dX4_readNumber_140 ?_
              refine aw_callV (As := [_, _]) (ρ := (_, 0, 0)) (kn' := (0, 0)) cv_X4_54 dX4_readNumber_141 rfl rfl (hc1 hnx) rfl rfl (Nat.le_of_ble_eq_true rfl) (rmR _ _ _) ⟨Nat.le_refl _, Nat.le_refl _⟩ rfl (c_X4_fail hnx (by omega) ?_)
              have eF : nF (U 0) (U 10 0) p q a 0 = (if (0 : Int) = 0 then 8 * x3_17 + 2 else 0) := by unfold nF nW; rw [if_pos rfl, if_pos rfl, ← hx3_17, ed, ev, if_neg (by omega), if_pos (by omega)]
              have eV : 0 = nV (U 0) (U 10 0) p q a 0 := by unfold nV; rw [eF, if_pos rfl, if_neg (by omega)]
              refine aw_iconst dX4_readNumber_144 ?_
              exact aw_ireturn dX4_readNumber_145 rfl rfl ⟨Nat.le_refl _, Nat.le_refl _⟩ (by have q2 := hQ 0 eV; rw [eA, eF] at q2; exact q2)
        · skip
          refine aw_aload_n dX4_readNumber_118 rfl ?_
          refine aw_iload_n dX4_readNumber_119 rfl ?_
          refine aw_iconst dX4_readNumber_120 ?_
          refine aw_callV (As := [_, _]) (ρ := (_, 0, 0)) (kn' := (0, 0)) cv_X4_54 dX4_readNumber_121 rfl rfl (hc1 hnx) rfl rfl (Nat.le_of_ble_eq_true rfl) (rmR _ _ _) ⟨Nat.le_refl _, Nat.le_refl _⟩ rfl (c_X4_fail hnx (by omega) ?_)
          have eF : nF (U 0) (U 10 0) p q a 0 = (if (0 : Int) = 0 then 8 * x3_17 + 1 else 0) := by unfold nF; rw [if_pos rfl, if_pos rfl, ← hx3_17, ed, if_pos (by omega)]
          have eV : 0 = nV (U 0) (U 10 0) p q a 0 := by unfold nV; rw [eF, if_pos rfl, if_neg (by omega)]
          refine aw_iconst dX4_readNumber_124 ?_
          exact aw_ireturn dX4_readNumber_125 rfl rfl ⟨Nat.le_refl _, Nat.le_refl _⟩ (by have q2 := hQ 0 eV; rw [eA, eF] at q2; exact q2)
      · skip
        refine aw_aload_n dX4_readNumber_52 rfl ?_
        refine aw_getf fg_X4_12 dX4_readNumber_53 (hc1 hnx) rfl ?_
        refine aw_getf fg_X4_83 dX4_readNumber_56 (hc2 hnx) rfl ?_
        refine aw_aload_n dX4_readNumber_59 rfl ?_
        refine aw_getf fg_X4_25 dX4_readNumber_60 (hc1 hnx) rfl ?_
        refine aw_sv (a := x) (rfl) ?_
        refine aw_bald dX4_readNumber_63 (hc3 hnx) (by omega) (by decide) ?_
        refine aw_sv (a := U 0 x) (rfl) ?_
        refine aw_bipush dX4_readNumber_64 rfl ?_
        refine aw_icmp_gt (tgt := 110) dX4_readNumber_66 rfl (by omega) (fun c66 => ?_) (fun c66 => ?_)
        · skip
          have ed : dgt (U 0) (U 10 0) x3_17 = x := by rw [i21_1]; exact run_stop (by omega)
          have ev : nvl (U 0) (U 10 0) 401 x3_17 0 = v := by rw [i21_2]; exact nvl_stop (by omega)
          have eA : nA (U 0) (U 10 0) a 0 = x := by unfold nA; rw [if_pos rfl, ← hx3_17, ed]
          refine aw_aload_n dX4_readNumber_110 rfl ?_
          refine aw_getf fg_X4_25 dX4_readNumber_111 (hc1 hnx) rfl ?_
          refine aw_sv (a := x) (rfl) ?_
          refine aw_iload_n dX4_readNumber_114 rfl ?_
          refine aw_icmp_ne (tgt := 126) dX4_readNumber_115 rfl (by omega) (fun c115 => ?_) (fun c115 => ?_)
          · skip
            refine aw_iload dX4_readNumber_126 rfl ?_
            refine aw_iload_n dX4_readNumber_128 rfl ?_
            refine aw_icmp_lt (tgt := 138) dX4_readNumber_129 rfl (by omega) (fun c129 => ?_) (fun c129 => ?_)
            · skip
              refine aw_aload_n dX4_readNumber_138 rfl ?_
              refine aw_iload_n dX4_readNumber_139 rfl ?_
              refine aw_iconst dX4_readNumber_140 ?_
              refine aw_callV (As := [_, _]) (ρ := (_, 0, 0)) (kn' := (0, 0)) cv_X4_54 dX4_readNumber_141 rfl rfl (hc1 hnx) rfl rfl (Nat.le_of_ble_eq_true rfl) (rmR _ _ _) ⟨Nat.le_refl _, Nat.le_refl _⟩ rfl (c_X4_fail hnx (by omega) ?_)
              have eF : nF (U 0) (U 10 0) p q a 0 = (if (0 : Int) = 0 then 8 * x3_17 + 2 else 0) := by unfold nF nW; rw [if_pos rfl, if_pos rfl, ← hx3_17, ed, ev, if_neg (by omega), if_pos (by omega)]
              have eV : 0 = nV (U 0) (U 10 0) p q a 0 := by unfold nV; rw [eF, if_pos rfl, if_neg (by omega)]
              refine aw_iconst dX4_readNumber_144 ?_
              exact aw_ireturn dX4_readNumber_145 rfl rfl ⟨Nat.le_refl _, Nat.le_refl _⟩ (by have q2 := hQ 0 eV; rw [eA, eF] at q2; exact q2)
            · skip
              refine aw_iload dX4_readNumber_132 rfl ?_
              refine aw_iload_n dX4_readNumber_134 rfl ?_
              refine aw_icmp_le (tgt := 146) dX4_readNumber_135 rfl (by omega) (fun c135 => ?_) (fun c135 => ?_)
              · skip
                have eF : nF (U 0) (U 10 0) p q a 0 = 0 := by unfold nF nW; rw [if_pos rfl, ← hx3_17, ed, ev, if_neg (by omega), if_neg (by omega)]
                have eV : v = nV (U 0) (U 10 0) p q a 0 := by unfold nV nW; rw [eF, if_pos ⟨rfl, rfl⟩, ← hx3_17, ev]
                refine aw_iload dX4_readNumber_146 rfl ?_
                exact aw_ireturn dX4_readNumber_148 rfl rfl ⟨Nat.le_refl _, Nat.le_refl _⟩ (by have q2 := hQ v eV; rw [eA, eF] at q2; exact q2)
              · skip
                refine aw_aload_n dX4_readNumber_138 rfl ?_
                refine aw_iload_n dX4_readNumber_139 rfl ?_
                refine aw_iconst dX4_readNumber_140 ?_
                refine aw_callV (As := [_, _]) (ρ := (_, 0, 0)) (kn' := (0, 0)) cv_X4_54 dX4_readNumber_141 rfl rfl (hc1 hnx) rfl rfl (Nat.le_of_ble_eq_true rfl) (rmR _ _ _) ⟨Nat.le_refl _, Nat.le_refl _⟩ rfl (c_X4_fail hnx (by omega) ?_)
                have eF : nF (U 0) (U 10 0) p q a 0 = (if (0 : Int) = 0 then 8 * x3_17 + 2 else 0) := by unfold nF nW; rw [if_pos rfl, if_pos rfl, ← hx3_17, ed, ev, if_neg (by omega), if_pos (by omega)]
                have eV : 0 = nV (U 0) (U 10 0) p q a 0 := by unfold nV; rw [eF, if_pos rfl, if_neg (by omega)]
                refine aw_iconst dX4_readNumber_144 ?_
                exact aw_ireturn dX4_readNumber_145 rfl rfl ⟨Nat.le_refl _, Nat.le_refl _⟩ (by have q2 := hQ 0 eV; rw [eA, eF] at q2; exact q2)
          · skip
            refine aw_aload_n dX4_readNumber_118 rfl ?_
            refine aw_iload_n dX4_readNumber_119 rfl ?_
            refine aw_iconst dX4_readNumber_120 ?_
            refine aw_callV (As := [_, _]) (ρ := (_, 0, 0)) (kn' := (0, 0)) cv_X4_54 dX4_readNumber_121 rfl rfl (hc1 hnx) rfl rfl (Nat.le_of_ble_eq_true rfl) (rmR _ _ _) ⟨Nat.le_refl _, Nat.le_refl _⟩ rfl (c_X4_fail hnx (by omega) ?_)
            have eF : nF (U 0) (U 10 0) p q a 0 = (if (0 : Int) = 0 then 8 * x3_17 + 1 else 0) := by unfold nF; rw [if_pos rfl, if_pos rfl, ← hx3_17, ed, if_pos (by omega)]
            have eV : 0 = nV (U 0) (U 10 0) p q a 0 := by unfold nV; rw [eF, if_pos rfl, if_neg (by omega)]
            refine aw_iconst dX4_readNumber_124 ?_
            exact aw_ireturn dX4_readNumber_125 rfl rfl ⟨Nat.le_refl _, Nat.le_refl _⟩ (by have q2 := hQ 0 eV; rw [eA, eF] at q2; exact q2)
        · skip
          refine aw_iload dX4_readNumber_69 rfl ?_
          refine aw_bipush dX4_readNumber_71 rfl ?_
          refine aw_imul dX4_readNumber_73 ?_
          refine aw_aload_n dX4_readNumber_74 rfl ?_
          refine aw_getf fg_X4_12 dX4_readNumber_75 (hc1 hnx) rfl ?_
          refine aw_getf fg_X4_83 dX4_readNumber_78 (hc2 hnx) rfl ?_
          refine aw_aload_n dX4_readNumber_81 rfl ?_
          refine aw_getf fg_X4_25 dX4_readNumber_82 (hc1 hnx) rfl ?_
          refine aw_sv (a := x) (rfl) ?_
          refine aw_bald dX4_readNumber_85 (hc3 hnx) (by omega) (by decide) ?_
          refine aw_sv (a := U 0 x) (rfl) ?_
          refine aw_iadd dX4_readNumber_86 ?_
          refine aw_bipush dX4_readNumber_87 rfl ?_
          refine aw_isub dX4_readNumber_89 ?_
          refine aw_ldc dX4_readNumber_90 qk_X4_117 ?_
          refine aw_st (st' := vi 100000 :: _) rfl ?_
          refine aw_mmin qm_X4_118 dX4_readNumber_92 (by omega) (rmN13 _ _ _ (Nat.le_of_ble_eq_true rfl)) ⟨Nat.le_refl _, Nat.le_refl _⟩ (fun r92 h92 => ?_)
          refine aw_istore (ls' := [some (rf Γ 1), some _, some _, some _, some _]) dX4_readNumber_95 (by decide) rfl ?_
          refine aw_aload_n dX4_readNumber_97 rfl ?_
          refine aw_dup dX4_readNumber_98 rfl ?_
          refine aw_getf fg_X4_25 dX4_readNumber_99 (hc1 hnx) rfl ?_
          refine aw_sv (a := x) (rfl) ?_
          refine aw_iconst dX4_readNumber_102 ?_
          refine aw_iadd dX4_readNumber_103 ?_
          refine aw_putU fp_X4_25 dX4_readNumber_104 (hc1 hnx) (Nat.le_of_ble_eq_true rfl) hu1_11 ?_
          refine aw_hp (U' := ua U (x + 1) 0) rfl rfl (ua_a U x 0 (x + 1)) rfl rfl ?_
          refine aw_goto (tgt := 21) dX4_readNumber_107 rfl ?_
          exact ih (by omega) r92 (x + 1) (by omega) (by rw [i21_1, show 401 - k = (401 - (k + 1)) + 1 by omega, run_step (by omega)]) (by rw [i21_2, show 401 - k = (401 - (k + 1)) + 1 by omega, nvl_step (by omega), h92]) (by omega) (by omega)
  · skip
    refine aw_iconst dX4_readNumber_7 ?_
    exact aw_ireturn dX4_readNumber_8 rfl rfl ⟨Nat.le_refl _, Nat.le_refl _⟩ (by have q2 := hQ 0 (by unfold nV; rw [if_neg (by omega)]); rw [show nA (U 0) (U 10 0) a f = a by unfold nA; rw [if_neg c4], show nF (U 0) (U 10 0) p q a f = f by unfold nF; rw [if_neg c4]] at q2; exact q2)

set_option maxHeartbeats 1000000 in
theorem c_X4_readSeparator {Γ : GT} {S T U V : St} {G : Gw} {nx d : Nat} {Q : QT} (hnx : 52 ≤ nx) {a f : Int} (hB : ∀ j : Int, -128 ≤ U 0 j ∧ U 0 j ≤ 127) (hn : 0 ≤ U 10 0 ∧ U 10 0 ≤ 400) (ha : 0 ≤ a ∧ a ≤ U 10 0) (hf : 0 ≤ f ∧ f ≤ 4000) (hQ : Q none (hp Γ S T (ua U (sepA (U 0) (U 10 0) a f) (sepF (U 0) (U 10 0) a f)) V G) nx) : AM Γ MX4_readSeparator (d + 1, 0, 0) [rf Γ 1] (hp Γ S T (ua U a f) V G) nx Q := by
  refine am_of (by decide) (Nat.le_of_ble_eq_true rfl) (ls := [some (rf Γ 1)]) rfl ?_
  refine aw_aload_n dX4_readSeparator_0 rfl ?_
  refine aw_getf fg_X4_29 dX4_readSeparator_1 (hc1 hnx) rfl ?_
  refine aw_sv (a := f) (rfl) ?_
  refine aw_if_eq (tgt := 8) dX4_readSeparator_4 rfl (by omega) (fun c4 => ?_) (fun c4 => ?_)
  · skip
    subst c4
    refine aw_aload_n dX4_readSeparator_8 rfl ?_
    refine aw_getf fg_X4_25 dX4_readSeparator_9 (hc1 hnx) rfl ?_
    refine aw_sv (a := a) (rfl) ?_
    refine aw_aload_n dX4_readSeparator_12 rfl ?_
    refine aw_getf fg_X4_12 dX4_readSeparator_13 (hc1 hnx) rfl ?_
    refine aw_getf fg_X4_51 dX4_readSeparator_16 (hc2 hnx) rfl ?_
    refine aw_sv (a := U 10 0) (rfl) ?_
    refine aw_icmp_ge (tgt := 52) dX4_readSeparator_19 rfl (by omega) (fun c19 => ?_) (fun c19 => ?_)
    · skip
      refine aw_aload_n dX4_readSeparator_52 rfl ?_
      refine aw_aload_n dX4_readSeparator_53 rfl ?_
      refine aw_getf fg_X4_25 dX4_readSeparator_54 (hc1 hnx) rfl ?_
      refine aw_sv (a := a) (rfl) ?_
      refine aw_iconst dX4_readSeparator_57 ?_
      refine aw_callV (As := [_, _]) (ρ := (_, 0, 0)) (kn' := (0, 0)) cv_X4_54 dX4_readSeparator_58 rfl rfl (hc1 hnx) rfl rfl (Nat.le_of_ble_eq_true rfl) (rmR _ _ _) ⟨Nat.le_refl _, Nat.le_refl _⟩ rfl (c_X4_fail hnx (by omega) ?_)
      first | rw [show sepA (U 0) (U 10 0) a 0 = a + 1 by unfold sepA; rw [if_pos ⟨rfl, by omega, by omega⟩], show sepF (U 0) (U 10 0) a 0 = 0 by unfold sepF; rw [if_pos rfl, if_pos (by omega)]] at hQ | rw [show sepA (U 0) (U 10 0) a 0 = a by unfold sepA; rw [if_neg (by omega)], show sepF (U 0) (U 10 0) a 0 = (if (0 : Int) = 0 then 8 * a + 1 else 0) by unfold sepF; rw [if_pos rfl, if_neg (by omega), if_pos rfl]] at hQ
      exact aw_return dX4_readSeparator_61 rfl ⟨Nat.le_refl _, Nat.le_refl _⟩ hQ
    · skip
      refine aw_aload_n dX4_readSeparator_22 rfl ?_
      refine aw_getf fg_X4_12 dX4_readSeparator_23 (hc1 hnx) rfl ?_
      refine aw_getf fg_X4_83 dX4_readSeparator_26 (hc2 hnx) rfl ?_
      refine aw_aload_n dX4_readSeparator_29 rfl ?_
      refine aw_getf fg_X4_25 dX4_readSeparator_30 (hc1 hnx) rfl ?_
      refine aw_sv (a := a) (rfl) ?_
      refine aw_bald dX4_readSeparator_33 (hc3 hnx) (by omega) (by decide) ?_
      refine aw_sv (a := U 0 a) (rfl) ?_
      have b0 := hB a
      refine aw_bipush dX4_readSeparator_34 rfl ?_
      refine aw_icmp_ne (tgt := 52) dX4_readSeparator_36 rfl (by omega) (fun c36 => ?_) (fun c36 => ?_)
      · skip
        refine aw_aload_n dX4_readSeparator_52 rfl ?_
        refine aw_aload_n dX4_readSeparator_53 rfl ?_
        refine aw_getf fg_X4_25 dX4_readSeparator_54 (hc1 hnx) rfl ?_
        refine aw_sv (a := a) (rfl) ?_
        refine aw_iconst dX4_readSeparator_57 ?_
        refine aw_callV (As := [_, _]) (ρ := (_, 0, 0)) (kn' := (0, 0)) cv_X4_54 dX4_readSeparator_58 rfl rfl (hc1 hnx) rfl rfl (Nat.le_of_ble_eq_true rfl) (rmR _ _ _) ⟨Nat.le_refl _, Nat.le_refl _⟩ rfl (c_X4_fail hnx (by omega) ?_)
        first | rw [show sepA (U 0) (U 10 0) a 0 = a + 1 by unfold sepA; rw [if_pos ⟨rfl, by omega, by omega⟩], show sepF (U 0) (U 10 0) a 0 = 0 by unfold sepF; rw [if_pos rfl, if_pos (by omega)]] at hQ | rw [show sepA (U 0) (U 10 0) a 0 = a by unfold sepA; rw [if_neg (by omega)], show sepF (U 0) (U 10 0) a 0 = (if (0 : Int) = 0 then 8 * a + 1 else 0) by unfold sepF; rw [if_pos rfl, if_neg (by omega), if_pos rfl]] at hQ
        exact aw_return dX4_readSeparator_61 rfl ⟨Nat.le_refl _, Nat.le_refl _⟩ hQ
      · skip
        refine aw_aload_n dX4_readSeparator_39 rfl ?_
        refine aw_dup dX4_readSeparator_40 rfl ?_
        refine aw_getf fg_X4_25 dX4_readSeparator_41 (hc1 hnx) rfl ?_
        refine aw_sv (a := a) (rfl) ?_
        refine aw_iconst dX4_readSeparator_44 ?_
        refine aw_iadd dX4_readSeparator_45 ?_
        refine aw_putU fp_X4_25 dX4_readSeparator_46 (hc1 hnx) (Nat.le_of_ble_eq_true rfl) hu1_11 ?_
        refine aw_hp (U' := ua U (a + 1) 0) rfl rfl (ua_a U a 0 (a + 1)) rfl rfl ?_
        refine aw_goto (tgt := 61) dX4_readSeparator_49 rfl ?_
        first | rw [show sepA (U 0) (U 10 0) a 0 = a + 1 by unfold sepA; rw [if_pos ⟨rfl, by omega, by omega⟩], show sepF (U 0) (U 10 0) a 0 = 0 by unfold sepF; rw [if_pos rfl, if_pos (by omega)]] at hQ | rw [show sepA (U 0) (U 10 0) a 0 = a by unfold sepA; rw [if_neg (by omega)], show sepF (U 0) (U 10 0) a 0 = (if (0 : Int) = 0 then 8 * a + 1 else 0) by unfold sepF; rw [if_pos rfl, if_neg (by omega), if_pos rfl]] at hQ
        exact aw_return dX4_readSeparator_61 rfl ⟨Nat.le_refl _, Nat.le_refl _⟩ hQ
  · skip
    exact aw_return dX4_readSeparator_7 rfl ⟨Nat.le_refl _, Nat.le_refl _⟩ (by rw [show sepA (U 0) (U 10 0) a f = a by unfold sepA; rw [if_neg (by omega)], show sepF (U 0) (U 10 0) a f = f by unfold sepF; rw [if_neg c4]] at hQ; exact hQ)

def orgT (B : Int → Int) (n : Int) (T : St) (a : Int) : St := if 4 ≤ T 26 0 then T else u0 (u1 T 1 (T 26 0) (nV B n 0 99999 a 0)) 26 (T 26 0 + 1)
def orgA (B : Int → Int) (n : Int) (T : St) (a : Int) : Int := if 4 ≤ T 26 0 then a else nA B n a 0
def orgF (B : Int → Int) (n : Int) (T : St) (t a : Int) : Int := if 4 ≤ T 26 0 then 8 * t + 3 else nF B n 0 99999 a 0
def impT (T : St) : St := if 8 ≤ T 27 0 then T else u0 T 27 (T 27 0 + 1)
def impF (T : St) (t : Int) : Int := if 8 ≤ T 27 0 then 8 * t + 3 else 0

set_option maxHeartbeats 1000000 in
theorem c_X4_readOrigin {Γ : GT} {S T U V : St} {G : Gw} {nx d : Nat} {Q : QT} (hnx : 52 ≤ nx) {a t : Int} (hB : ∀ j : Int, -128 ≤ U 0 j ∧ U 0 j ≤ 127) (hn : 0 ≤ U 10 0 ∧ U 10 0 ≤ 400) (ha : 0 ≤ a ∧ a ≤ U 10 0) (hT : Rg T) (h26 : 0 ≤ T 26 0 ∧ T 26 0 ≤ 4) (h27 : 0 ≤ T 27 0 ∧ T 27 0 ≤ 8) (hQ : Rg (orgT (U 0) (U 10 0) T a) → Q none (hp Γ S (orgT (U 0) (U 10 0) T a) (ua U (orgA (U 0) (U 10 0) T a) (orgF (U 0) (U 10 0) T t a)) V G) nx) : AM Γ MX4_readOrigin (d + 2, 0, 0) [rf Γ 1, vi t] (hp Γ S T (ua U a 0) V G) nx Q := by
  refine am_of (by decide) (Nat.le_of_ble_eq_true rfl) (ls := [some (rf Γ 1), some _]) rfl ?_
  have nv := nV_in (U 0) (U 10 0) 0 99999 a 0
  refine aw_aload_n dX4_readOrigin_0 rfl ?_
  refine aw_getf fg_X4_21 dX4_readOrigin_1 (hc1 hnx) rfl ?_
  refine aw_getf fg_X4_48 dX4_readOrigin_4 (hc4 hnx) rfl ?_
  refine aw_iconst dX4_readOrigin_7 ?_
  refine aw_icmp_lt (tgt := 18) dX4_readOrigin_8 rfl (by omega) (fun c8 => ?_) (fun c8 => ?_)
  · skip
    refine aw_aload_n dX4_readOrigin_18 rfl ?_
    refine aw_getf fg_X4_21 dX4_readOrigin_19 (hc1 hnx) rfl ?_
    refine aw_getf fg_X4_103 dX4_readOrigin_22 (hc4 hnx) rfl ?_
    refine aw_aload_n dX4_readOrigin_25 rfl ?_
    refine aw_getf fg_X4_21 dX4_readOrigin_26 (hc1 hnx) rfl ?_
    refine aw_getf fg_X4_48 dX4_readOrigin_29 (hc4 hnx) rfl ?_
    refine aw_aload_n dX4_readOrigin_32 rfl ?_
    refine aw_iconst dX4_readOrigin_33 ?_
    refine aw_ldc dX4_readOrigin_34 qk_X4_106 ?_
    refine aw_st (st' := vi 99999 :: _) rfl ?_
    refine aw_callV (As := [_, _]) (ρ := (_, 0, 0)) (kn' := (0, 0)) cv_X4_79 dX4_readOrigin_36 rfl rfl (hc1 hnx) rfl rfl (Nat.le_of_ble_eq_true rfl) (rmR _ _ _) ⟨Nat.le_refl _, Nat.le_refl _⟩ rfl (c_X4_readNumber hnx (f := 0) (p := 0) (q := 99999) hB hn (by omega) (by omega) (by omega) (fun r36 h36 => ?_))
    subst h36
    refine aw_iastT dX4_readOrigin_39 (hc6 hnx) (by omega) (by decide) hT (by omega) (fun _ => hu6) (fun hT => ?_)
    refine aw_aload_n dX4_readOrigin_40 rfl ?_
    refine aw_getf fg_X4_21 dX4_readOrigin_41 (hc1 hnx) rfl ?_
    refine aw_dup dX4_readOrigin_44 rfl ?_
    refine aw_getf fg_X4_48 dX4_readOrigin_45 (hc4 hnx) rfl ?_
    refine aw_sv (a := T 26 0) (rfl) ?_
    refine aw_iconst dX4_readOrigin_48 ?_
    refine aw_iadd dX4_readOrigin_49 ?_
    refine aw_putT fp_X4_48 dX4_readOrigin_50 (hc4 hnx) (Nat.le_of_ble_eq_true rfl) hT (by omega) hu4_26 (fun hT => ?_)
    rw [orgT, if_neg (by omega), orgA, if_neg (by omega), orgF, if_neg (by omega)] at hQ
    exact aw_return dX4_readOrigin_53 rfl ⟨Nat.le_refl _, Nat.le_refl _⟩ (hQ hT)
  · skip
    refine aw_aload_n dX4_readOrigin_11 rfl ?_
    refine aw_iload_n dX4_readOrigin_12 rfl ?_
    refine aw_iconst dX4_readOrigin_13 ?_
    refine aw_callV (As := [_, _]) (ρ := (_, 0, 0)) (kn' := (0, 0)) cv_X4_54 dX4_readOrigin_14 rfl rfl (hc1 hnx) rfl rfl (Nat.le_of_ble_eq_true rfl) (rmR _ _ _) ⟨Nat.le_refl _, Nat.le_refl _⟩ rfl (c_X4_fail hnx (by omega) ?_)
    rw [show orgT (U 0) (U 10 0) T a = T by unfold orgT; rw [if_pos (by omega)], show orgA (U 0) (U 10 0) T a = a by unfold orgA; rw [if_pos (by omega)], show orgF (U 0) (U 10 0) T t a = (if (0 : Int) = 0 then 8 * t + 3 else 0) by unfold orgF; rw [if_pos (by omega), if_pos rfl]] at hQ
    exact aw_return dX4_readOrigin_17 rfl ⟨Nat.le_refl _, Nat.le_refl _⟩ (hQ hT)

set_option maxHeartbeats 1000000 in
theorem c_X4_readImporter {Γ : GT} {S T U V : St} {G : Gw} {nx d : Nat} {Q : QT} (hnx : 52 ≤ nx) {a t : Int} (hT : Rg T) (h26 : 0 ≤ T 26 0 ∧ T 26 0 ≤ 4) (h27 : 0 ≤ T 27 0 ∧ T 27 0 ≤ 8) (hQ : Rg (impT T) → Q none (hp Γ S (impT T) (ua U a (impF T t)) V G) nx) : AM Γ MX4_readImporter (d + 1, 0, 0) [rf Γ 1, vi t] (hp Γ S T (ua U a 0) V G) nx Q := by
  refine am_of (by decide) (Nat.le_of_ble_eq_true rfl) (ls := [some (rf Γ 1), some _]) rfl ?_
  refine aw_aload_n dX4_readImporter_0 rfl ?_
  refine aw_getf fg_X4_21 dX4_readImporter_1 (hc1 hnx) rfl ?_
  refine aw_getf fg_X4_107 dX4_readImporter_4 (hc4 hnx) rfl ?_
  refine aw_bipush dX4_readImporter_7 rfl ?_
  refine aw_icmp_lt (tgt := 19) dX4_readImporter_9 rfl (by omega) (fun c9 => ?_) (fun c9 => ?_)
  · skip
    refine aw_aload_n dX4_readImporter_19 rfl ?_
    refine aw_getf fg_X4_21 dX4_readImporter_20 (hc1 hnx) rfl ?_
    refine aw_dup dX4_readImporter_23 rfl ?_
    refine aw_getf fg_X4_107 dX4_readImporter_24 (hc4 hnx) rfl ?_
    refine aw_sv (a := T 27 0) (rfl) ?_
    refine aw_iconst dX4_readImporter_27 ?_
    refine aw_iadd dX4_readImporter_28 ?_
    refine aw_putT fp_X4_107 dX4_readImporter_29 (hc4 hnx) (Nat.le_of_ble_eq_true rfl) hT (by omega) hu4_27 (fun hT => ?_)
    rw [impT, if_neg (by omega), impF, if_neg (by omega)] at hQ
    exact aw_return dX4_readImporter_32 rfl ⟨Nat.le_refl _, Nat.le_refl _⟩ (hQ hT)
  · skip
    refine aw_aload_n dX4_readImporter_12 rfl ?_
    refine aw_iload_n dX4_readImporter_13 rfl ?_
    refine aw_iconst dX4_readImporter_14 ?_
    refine aw_callV (As := [_, _]) (ρ := (_, 0, 0)) (kn' := (0, 0)) cv_X4_54 dX4_readImporter_15 rfl rfl (hc1 hnx) rfl rfl (Nat.le_of_ble_eq_true rfl) (rmR _ _ _) ⟨Nat.le_refl _, Nat.le_refl _⟩ rfl (c_X4_fail hnx (by omega) ?_)
    rw [show impT T = T by unfold impT; rw [if_pos (by omega)], show impF T t = (if (0 : Int) = 0 then 8 * t + 3 else 0) by unfold impF; rw [if_pos (by omega), if_pos rfl]] at hQ
    exact aw_return dX4_readImporter_18 rfl ⟨Nat.le_refl _, Nat.le_refl _⟩ (hQ hT)

set_option maxHeartbeats 1000000 in
theorem c_X4_readPast {Γ : GT} {S T U V : St} {G : Gw} {nx d : Nat} {Q : QT} (hnx : 52 ≤ nx) {a : Int} (hB : ∀ j : Int, -128 ≤ U 0 j ∧ U 0 j ≤ 127) (hn : 0 ≤ U 10 0 ∧ U 10 0 ≤ 400) (ha : 0 ≤ a ∧ a ≤ U 10 0) (hT : Rg T) (h26 : 0 ≤ T 26 0 ∧ T 26 0 ≤ 4) (h27 : 0 ≤ T 27 0 ∧ T 27 0 ≤ 8) (hQ : Rg (pstT (U 0) (U 10 0) T a) → Q none (hp Γ S (pstT (U 0) (U 10 0) T a) (ua U (ps5 (U 0) (U 10 0) T a).1 (ps5 (U 0) (U 10 0) T a).2) V G) nx) : AM Γ MX4_readPast (d + 2, 0, 0) [rf Γ 1] (hp Γ S T (ua U a 0) V G) nx Q := by
  refine am_of (by decide) (Nat.le_of_ble_eq_true rfl) (ls := [some (rf Γ 1), none, none, none, none, none, none]) rfl ?_
  have pin := ps_in (B := U 0) (n := U 10 0) T ha hn.2
  have v1 := nV_in (U 0) (U 10 0) 0 (T 27 0 - 1) a 0
  have v2 := nV_in (U 0) (U 10 0) 0 (T 26 0 - 1) (ps1 (U 0) (U 10 0) T a).1 (ps1 (U 0) (U 10 0) T a).2
  have v3 := nV_in (U 0) (U 10 0) 0 99999 (ps2 (U 0) (U 10 0) T a).1 (ps2 (U 0) (U 10 0) T a).2
  have v4 := nV_in (U 0) (U 10 0) 0 99999 (ps3 (U 0) (U 10 0) T a).1 (ps3 (U 0) (U 10 0) T a).2
  have v5 := nV_in (U 0) (U 10 0) 0 99999 (ps4 (U 0) (U 10 0) T a).1 (ps4 (U 0) (U 10 0) T a).2
  refine aw_aload_n dX4_readPast_0 rfl ?_
  refine aw_iconst dX4_readPast_1 ?_
  refine aw_aload_n dX4_readPast_2 rfl ?_
  refine aw_getf fg_X4_21 dX4_readPast_3 (hc1 hnx) rfl ?_
  refine aw_getf fg_X4_107 dX4_readPast_6 (hc4 hnx) rfl ?_
  refine aw_iconst dX4_readPast_9 ?_
  refine aw_isub dX4_readPast_10 ?_
  refine aw_callV (As := [_, _]) (ρ := (_, 0, 0)) (kn' := (0, 0)) cv_X4_79 dX4_readPast_11 rfl rfl (hc1 hnx) rfl rfl (Nat.le_of_ble_eq_true rfl) (rmR _ _ _) ⟨Nat.le_refl _, Nat.le_refl _⟩ rfl (c_X4_readNumber hnx (a := a) (f := 0) (p := 0) (q := T 27 0 - 1) hB hn (by omega) (by omega) (by omega) (fun r11 h11 => ?_))
  have e11 : r11 = pv1 (U 0) (U 10 0) T a := h11
  refine aw_istore_n (ls' := [some (rf Γ 1), some _, none, none, none, none, none]) dX4_readPast_14 (by decide) rfl ?_
  refine aw_aload_n dX4_readPast_15 rfl ?_
  refine aw_iconst dX4_readPast_16 ?_
  refine aw_aload_n dX4_readPast_17 rfl ?_
  refine aw_getf fg_X4_21 dX4_readPast_18 (hc1 hnx) rfl ?_
  refine aw_getf fg_X4_48 dX4_readPast_21 (hc4 hnx) rfl ?_
  refine aw_iconst dX4_readPast_24 ?_
  refine aw_isub dX4_readPast_25 ?_
  refine aw_callV (As := [_, _]) (ρ := (_, 0, 0)) (kn' := (0, 0)) cv_X4_79 dX4_readPast_26 rfl rfl (hc1 hnx) rfl rfl (Nat.le_of_ble_eq_true rfl) (rmR _ _ _) ⟨Nat.le_refl _, Nat.le_refl _⟩ rfl (c_X4_readNumber hnx (a := (ps1 (U 0) (U 10 0) T a).1) (f := (ps1 (U 0) (U 10 0) T a).2) (p := 0) (q := T 26 0 - 1) hB hn (by omega) (by omega) (by omega) (fun r26 h26 => ?_))
  have e26 : r26 = pv2 (U 0) (U 10 0) T a := h26
  refine aw_istore_n (ls' := [some (rf Γ 1), some _, some _, none, none, none, none]) dX4_readPast_29 (by decide) rfl ?_
  refine aw_aload_n dX4_readPast_30 rfl ?_
  refine aw_iconst dX4_readPast_31 ?_
  refine aw_ldc dX4_readPast_32 qk_X4_106 ?_
  refine aw_st (st' := vi 99999 :: _) rfl ?_
  refine aw_callV (As := [_, _]) (ρ := (_, 0, 0)) (kn' := (0, 0)) cv_X4_79 dX4_readPast_34 rfl rfl (hc1 hnx) rfl rfl (Nat.le_of_ble_eq_true rfl) (rmR _ _ _) ⟨Nat.le_refl _, Nat.le_refl _⟩ rfl (c_X4_readNumber hnx (a := (ps2 (U 0) (U 10 0) T a).1) (f := (ps2 (U 0) (U 10 0) T a).2) (p := 0) (q := 99999) hB hn (by omega) (by omega) (by omega) (fun r34 h34 => ?_))
  have e34 : r34 = pv3 (U 0) (U 10 0) T a := h34
  refine aw_istore_n (ls' := [some (rf Γ 1), some _, some _, some _, none, none, none]) dX4_readPast_37 (by decide) rfl ?_
  refine aw_aload_n dX4_readPast_38 rfl ?_
  refine aw_iconst dX4_readPast_39 ?_
  refine aw_ldc dX4_readPast_40 qk_X4_106 ?_
  refine aw_st (st' := vi 99999 :: _) rfl ?_
  refine aw_callV (As := [_, _]) (ρ := (_, 0, 0)) (kn' := (0, 0)) cv_X4_79 dX4_readPast_42 rfl rfl (hc1 hnx) rfl rfl (Nat.le_of_ble_eq_true rfl) (rmR _ _ _) ⟨Nat.le_refl _, Nat.le_refl _⟩ rfl (c_X4_readNumber hnx (a := (ps3 (U 0) (U 10 0) T a).1) (f := (ps3 (U 0) (U 10 0) T a).2) (p := 0) (q := 99999) hB hn (by omega) (by omega) (by omega) (fun r42 h42 => ?_))
  have e42 : r42 = pv4 (U 0) (U 10 0) T a := h42
  refine aw_istore (ls' := [some (rf Γ 1), some _, some _, some _, some _, none, none]) dX4_readPast_45 (by decide) rfl ?_
  refine aw_aload_n dX4_readPast_47 rfl ?_
  refine aw_iconst dX4_readPast_48 ?_
  refine aw_ldc dX4_readPast_49 qk_X4_106 ?_
  refine aw_st (st' := vi 99999 :: _) rfl ?_
  refine aw_callV (As := [_, _]) (ρ := (_, 0, 0)) (kn' := (0, 0)) cv_X4_79 dX4_readPast_51 rfl rfl (hc1 hnx) rfl rfl (Nat.le_of_ble_eq_true rfl) (rmR _ _ _) ⟨Nat.le_refl _, Nat.le_refl _⟩ rfl (c_X4_readNumber hnx (a := (ps4 (U 0) (U 10 0) T a).1) (f := (ps4 (U 0) (U 10 0) T a).2) (p := 0) (q := 99999) hB hn (by omega) (by omega) (by omega) (fun r51 h51 => ?_))
  have e51 : r51 = pv5 (U 0) (U 10 0) T a := h51
  refine aw_istore (ls' := [some (rf Γ 1), some _, some _, some _, some _, some _, none]) dX4_readPast_54 (by decide) rfl ?_
  refine aw_aload_n dX4_readPast_56 rfl ?_
  refine aw_getf fg_X4_29 dX4_readPast_57 (hc1 hnx) rfl ?_
  refine aw_sv (a := (ps5 (U 0) (U 10 0) T a).2) (rfl) ?_
  refine aw_if_ne (tgt := 105) dX4_readPast_60 rfl (by omega) (fun c60 => ?_) (fun c60 => ?_)
  · skip
    first | (rw [show pstT (U 0) (U 10 0) T a = T by unfold pstT; rw [if_neg c60]] at hQ) | (unfold pstT at hQ; rw [if_pos c60, ← e11, ← e26, ← e34, ← e42, ← e51] at hQ)
    exact aw_return dX4_readPast_105 rfl ⟨Nat.le_refl _, Nat.le_refl _⟩ (hQ hT)
  · skip
    have ok := ps_ok (B := U 0) (n := U 10 0) (T := T) ha hn.2 c60
    refine aw_iload_n dX4_readPast_63 rfl ?_
    refine aw_iload_n dX4_readPast_64 rfl ?_
    refine aw_callSN (As := [_, _]) (ρ := (_, 0, 0)) (kn' := (0, 0)) cs_X4_110 dX4_readPast_65 rfl rfl (Nat.le_of_ble_eq_true rfl) (rmR _ _ _) ⟨Nat.le_refl _, Nat.le_refl _⟩ rfl (c_X10_pairOf hnx  (fun r65 h65 => ?_))
    refine aw_istore (ls' := [some (rf Γ 1), some _, some _, some _, some _, some _, some _]) dX4_readPast_68 (by decide) rfl ?_
    subst h65
    refine aw_aload_n dX4_readPast_70 rfl ?_
    refine aw_getf fg_X4_21 dX4_readPast_71 (hc1 hnx) rfl ?_
    refine aw_iload dX4_readPast_74 rfl ?_
    refine aw_iconst dX4_readPast_76 ?_
    refine aw_iload_n dX4_readPast_77 rfl ?_
    refine aw_callV (As := [_, _, _]) (ρ := (_, 0, 0)) (kn' := (0, 0)) cv_X4_113 dX4_readPast_78 rfl rfl (hc4 hnx) rfl rfl (Nat.le_of_ble_eq_true rfl) (rmR _ _ _) ⟨Nat.le_refl _, Nat.le_refl _⟩ rfl (c_X5_putYearT hnx hT (by omega) (by omega) (by omega) (fun hT => ?_))
    refine aw_aload_n dX4_readPast_81 rfl ?_
    refine aw_getf fg_X4_21 dX4_readPast_82 (hc1 hnx) rfl ?_
    refine aw_iload dX4_readPast_85 rfl ?_
    refine aw_iconst dX4_readPast_87 ?_
    refine aw_iload dX4_readPast_88 rfl ?_
    refine aw_callV (As := [_, _, _]) (ρ := (_, 0, 0)) (kn' := (0, 0)) cv_X4_113 dX4_readPast_90 rfl rfl (hc4 hnx) rfl rfl (Nat.le_of_ble_eq_true rfl) (rmR _ _ _) ⟨Nat.le_refl _, Nat.le_refl _⟩ rfl (c_X5_putYearT hnx hT (by omega) (by omega) (by omega) (fun hT => ?_))
    refine aw_aload_n dX4_readPast_93 rfl ?_
    refine aw_getf fg_X4_21 dX4_readPast_94 (hc1 hnx) rfl ?_
    refine aw_iload dX4_readPast_97 rfl ?_
    refine aw_iconst dX4_readPast_99 ?_
    refine aw_iload dX4_readPast_100 rfl ?_
    refine aw_callV (As := [_, _, _]) (ρ := (_, 0, 0)) (kn' := (0, 0)) cv_X4_113 dX4_readPast_102 rfl rfl (hc4 hnx) rfl rfl (Nat.le_of_ble_eq_true rfl) (rmR _ _ _) ⟨Nat.le_refl _, Nat.le_refl _⟩ rfl (c_X5_putYearT hnx hT (by omega) (by omega) (by omega) (fun hT => ?_))
    first | (rw [show pstT (U 0) (U 10 0) T a = T by unfold pstT; rw [if_neg c60]] at hQ) | (unfold pstT at hQ; rw [if_pos c60, ← e11, ← e26, ← e34, ← e42, ← e51] at hQ)
    exact aw_return dX4_readPast_105 rfl ⟨Nat.le_refl _, Nat.le_refl _⟩ (hQ hT)


/-! the text of a scheme, as it is read -/
def run (B : Int → Int) (n lo hi : Int) : Nat → Int → Int
  | 0, a => a
  | f + 1, a => if a < n ∧ lo ≤ B a ∧ B a ≤ hi then run B n lo hi f (a + 1) else a
theorem run_step {B : Int → Int} {n lo hi a : Int} {f : Nat} (h : a < n ∧ lo ≤ B a ∧ B a ≤ hi) : run B n lo hi (f + 1) a = run B n lo hi f (a + 1) := by rw [run, if_pos h]
theorem run_stop {B : Int → Int} {n lo hi a : Int} {f : Nat} (h : ¬ (a < n ∧ lo ≤ B a ∧ B a ≤ hi)) : run B n lo hi f a = a := by
  cases f with
  | zero => rfl
  | succ f => rw [run, if_neg h]
theorem run_in (B : Int → Int) (n lo hi : Int) : ∀ (f : Nat) (a : Int), a ≤ run B n lo hi f a ∧ (a ≤ n → run B n lo hi f a ≤ n)
  | 0, a => ⟨Int.le_refl _, fun h => h⟩
  | f + 1, a => by
    have h := run_in B n lo hi f (a + 1)
    rw [run]; split
    · exact ⟨by omega, fun _ => h.2 (by omega)⟩
    · exact ⟨by omega, fun h => h⟩
def skb (B : Int → Int) (n a : Int) : Int := run B n 32 32 401 a
def ltr (B : Int → Int) (n a : Int) : Int := run B n 97 122 401 a
def dgt (B : Int → Int) (n a : Int) : Int := run B n 48 57 401 a
theorem skb_in {B : Int → Int} {n a : Int} (h : a ≤ n) : a ≤ skb B n a ∧ skb B n a ≤ n := ⟨(run_in B n 32 32 401 a).1, (run_in B n 32 32 401 a).2 h⟩
theorem ltr_in {B : Int → Int} {n a : Int} (h : a ≤ n) : a ≤ ltr B n a ∧ ltr B n a ≤ n := ⟨(run_in B n 97 122 401 a).1, (run_in B n 97 122 401 a).2 h⟩
theorem dgt_in {B : Int → Int} {n a : Int} (h : a ≤ n) : a ≤ dgt B n a ∧ dgt B n a ≤ n := ⟨(run_in B n 48 57 401 a).1, (run_in B n 48 57 401 a).2 h⟩
def nvl (B : Int → Int) (n : Int) : Nat → Int → Int → Int
  | 0, _, v => v
  | f + 1, a, v => if a < n ∧ 48 ≤ B a ∧ B a ≤ 57 then nvl B n f (a + 1) (min (v * 10 + B a - 48) 100000) else v
theorem nvl_step {B : Int → Int} {n a v : Int} {f : Nat} (h : a < n ∧ 48 ≤ B a ∧ B a ≤ 57) : nvl B n (f + 1) a v = nvl B n f (a + 1) (min (v * 10 + B a - 48) 100000) := by rw [nvl, if_pos h]
theorem nvl_stop {B : Int → Int} {n a v : Int} {f : Nat} (h : ¬ (a < n ∧ 48 ≤ B a ∧ B a ≤ 57)) : nvl B n f a v = v := by
  cases f with
  | zero => rfl
  | succ f => rw [nvl, if_neg h]
theorem nvl_in (B : Int → Int) (n : Int) : ∀ (f : Nat) (a v : Int), 0 ≤ v ∧ v ≤ 100000 → 0 ≤ nvl B n f a v ∧ nvl B n f a v ≤ 100000
  | 0, _, _, h => h
  | f + 1, a, v, h => by
    rw [nvl]; split
    · exact nvl_in B n f _ _ (by omega)
    · exact h
/-- what a number at a place is, how it fails, where reading goes on -/
def nW (B : Int → Int) (n a : Int) : Int := nvl B n 401 (skb B n a) 0
def nA (B : Int → Int) (n a f : Int) : Int := if f = 0 then dgt B n (skb B n a) else a
def nF (B : Int → Int) (n lo hi a f : Int) : Int := if f = 0 then (if dgt B n (skb B n a) = skb B n a then 8 * skb B n a + 1 else if nW B n a < lo ∨ hi < nW B n a then 8 * skb B n a + 2 else 0) else f
def nV (B : Int → Int) (n lo hi a f : Int) : Int := if f = 0 ∧ nF B n lo hi a f = 0 then nW B n a else 0
def mis (B : Int → Int) (s : Int) (w : List Int) (k : Nat) : Int := sm (fun j => if B (s + j) = w.getD j.toNat 0 then 0 else 1) k
theorem mis_in (B : Int → Int) (s : Int) (w : List Int) (k : Nat) : 0 ≤ mis B s w k := sm_nonneg k (fun j _ => by
  show 0 ≤ (if B (s + j) = w.getD (j : Int).toNat 0 then (0 : Int) else 1)
  split <;> omega)
theorem mis_1 {B : Int → Int} {s : Int} {w : List Int} {j k : Nat} (hj : j < k) (h : ¬ B (s + j) = w.getD j 0) : ¬ mis B s w k = 0 := by
  have h1 := sm_one (f := fun j => if B (s + j) = w.getD j.toNat 0 then 0 else 1) k (fun j _ => by
    show 0 ≤ (if B (s + j) = w.getD (j : Int).toNat 0 then (0 : Int) else 1)
    split <;> omega) j hj
  have h2 : (if B (s + j) = w.getD (j : Int).toNat 0 then (0 : Int) else 1) ≤ mis B s w k := h1
  rw [Int.toNat_natCast, if_neg h] at h2
  omega
theorem mis_s {B : Int → Int} {s : Int} {w : List Int} {k : Nat} (h0 : mis B s w k = 0) (h : B (s + k) = w.getD k 0) : mis B s w (k + 1) = 0 := by
  unfold mis at h0 ⊢
  rw [sm, h0, Int.toNat_natCast, if_pos h]; rfl
abbrev isW (B : Int → Int) (n s : Int) (i : Nat) : Prop := ltr B n s - s = ((sB i).length : Int) ∧ mis B s (sB i) (sB i).length = 0
/-- where the reader stands, and its fault -/
def ua (U : St) (a f : Int) : St := u0 (u0 U 11 a) 12 f
theorem ua_a (U : St) (a f x : Int) : ua U x f = u0 (ua U a f) 11 x := by
  funext g j; unfold ua; simp only [u0_at]
  by_cases h : g = 12
  · subst h; simp
  · by_cases h2 : g = 11 <;> simp [h, h2]
theorem ua_f (U : St) (a f x : Int) : ua U a x = u0 (ua U a f) 12 x := by
  funext g j; unfold ua; simp only [u0_at]
  by_cases h : g = 12 <;> simp [h]
theorem ua_self (U : St) (h : ∀ f, f = 11 ∨ f = 12 → ∀ j, U f j = U f 0) : ua U (U 11 0) (U 12 0) = U := by
  funext g j; unfold ua; simp only [u0_at]
  by_cases h1 : g = 12
  · subst h1; simp [(h 12 (Or.inr rfl) j).symm]
  · by_cases h2 : g = 11
    · subst h2; simp [(h 11 (Or.inl rfl) j).symm]
    · simp [h1, h2]
theorem sB_at {i j : Nat} (hi : i < SR.length) (hj : j < (sB i).length) : 0 ≤ (sB i).getD j 0 ∧ (sB i).getD j 0 < 128 := by
  rw [List.getD_eq_getElem?_getD, List.getElem?_eq_getElem hj]
  exact sB_byte i hi _ (List.getElem_mem hj)

set_option maxHeartbeats 1000000 in
theorem c_X4_skipBlanks {Γ : GT} {S T U V : St} {G : Gw} {nx d : Nat} {Q : QT} (hnx : 52 ≤ nx) {a f : Int} (hB : ∀ j : Int, -128 ≤ U 0 j ∧ U 0 j ≤ 127) (hn : 0 ≤ U 10 0 ∧ U 10 0 ≤ 400) (ha : 0 ≤ a ∧ a ≤ U 10 0)  (hQ : Q none (hp Γ S T (ua U (skb (U 0) (U 10 0) a) f) V G) nx) : AM Γ MX4_skipBlanks (d, 0, 0) [rf Γ 1] (hp Γ S T (ua U a f) V G) nx Q := by
  refine am_of (by decide) (Nat.le_of_ble_eq_true rfl) (ls := [some (rf Γ 1)]) rfl ?_
  refine loopN (401) (P := fun k => ∀  (x : Int), x = a + (k : Int) → skb (U 0) (U 10 0) a = run (U 0) (U 10 0) 32 32 (401 - k) x → x ≤ U 10 0 →  AW Γ MX4_skipBlanks _ _ (0, 0) 0 [some (rf Γ 1)] [] (hp Γ S T (ua U x f) V G) nx) (fun k hk ih => ?_) 0 (Nat.zero_le _) a (by omega) rfl (by omega)
  intro  x i0_0 i0_1 i0_2
  refine aw_aload_n dX4_skipBlanks_0 rfl ?_
  refine aw_getf fg_X4_25 dX4_skipBlanks_1 (hc1 hnx) rfl ?_
  refine aw_sv (a := x) (rfl) ?_
  refine aw_aload_n dX4_skipBlanks_4 rfl ?_
  refine aw_getf fg_X4_12 dX4_skipBlanks_5 (hc1 hnx) rfl ?_
  refine aw_getf fg_X4_51 dX4_skipBlanks_8 (hc2 hnx) rfl ?_
  refine aw_sv (a := U 10 0) (rfl) ?_
  refine aw_icmp_ge (tgt := 44) dX4_skipBlanks_11 rfl (by omega) (fun c11 => ?_) (fun c11 => ?_)
  · skip
    have ex : skb (U 0) (U 10 0) a = x := by rw [i0_1]; exact run_stop (by omega)
    rw [ex] at hQ
    exact aw_return dX4_skipBlanks_44 rfl ⟨Nat.le_refl _, Nat.le_refl _⟩ hQ
  · skip
    refine aw_aload_n dX4_skipBlanks_14 rfl ?_
    refine aw_getf fg_X4_12 dX4_skipBlanks_15 (hc1 hnx) rfl ?_
    refine aw_getf fg_X4_83 dX4_skipBlanks_18 (hc2 hnx) rfl ?_
    refine aw_aload_n dX4_skipBlanks_21 rfl ?_
    refine aw_getf fg_X4_25 dX4_skipBlanks_22 (hc1 hnx) rfl ?_
    refine aw_sv (a := x) (rfl) ?_
    refine aw_bald dX4_skipBlanks_25 (hc3 hnx) (by omega) (by decide) ?_
    refine aw_sv (a := U 0 x) (rfl) ?_
    have b0 := hB x
    refine aw_bipush dX4_skipBlanks_26 rfl ?_
    refine aw_icmp_ne (tgt := 44) dX4_skipBlanks_28 rfl (by omega) (fun c28 => ?_) (fun c28 => ?_)
    · skip
      have ex : skb (U 0) (U 10 0) a = x := by rw [i0_1]; exact run_stop (by omega)
      rw [ex] at hQ
      exact aw_return dX4_skipBlanks_44 rfl ⟨Nat.le_refl _, Nat.le_refl _⟩ hQ
    · skip
      refine aw_aload_n dX4_skipBlanks_31 rfl ?_
      refine aw_dup dX4_skipBlanks_32 rfl ?_
      refine aw_getf fg_X4_25 dX4_skipBlanks_33 (hc1 hnx) rfl ?_
      refine aw_iconst dX4_skipBlanks_36 ?_
      refine aw_iadd dX4_skipBlanks_37 ?_
      refine aw_putU fp_X4_25 dX4_skipBlanks_38 (hc1 hnx) (Nat.le_of_ble_eq_true rfl) hu1_11 ?_
      refine aw_hp (U' := ua U (x + 1) f) rfl rfl (ua_a U x f (x + 1)) rfl rfl ?_
      refine aw_goto (tgt := 0) dX4_skipBlanks_41 rfl ?_
      exact ih (by omega)  (x + 1) (by omega) (by rw [i0_1, show 401 - k = (401 - (k + 1)) + 1 by omega, run_step (by omega)]) (by omega)

set_option maxHeartbeats 1000000 in
theorem c_X4_skipLetters {Γ : GT} {S T U V : St} {G : Gw} {nx d : Nat} {Q : QT} (hnx : 52 ≤ nx) {a f : Int} (hB : ∀ j : Int, -128 ≤ U 0 j ∧ U 0 j ≤ 127) (hn : 0 ≤ U 10 0 ∧ U 10 0 ≤ 400) (ha : 0 ≤ a ∧ a ≤ U 10 0)  (hQ : Q none (hp Γ S T (ua U (ltr (U 0) (U 10 0) a) f) V G) nx) : AM Γ MX4_skipLetters (d, 0, 0) [rf Γ 1] (hp Γ S T (ua U a f) V G) nx Q := by
  refine am_of (by decide) (Nat.le_of_ble_eq_true rfl) (ls := [some (rf Γ 1)]) rfl ?_
  refine loopN (401) (P := fun k => ∀  (x : Int), x = a + (k : Int) → ltr (U 0) (U 10 0) a = run (U 0) (U 10 0) 97 122 (401 - k) x → x ≤ U 10 0 →  AW Γ MX4_skipLetters _ _ (0, 0) 0 [some (rf Γ 1)] [] (hp Γ S T (ua U x f) V G) nx) (fun k hk ih => ?_) 0 (Nat.zero_le _) a (by omega) rfl (by omega)
  intro  x i0_0 i0_1 i0_2
  refine aw_aload_n dX4_skipLetters_0 rfl ?_
  refine aw_getf fg_X4_25 dX4_skipLetters_1 (hc1 hnx) rfl ?_
  refine aw_sv (a := x) (rfl) ?_
  refine aw_aload_n dX4_skipLetters_4 rfl ?_
  refine aw_getf fg_X4_12 dX4_skipLetters_5 (hc1 hnx) rfl ?_
  refine aw_getf fg_X4_51 dX4_skipLetters_8 (hc2 hnx) rfl ?_
  refine aw_sv (a := U 10 0) (rfl) ?_
  refine aw_icmp_ge (tgt := 61) dX4_skipLetters_11 rfl (by omega) (fun c11 => ?_) (fun c11 => ?_)
  · skip
    have ex : ltr (U 0) (U 10 0) a = x := by rw [i0_1]; exact run_stop (by omega)
    rw [ex] at hQ
    exact aw_return dX4_skipLetters_61 rfl ⟨Nat.le_refl _, Nat.le_refl _⟩ hQ
  · skip
    refine aw_aload_n dX4_skipLetters_14 rfl ?_
    refine aw_getf fg_X4_12 dX4_skipLetters_15 (hc1 hnx) rfl ?_
    refine aw_getf fg_X4_83 dX4_skipLetters_18 (hc2 hnx) rfl ?_
    refine aw_aload_n dX4_skipLetters_21 rfl ?_
    refine aw_getf fg_X4_25 dX4_skipLetters_22 (hc1 hnx) rfl ?_
    refine aw_sv (a := x) (rfl) ?_
    refine aw_bald dX4_skipLetters_25 (hc3 hnx) (by omega) (by decide) ?_
    refine aw_sv (a := U 0 x) (rfl) ?_
    have b0 := hB x
    refine aw_bipush dX4_skipLetters_26 rfl ?_
    refine aw_icmp_lt (tgt := 61) dX4_skipLetters_28 rfl (by omega) (fun c28 => ?_) (fun c28 => ?_)
    · skip
      have ex : ltr (U 0) (U 10 0) a = x := by rw [i0_1]; exact run_stop (by omega)
      rw [ex] at hQ
      exact aw_return dX4_skipLetters_61 rfl ⟨Nat.le_refl _, Nat.le_refl _⟩ hQ
    · skip
      refine aw_aload_n dX4_skipLetters_31 rfl ?_
      refine aw_getf fg_X4_12 dX4_skipLetters_32 (hc1 hnx) rfl ?_
      refine aw_getf fg_X4_83 dX4_skipLetters_35 (hc2 hnx) rfl ?_
      refine aw_aload_n dX4_skipLetters_38 rfl ?_
      refine aw_getf fg_X4_25 dX4_skipLetters_39 (hc1 hnx) rfl ?_
      refine aw_sv (a := x) (rfl) ?_
      refine aw_bald dX4_skipLetters_42 (hc3 hnx) (by omega) (by decide) ?_
      refine aw_sv (a := U 0 x) (rfl) ?_
      refine aw_bipush dX4_skipLetters_43 rfl ?_
      refine aw_icmp_gt (tgt := 61) dX4_skipLetters_45 rfl (by omega) (fun c45 => ?_) (fun c45 => ?_)
      · skip
        have ex : ltr (U 0) (U 10 0) a = x := by rw [i0_1]; exact run_stop (by omega)
        rw [ex] at hQ
        exact aw_return dX4_skipLetters_61 rfl ⟨Nat.le_refl _, Nat.le_refl _⟩ hQ
      · skip
        refine aw_aload_n dX4_skipLetters_48 rfl ?_
        refine aw_dup dX4_skipLetters_49 rfl ?_
        refine aw_getf fg_X4_25 dX4_skipLetters_50 (hc1 hnx) rfl ?_
        refine aw_iconst dX4_skipLetters_53 ?_
        refine aw_iadd dX4_skipLetters_54 ?_
        refine aw_putU fp_X4_25 dX4_skipLetters_55 (hc1 hnx) (Nat.le_of_ble_eq_true rfl) hu1_11 ?_
        refine aw_hp (U' := ua U (x + 1) f) rfl rfl (ua_a U x f (x + 1)) rfl rfl ?_
        refine aw_goto (tgt := 0) dX4_skipLetters_58 rfl ?_
        exact ih (by omega)  (x + 1) (by omega) (by rw [i0_1, show 401 - k = (401 - (k + 1)) + 1 by omega, run_step (by omega)]) (by omega)

set_option maxHeartbeats 1000000 in
theorem c_X4_isAtEnd {Γ : GT} {S T U V : St} {G : Gw} {nx d : Nat} {Q : QT} (hnx : 52 ≤ nx) {a f : Int} (hB : ∀ j : Int, -128 ≤ U 0 j ∧ U 0 j ≤ 127) (hn : 0 ≤ U 10 0 ∧ U 10 0 ≤ 400) (ha : 0 ≤ a ∧ a ≤ U 10 0)  (hQ : ∀ r, (r = 1 ∧ (U 10 0 ≤ skb (U 0) (U 10 0) a) ∨ r = 0 ∧ ¬ (U 10 0 ≤ skb (U 0) (U 10 0) a)) → Q (some (vi r)) (hp Γ S T (ua U (skb (U 0) (U 10 0) a) f) V G) nx) : AM Γ MX4_isAtEnd (d + 1, 0, 0) [rf Γ 1] (hp Γ S T (ua U a f) V G) nx Q := by
  refine am_of (by decide) (Nat.le_of_ble_eq_true rfl) (ls := [some (rf Γ 1)]) rfl ?_
  refine aw_aload_n dX4_isAtEnd_0 rfl ?_
  refine aw_callV (As := []) (ρ := (_, 0, 0)) (kn' := (0, 0)) cv_X4_58 dX4_isAtEnd_1 rfl rfl (hc1 hnx) rfl rfl (Nat.le_of_ble_eq_true rfl) (rmR _ _ _) ⟨Nat.le_refl _, Nat.le_refl _⟩ rfl (c_X4_skipBlanks hnx hB hn (by omega) ?_)
  have sk := skb_in (B := U 0) (n := U 10 0) (a := a) (by omega)
  refine aw_aload_n dX4_isAtEnd_4 rfl ?_
  refine aw_getf fg_X4_25 dX4_isAtEnd_5 (hc1 hnx) rfl ?_
  refine aw_sv (a := skb (U 0) (U 10 0) a) (rfl) ?_
  refine aw_aload_n dX4_isAtEnd_8 rfl ?_
  refine aw_getf fg_X4_12 dX4_isAtEnd_9 (hc1 hnx) rfl ?_
  refine aw_getf fg_X4_51 dX4_isAtEnd_12 (hc2 hnx) rfl ?_
  refine aw_sv (a := U 10 0) (rfl) ?_
  refine aw_icmp_lt (tgt := 22) dX4_isAtEnd_15 rfl (by omega) (fun c15 => ?_) (fun c15 => ?_)
  · skip
    refine aw_iconst dX4_isAtEnd_22 ?_
    exact aw_zreturn dX4_isAtEnd_23 rfl (by omega) ⟨Nat.le_refl _, Nat.le_refl _⟩ (hQ _ (by omega))
  · skip
    refine aw_iconst dX4_isAtEnd_18 ?_
    refine aw_goto (tgt := 23) dX4_isAtEnd_19 rfl ?_
    exact aw_zreturn dX4_isAtEnd_23 rfl (by omega) ⟨Nat.le_refl _, Nat.le_refl _⟩ (hQ _ (by omega))

set_option maxHeartbeats 1000000 in
theorem c_X4_fail {Γ : GT} {S T U V : St} {G : Gw} {nx d : Nat} {Q : QT} (hnx : 52 ≤ nx) {a f p q : Int} (hf : inI f) (hQ : Q none (hp Γ S T (ua U a (if f = 0 then 8 * p + q else f)) V G) nx) : AM Γ MX4_fail (d, 0, 0) [rf Γ 1, vi p, vi q] (hp Γ S T (ua U a f) V G) nx Q := by
  refine am_of (by decide) (Nat.le_of_ble_eq_true rfl) (ls := [some (rf Γ 1), some _, some _]) rfl ?_
  refine aw_aload_n dX4_fail_0 rfl ?_
  refine aw_getf fg_X4_29 dX4_fail_1 (hc1 hnx) rfl ?_
  refine aw_sv (a := f) (rfl) ?_
  refine aw_if_ne (tgt := 17) dX4_fail_4 rfl (by omega) (fun c4 => ?_) (fun c4 => ?_)
  · skip
    first | (refine aw_hp (U' := ua U a (if f = 0 then 8 * p + q else f)) rfl rfl (by rw [if_pos (by omega)]; exact ua_f U a f _) rfl rfl ?_) | (refine aw_hp (U' := ua U a (if f = 0 then 8 * p + q else f)) rfl rfl (by rw [if_neg (by omega)]) rfl rfl ?_)
    exact aw_return dX4_fail_17 rfl ⟨Nat.le_refl _, Nat.le_refl _⟩ hQ
  · skip
    refine aw_aload_n dX4_fail_7 rfl ?_
    refine aw_bipush dX4_fail_8 rfl ?_
    refine aw_iload_n dX4_fail_10 rfl ?_
    refine aw_imul dX4_fail_11 ?_
    refine aw_iload_n dX4_fail_12 rfl ?_
    refine aw_iadd dX4_fail_13 ?_
    refine aw_putU fp_X4_29 dX4_fail_14 (hc1 hnx) (Nat.le_of_ble_eq_true rfl) hu1_12 ?_
    first | (refine aw_hp (U' := ua U a (if f = 0 then 8 * p + q else f)) rfl rfl (by rw [if_pos (by omega)]; exact ua_f U a f _) rfl rfl ?_) | (refine aw_hp (U' := ua U a (if f = 0 then 8 * p + q else f)) rfl rfl (by rw [if_neg (by omega)]) rfl rfl ?_)
    exact aw_return dX4_fail_17 rfl ⟨Nat.le_refl _, Nat.le_refl _⟩ hQ

set_option maxHeartbeats 1000000 in
theorem c_X4_isWord {Γ : GT} {S T U V : St} {G : Gw} {nx d : Nat} {Q : QT} (hnx : 52 ≤ nx) {a f t : Int} {i : Nat} (hi : i < SR.length) (hB : ∀ j : Int, -128 ≤ U 0 j ∧ U 0 j ≤ 127) (hn : 0 ≤ U 10 0 ∧ U 10 0 ≤ 400) (ha : 0 ≤ a ∧ a ≤ U 10 0) (ht : 0 ≤ t ∧ t ≤ a) (hQ : ∀ r, (r = 1 ∧ (a - t = ((sB i).length : Int) ∧ mis (U 0) t (sB i) (sB i).length = 0) ∨ r = 0 ∧ ¬ (a - t = ((sB i).length : Int) ∧ mis (U 0) t (sB i) (sB i).length = 0)) → Q (some (vi r)) (hp Γ S T (ua U a f) V G) nx) : AM Γ MX4_isWord (d + 4, 0, 0) [rf Γ 1, vi t, .ref (gK Γ i)] (hp Γ S T (ua U a f) V G) nx Q := by
  refine am_of (by decide) (Nat.le_of_ble_eq_true rfl) (ls := [some (rf Γ 1), some _, some _, none]) rfl ?_
  have hl := sB_small i hi
  refine aw_aload_n dX4_isWord_0 rfl ?_
  refine aw_getf fg_X4_25 dX4_isWord_1 (hc1 hnx) rfl ?_
  refine aw_sv (a := a) (rfl) ?_
  refine aw_iload_n dX4_isWord_4 rfl ?_
  refine aw_isub dX4_isWord_5 ?_
  refine aw_aload_n dX4_isWord_6 rfl ?_
  refine aw_callVS (As := []) (ρ := (_, 0, 0)) (kn' := (0, 0)) cv_X4_123 dX4_isWord_7 rfl rfl hi rfl (Nat.le_of_ble_eq_true rfl) (rmR _ _ _) ⟨Nat.le_refl _, Nat.le_refl _⟩ rfl (c_J0_length hi ?_)
  refine aw_icmp_eq (tgt := 15) dX4_isWord_10 rfl (by omega) (fun c10 => ?_) (fun c10 => ?_)
  · skip
    refine aw_iconst dX4_isWord_15 ?_
    refine aw_istore_n (ls' := [some (rf Γ 1), some _, some _, some _]) dX4_isWord_16 (by decide) rfl ?_
    refine loopN ((sB i).length) (P := fun k => mis (U 0) t (sB i) k = 0 →  AW Γ MX4_isWord _ _ (0, 0) 17 [some (rf Γ 1), some (vi t), some (.ref (gK Γ i)), some (vi (k : Int))] [] (hp Γ S T (ua U a f) V G) nx) (fun k hk ih => ?_) 0 (Nat.zero_le _) rfl
    intro  i17_0
    refine aw_iload_n dX4_isWord_17 rfl ?_
    refine aw_aload_n dX4_isWord_18 rfl ?_
    refine aw_callVS (As := []) (ρ := (_, 0, 0)) (kn' := (0, 0)) cv_X4_123 dX4_isWord_19 rfl rfl hi rfl (Nat.le_of_ble_eq_true rfl) (rmR _ _ _) ⟨Nat.le_refl _, Nat.le_refl _⟩ rfl (c_J0_length hi ?_)
    refine aw_icmp_ge (tgt := 52) dX4_isWord_22 rfl (by omega) (fun c22 => ?_) (fun c22 => ?_)
    · skip
      obtain rfl : k = (sB i).length := by omega
      refine aw_iconst dX4_isWord_52 ?_
      exact aw_zreturn dX4_isWord_53 rfl (by omega) ⟨Nat.le_refl _, Nat.le_refl _⟩ (hQ _ (by omega))
    · skip
      refine aw_aload_n dX4_isWord_25 rfl ?_
      refine aw_getf fg_X4_12 dX4_isWord_26 (hc1 hnx) rfl ?_
      refine aw_getf fg_X4_83 dX4_isWord_29 (hc2 hnx) rfl ?_
      refine aw_iload_n dX4_isWord_32 rfl ?_
      refine aw_iload_n dX4_isWord_33 rfl ?_
      refine aw_iadd dX4_isWord_34 ?_
      refine aw_bald dX4_isWord_35 (hc3 hnx) (by omega) (by decide) ?_
      refine aw_sv (a := U 0 (t + (k : Int))) (rfl) ?_
      have b0 := hB (t + (k : Int))
      refine aw_aload_n dX4_isWord_36 rfl ?_
      refine aw_iload_n dX4_isWord_37 rfl ?_
      refine aw_callVS (As := [_]) (ρ := (_, 0, 0)) (kn' := (0, 0)) cv_X4_128 dX4_isWord_38 rfl rfl hi rfl (Nat.le_of_ble_eq_true rfl) (rmR _ _ _) ⟨Nat.le_refl _, Nat.le_refl _⟩ rfl (c_J0_charAt hi (by omega) ?_)
      have b1 := sB_at hi (j := ((k : Int)).toNat) (by omega)
      refine aw_icmp_eq (tgt := 46) dX4_isWord_41 rfl (by omega) (fun c41 => ?_) (fun c41 => ?_)
      · skip
        refine aw_iinc (ls' := [some (rf Γ 1), some _, some _, some _]) dX4_isWord_46 rfl (by decide) rfl ?_
        refine aw_goto (tgt := 17) dX4_isWord_49 rfl ?_
        exact ih (by omega)   (mis_s i17_0 (by rw [Int.toNat_natCast] at c41; omega))
      · skip
        refine aw_iconst dX4_isWord_44 ?_
        exact aw_zreturn dX4_isWord_45 rfl (by omega) ⟨Nat.le_refl _, Nat.le_refl _⟩ (hQ _ (by have := mis_1 (B := U 0) (s := t) (w := sB i) (j := k) (k := (sB i).length) (by omega) (by rw [Int.toNat_natCast] at c41; exact c41); omega))
  · skip
    refine aw_iconst dX4_isWord_13 ?_
    exact aw_zreturn dX4_isWord_14 rfl (by omega) ⟨Nat.le_refl _, Nat.le_refl _⟩ (hQ _ (by omega))


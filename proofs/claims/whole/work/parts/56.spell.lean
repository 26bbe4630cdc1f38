/-! the text of a scheme, as it is written -/
def pw : Nat → Int
  | 0 => 1
  | k + 1 => pw k * 10
theorem pw_pos : ∀ k : Nat, 1 ≤ pw k
  | 0 => by simp [pw]
  | k + 1 => by have := pw_pos k; rw [pw]; omega
theorem pw_le {j : Nat} : ∀ k : Nat, j ≤ k → pw j ≤ pw k
  | 0, h => by rw [show j = 0 by omega]; exact Int.le_refl _
  | k + 1, h => by
    by_cases e : j = k + 1
    · rw [e]; exact Int.le_refl _
    · have := pw_le k (show j ≤ k by omega); have := pw_pos k; rw [pw]; omega
theorem div_pw (n : Int) (k : Nat) : n / pw (k + 1) = n / pw k / 10 := by
  rw [pw, Int.ediv_ediv_of_nonneg (by have := pw_pos k; omega)]
theorem div_pw' (n : Int) : ∀ k : Nat, n / pw (k + 1) = n / 10 / pw k
  | 0 => by rw [div_pw]; simp [pw]
  | k + 1 => by rw [div_pw, div_pw' n k, div_pw (n / 10) k]
def dl : Nat → Int → List Int
  | 0, v => [48 + v % 10]
  | m + 1, v => dl m (v / 10) ++ [48 + v % 10]
theorem dl_len : ∀ (m : Nat) (v : Int), (dl m v).length = m + 1
  | 0, _ => rfl
  | m + 1, v => by rw [dl, List.length_append, dl_len m]; rfl
abbrev dP (n k : Int) : Prop := n / pw k.toNat < 10
def nd (n : Int) : Int := fs (dP n) 10
def dgl (n : Int) : List Int := dl (nd n).toNat n
theorem nd_in (n : Int) : -5 ≤ nd n ∧ nd n < 10 := by
  have h : ∀ k : Nat, -5 ≤ fs (dP n) k ∧ fs (dP n) k < (k : Int) ∨ fs (dP n) k = -5 := by
    intro k
    induction k with
    | zero => right; rfl
    | succ k ih => rw [fs]; (repeat' split) <;> omega
  have := h 10
  unfold nd; omega
def txN (n : Int) : List Int := 32 :: dgl n
theorem txN_len (n : Int) : (txN n).length ≤ 11 := by
  have := nd_in n
  unfold txN dgl
  rw [List.length_cons, dl_len]; omega
def fnd (k : Int) (ws : List Int) : Int := if 0 ≤ k ∧ k < (ws.length : Int) then ws.getD k.toNat 0 else -1
def spw (U : St) (k : Int) (ws : List Int) : St := u0 (u0 (u0 U 15 k) 14 (fnd k ws)) 13 ws.length
theorem fnd_a {k : Int} {ws : List Int} {b : Int} (h : (ws.length : Int) = k) : fnd k (ws ++ [b]) = b := by
  unfold fnd
  rw [if_pos (by rw [List.length_append]; simp; omega), show k.toNat = ws.length by omega]
  simp
theorem fnd_b {k : Int} {ws : List Int} {b : Int} (h : ¬ (ws.length : Int) = k) : fnd k (ws ++ [b]) = fnd k ws := by
  unfold fnd
  rw [List.length_append]
  by_cases h1 : 0 ≤ k ∧ k < (ws.length : Int)
  · rw [if_pos h1, if_pos (by simp; omega), List.getD_eq_getElem?_getD, List.getD_eq_getElem?_getD, List.getElem?_append_left (by omega)]
  · rw [if_neg h1, if_neg (by simp; omega)]
theorem spw_a {U : St} {k : Int} {ws : List Int} {b : Int} (h : (ws.length : Int) = k) : spw U k (ws ++ [b]) = u0 (u0 (spw U k ws) 14 b) 13 ((ws.length : Int) + 1) := by
  unfold spw
  rw [fnd_a h, List.length_append]
  funext g j
  simp only [u0_at, List.length_cons, List.length_nil]
  by_cases h1 : g = 13
  · simp [h1]
  · by_cases h2 : g = 14 <;> simp [h1, h2]
theorem spw_b {U : St} {k : Int} {ws : List Int} {b : Int} (h : ¬ (ws.length : Int) = k) : spw U k (ws ++ [b]) = u0 (spw U k ws) 13 ((ws.length : Int) + 1) := by
  unfold spw
  rw [fnd_b h, List.length_append]
  funext g j
  simp only [u0_at, List.length_cons, List.length_nil]
  by_cases h1 : g = 13 <;> simp [h1]
theorem spw_0 (U : St) (k : Int) : spw U k [] = u0 (u0 (u0 U 13 0) 14 (-1)) 15 k := by
  unfold spw
  rw [show fnd k [] = -1 by unfold fnd; rw [if_neg (by intro z; have := z.2; simp at this; omega)]]
  funext g j
  simp only [u0_at, List.length_nil]
  by_cases h1 : g = 13
  · subst h1; simp
  · by_cases h2 : g = 14
    · subst h2; simp
    · by_cases h3 : g = 15 <;> simp [h1, h2, h3]
theorem take_s {w : List Int} {k : Nat} (h : k < w.length) : w.take (k + 1) = w.take k ++ [w.getD k 0] := by
  rw [List.take_succ, List.getD_eq_getElem?_getD]
  cases hw : w[k]? with
  | none => rw [List.getElem?_eq_none_iff] at hw; omega
  | some x => rfl
theorem dl_s {n : Int} {m j : Nat} (h : j + 1 ≤ m) : dl (j + 1) (n / pw (m - (j + 1))) = dl j (n / pw (m - j)) ++ [48 + n / pw (m - (j + 1)) % 10] := by
  rw [dl, show m - j = (m - (j + 1)) + 1 by omega, div_pw]
def emi (n : Int) (m : Nat) : Nat → List Int
  | 0 => []
  | j + 1 => dl j (n / pw (m - j))
theorem emi_s {n : Int} {m j : Nat} (h : j ≤ m) : emi n m (j + 1) = emi n m j ++ [48 + n / pw (m - j) % 10] := by
  cases j with
  | zero => rfl
  | succ j => exact dl_s h
theorem emi_len (n : Int) (m : Nat) : ∀ j : Nat, (emi n m j).length = j
  | 0 => rfl
  | j + 1 => dl_len j _
theorem emi_all (n : Int) (m : Nat) : emi n m (m + 1) = dl m n := by
  show dl m (n / pw (m - m)) = _
  rw [Nat.sub_self]; simp [pw]
theorem wu_in {w : Int} {k j : Nat} (h : w = if j ≤ k then pw (k - j) else 0) (hk : k ≤ 9) : 0 ≤ w ∧ w ≤ 1000000000 := by
  rw [h]; split
  · have := pw_pos (k - j); have := pw_le (j := k - j) 9 (by omega); rw [show pw 9 = 1000000000 by decide] at this; omega
  · omega
theorem wu_j {w : Int} {k j : Nat} (h : w = if j ≤ k then pw (k - j) else 0) (hw : 0 < w) : j ≤ k := by
  rcases Nat.lt_or_ge k j with z | z
  · rw [if_neg (by omega)] at h; omega
  · exact z
theorem wu_k {w : Int} {k j : Nat} (h : w = if j ≤ k then pw (k - j) else 0) (hj : j ≤ k + 1) (hw : w ≤ 0) : j = k + 1 := by
  rcases Nat.lt_or_ge k j with z | z
  · omega
  · rw [if_pos z] at h; have := pw_pos (k - j); omega
theorem wu_s {w x : Int} {k j : Nat} (h : w = if j ≤ k then pw (k - j) else 0) (jk : j ≤ k) (hx : x = w / 10) : x = if j + 1 ≤ k then pw (k - (j + 1)) else 0 := by
  rw [hx, h, if_pos jk]
  by_cases e : j = k
  · rw [if_neg (by omega), show k - j = 0 by omega]; rfl
  · rw [if_pos (by omega), show k - j = (k - (j + 1)) + 1 by omega, pw]; omega
theorem pw9 (k : Nat) (h : k ≤ 9) : pw k ≤ 1000000000 := pw_le 9 h

set_option maxHeartbeats 1000000 in
theorem c_X6_putByte {Γ : GT} {S T U V : St} {G : Gw} {nx d : Nat} {Q : QT} (hnx : 52 ≤ nx) {q b : Int} {ws : List Int} (hl : ws.length ≤ 100000) (hq : inI q) (hQ : Q none (hp Γ S T (spw U q (ws ++ [b])) V G) nx) : AM Γ MX6_putByte (d, 0, 0) [rf Γ 8, vi b] (hp Γ S T (spw U q ws) V G) nx Q := by
  refine am_of (by decide) (Nat.le_of_ble_eq_true rfl) (ls := [some (rf Γ 8), some _]) rfl ?_
  refine aw_aload_n dX6_putByte_0 rfl ?_
  refine aw_getf fg_X6_9 dX6_putByte_1 (hc8 hnx) rfl ?_
  refine aw_sv (a := (ws.length : Int)) (rfl) ?_
  refine aw_aload_n dX6_putByte_4 rfl ?_
  refine aw_getf fg_X6_18 dX6_putByte_5 (hc8 hnx) rfl ?_
  refine aw_sv (a := q) (rfl) ?_
  refine aw_icmp_ne (tgt := 16) dX6_putByte_8 rfl (by omega) (fun c8 => ?_) (fun c8 => ?_)
  · skip
    refine aw_aload_n dX6_putByte_16 rfl ?_
    refine aw_dup dX6_putByte_17 rfl ?_
    refine aw_getf fg_X6_9 dX6_putByte_18 (hc8 hnx) rfl ?_
    refine aw_sv (a := (ws.length : Int)) (rfl) ?_
    refine aw_iconst dX6_putByte_21 ?_
    refine aw_iadd dX6_putByte_22 ?_
    refine aw_putU fp_X6_9 dX6_putByte_23 (hc8 hnx) (Nat.le_of_ble_eq_true rfl) hu8_13 ?_
    first | refine aw_hp (U' := spw U q (ws ++ [b])) rfl rfl (spw_a (by omega)) rfl rfl ?_ | refine aw_hp (U' := spw U q (ws ++ [b])) rfl rfl (spw_b (by omega)) rfl rfl ?_
    exact aw_return dX6_putByte_26 rfl ⟨Nat.le_refl _, Nat.le_refl _⟩ hQ
  · skip
    refine aw_aload_n dX6_putByte_11 rfl ?_
    refine aw_iload_n dX6_putByte_12 rfl ?_
    refine aw_putU fp_X6_15 dX6_putByte_13 (hc8 hnx) (Nat.le_of_ble_eq_true rfl) hu8_14 ?_
    refine aw_aload_n dX6_putByte_16 rfl ?_
    refine aw_dup dX6_putByte_17 rfl ?_
    refine aw_getf fg_X6_9 dX6_putByte_18 (hc8 hnx) rfl ?_
    refine aw_sv (a := (ws.length : Int)) (rfl) ?_
    refine aw_iconst dX6_putByte_21 ?_
    refine aw_iadd dX6_putByte_22 ?_
    refine aw_putU fp_X6_9 dX6_putByte_23 (hc8 hnx) (Nat.le_of_ble_eq_true rfl) hu8_13 ?_
    first | refine aw_hp (U' := spw U q (ws ++ [b])) rfl rfl (spw_a (by omega)) rfl rfl ?_ | refine aw_hp (U' := spw U q (ws ++ [b])) rfl rfl (spw_b (by omega)) rfl rfl ?_
    exact aw_return dX6_putByte_26 rfl ⟨Nat.le_refl _, Nat.le_refl _⟩ hQ

set_option maxHeartbeats 1000000 in
theorem c_X6_putWord {Γ : GT} {S T U V : St} {G : Gw} {nx d : Nat} {Q : QT} (hnx : 52 ≤ nx) {q : Int} {ws : List Int} {i : Nat} (hi : i < SR.length) (hl : ws.length ≤ 90000) (hq : inI q) (hQ : Q none (hp Γ S T (spw U q (ws ++ sB i)) V G) nx) : AM Γ MX6_putWord (d + 4, 0, 0) [rf Γ 8, .ref (gK Γ i)] (hp Γ S T (spw U q ws) V G) nx Q := by
  refine am_of (by decide) (Nat.le_of_ble_eq_true rfl) (ls := [some (rf Γ 8), some _, none]) rfl ?_
  have hs := sB_small i hi
  refine aw_iconst dX6_putWord_0 ?_
  refine aw_istore_n (ls' := [some (rf Γ 8), some _, some _]) dX6_putWord_1 (by decide) rfl ?_
  refine aw_hp (U' := spw U q (ws ++ (sB i).take 0)) rfl rfl (by simp) rfl rfl ?_
  refine loopN ((sB i).length) (P := fun k =>  AW Γ MX6_putWord _ _ (0, 0) 2 [some (rf Γ 8), some (.ref (gK Γ i)), some (vi (k : Int))] [] (hp Γ S T (spw U q (ws ++ (sB i).take k)) V G) nx) (fun k hk ih => ?_) 0 (Nat.zero_le _) 
  refine aw_iload_n dX6_putWord_2 rfl ?_
  refine aw_aload_n dX6_putWord_3 rfl ?_
  refine aw_callVS (As := []) (ρ := (_, 0, 0)) (kn' := (0, 0)) cv_X6_67 dX6_putWord_4 rfl rfl hi rfl (Nat.le_of_ble_eq_true rfl) (rmR _ _ _) ⟨Nat.le_refl _, Nat.le_refl _⟩ rfl (c_J0_length hi ?_)
  refine aw_icmp_ge (tgt := 25) dX6_putWord_7 rfl (by omega) (fun c7 => ?_) (fun c7 => ?_)
  · skip
    obtain rfl : k = (sB i).length := by omega
    rw [List.take_length]
    exact aw_return dX6_putWord_25 rfl ⟨Nat.le_refl _, Nat.le_refl _⟩ hQ
  · skip
    refine aw_aload_n dX6_putWord_10 rfl ?_
    refine aw_aload_n dX6_putWord_11 rfl ?_
    refine aw_iload_n dX6_putWord_12 rfl ?_
    refine aw_callVS (As := [_]) (ρ := (_, 0, 0)) (kn' := (0, 0)) cv_X6_72 dX6_putWord_13 rfl rfl hi rfl (Nat.le_of_ble_eq_true rfl) (rmR _ _ _) ⟨Nat.le_refl _, Nat.le_refl _⟩ rfl (c_J0_charAt hi (by omega) ?_)
    refine aw_callV (As := [_]) (ρ := (_, 0, 0)) (kn' := (0, 0)) cv_X6_76 dX6_putWord_16 rfl rfl (hc8 hnx) rfl rfl (Nat.le_of_ble_eq_true rfl) (rmR _ _ _) ⟨Nat.le_refl _, Nat.le_refl _⟩ rfl (c_X6_putByte hnx (by rw [List.length_append]; have := List.length_take_le k (sB i); omega) hq ?_)
    refine aw_hp (U' := spw U q (ws ++ (sB i).take (k + 1))) rfl rfl (by rw [take_s (by omega), Int.toNat_natCast, List.append_assoc]) rfl rfl ?_
    refine aw_iinc (ls' := [some (rf Γ 8), some _, some _]) dX6_putWord_19 rfl (by decide) rfl ?_
    refine aw_goto (tgt := 2) dX6_putWord_22 rfl ?_
    exact ih (by omega)   

set_option maxHeartbeats 1000000 in
theorem c_X6_putNumber {Γ : GT} {S T U V : St} {G : Gw} {nx d : Nat} {Q : QT} (hnx : 52 ≤ nx) {q n : Int} {ws : List Int} (hn : 0 ≤ n ∧ n < 1000000000) (hl : ws.length ≤ 90000) (hq : inI q) (hQ : Q none (hp Γ S T (spw U q (ws ++ txN n)) V G) nx) : AM Γ MX6_putNumber (d + 1, 0, 0) [rf Γ 8, vi n] (hp Γ S T (spw U q ws) V G) nx Q := by
  refine am_of (by decide) (Nat.le_of_ble_eq_true rfl) (ls := [some (rf Γ 8), some _, none, none]) rfl ?_
  refine aw_aload_n dX6_putNumber_0 rfl ?_
  refine aw_bipush dX6_putNumber_1 rfl ?_
  refine aw_callV (As := [_]) (ρ := (_, 0, 0)) (kn' := (0, 0)) cv_X6_76 dX6_putNumber_3 rfl rfl (hc8 hnx) rfl rfl (Nat.le_of_ble_eq_true rfl) (rmR _ _ _) ⟨Nat.le_refl _, Nat.le_refl _⟩ rfl (c_X6_putByte hnx (by omega) hq ?_)
  refine aw_iconst dX6_putNumber_6 ?_
  refine aw_istore_n (ls' := [some (rf Γ 8), some _, some _, none]) dX6_putNumber_7 (by decide) rfl ?_
  refine aw_iconst dX6_putNumber_8 ?_
  refine aw_istore_n (ls' := [some (rf Γ 8), some _, some _, some _]) dX6_putNumber_9 (by decide) rfl ?_
  refine loopN (9) (P := fun k => ∀ (u : Int) , u = pw k → fs (dP n) k = -5 →  AW Γ MX6_putNumber _ _ (0, 0) 10 [some (rf Γ 8), some (vi n), some (vi u), some (vi (k : Int))] [] (hp Γ S T (spw U q (ws ++ [32])) V G) nx) (fun k hk ih => ?_) 0 (Nat.zero_le _) _ rfl rfl
  intro u i10_0 i10_1
  refine aw_iload_n dX6_putNumber_10 rfl ?_
  refine aw_bipush dX6_putNumber_11 rfl ?_
  have p1 := pw_pos k
  have p2 := pw9 k (by omega)
  refine aw_icmp_ge (tgt := 35) dX6_putNumber_13 rfl (by omega) (fun c13 => ?_) (fun c13 => ?_)
  · skip
    have p1 := pw_pos k
    have p2 := pw9 k (by omega)
    have hk9 : fs (dP n) 10 = k := by
      by_cases e9 : k = 9
      · exact fs_hit i10_1 (by unfold dP; rw [Int.toNat_natCast, e9]; have : n / pw 9 < 1 := Int.ediv_lt_of_lt_mul (by decide) (by rw [show pw 9 = 1000000000 by decide]; omega); omega) 10 (by omega)
      · exact fs_hit i10_1 (by unfold dP; rw [Int.toNat_natCast, ← i10_0]; omega) 10 (by omega)
    refine aw_iconst dX6_putNumber_35 ?_
    refine aw_istore_n (ls' := [some (rf Γ 8), some _, some _, some _]) dX6_putNumber_36 (by decide) rfl ?_
    refine aw_hp (U' := spw U q (ws ++ [32] ++ emi n k 0)) rfl rfl (by rw [emi, List.append_nil]) rfl rfl ?_
    refine loopN (10) (P := fun j => ∀ (w : Int) , w = (if j ≤ k then pw (k - j) else 0) → j ≤ k + 1 →  AW Γ MX6_putNumber _ _ (0, 0) 37 [some (rf Γ 8), some (vi n), some (vi w), some (vi (j : Int))] [] (hp Γ S T (spw U q (ws ++ [32] ++ emi n k j)) V G) nx) (fun j hj ihj => ?_) 0 (Nat.zero_le _) _ (by rw [if_pos (Nat.zero_le _), Nat.sub_zero]; exact i10_0) (by omega)
    intro w i37_0 i37_1
    refine aw_iload_n dX6_putNumber_37 rfl ?_
    refine aw_bipush dX6_putNumber_38 rfl ?_
    refine aw_icmp_ge (tgt := 71) dX6_putNumber_40 rfl (by omega) (fun c40 => ?_) (fun c40 => ?_)
    · skip
      have jk1 : j = k + 1 := by first | omega | exact wu_k i37_0 i37_1 c44
      subst jk1
      rw [emi_all]
      have eT : ws ++ [32] ++ dl k n = ws ++ txN n := by unfold txN dgl nd; rw [hk9, Int.toNat_natCast, List.append_assoc]; rfl
      rw [eT]
      exact aw_return dX6_putNumber_71 rfl ⟨Nat.le_refl _, Nat.le_refl _⟩ hQ
    · skip
      refine aw_iload_n dX6_putNumber_43 rfl ?_
      have wr := wu_in i37_0 (by omega)
      refine aw_if_le (tgt := 71) dX6_putNumber_44 rfl (by omega) (fun c44 => ?_) (fun c44 => ?_)
      · skip
        have jk1 : j = k + 1 := by first | omega | exact wu_k i37_0 i37_1 c44
        subst jk1
        rw [emi_all]
        have eT : ws ++ [32] ++ dl k n = ws ++ txN n := by unfold txN dgl nd; rw [hk9, Int.toNat_natCast, List.append_assoc]; rfl
        rw [eT]
        exact aw_return dX6_putNumber_71 rfl ⟨Nat.le_refl _, Nat.le_refl _⟩ hQ
      · skip
        have jk := wu_j i37_0 c44
        refine aw_aload_n dX6_putNumber_47 rfl ?_
        refine aw_bipush dX6_putNumber_48 rfl ?_
        refine aw_iload_n dX6_putNumber_50 rfl ?_
        refine aw_iload_n dX6_putNumber_51 rfl ?_
        refine aw_idiv dX6_putNumber_52 (by omega) (by omega) ?_
        have dv : 0 ≤ n / w ∧ n / w ≤ n := ⟨Int.ediv_nonneg (by omega) (by omega), Int.ediv_le_self w (by omega)⟩
        refine aw_bipush dX6_putNumber_53 rfl ?_
        refine aw_irem dX6_putNumber_55 (by omega) (by omega) ?_
        refine aw_iadd dX6_putNumber_56 ?_
        refine aw_callV (As := [_]) (ρ := (_, 0, 0)) (kn' := (0, 0)) cv_X6_76 dX6_putNumber_57 rfl rfl (hc8 hnx) rfl rfl (Nat.le_of_ble_eq_true rfl) (rmR _ _ _) ⟨Nat.le_refl _, Nat.le_refl _⟩ rfl (c_X6_putByte hnx (by rw [List.length_append, List.length_append, emi_len]; simp; omega) hq ?_)
        refine aw_hp (U' := spw U q (ws ++ [32] ++ emi n k (j + 1))) rfl rfl (by rw [emi_s jk, List.append_assoc (ws ++ [32]), show w = pw (k - j) by rw [i37_0, if_pos jk]]) rfl rfl ?_
        refine aw_iload_n dX6_putNumber_60 rfl ?_
        refine aw_bipush dX6_putNumber_61 rfl ?_
        refine aw_idiv dX6_putNumber_63 (by omega) (by omega) ?_
        refine aw_nmI (fun x2_64 hx2_64 => ?_)
        refine aw_istore_n (ls' := [some (rf Γ 8), some _, some _, some _]) dX6_putNumber_64 (by decide) rfl ?_
        refine aw_iinc (ls' := [some (rf Γ 8), some _, some _, some _]) dX6_putNumber_65 rfl (by decide) rfl ?_
        refine aw_goto (tgt := 37) dX6_putNumber_68 rfl ?_
        exact ihj (by omega) x2_64  (wu_s i37_0 jk hx2_64) (by omega)
  · skip
    refine aw_iload_n dX6_putNumber_16 rfl ?_
    refine aw_iload_n dX6_putNumber_17 rfl ?_
    refine aw_idiv dX6_putNumber_18 (by omega) (by omega) ?_
    have dv : 0 ≤ n / u ∧ n / u ≤ n := ⟨Int.ediv_nonneg (by omega) (by omega), Int.ediv_le_self u (by omega)⟩
    refine aw_bipush dX6_putNumber_19 rfl ?_
    refine aw_icmp_lt (tgt := 35) dX6_putNumber_21 rfl (by omega) (fun c21 => ?_) (fun c21 => ?_)
    · skip
      have p1 := pw_pos k
      have p2 := pw9 k (by omega)
      have hk9 : fs (dP n) 10 = k := by
        by_cases e9 : k = 9
        · exact fs_hit i10_1 (by unfold dP; rw [Int.toNat_natCast, e9]; have : n / pw 9 < 1 := Int.ediv_lt_of_lt_mul (by decide) (by rw [show pw 9 = 1000000000 by decide]; omega); omega) 10 (by omega)
        · exact fs_hit i10_1 (by unfold dP; rw [Int.toNat_natCast, ← i10_0]; omega) 10 (by omega)
      refine aw_iconst dX6_putNumber_35 ?_
      refine aw_istore_n (ls' := [some (rf Γ 8), some _, some _, some _]) dX6_putNumber_36 (by decide) rfl ?_
      refine aw_hp (U' := spw U q (ws ++ [32] ++ emi n k 0)) rfl rfl (by rw [emi, List.append_nil]) rfl rfl ?_
      refine loopN (10) (P := fun j => ∀ (w : Int) , w = (if j ≤ k then pw (k - j) else 0) → j ≤ k + 1 →  AW Γ MX6_putNumber _ _ (0, 0) 37 [some (rf Γ 8), some (vi n), some (vi w), some (vi (j : Int))] [] (hp Γ S T (spw U q (ws ++ [32] ++ emi n k j)) V G) nx) (fun j hj ihj => ?_) 0 (Nat.zero_le _) _ (by rw [if_pos (Nat.zero_le _), Nat.sub_zero]; exact i10_0) (by omega)
      intro w i37_0 i37_1
      refine aw_iload_n dX6_putNumber_37 rfl ?_
      refine aw_bipush dX6_putNumber_38 rfl ?_
      refine aw_icmp_ge (tgt := 71) dX6_putNumber_40 rfl (by omega) (fun c40 => ?_) (fun c40 => ?_)
      · skip
        have jk1 : j = k + 1 := by first | omega | exact wu_k i37_0 i37_1 c44
        subst jk1
        rw [emi_all]
        have eT : ws ++ [32] ++ dl k n = ws ++ txN n := by unfold txN dgl nd; rw [hk9, Int.toNat_natCast, List.append_assoc]; rfl
        rw [eT]
        exact aw_return dX6_putNumber_71 rfl ⟨Nat.le_refl _, Nat.le_refl _⟩ hQ
      · skip
        refine aw_iload_n dX6_putNumber_43 rfl ?_
        have wr := wu_in i37_0 (by omega)
        refine aw_if_le (tgt := 71) dX6_putNumber_44 rfl (by omega) (fun c44 => ?_) (fun c44 => ?_)
        · skip
          have jk1 : j = k + 1 := by first | omega | exact wu_k i37_0 i37_1 c44
          subst jk1
          rw [emi_all]
          have eT : ws ++ [32] ++ dl k n = ws ++ txN n := by unfold txN dgl nd; rw [hk9, Int.toNat_natCast, List.append_assoc]; rfl
          rw [eT]
          exact aw_return dX6_putNumber_71 rfl ⟨Nat.le_refl _, Nat.le_refl _⟩ hQ
        · skip
          have jk := wu_j i37_0 c44
          refine aw_aload_n dX6_putNumber_47 rfl ?_
          refine aw_bipush dX6_putNumber_48 rfl ?_
          refine aw_iload_n dX6_putNumber_50 rfl ?_
          refine aw_iload_n dX6_putNumber_51 rfl ?_
          refine aw_idiv dX6_putNumber_52 (by omega) (by omega) ?_
          have dv : 0 ≤ n / w ∧ n / w ≤ n := ⟨Int.ediv_nonneg (by omega) (by omega), Int.ediv_le_self w (by omega)⟩
          refine aw_bipush dX6_putNumber_53 rfl ?_
          refine aw_irem dX6_putNumber_55 (by omega) (by omega) ?_
          refine aw_iadd dX6_putNumber_56 ?_
          refine aw_callV (As := [_]) (ρ := (_, 0, 0)) (kn' := (0, 0)) cv_X6_76 dX6_putNumber_57 rfl rfl (hc8 hnx) rfl rfl (Nat.le_of_ble_eq_true rfl) (rmR _ _ _) ⟨Nat.le_refl _, Nat.le_refl _⟩ rfl (c_X6_putByte hnx (by rw [List.length_append, List.length_append, emi_len]; simp; omega) hq ?_)
          refine aw_hp (U' := spw U q (ws ++ [32] ++ emi n k (j + 1))) rfl rfl (by rw [emi_s jk, List.append_assoc (ws ++ [32]), show w = pw (k - j) by rw [i37_0, if_pos jk]]) rfl rfl ?_
          refine aw_iload_n dX6_putNumber_60 rfl ?_
          refine aw_bipush dX6_putNumber_61 rfl ?_
          refine aw_idiv dX6_putNumber_63 (by omega) (by omega) ?_
          refine aw_nmI (fun x2_64 hx2_64 => ?_)
          refine aw_istore_n (ls' := [some (rf Γ 8), some _, some _, some _]) dX6_putNumber_64 (by decide) rfl ?_
          refine aw_iinc (ls' := [some (rf Γ 8), some _, some _, some _]) dX6_putNumber_65 rfl (by decide) rfl ?_
          refine aw_goto (tgt := 37) dX6_putNumber_68 rfl ?_
          exact ihj (by omega) x2_64  (wu_s i37_0 jk hx2_64) (by omega)
    · skip
      refine aw_iload_n dX6_putNumber_24 rfl ?_
      refine aw_bipush dX6_putNumber_25 rfl ?_
      refine aw_imul dX6_putNumber_27 ?_
      refine aw_nmI (fun x2_28 hx2_28 => ?_)
      refine aw_istore_n (ls' := [some (rf Γ 8), some _, some _, some _]) dX6_putNumber_28 (by decide) rfl ?_
      refine aw_iinc (ls' := [some (rf Γ 8), some _, some _, some _]) dX6_putNumber_29 rfl (by decide) rfl ?_
      refine aw_goto (tgt := 10) dX6_putNumber_32 rfl ?_
      exact ih (by omega) x2_28  (by rw [pw]; omega) (fs_s i10_1 (by unfold dP; rw [Int.toNat_natCast, ← i10_0]; omega))


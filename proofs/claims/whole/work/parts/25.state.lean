/-! what a state tells -/
def leftI (S : St) (o : Int) : Int := S 14 (o * 8 + 3) + lefts S o (nIm S)
def allT (S : St) (o : Int) (n : Nat) : Int := sm (fun i => if S 15 (4 * i + o) = 1 then old S (4 * i + o) else 0) n
def poa (w b a : Int) : Int := if 0 < a then w * b / a else 0
def shr (S : St) (i o part quota : Int) : Int := if S 15 (4 * i + o) = 1 then poa (part * quota / 100) (old S (4 * i + o)) (allT S o (nIm S)) else 0
def cny (S : St) (p : Int) : Int := if S 0 5 ≤ b1 (0 < S 20 p) + b1 (0 < S 2 (p * 3 + 0)) + b1 (0 < S 2 (p * 3 + 1)) then S 20 p + S 2 (p * 3 + 0) + S 2 (p * 3 + 1) else 0
def cnys (S : St) (o : Int) (n : Nat) : Int := sm (fun i => cny S (4 * i + o)) n
def sny (S : St) (i o : Int) : Int := poa (S 0 0 * S 1 o / 100) (cny S (4 * i + o)) (cnys S o (nIm S))
def need (S : St) (l : Int) : Int := if 0 < S 0 3 * S 6 l - 100 * S 9 l then (S 0 3 * S 6 l - 100 * S 9 l + 99) / 100 else 0
abbrev idleP (S : St) (l : Int) : Prop := 0 < S 0 3 * S 6 l - 100 * S 9 l
abbrev kept (S : St) (i o : Int) : Prop := endL S i o (nS S) ≠ -1 ∧ idleP S (endL S i o (nS S))
def offer (S : St) (i o n pool lic : Int) : Int := if 60 ≤ lic then -2 else if S 15 (4 * i + o) = 1 then (if 0 < S 17 (4 * i + o) then min n (S 17 (4 * i + o)) else -6) else if S 0 1 < n then -3 else if 0 < S 18 (4 * i + o) then -4 else if kept S i o then -5 else if 0 < pool then min n pool else -6
def tkn (S : St) (o : Int) (n : Nat) : Int := sm (fun l => if S 5 l = o ∧ S 7 l / 90 = S 25 0 / 90 then (if S 10 l = 0 then S 6 l else S 9 l) else 0) n
def iah (S : St) (i : Int) (n : Nat) : Int := sm (fun j => if imI S i 12 < imI S j 12 ∨ imI S j 12 = imI S i 12 ∧ j < i then 1 else 0) n
def lah (S : St) (i o : Int) (n : Nat) : Int := sm (fun j => if S 15 (4 * j + o) = 1 ∧ (old S (4 * j + o) < old S (4 * i + o) ∨ old S (4 * j + o) = old S (4 * i + o) ∧ j < i) then 1 else 0) n
/-- what is needed of a state in which a period is being started -/
def Inv0 (S : St) : Prop := Rg S ∧ (0 ≤ S 26 0 ∧ S 26 0 ≤ 4) ∧ (0 ≤ S 27 0 ∧ S 27 0 ≤ 8) ∧ (∀ k : Int, 0 ≤ k → k < 96 → 0 ≤ S 2 k ∧ S 2 k ≤ 51199488)
section INV
variable {c : Int} {S : St}
theorem Inv.z (h : Inv c S) : Inv0 S := ⟨h.R, h.i1.1, h.i1.2.1, fun _ h1 h2 => h.ps ⟨h1, h2⟩⟩
theorem Inv0.old (h : Inv0 S) {p : Int} (hk : 0 ≤ p ∧ p < 32) : 0 ≤ Jvm.Pilot.@@N@@.old S p ∧ Jvm.Pilot.@@N@@.old S p ≤ 153598464 := by
  have h0 := h.2.2.2 (p * 3 + 0) (by omega) (by omega); have h1 := h.2.2.2 (p * 3 + 1) (by omega) (by omega); have h2 := h.2.2.2 (p * 3 + 2) (by omega) (by omega)
  unfold Jvm.Pilot.@@N@@.old; omega
theorem Inv0.allT (h : Inv0 S) {o : Int} (ho : 0 ≤ o ∧ o < 4) (n : Nat) (hn : n ≤ 8) : 0 ≤ Jvm.Pilot.@@N@@.allT S o n ∧ Jvm.Pilot.@@N@@.allT S o n ≤ 1228787712 := by
  have h1 := sm_rg (f := fun i => if S 15 (4 * i + o) = 1 then Jvm.Pilot.@@N@@.old S (4 * i + o) else 0) (B := 153598464) n (fun k hk => by
    have h2 := h.old (p := 4 * (k : Int) + o) (by omega)
    split <;> omega)
  unfold Jvm.Pilot.@@N@@.allT; omega
theorem Inv.cny (h : Inv c S) {p : Int} (hp : 0 ≤ p ∧ p < 32) : 0 ≤ Jvm.Pilot.@@N@@.cny S p ∧ Jvm.Pilot.@@N@@.cny S p ≤ 153598464 := by
  have h0 := h.ps (k := p * 3 + 0) (by omega); have h1 := h.ps (k := p * 3 + 1) (by omega); have h2 := (h.yr (k := p) (by omega)).1 (by omega)
  have h3 := h.cc
  unfold Jvm.Pilot.@@N@@.cny; split <;> omega
theorem Inv.cnys (h : Inv c S) {o : Int} (ho : 0 ≤ o ∧ o < 4) (n : Nat) (hn : n ≤ 8) : 0 ≤ Jvm.Pilot.@@N@@.cnys S o n ∧ Jvm.Pilot.@@N@@.cnys S o n ≤ 1228787712 := by
  have h1 := sm_rg (f := fun i => Jvm.Pilot.@@N@@.cny S (4 * i + o)) (B := 153598464) n (fun k hk => h.cny (p := 4 * (k : Int) + o) (by omega))
  unfold Jvm.Pilot.@@N@@.cnys; omega
theorem Inv.sur (h : Inv c S) {l : Int} (hl : 0 ≤ l ∧ l < S 28 0) : 0 ≤ S 0 3 * S 6 l ∧ S 0 3 * S 6 l ≤ 599994000 := by
  have h1 := h.i1; have h2 := h.tm (h.pos hl); have h3 := h.am hl; have h4 := (h.li hl).2.2.1
  have h5 : 0 ≤ S 0 3 * S 6 l := Int.mul_nonneg (by omega) (by omega)
  have h6 : S 0 3 * S 6 l ≤ 100 * S 6 l := Int.mul_le_mul_of_nonneg_right (by omega) (by omega)
  exact ⟨h5, by omega⟩
theorem mul_rg {a b A B : Int} (ha : 0 ≤ a ∧ a ≤ A) (hb : 0 ≤ b ∧ b ≤ B) : 0 ≤ a * b ∧ a * b ≤ A * B :=
  ⟨Int.mul_nonneg ha.1 hb.1, Int.mul_le_mul ha.2 hb.2 hb.1 (by omega)⟩
end INV

set_option maxHeartbeats 1000000 in
theorem c_X7_leftIn {Γ : GT} {S T U V : St} {G : Gw} {nx d : Nat} {Q : QT} (hnx : 52 ≤ nx) {j : Int} (hI : Inv0 S) (hj : 0 ≤ j ∧ j < S 26 0) (hQ : ∀ r, r = leftI S j → Q (some (vi r)) (hp Γ S T U V G) nx) : AM Γ MX7_leftIn (d + 1, 0, 0) [rf Γ 9, vi j] (hp Γ S T U V G) nx Q := by
  refine am_of (by decide) (Nat.le_of_ble_eq_true rfl) (ls := [some (rf Γ 9), some _, none, none]) rfl ?_
  have hR := hI.1
  have i1 := hI.2.1
  have i2 := hI.2.2.1
  have hkS : nS S = (S 28 0).toNat := rfl
  have hkI : nIm S = (S 27 0).toNat := rfl
  have hkO : nOr S = (S 26 0).toNat := rfl
  refine aw_aload_n dX7_leftIn_0 rfl ?_
  refine aw_getf fg_X7_28 dX7_leftIn_1 (hc9 hnx) rfl ?_
  refine aw_iload_n dX7_leftIn_4 rfl ?_
  refine aw_iconst dX7_leftIn_5 ?_
  refine aw_callV (As := [_, _]) (ρ := (_, 0, 0)) (kn' := (0, 0)) cv_X7_167 dX7_leftIn_6 rfl rfl (hc25 hnx) rfl rfl (Nat.le_of_ble_eq_true rfl) (rmR _ _ _) ⟨Nat.le_refl _, Nat.le_refl _⟩ rfl (c_X3_figure hnx hR (by omega) (fun r6 h6 => ?_))
  refine aw_istore_n (ls' := [some (rf Γ 9), some _, some _, none]) dX7_leftIn_9 (by decide) rfl ?_
  refine aw_iconst dX7_leftIn_10 ?_
  refine aw_istore_n (ls' := [some (rf Γ 9), some _, some _, some _]) dX7_leftIn_11 (by decide) rfl ?_
  refine loopN (nIm S) (P := fun k => ∀ (x : Int) , x = S 14 (j * 8 + 3) + lefts S j k →  AW Γ MX7_leftIn _ _ (0, 0) 12 [some (rf Γ 9), some (vi j), some (vi x), some (vi (k : Int))] [] (hp Γ S T U V G) nx) (fun k hk ih => ?_) 0 (Nat.zero_le _) _ (by rw [lefts, sm]; omega)
  intro x i12_0
  refine aw_iload_n dX7_leftIn_12 rfl ?_
  refine aw_aload_n dX7_leftIn_13 rfl ?_
  refine aw_getf fg_X7_12 dX7_leftIn_14 (hc9 hnx) rfl ?_
  refine aw_getf fg_X7_94 dX7_leftIn_17 (hc10 hnx) rfl ?_
  refine aw_icmp_ge (tgt := 45) dX7_leftIn_20 rfl (by omega) (fun c20 => ?_) (fun c20 => ?_)
  · skip
    obtain rfl : k = nIm S := by omega
    refine aw_iload_n dX7_leftIn_45 rfl ?_
    exact aw_ireturn dX7_leftIn_46 rfl rfl ⟨Nat.le_refl _, Nat.le_refl _⟩ (hQ _ (by unfold leftI; omega))
  · skip
    refine aw_iload_n dX7_leftIn_23 rfl ?_
    refine aw_aload_n dX7_leftIn_24 rfl ?_
    refine aw_getf fg_X7_28 dX7_leftIn_25 (hc9 hnx) rfl ?_
    refine aw_getf fg_X7_145 dX7_leftIn_28 (hc25 hnx) rfl ?_
    refine aw_iload_n dX7_leftIn_31 rfl ?_
    refine aw_iload_n dX7_leftIn_32 rfl ?_
    refine aw_callSN (As := [_, _]) (ρ := (_, 0, 0)) (kn' := (0, 0)) cs_X7_123 dX7_leftIn_33 rfl rfl (Nat.le_of_ble_eq_true rfl) (rmR _ _ _) ⟨Nat.le_refl _, Nat.le_refl _⟩ rfl (c_X10_pairOf hnx  (fun r33 h33 => ?_))
    subst h33
    refine aw_ialdr dX7_leftIn_36 (hc29 hnx) (by omega) (by decide) (hR 17 (by decide)) (fun q36 => ?_)
    refine aw_iadd dX7_leftIn_37 ?_
    refine aw_nmI (fun x2_38 hx2_38 => ?_)
    refine aw_istore_n (ls' := [some (rf Γ 9), some _, some _, some _]) dX7_leftIn_38 (by decide) rfl ?_
    refine aw_iinc (ls' := [some (rf Γ 9), some _, some _, some _]) dX7_leftIn_39 rfl (by decide) rfl ?_
    refine aw_goto (tgt := 12) dX7_leftIn_42 rfl ?_
    exact ih (by omega) x2_38  (by subst i12_0; subst hx2_38; simp only [lefts, sm]; omega)

set_option maxHeartbeats 1000000 in
theorem c_X7_isOfThisPeriod {Γ : GT} {S T U V : St} {G : Gw} {nx d : Nat} {Q : QT} (hnx : 52 ≤ nx) {l : Int} (hR : Rg S) (hl : 0 ≤ l ∧ l < 60) (h7 : 0 ≤ S 7 l) (h25 : 0 ≤ S 25 0) (hQ : ∀ r, (r = 1 ∧ (S 7 l / 90 = S 25 0 / 90) ∨ r = 0 ∧ ¬ (S 7 l / 90 = S 25 0 / 90)) → Q (some (vi r)) (hp Γ S T U V G) nx) : AM Γ MX7_isOfThisPeriod (d, 0, 0) [rf Γ 9, vi l] (hp Γ S T U V G) nx Q := by
  refine am_of (by decide) (Nat.le_of_ble_eq_true rfl) (ls := [some (rf Γ 9), some _]) rfl ?_
  have r25 := hR 25 (by decide) 0
  refine aw_aload_n dX7_isOfThisPeriod_0 rfl ?_
  refine aw_getf fg_X7_21 dX7_isOfThisPeriod_1 (hc9 hnx) rfl ?_
  refine aw_getf fg_X7_189 dX7_isOfThisPeriod_4 (hc14 hnx) rfl ?_
  refine aw_iload_n dX7_isOfThisPeriod_7 rfl ?_
  refine aw_ialdr dX7_isOfThisPeriod_8 (hc18 hnx) (by omega) (by decide) (hR 7 (by decide)) (fun q8 => ?_)
  refine aw_bipush dX7_isOfThisPeriod_9 rfl ?_
  refine aw_idiv dX7_isOfThisPeriod_11 (by omega) (by omega) ?_
  refine aw_aload_n dX7_isOfThisPeriod_12 rfl ?_
  refine aw_getf fg_X7_66 dX7_isOfThisPeriod_13 (hc9 hnx) rfl ?_
  refine aw_bipush dX7_isOfThisPeriod_16 rfl ?_
  refine aw_idiv dX7_isOfThisPeriod_18 (by omega) (by omega) ?_
  refine aw_icmp_ne (tgt := 26) dX7_isOfThisPeriod_19 rfl (by omega) (fun c19 => ?_) (fun c19 => ?_)
  · skip
    refine aw_iconst dX7_isOfThisPeriod_26 ?_
    exact aw_zreturn dX7_isOfThisPeriod_27 rfl (by omega) ⟨Nat.le_refl _, Nat.le_refl _⟩ (hQ _ (by omega))
  · skip
    refine aw_iconst dX7_isOfThisPeriod_22 ?_
    refine aw_goto (tgt := 27) dX7_isOfThisPeriod_23 rfl ?_
    exact aw_zreturn dX7_isOfThisPeriod_27 rfl (by omega) ⟨Nat.le_refl _, Nat.le_refl _⟩ (hQ _ (by omega))

set_option maxHeartbeats 1000000 in
theorem c_X7_neededFor {Γ : GT} {S T U V : St} {G : Gw} {nx d : Nat} {Q : QT} (hnx : 52 ≤ nx) {l : Int} {c : Int} (hI : Inv c S) (hl : 0 ≤ l ∧ l < S 28 0) (hQ : ∀ r, r = need S l → Q (some (vi r)) (hp Γ S T U V G) nx) : AM Γ MX7_neededFor (d, 0, 0) [rf Γ 9, vi l] (hp Γ S T U V G) nx Q := by
  refine am_of (by decide) (Nat.le_of_ble_eq_true rfl) (ls := [some (rf Γ 9), some _, none]) rfl ?_
  have hR := hI.R
  have i1 := hI.i1
  have hz : 0 ≤ S 28 0 ∧ S 28 0 ≤ 60 := i1.2.2.1
  have hkS : nS S = (S 28 0).toNat := rfl
  have hkI : nIm S = (S 27 0).toNat := rfl
  have hkO : nOr S = (S 26 0).toNat := rfl
  have li := hI.li hl
  have su := hI.sur hl
  have am := hI.am hl
  refine aw_aload_n dX7_neededFor_0 rfl ?_
  refine aw_getf fg_X7_12 dX7_neededFor_1 (hc9 hnx) rfl ?_
  refine aw_getf fg_X7_132 dX7_neededFor_4 (hc10 hnx) rfl ?_
  refine aw_iconst dX7_neededFor_7 ?_
  refine aw_ialdr dX7_neededFor_8 (hc11 hnx) (by omega) (by decide) (hR 0 (by decide)) (fun q8 => ?_)
  refine aw_aload_n dX7_neededFor_9 rfl ?_
  refine aw_getf fg_X7_21 dX7_neededFor_10 (hc9 hnx) rfl ?_
  refine aw_getf fg_X7_244 dX7_neededFor_13 (hc14 hnx) rfl ?_
  refine aw_iload_n dX7_neededFor_16 rfl ?_
  refine aw_ialdr dX7_neededFor_17 (hc17 hnx) (by omega) (by decide) (hR 6 (by decide)) (fun q17 => ?_)
  refine aw_imul dX7_neededFor_18 ?_
  refine aw_bipush dX7_neededFor_19 rfl ?_
  refine aw_aload_n dX7_neededFor_21 rfl ?_
  refine aw_getf fg_X7_21 dX7_neededFor_22 (hc9 hnx) rfl ?_
  refine aw_getf fg_X7_215 dX7_neededFor_25 (hc14 hnx) rfl ?_
  refine aw_iload_n dX7_neededFor_28 rfl ?_
  refine aw_ialdr dX7_neededFor_29 (hc20 hnx) (by omega) (by decide) (hR 9 (by decide)) (fun q29 => ?_)
  refine aw_imul dX7_neededFor_30 ?_
  refine aw_isub dX7_neededFor_31 ?_
  refine aw_nmI (fun x2_32 hx2_32 => ?_)
  refine aw_istore_n (ls' := [some (rf Γ 9), some _, some _]) dX7_neededFor_32 (by decide) rfl ?_
  refine aw_iload_n dX7_neededFor_33 rfl ?_
  refine aw_if_le (tgt := 47) dX7_neededFor_34 rfl (by omega) (fun c34 => ?_) (fun c34 => ?_)
  · skip
    refine aw_iconst dX7_neededFor_47 ?_
    exact aw_ireturn dX7_neededFor_48 rfl rfl ⟨Nat.le_refl _, Nat.le_refl _⟩ (hQ _ (by unfold need; split <;> first | omega | (subst hx2_32; rfl)))
  · skip
    refine aw_iload_n dX7_neededFor_37 rfl ?_
    refine aw_bipush dX7_neededFor_38 rfl ?_
    refine aw_iadd dX7_neededFor_40 ?_
    refine aw_bipush dX7_neededFor_41 rfl ?_
    refine aw_idiv dX7_neededFor_43 (by omega) (by omega) ?_
    refine aw_goto (tgt := 48) dX7_neededFor_44 rfl ?_
    exact aw_ireturn dX7_neededFor_48 rfl rfl ⟨Nat.le_refl _, Nat.le_refl _⟩ (hQ _ (by unfold need; split <;> first | omega | (subst hx2_32; rfl)))

set_option maxHeartbeats 1000000 in
theorem c_X7_isIdle {Γ : GT} {S T U V : St} {G : Gw} {nx d : Nat} {Q : QT} (hnx : 52 ≤ nx) {l : Int} {c : Int} (hI : Inv c S) (hl : 0 ≤ l ∧ l < S 28 0) (hQ : ∀ r, (r = 1 ∧ (idleP S l) ∨ r = 0 ∧ ¬ (idleP S l)) → Q (some (vi r)) (hp Γ S T U V G) nx) : AM Γ MX7_isIdle (d + 1, 0, 0) [rf Γ 9, vi l] (hp Γ S T U V G) nx Q := by
  refine am_of (by decide) (Nat.le_of_ble_eq_true rfl) (ls := [some (rf Γ 9), some _]) rfl ?_
  have hR := hI.R
  have i1 := hI.i1
  have hz : 0 ≤ S 28 0 ∧ S 28 0 ≤ 60 := i1.2.2.1
  have hkS : nS S = (S 28 0).toNat := rfl
  have hkI : nIm S = (S 27 0).toNat := rfl
  have hkO : nOr S = (S 26 0).toNat := rfl
  have li := hI.li hl
  have su := hI.sur hl
  have am := hI.am hl
  refine aw_aload_n dX7_isIdle_0 rfl ?_
  refine aw_iload_n dX7_isIdle_1 rfl ?_
  refine aw_callV (As := [_]) (ρ := (_, 0, 0)) (kn' := (0, 0)) cv_X7_241 dX7_isIdle_2 rfl rfl (hc9 hnx) rfl rfl (Nat.le_of_ble_eq_true rfl) (rmR _ _ _) ⟨Nat.le_refl _, Nat.le_refl _⟩ rfl (c_X7_neededFor hnx hI (by omega) (fun r2 h2 => ?_))
  unfold need at h2
  have h2b : inI r2 := by subst h2; split <;> omega
  have h2c : 0 < r2 ↔ idleP S l := by subst h2; unfold idleP; split <;> omega
  refine aw_if_le (tgt := 12) dX7_isIdle_5 rfl (by omega) (fun c5 => ?_) (fun c5 => ?_)
  · skip
    refine aw_iconst dX7_isIdle_12 ?_
    exact aw_zreturn dX7_isIdle_13 rfl (by omega) ⟨Nat.le_refl _, Nat.le_refl _⟩ (hQ _ (by omega))
  · skip
    refine aw_iconst dX7_isIdle_8 ?_
    refine aw_goto (tgt := 13) dX7_isIdle_9 rfl ?_
    exact aw_zreturn dX7_isIdle_13 rfl (by omega) ⟨Nat.le_refl _, Nat.le_refl _⟩ (hQ _ (by omega))

set_option maxHeartbeats 1000000 in
theorem c_X7_isKeptOut {Γ : GT} {S T U V : St} {G : Gw} {nx d : Nat} {Q : QT} (hnx : 52 ≤ nx) {i j : Int} {c : Int} (hI : Inv c S) (hi : 0 ≤ i ∧ i < S 27 0)(hj : 0 ≤ j ∧ j < S 26 0) (hQ : ∀ r, (r = 1 ∧ (kept S i j) ∨ r = 0 ∧ ¬ (kept S i j)) → Q (some (vi r)) (hp Γ S T U V G) nx) : AM Γ MX7_isKeptOut (d + 2, 0, 0) [rf Γ 9, vi i, vi j] (hp Γ S T U V G) nx Q := by
  refine am_of (by decide) (Nat.le_of_ble_eq_true rfl) (ls := [some (rf Γ 9), some _, some _, none]) rfl ?_
  have hR := hI.R
  have i1 := hI.i1
  have hz : 0 ≤ S 28 0 ∧ S 28 0 ≤ 60 := i1.2.2.1
  have hkS : nS S = (S 28 0).toNat := rfl
  have hkI : nIm S = (S 27 0).toNat := rfl
  have hkO : nOr S = (S 26 0).toNat := rfl
  have he := endL_in S i j (nS S)
  refine aw_aload_n dX7_isKeptOut_0 rfl ?_
  refine aw_getf fg_X7_21 dX7_isKeptOut_1 (hc9 hnx) rfl ?_
  refine aw_iload_n dX7_isKeptOut_4 rfl ?_
  refine aw_iload_n dX7_isKeptOut_5 rfl ?_
  refine aw_callV (As := [_, _]) (ρ := (_, 0, 0)) (kn' := (0, 0)) cv_X7_247 dX7_isKeptOut_6 rfl rfl (hc14 hnx) rfl rfl (Nat.le_of_ble_eq_true rfl) (rmR _ _ _) ⟨Nat.le_refl _, Nat.le_refl _⟩ rfl (c_X1_endedLast hnx hR (by omega) hz (fun r6 h6 => ?_))
  refine aw_istore_n (ls' := [some (rf Γ 9), some _, some _, some _]) dX7_isKeptOut_9 (by decide) rfl ?_
  subst h6
  refine aw_iload_n dX7_isKeptOut_10 rfl ?_
  refine aw_iconst dX7_isKeptOut_11 ?_
  refine aw_icmp_eq (tgt := 27) dX7_isKeptOut_12 rfl (by omega) (fun c12 => ?_) (fun c12 => ?_)
  · skip
    refine aw_iconst dX7_isKeptOut_27 ?_
    exact aw_zreturn dX7_isKeptOut_28 rfl (by omega) ⟨Nat.le_refl _, Nat.le_refl _⟩ (hQ _ (by unfold kept; omega))
  · skip
    have hl : 0 ≤ endL S i j (nS S) ∧ endL S i j (nS S) < S 28 0 := by omega
    refine aw_aload_n dX7_isKeptOut_15 rfl ?_
    refine aw_iload_n dX7_isKeptOut_16 rfl ?_
    refine aw_callV (As := [_]) (ρ := (_, 0, 0)) (kn' := (0, 0)) cv_X7_250 dX7_isKeptOut_17 rfl rfl (hc9 hnx) rfl rfl (Nat.le_of_ble_eq_true rfl) (rmR _ _ _) ⟨Nat.le_refl _, Nat.le_refl _⟩ rfl (c_X7_isIdle hnx hI hl (fun r17 h17 => ?_))
    rcases h17 with ⟨rfl, h17⟩ | ⟨rfl, h17⟩
    · skip
      refine aw_if_eq (tgt := 27) dX7_isKeptOut_20 rfl (by decide) (fun c => absurd c (by decide)) (fun _ => ?_)
      refine aw_iconst dX7_isKeptOut_23 ?_
      refine aw_goto (tgt := 28) dX7_isKeptOut_24 rfl ?_
      exact aw_zreturn dX7_isKeptOut_28 rfl (by omega) ⟨Nat.le_refl _, Nat.le_refl _⟩ (hQ _ (by unfold kept; omega))
    · skip
      refine aw_if_eq (tgt := 27) dX7_isKeptOut_20 rfl (by decide) (fun _ => ?_) (fun c => absurd c (by decide))
      refine aw_iconst dX7_isKeptOut_27 ?_
      exact aw_zreturn dX7_isKeptOut_28 rfl (by omega) ⟨Nat.le_refl _, Nat.le_refl _⟩ (hQ _ (by unfold kept; omega))

set_option maxHeartbeats 1000000 in
theorem c_X7_offerOf {Γ : GT} {S T U V : St} {G : Gw} {nx d : Nat} {Q : QT} (hnx : 52 ≤ nx) {i j n q w : Int} {c : Int} (hI : Inv c S) (hi : 0 ≤ i ∧ i < S 27 0)(hj : 0 ≤ j ∧ j < S 26 0) (hn : inI n ∧ inI q ∧ inI w) (hQ : ∀ r, r = offer S i j n q w → Q (some (vi r)) (hp Γ S T U V G) nx) : AM Γ MX7_offerOf (d + 3, 0, 0) [rf Γ 9, vi i, vi j, vi n, vi q, vi w] (hp Γ S T U V G) nx Q := by
  refine am_of (by decide) (Nat.le_of_ble_eq_true rfl) (ls := [some (rf Γ 9), some _, some _, some _, some _, some _, none, none]) rfl ?_
  have hR := hI.R
  have i1 := hI.i1
  have hz : 0 ≤ S 28 0 ∧ S 28 0 ≤ 60 := i1.2.2.1
  have hkS : nS S = (S 28 0).toNat := rfl
  have hkI : nIm S = (S 27 0).toNat := rfl
  have hkO : nOr S = (S 26 0).toNat := rfl
  have pr := hI.pr hi hj
  have t1 := hR 0 (by decide) 1
  refine aw_iload dX7_offerOf_0 rfl ?_
  refine aw_bipush dX7_offerOf_2 rfl ?_
  refine aw_icmp_lt (tgt := 10) dX7_offerOf_4 rfl (by omega) (fun c4 => ?_) (fun c4 => ?_)
  · skip
    refine aw_iload_n dX7_offerOf_10 rfl ?_
    refine aw_iload_n dX7_offerOf_11 rfl ?_
    refine aw_callSN (As := [_, _]) (ρ := (_, 0, 0)) (kn' := (0, 0)) cs_X7_123 dX7_offerOf_12 rfl rfl (Nat.le_of_ble_eq_true rfl) (rmR _ _ _) ⟨Nat.le_refl _, Nat.le_refl _⟩ rfl (c_X10_pairOf hnx  (fun r12 h12 => ?_))
    refine aw_istore (ls' := [some (rf Γ 9), some _, some _, some _, some _, some _, some _, none]) dX7_offerOf_15 (by decide) rfl ?_
    subst h12
    refine aw_aload_n dX7_offerOf_17 rfl ?_
    refine aw_getf fg_X7_28 dX7_offerOf_18 (hc9 hnx) rfl ?_
    refine aw_getf fg_X7_145 dX7_offerOf_21 (hc25 hnx) rfl ?_
    refine aw_iload dX7_offerOf_24 rfl ?_
    refine aw_ialdr dX7_offerOf_26 (hc29 hnx) (by omega) (by decide) (hR 17 (by decide)) (fun q26 => ?_)
    refine aw_nmI (fun x7_27 hx7_27 => ?_)
    refine aw_istore (ls' := [some (rf Γ 9), some _, some _, some _, some _, some _, some _, some _]) dX7_offerOf_27 (by decide) rfl ?_
    refine aw_aload_n dX7_offerOf_29 rfl ?_
    refine aw_getf fg_X7_28 dX7_offerOf_30 (hc9 hnx) rfl ?_
    refine aw_iload dX7_offerOf_33 rfl ?_
    refine aw_callV (As := [_]) (ρ := (_, 0, 0)) (kn' := (0, 0)) cv_X7_148 dX7_offerOf_35 rfl rfl (hc25 hnx) rfl rfl (Nat.le_of_ble_eq_true rfl) (rmR _ _ _) ⟨Nat.le_refl _, Nat.le_refl _⟩ rfl (c_X3_isTraditional hnx hR (by omega) (fun r35 h35 => ?_))
    rcases h35 with ⟨rfl, h35⟩ | ⟨rfl, h35⟩
    · skip
      refine aw_if_ne (tgt := 89) dX7_offerOf_38 rfl (by decide) (fun _ => ?_) (fun c => absurd c (by decide))
      refine aw_iload dX7_offerOf_89 rfl ?_
      refine aw_if_le (tgt := 103) dX7_offerOf_91 rfl (by omega) (fun c91 => ?_) (fun c91 => ?_)
      · skip
        refine aw_bipush dX7_offerOf_103 rfl ?_
        exact aw_ireturn dX7_offerOf_105 rfl rfl ⟨Nat.le_refl _, Nat.le_refl _⟩ (hQ _ (by (unfold offer; repeat' split) <;> omega))
      · skip
        refine aw_iload_n dX7_offerOf_94 rfl ?_
        refine aw_iload dX7_offerOf_95 rfl ?_
        refine aw_mmin qm_X7_200 dX7_offerOf_97 (by omega) (rmN13 _ _ _ (Nat.le_of_ble_eq_true rfl)) ⟨Nat.le_refl _, Nat.le_refl _⟩ (fun r97 h97 => ?_)
        refine aw_goto (tgt := 105) dX7_offerOf_100 rfl ?_
        exact aw_ireturn dX7_offerOf_105 rfl rfl ⟨Nat.le_refl _, Nat.le_refl _⟩ (hQ _ (by (unfold offer; repeat' split) <;> omega))
    · skip
      refine aw_if_ne (tgt := 89) dX7_offerOf_38 rfl (by decide) (fun c => absurd c (by decide)) (fun _ => ?_)
      refine aw_iload_n dX7_offerOf_41 rfl ?_
      refine aw_aload_n dX7_offerOf_42 rfl ?_
      refine aw_getf fg_X7_12 dX7_offerOf_43 (hc9 hnx) rfl ?_
      refine aw_getf fg_X7_132 dX7_offerOf_46 (hc10 hnx) rfl ?_
      refine aw_iconst dX7_offerOf_49 ?_
      refine aw_ialdr dX7_offerOf_50 (hc11 hnx) (by omega) (by decide) (hR 0 (by decide)) (fun q50 => ?_)
      refine aw_icmp_le (tgt := 57) dX7_offerOf_51 rfl (by omega) (fun c51 => ?_) (fun c51 => ?_)
      · skip
        refine aw_aload_n dX7_offerOf_57 rfl ?_
        refine aw_getf fg_X7_28 dX7_offerOf_58 (hc9 hnx) rfl ?_
        refine aw_getf fg_X7_135 dX7_offerOf_61 (hc25 hnx) rfl ?_
        refine aw_iload dX7_offerOf_64 rfl ?_
        refine aw_ialdr dX7_offerOf_66 (hc30 hnx) (by omega) (by decide) (hR 18 (by decide)) (fun q66 => ?_)
        refine aw_if_le (tgt := 73) dX7_offerOf_67 rfl (by omega) (fun c67 => ?_) (fun c67 => ?_)
        · skip
          refine aw_aload_n dX7_offerOf_73 rfl ?_
          refine aw_iload_n dX7_offerOf_74 rfl ?_
          refine aw_iload_n dX7_offerOf_75 rfl ?_
          refine aw_callV (As := [_, _]) (ρ := (_, 0, 0)) (kn' := (0, 0)) cv_X7_196 dX7_offerOf_76 rfl rfl (hc9 hnx) rfl rfl (Nat.le_of_ble_eq_true rfl) (rmR _ _ _) ⟨Nat.le_refl _, Nat.le_refl _⟩ rfl (c_X7_isKeptOut hnx hI hi hj (fun r76 h76 => ?_))
          rcases h76 with ⟨rfl, h76⟩ | ⟨rfl, h76⟩
          · skip
            refine aw_if_eq (tgt := 85) dX7_offerOf_79 rfl (by decide) (fun c => absurd c (by decide)) (fun _ => ?_)
            refine aw_bipush dX7_offerOf_82 rfl ?_
            exact aw_ireturn dX7_offerOf_84 rfl rfl ⟨Nat.le_refl _, Nat.le_refl _⟩ (hQ _ (by (unfold offer; repeat' split) <;> omega))
          · skip
            refine aw_if_eq (tgt := 85) dX7_offerOf_79 rfl (by decide) (fun _ => ?_) (fun c => absurd c (by decide))
            refine aw_iload dX7_offerOf_85 rfl ?_
            refine aw_istore (ls' := [some (rf Γ 9), some _, some _, some _, some _, some _, some _, some _]) dX7_offerOf_87 (by decide) rfl ?_
            refine aw_iload dX7_offerOf_89 rfl ?_
            refine aw_if_le (tgt := 103) dX7_offerOf_91 rfl (by omega) (fun c91 => ?_) (fun c91 => ?_)
            · skip
              refine aw_bipush dX7_offerOf_103 rfl ?_
              exact aw_ireturn dX7_offerOf_105 rfl rfl ⟨Nat.le_refl _, Nat.le_refl _⟩ (hQ _ (by (unfold offer; repeat' split) <;> omega))
            · skip
              refine aw_iload_n dX7_offerOf_94 rfl ?_
              refine aw_iload dX7_offerOf_95 rfl ?_
              refine aw_mmin qm_X7_200 dX7_offerOf_97 (by omega) (rmN13 _ _ _ (Nat.le_of_ble_eq_true rfl)) ⟨Nat.le_refl _, Nat.le_refl _⟩ (fun r97 h97 => ?_)
              refine aw_goto (tgt := 105) dX7_offerOf_100 rfl ?_
              exact aw_ireturn dX7_offerOf_105 rfl rfl ⟨Nat.le_refl _, Nat.le_refl _⟩ (hQ _ (by (unfold offer; repeat' split) <;> omega))
        · skip
          refine aw_bipush dX7_offerOf_70 rfl ?_
          exact aw_ireturn dX7_offerOf_72 rfl rfl ⟨Nat.le_refl _, Nat.le_refl _⟩ (hQ _ (by (unfold offer; repeat' split) <;> omega))
      · skip
        refine aw_bipush dX7_offerOf_54 rfl ?_
        exact aw_ireturn dX7_offerOf_56 rfl rfl ⟨Nat.le_refl _, Nat.le_refl _⟩ (hQ _ (by (unfold offer; repeat' split) <;> omega))
  · skip
    refine aw_bipush dX7_offerOf_7 rfl ?_
    exact aw_ireturn dX7_offerOf_9 rfl rfl ⟨Nat.le_refl _, Nat.le_refl _⟩ (hQ _ (by (unfold offer; repeat' split) <;> omega))

set_option maxHeartbeats 1000000 in
theorem c_X7_offerNow {Γ : GT} {S T U V : St} {G : Gw} {nx d : Nat} {Q : QT} (hnx : 52 ≤ nx) {i j n : Int} {c : Int} (hI : Inv c S) (hi : 0 ≤ i ∧ i < S 27 0)(hj : 0 ≤ j ∧ j < S 26 0) (hn : inI n) (hQ : ∀ r, r = offer S i j n (S 14 (j * 8 + 3)) (S 28 0) → Q (some (vi r)) (hp Γ S T U V G) nx) : AM Γ MX7_offerNow (d + 4, 0, 0) [rf Γ 9, vi i, vi j, vi n] (hp Γ S T U V G) nx Q := by
  refine am_of (by decide) (Nat.le_of_ble_eq_true rfl) (ls := [some (rf Γ 9), some _, some _, some _]) rfl ?_
  have hR := hI.R
  have i1 := hI.i1
  have hz : 0 ≤ S 28 0 ∧ S 28 0 ≤ 60 := i1.2.2.1
  have hkS : nS S = (S 28 0).toNat := rfl
  have hkI : nIm S = (S 27 0).toNat := rfl
  have hkO : nOr S = (S 26 0).toNat := rfl
  have f3 := hR 14 (by decide) (j * 8 + 3)
  refine aw_aload_n dX7_offerNow_0 rfl ?_
  refine aw_iload_n dX7_offerNow_1 rfl ?_
  refine aw_iload_n dX7_offerNow_2 rfl ?_
  refine aw_iload_n dX7_offerNow_3 rfl ?_
  refine aw_aload_n dX7_offerNow_4 rfl ?_
  refine aw_getf fg_X7_28 dX7_offerNow_5 (hc9 hnx) rfl ?_
  refine aw_iload_n dX7_offerNow_8 rfl ?_
  refine aw_iconst dX7_offerNow_9 ?_
  refine aw_callV (As := [_, _]) (ρ := (_, 0, 0)) (kn' := (0, 0)) cv_X7_167 dX7_offerNow_10 rfl rfl (hc25 hnx) rfl rfl (Nat.le_of_ble_eq_true rfl) (rmR _ _ _) ⟨Nat.le_refl _, Nat.le_refl _⟩ rfl (c_X3_figure hnx hR (by omega) (fun r10 h10 => ?_))
  subst h10
  refine aw_aload_n dX7_offerNow_13 rfl ?_
  refine aw_getf fg_X7_21 dX7_offerNow_14 (hc9 hnx) rfl ?_
  refine aw_getf fg_X7_70 dX7_offerNow_17 (hc14 hnx) rfl ?_
  refine aw_callV (As := [_, _, _, _, _]) (ρ := (_, 0, 0)) (kn' := (0, 0)) cv_X7_192 dX7_offerNow_20 rfl rfl (hc9 hnx) rfl rfl (Nat.le_of_ble_eq_true rfl) (rmR _ _ _) ⟨Nat.le_refl _, Nat.le_refl _⟩ rfl (c_X7_offerOf hnx hI hi hj (by omega) (fun r20 h20 => ?_))
  exact aw_ireturn dX7_offerNow_23 rfl rfl ⟨Nat.le_refl _, Nat.le_refl _⟩ (hQ _ (by omega))

set_option maxHeartbeats 1000000 in
theorem c_X7_takenIn {Γ : GT} {S T U V : St} {G : Gw} {nx d : Nat} {Q : QT} (hnx : 52 ≤ nx) {j : Int} {c : Int} (hI : Inv c S) (hj : 0 ≤ j ∧ j < S 26 0) (hQ : ∀ r, r = tkn S j (nS S) → Q (some (vi r)) (hp Γ S T U V G) nx) : AM Γ MX7_takenIn (d + 1, 0, 0) [rf Γ 9, vi j] (hp Γ S T U V G) nx Q := by
  refine am_of (by decide) (Nat.le_of_ble_eq_true rfl) (ls := [some (rf Γ 9), some _, none, none]) rfl ?_
  have hR := hI.R
  have i1 := hI.i1
  have hz : 0 ≤ S 28 0 ∧ S 28 0 ≤ 60 := i1.2.2.1
  have hkS : nS S = (S 28 0).toNat := rfl
  have hkI : nIm S = (S 27 0).toNat := rfl
  have hkO : nOr S = (S 26 0).toNat := rfl
  refine aw_iconst dX7_takenIn_0 ?_
  refine aw_istore_n (ls' := [some (rf Γ 9), some _, some _, none]) dX7_takenIn_1 (by decide) rfl ?_
  refine aw_iconst dX7_takenIn_2 ?_
  refine aw_istore_n (ls' := [some (rf Γ 9), some _, some _, some _]) dX7_takenIn_3 (by decide) rfl ?_
  refine loopN (nS S) (P := fun k => ∀ (x : Int) , x = tkn S j k →  AW Γ MX7_takenIn _ _ (0, 0) 4 [some (rf Γ 9), some (vi j), some (vi x), some (vi (k : Int))] [] (hp Γ S T U V G) nx) (fun k hk ih => ?_) 0 (Nat.zero_le _) _ rfl 
  intro x i4_0
  refine aw_iload_n dX7_takenIn_4 rfl ?_
  refine aw_aload_n dX7_takenIn_5 rfl ?_
  refine aw_getf fg_X7_21 dX7_takenIn_6 (hc9 hnx) rfl ?_
  refine aw_getf fg_X7_70 dX7_takenIn_9 (hc14 hnx) rfl ?_
  refine aw_icmp_ge (tgt := 77) dX7_takenIn_12 rfl (by omega) (fun c12 => ?_) (fun c12 => ?_)
  · skip
    obtain rfl : k = nS S := by omega
    refine aw_iload_n dX7_takenIn_77 rfl ?_
    exact aw_ireturn dX7_takenIn_78 rfl rfl ⟨Nat.le_refl _, Nat.le_refl _⟩ (hQ _ (by omega))
  · skip
    refine aw_aload_n dX7_takenIn_15 rfl ?_
    refine aw_getf fg_X7_21 dX7_takenIn_16 (hc9 hnx) rfl ?_
    refine aw_getf fg_X7_212 dX7_takenIn_19 (hc14 hnx) rfl ?_
    refine aw_iload_n dX7_takenIn_22 rfl ?_
    have li := hI.li (l := (k : Int)) (by omega)
    refine aw_ialdr dX7_takenIn_23 (hc16 hnx) (by omega) (by decide) (hR 5 (by decide)) (fun q23 => ?_)
    refine aw_iload_n dX7_takenIn_24 rfl ?_
    refine aw_icmp_ne (tgt := 71) dX7_takenIn_25 rfl (by omega) (fun c25 => ?_) (fun c25 => ?_)
    · skip
      refine aw_iinc (ls' := [some (rf Γ 9), some _, some _, some _]) dX7_takenIn_71 rfl (by decide) rfl ?_
      refine aw_goto (tgt := 4) dX7_takenIn_74 rfl ?_
      exact ih (by omega) x  (by simp only [tkn, sm] at i4_0 ⊢; (repeat' split) <;> omega)
    · skip
      refine aw_aload_n dX7_takenIn_28 rfl ?_
      refine aw_iload_n dX7_takenIn_29 rfl ?_
      refine aw_callV (As := [_]) (ρ := (_, 0, 0)) (kn' := (0, 0)) cv_X7_238 dX7_takenIn_30 rfl rfl (hc9 hnx) rfl rfl (Nat.le_of_ble_eq_true rfl) (rmR _ _ _) ⟨Nat.le_refl _, Nat.le_refl _⟩ rfl (c_X7_isOfThisPeriod hnx hR (by omega) (by omega) (by omega) (fun r30 h30 => ?_))
      rcases h30 with ⟨rfl, h30⟩ | ⟨rfl, h30⟩
      · skip
        refine aw_if_eq (tgt := 71) dX7_takenIn_33 rfl (by decide) (fun c => absurd c (by decide)) (fun _ => ?_)
        refine aw_iload_n dX7_takenIn_36 rfl ?_
        refine aw_aload_n dX7_takenIn_37 rfl ?_
        refine aw_getf fg_X7_21 dX7_takenIn_38 (hc9 hnx) rfl ?_
        refine aw_iload_n dX7_takenIn_41 rfl ?_
        refine aw_callV (As := [_]) (ρ := (_, 0, 0)) (kn' := (0, 0)) cv_X7_170 dX7_takenIn_42 rfl rfl (hc14 hnx) rfl rfl (Nat.le_of_ble_eq_true rfl) (rmR _ _ _) ⟨Nat.le_refl _, Nat.le_refl _⟩ rfl (c_X1_isOpen hnx hR (by omega) (fun r42 h42 => ?_))
        rcases h42 with ⟨rfl, h42⟩ | ⟨rfl, h42⟩
        · skip
          refine aw_if_eq (tgt := 60) dX7_takenIn_45 rfl (by decide) (fun c => absurd c (by decide)) (fun _ => ?_)
          refine aw_aload_n dX7_takenIn_48 rfl ?_
          refine aw_getf fg_X7_21 dX7_takenIn_49 (hc9 hnx) rfl ?_
          refine aw_getf fg_X7_244 dX7_takenIn_52 (hc14 hnx) rfl ?_
          refine aw_iload_n dX7_takenIn_55 rfl ?_
          refine aw_ialdr dX7_takenIn_56 (hc17 hnx) (by omega) (by decide) (hR 6 (by decide)) (fun q56 => ?_)
          refine aw_goto (tgt := 69) dX7_takenIn_57 rfl ?_
          refine aw_iadd dX7_takenIn_69 ?_
          refine aw_nmI (fun x2_70 hx2_70 => ?_)
          refine aw_istore_n (ls' := [some (rf Γ 9), some _, some _, some _]) dX7_takenIn_70 (by decide) rfl ?_
          refine aw_iinc (ls' := [some (rf Γ 9), some _, some _, some _]) dX7_takenIn_71 rfl (by decide) rfl ?_
          refine aw_goto (tgt := 4) dX7_takenIn_74 rfl ?_
          exact ih (by omega) x2_70  (by simp only [tkn, sm] at i4_0 ⊢; (repeat' split) <;> omega)
        · skip
          refine aw_if_eq (tgt := 60) dX7_takenIn_45 rfl (by decide) (fun _ => ?_) (fun c => absurd c (by decide))
          refine aw_aload_n dX7_takenIn_60 rfl ?_
          refine aw_getf fg_X7_21 dX7_takenIn_61 (hc9 hnx) rfl ?_
          refine aw_getf fg_X7_215 dX7_takenIn_64 (hc14 hnx) rfl ?_
          refine aw_iload_n dX7_takenIn_67 rfl ?_
          refine aw_ialdr dX7_takenIn_68 (hc20 hnx) (by omega) (by decide) (hR 9 (by decide)) (fun q68 => ?_)
          refine aw_iadd dX7_takenIn_69 ?_
          refine aw_nmI (fun x2_70 hx2_70 => ?_)
          refine aw_istore_n (ls' := [some (rf Γ 9), some _, some _, some _]) dX7_takenIn_70 (by decide) rfl ?_
          refine aw_iinc (ls' := [some (rf Γ 9), some _, some _, some _]) dX7_takenIn_71 rfl (by decide) rfl ?_
          refine aw_goto (tgt := 4) dX7_takenIn_74 rfl ?_
          exact ih (by omega) x2_70  (by simp only [tkn, sm] at i4_0 ⊢; (repeat' split) <;> omega)
      · skip
        refine aw_if_eq (tgt := 71) dX7_takenIn_33 rfl (by decide) (fun _ => ?_) (fun c => absurd c (by decide))
        refine aw_iinc (ls' := [some (rf Γ 9), some _, some _, some _]) dX7_takenIn_71 rfl (by decide) rfl ?_
        refine aw_goto (tgt := 4) dX7_takenIn_74 rfl ?_
        exact ih (by omega) x  (by simp only [tkn, sm] at i4_0 ⊢; (repeat' split) <;> omega)

set_option maxHeartbeats 1000000 in
theorem c_X7_importersAhead {Γ : GT} {S T U V : St} {G : Gw} {nx d : Nat} {Q : QT} (hnx : 52 ≤ nx) {i : Int} {c : Int} (hI : Inv c S) (hi : 0 ≤ i ∧ i < S 27 0) (hQ : ∀ r, r = iah S i (nIm S) → Q (some (vi r)) (hp Γ S T U V G) nx) : AM Γ MX7_importersAhead (d + 1, 0, 0) [rf Γ 9, vi i] (hp Γ S T U V G) nx Q := by
  refine am_of (by decide) (Nat.le_of_ble_eq_true rfl) (ls := [some (rf Γ 9), some _, none, none, none, none]) rfl ?_
  have hR := hI.R
  have i1 := hI.i1
  have hz : 0 ≤ S 28 0 ∧ S 28 0 ≤ 60 := i1.2.2.1
  have hkS : nS S = (S 28 0).toNat := rfl
  have hkI : nIm S = (S 27 0).toNat := rfl
  have hkO : nOr S = (S 26 0).toNat := rfl
  have m1 := hI.imI (i := i) (by omega) 12 (by omega)
  refine aw_aload_n dX7_importersAhead_0 rfl ?_
  refine aw_getf fg_X7_35 dX7_importersAhead_1 (hc9 hnx) rfl ?_
  refine aw_iload_n dX7_importersAhead_4 rfl ?_
  refine aw_callV (As := [_]) (ρ := (_, 0, 0)) (kn' := (0, 0)) cv_X7_253 dX7_importersAhead_5 rfl rfl (hc32 hnx) rfl rfl (Nat.le_of_ble_eq_true rfl) (rmR _ _ _) ⟨Nat.le_refl _, Nat.le_refl _⟩ rfl (c_X9_importedBy hnx hR (by omega) (fun r5 h5 => ?_))
  refine aw_istore_n (ls' := [some (rf Γ 9), some _, some _, none, none, none]) dX7_importersAhead_8 (by decide) rfl ?_
  subst h5
  refine aw_iconst dX7_importersAhead_9 ?_
  refine aw_istore_n (ls' := [some (rf Γ 9), some _, some _, some _, none, none]) dX7_importersAhead_10 (by decide) rfl ?_
  refine aw_iconst dX7_importersAhead_11 ?_
  refine aw_istore (ls' := [some (rf Γ 9), some _, some _, some _, some _, none]) dX7_importersAhead_12 (by decide) rfl ?_
  refine loopN (nIm S) (P := fun k => ∀ (x : Int) , x = iah S i k →  AW Γ MX7_importersAhead _ _ (0, 0) 14 [some (rf Γ 9), some (vi i), some (vi (imI S i 12)), some (vi x), some (vi (k : Int)), none] [] (hp Γ S T U V G) nx) (fun k hk ih => ?_) 0 (Nat.zero_le _) _ rfl 
  intro x i14_0
  refine aw_iload dX7_importersAhead_14 rfl ?_
  refine aw_aload_n dX7_importersAhead_16 rfl ?_
  refine aw_getf fg_X7_12 dX7_importersAhead_17 (hc9 hnx) rfl ?_
  refine aw_getf fg_X7_94 dX7_importersAhead_20 (hc10 hnx) rfl ?_
  refine aw_icmp_ge (tgt := 69) dX7_importersAhead_23 rfl (by omega) (fun c23 => ?_) (fun c23 => ?_)
  · skip
    obtain rfl : k = nIm S := by omega
    refine aw_iload_n dX7_importersAhead_69 rfl ?_
    exact aw_ireturn dX7_importersAhead_70 rfl rfl ⟨Nat.le_refl _, Nat.le_refl _⟩ (hQ _ (by omega))
  · skip
    refine aw_aload_n dX7_importersAhead_26 rfl ?_
    refine aw_getf fg_X7_35 dX7_importersAhead_27 (hc9 hnx) rfl ?_
    refine aw_iload dX7_importersAhead_30 rfl ?_
    refine aw_callV (As := [_]) (ρ := (_, 0, 0)) (kn' := (0, 0)) cv_X7_253 dX7_importersAhead_32 rfl rfl (hc32 hnx) rfl rfl (Nat.le_of_ble_eq_true rfl) (rmR _ _ _) ⟨Nat.le_refl _, Nat.le_refl _⟩ rfl (c_X9_importedBy hnx hR (by omega) (fun r32 h32 => ?_))
    refine aw_istore (ls' := [some (rf Γ 9), some _, some _, some _, some _, some _]) dX7_importersAhead_35 (by decide) rfl ?_
    subst h32
    have m2 := hI.imI (i := (k : Int)) (by omega) 12 (by omega)
    refine aw_iload_n dX7_importersAhead_37 rfl ?_
    refine aw_iload dX7_importersAhead_38 rfl ?_
    refine aw_iload_n dX7_importersAhead_40 rfl ?_
    refine aw_icmp_gt (tgt := 56) dX7_importersAhead_41 rfl (by omega) (fun c41 => ?_) (fun c41 => ?_)
    · skip
      refine aw_iconst dX7_importersAhead_56 ?_
      refine aw_goto (tgt := 61) dX7_importersAhead_57 rfl ?_
      refine aw_iadd dX7_importersAhead_61 ?_
      refine aw_nmI (fun x3_62 hx3_62 => ?_)
      refine aw_istore_n (ls' := [some (rf Γ 9), some _, some _, some _, some _, some _]) dX7_importersAhead_62 (by decide) rfl ?_
      refine aw_iinc (ls' := [some (rf Γ 9), some _, some _, some _, some _, some _]) dX7_importersAhead_63 rfl (by decide) rfl ?_
      refine aw_goto (tgt := 14) dX7_importersAhead_66 rfl ?_
      refine aw_fg [true, true, true, true, true, false] (ls' := [some (rf Γ 9), some _, some _, some _, some _, none]) rfl ?_
      exact ih (by omega) x3_62  (by simp only [iah, sm] at i14_0 ⊢; (repeat' split) <;> omega)
    · skip
      refine aw_iload dX7_importersAhead_44 rfl ?_
      refine aw_iload_n dX7_importersAhead_46 rfl ?_
      refine aw_icmp_ne (tgt := 60) dX7_importersAhead_47 rfl (by omega) (fun c47 => ?_) (fun c47 => ?_)
      · skip
        refine aw_iconst dX7_importersAhead_60 ?_
        refine aw_iadd dX7_importersAhead_61 ?_
        refine aw_nmI (fun x3_62 hx3_62 => ?_)
        refine aw_istore_n (ls' := [some (rf Γ 9), some _, some _, some _, some _, some _]) dX7_importersAhead_62 (by decide) rfl ?_
        refine aw_iinc (ls' := [some (rf Γ 9), some _, some _, some _, some _, some _]) dX7_importersAhead_63 rfl (by decide) rfl ?_
        refine aw_goto (tgt := 14) dX7_importersAhead_66 rfl ?_
        refine aw_fg [true, true, true, true, true, false] (ls' := [some (rf Γ 9), some _, some _, some _, some _, none]) rfl ?_
        exact ih (by omega) x3_62  (by simp only [iah, sm] at i14_0 ⊢; (repeat' split) <;> omega)
      · skip
        refine aw_iload dX7_importersAhead_50 rfl ?_
        refine aw_iload_n dX7_importersAhead_52 rfl ?_
        refine aw_icmp_ge (tgt := 60) dX7_importersAhead_53 rfl (by omega) (fun c53 => ?_) (fun c53 => ?_)
        · skip
          refine aw_iconst dX7_importersAhead_60 ?_
          refine aw_iadd dX7_importersAhead_61 ?_
          refine aw_nmI (fun x3_62 hx3_62 => ?_)
          refine aw_istore_n (ls' := [some (rf Γ 9), some _, some _, some _, some _, some _]) dX7_importersAhead_62 (by decide) rfl ?_
          refine aw_iinc (ls' := [some (rf Γ 9), some _, some _, some _, some _, some _]) dX7_importersAhead_63 rfl (by decide) rfl ?_
          refine aw_goto (tgt := 14) dX7_importersAhead_66 rfl ?_
          refine aw_fg [true, true, true, true, true, false] (ls' := [some (rf Γ 9), some _, some _, some _, some _, none]) rfl ?_
          exact ih (by omega) x3_62  (by simp only [iah, sm] at i14_0 ⊢; (repeat' split) <;> omega)
        · skip
          refine aw_iconst dX7_importersAhead_56 ?_
          refine aw_goto (tgt := 61) dX7_importersAhead_57 rfl ?_
          refine aw_iadd dX7_importersAhead_61 ?_
          refine aw_nmI (fun x3_62 hx3_62 => ?_)
          refine aw_istore_n (ls' := [some (rf Γ 9), some _, some _, some _, some _, some _]) dX7_importersAhead_62 (by decide) rfl ?_
          refine aw_iinc (ls' := [some (rf Γ 9), some _, some _, some _, some _, some _]) dX7_importersAhead_63 rfl (by decide) rfl ?_
          refine aw_goto (tgt := 14) dX7_importersAhead_66 rfl ?_
          refine aw_fg [true, true, true, true, true, false] (ls' := [some (rf Γ 9), some _, some _, some _, some _, none]) rfl ?_
          exact ih (by omega) x3_62  (by simp only [iah, sm] at i14_0 ⊢; (repeat' split) <;> omega)

set_option maxHeartbeats 1000000 in
theorem c_X7_lesserAhead {Γ : GT} {S T U V : St} {G : Gw} {nx d : Nat} {Q : QT} (hnx : 52 ≤ nx) {i j : Int} {c : Int} (hI : Inv c S) (hi : 0 ≤ i ∧ i < S 27 0)(hj : 0 ≤ j ∧ j < S 26 0) (hQ : ∀ r, r = lah S i j (nIm S) → Q (some (vi r)) (hp Γ S T U V G) nx) : AM Γ MX7_lesserAhead (d + 2, 0, 0) [rf Γ 9, vi i, vi j] (hp Γ S T U V G) nx Q := by
  refine am_of (by decide) (Nat.le_of_ble_eq_true rfl) (ls := [some (rf Γ 9), some _, some _, none, none, none, none, none, none]) rfl ?_
  have hR := hI.R
  have i1 := hI.i1
  have hz : 0 ≤ S 28 0 ∧ S 28 0 ≤ 60 := i1.2.2.1
  have hkS : nS S = (S 28 0).toNat := rfl
  have hkI : nIm S = (S 27 0).toNat := rfl
  have hkO : nOr S = (S 26 0).toNat := rfl
  have m1 := hI.old (p := 4 * i + j) (by omega)
  refine aw_aload_n dX7_lesserAhead_0 rfl ?_
  refine aw_getf fg_X7_12 dX7_lesserAhead_1 (hc9 hnx) rfl ?_
  refine aw_iload_n dX7_lesserAhead_4 rfl ?_
  refine aw_iload_n dX7_lesserAhead_5 rfl ?_
  refine aw_callSN (As := [_, _]) (ρ := (_, 0, 0)) (kn' := (0, 0)) cs_X7_123 dX7_lesserAhead_6 rfl rfl (Nat.le_of_ble_eq_true rfl) (rmR _ _ _) ⟨Nat.le_refl _, Nat.le_refl _⟩ rfl (c_X10_pairOf hnx  (fun r6 h6 => ?_))
  subst h6
  refine aw_callV (As := [_]) (ρ := (_, 0, 0)) (kn' := (0, 0)) cv_X7_151 dX7_lesserAhead_9 rfl rfl (hc10 hnx) rfl rfl (Nat.le_of_ble_eq_true rfl) (rmR _ _ _) ⟨Nat.le_refl _, Nat.le_refl _⟩ rfl (c_X5_inOldYears hnx hR (by omega) (fun r9 h9 => ?_))
  refine aw_istore_n (ls' := [some (rf Γ 9), some _, some _, some _, none, none, none, none, none]) dX7_lesserAhead_12 (by decide) rfl ?_
  subst h9
  refine aw_iconst dX7_lesserAhead_13 ?_
  refine aw_istore (ls' := [some (rf Γ 9), some _, some _, some _, some _, none, none, none, none]) dX7_lesserAhead_14 (by decide) rfl ?_
  refine aw_iconst dX7_lesserAhead_16 ?_
  refine aw_istore (ls' := [some (rf Γ 9), some _, some _, some _, some _, some _, none, none, none]) dX7_lesserAhead_17 (by decide) rfl ?_
  refine loopN (nIm S) (P := fun k => ∀ (x : Int) , x = lah S i j k →  AW Γ MX7_lesserAhead _ _ (0, 0) 19 [some (rf Γ 9), some (vi i), some (vi j), some (vi (old S (4 * i + j))), some (vi x), some (vi (k : Int)), none, none, none] [] (hp Γ S T U V G) nx) (fun k hk ih => ?_) 0 (Nat.zero_le _) _ rfl 
  intro x i19_0
  refine aw_iload dX7_lesserAhead_19 rfl ?_
  refine aw_aload_n dX7_lesserAhead_21 rfl ?_
  refine aw_getf fg_X7_12 dX7_lesserAhead_22 (hc9 hnx) rfl ?_
  refine aw_getf fg_X7_94 dX7_lesserAhead_25 (hc10 hnx) rfl ?_
  refine aw_icmp_ge (tgt := 108) dX7_lesserAhead_28 rfl (by omega) (fun c28 => ?_) (fun c28 => ?_)
  · skip
    obtain rfl : k = nIm S := by omega
    refine aw_iload dX7_lesserAhead_108 rfl ?_
    exact aw_ireturn dX7_lesserAhead_110 rfl rfl ⟨Nat.le_refl _, Nat.le_refl _⟩ (hQ _ (by omega))
  · skip
    refine aw_iload dX7_lesserAhead_31 rfl ?_
    refine aw_iload_n dX7_lesserAhead_33 rfl ?_
    refine aw_callSN (As := [_, _]) (ρ := (_, 0, 0)) (kn' := (0, 0)) cs_X7_123 dX7_lesserAhead_34 rfl rfl (Nat.le_of_ble_eq_true rfl) (rmR _ _ _) ⟨Nat.le_refl _, Nat.le_refl _⟩ rfl (c_X10_pairOf hnx  (fun r34 h34 => ?_))
    subst h34
    refine aw_istore (ls' := [some (rf Γ 9), some _, some _, some _, some _, some _, some _, none, none]) dX7_lesserAhead_37 (by decide) rfl ?_
    refine aw_aload_n dX7_lesserAhead_39 rfl ?_
    refine aw_getf fg_X7_12 dX7_lesserAhead_40 (hc9 hnx) rfl ?_
    refine aw_iload dX7_lesserAhead_43 rfl ?_
    refine aw_callV (As := [_]) (ρ := (_, 0, 0)) (kn' := (0, 0)) cv_X7_151 dX7_lesserAhead_45 rfl rfl (hc10 hnx) rfl rfl (Nat.le_of_ble_eq_true rfl) (rmR _ _ _) ⟨Nat.le_refl _, Nat.le_refl _⟩ rfl (c_X5_inOldYears hnx hR (by omega) (fun r45 h45 => ?_))
    refine aw_istore (ls' := [some (rf Γ 9), some _, some _, some _, some _, some _, some _, some _, none]) dX7_lesserAhead_48 (by decide) rfl ?_
    subst h45
    have m2 := hI.old (p := 4 * (k : Int) + j) (by omega)
    refine aw_iload dX7_lesserAhead_50 rfl ?_
    refine aw_iload_n dX7_lesserAhead_52 rfl ?_
    refine aw_icmp_lt (tgt := 68) dX7_lesserAhead_53 rfl (by omega) (fun c53 => ?_) (fun c53 => ?_)
    · skip
      refine aw_iconst dX7_lesserAhead_68 ?_
      refine aw_goto (tgt := 73) dX7_lesserAhead_69 rfl ?_
      refine aw_istore (ls' := [some (rf Γ 9), some _, some _, some _, some _, some _, some _, some _, some _]) dX7_lesserAhead_73 (by decide) rfl ?_
      refine aw_iload dX7_lesserAhead_75 rfl ?_
      refine aw_aload_n dX7_lesserAhead_77 rfl ?_
      refine aw_getf fg_X7_28 dX7_lesserAhead_78 (hc9 hnx) rfl ?_
      refine aw_iload dX7_lesserAhead_81 rfl ?_
      refine aw_callV (As := [_]) (ρ := (_, 0, 0)) (kn' := (0, 0)) cv_X7_148 dX7_lesserAhead_83 rfl rfl (hc25 hnx) rfl rfl (Nat.le_of_ble_eq_true rfl) (rmR _ _ _) ⟨Nat.le_refl _, Nat.le_refl _⟩ rfl (c_X3_isTraditional hnx hR (by omega) (fun r83 h83 => ?_))
      rcases h83 with ⟨rfl, h83⟩ | ⟨rfl, h83⟩
      · skip
        refine aw_if_eq (tgt := 98) dX7_lesserAhead_86 rfl (by decide) (fun c => absurd c (by decide)) (fun _ => ?_)
        refine aw_iload dX7_lesserAhead_89 rfl ?_
        refine aw_if_eq (tgt := 98) dX7_lesserAhead_91 rfl (by omega) (fun c91 => ?_) (fun c91 => ?_)
        · skip
          refine aw_iconst dX7_lesserAhead_98 ?_
          refine aw_iadd dX7_lesserAhead_99 ?_
          refine aw_nmI (fun x4_100 hx4_100 => ?_)
          refine aw_istore (ls' := [some (rf Γ 9), some _, some _, some _, some _, some _, some _, some _, some _]) dX7_lesserAhead_100 (by decide) rfl ?_
          refine aw_iinc (ls' := [some (rf Γ 9), some _, some _, some _, some _, some _, some _, some _, some _]) dX7_lesserAhead_102 rfl (by decide) rfl ?_
          refine aw_goto (tgt := 19) dX7_lesserAhead_105 rfl ?_
          refine aw_fg [true, true, true, true, true, true, false, false, false] (ls' := [some (rf Γ 9), some _, some _, some _, some _, some _, none, none, none]) rfl ?_
          exact ih (by omega) x4_100  (by simp only [lah, sm] at i19_0 ⊢; (repeat' split) <;> omega)
        · skip
          refine aw_iconst dX7_lesserAhead_94 ?_
          refine aw_goto (tgt := 99) dX7_lesserAhead_95 rfl ?_
          refine aw_iadd dX7_lesserAhead_99 ?_
          refine aw_nmI (fun x4_100 hx4_100 => ?_)
          refine aw_istore (ls' := [some (rf Γ 9), some _, some _, some _, some _, some _, some _, some _, some _]) dX7_lesserAhead_100 (by decide) rfl ?_
          refine aw_iinc (ls' := [some (rf Γ 9), some _, some _, some _, some _, some _, some _, some _, some _]) dX7_lesserAhead_102 rfl (by decide) rfl ?_
          refine aw_goto (tgt := 19) dX7_lesserAhead_105 rfl ?_
          refine aw_fg [true, true, true, true, true, true, false, false, false] (ls' := [some (rf Γ 9), some _, some _, some _, some _, some _, none, none, none]) rfl ?_
          exact ih (by omega) x4_100  (by simp only [lah, sm] at i19_0 ⊢; (repeat' split) <;> omega)
      · skip
        refine aw_if_eq (tgt := 98) dX7_lesserAhead_86 rfl (by decide) (fun _ => ?_) (fun c => absurd c (by decide))
        refine aw_iconst dX7_lesserAhead_98 ?_
        refine aw_iadd dX7_lesserAhead_99 ?_
        refine aw_nmI (fun x4_100 hx4_100 => ?_)
        refine aw_istore (ls' := [some (rf Γ 9), some _, some _, some _, some _, some _, some _, some _, some _]) dX7_lesserAhead_100 (by decide) rfl ?_
        refine aw_iinc (ls' := [some (rf Γ 9), some _, some _, some _, some _, some _, some _, some _, some _]) dX7_lesserAhead_102 rfl (by decide) rfl ?_
        refine aw_goto (tgt := 19) dX7_lesserAhead_105 rfl ?_
        refine aw_fg [true, true, true, true, true, true, false, false, false] (ls' := [some (rf Γ 9), some _, some _, some _, some _, some _, none, none, none]) rfl ?_
        exact ih (by omega) x4_100  (by simp only [lah, sm] at i19_0 ⊢; (repeat' split) <;> omega)
    · skip
      refine aw_iload dX7_lesserAhead_56 rfl ?_
      refine aw_iload_n dX7_lesserAhead_58 rfl ?_
      refine aw_icmp_ne (tgt := 72) dX7_lesserAhead_59 rfl (by omega) (fun c59 => ?_) (fun c59 => ?_)
      · skip
        refine aw_iconst dX7_lesserAhead_72 ?_
        refine aw_istore (ls' := [some (rf Γ 9), some _, some _, some _, some _, some _, some _, some _, some _]) dX7_lesserAhead_73 (by decide) rfl ?_
        refine aw_iload dX7_lesserAhead_75 rfl ?_
        refine aw_aload_n dX7_lesserAhead_77 rfl ?_
        refine aw_getf fg_X7_28 dX7_lesserAhead_78 (hc9 hnx) rfl ?_
        refine aw_iload dX7_lesserAhead_81 rfl ?_
        refine aw_callV (As := [_]) (ρ := (_, 0, 0)) (kn' := (0, 0)) cv_X7_148 dX7_lesserAhead_83 rfl rfl (hc25 hnx) rfl rfl (Nat.le_of_ble_eq_true rfl) (rmR _ _ _) ⟨Nat.le_refl _, Nat.le_refl _⟩ rfl (c_X3_isTraditional hnx hR (by omega) (fun r83 h83 => ?_))
        rcases h83 with ⟨rfl, h83⟩ | ⟨rfl, h83⟩
        · skip
          refine aw_if_eq (tgt := 98) dX7_lesserAhead_86 rfl (by decide) (fun c => absurd c (by decide)) (fun _ => ?_)
          refine aw_iload dX7_lesserAhead_89 rfl ?_
          refine aw_if_eq (tgt := 98) dX7_lesserAhead_91 rfl (by omega) (fun c91 => ?_) (fun c91 => ?_)
          · skip
            refine aw_iconst dX7_lesserAhead_98 ?_
            refine aw_iadd dX7_lesserAhead_99 ?_
            refine aw_nmI (fun x4_100 hx4_100 => ?_)
            refine aw_istore (ls' := [some (rf Γ 9), some _, some _, some _, some _, some _, some _, some _, some _]) dX7_lesserAhead_100 (by decide) rfl ?_
            refine aw_iinc (ls' := [some (rf Γ 9), some _, some _, some _, some _, some _, some _, some _, some _]) dX7_lesserAhead_102 rfl (by decide) rfl ?_
            refine aw_goto (tgt := 19) dX7_lesserAhead_105 rfl ?_
            refine aw_fg [true, true, true, true, true, true, false, false, false] (ls' := [some (rf Γ 9), some _, some _, some _, some _, some _, none, none, none]) rfl ?_
            exact ih (by omega) x4_100  (by simp only [lah, sm] at i19_0 ⊢; (repeat' split) <;> omega)
          · skip
            refine aw_iconst dX7_lesserAhead_94 ?_
            refine aw_goto (tgt := 99) dX7_lesserAhead_95 rfl ?_
            refine aw_iadd dX7_lesserAhead_99 ?_
            refine aw_nmI (fun x4_100 hx4_100 => ?_)
            refine aw_istore (ls' := [some (rf Γ 9), some _, some _, some _, some _, some _, some _, some _, some _]) dX7_lesserAhead_100 (by decide) rfl ?_
            refine aw_iinc (ls' := [some (rf Γ 9), some _, some _, some _, some _, some _, some _, some _, some _]) dX7_lesserAhead_102 rfl (by decide) rfl ?_
            refine aw_goto (tgt := 19) dX7_lesserAhead_105 rfl ?_
            refine aw_fg [true, true, true, true, true, true, false, false, false] (ls' := [some (rf Γ 9), some _, some _, some _, some _, some _, none, none, none]) rfl ?_
            exact ih (by omega) x4_100  (by simp only [lah, sm] at i19_0 ⊢; (repeat' split) <;> omega)
        · skip
          refine aw_if_eq (tgt := 98) dX7_lesserAhead_86 rfl (by decide) (fun _ => ?_) (fun c => absurd c (by decide))
          refine aw_iconst dX7_lesserAhead_98 ?_
          refine aw_iadd dX7_lesserAhead_99 ?_
          refine aw_nmI (fun x4_100 hx4_100 => ?_)
          refine aw_istore (ls' := [some (rf Γ 9), some _, some _, some _, some _, some _, some _, some _, some _]) dX7_lesserAhead_100 (by decide) rfl ?_
          refine aw_iinc (ls' := [some (rf Γ 9), some _, some _, some _, some _, some _, some _, some _, some _]) dX7_lesserAhead_102 rfl (by decide) rfl ?_
          refine aw_goto (tgt := 19) dX7_lesserAhead_105 rfl ?_
          refine aw_fg [true, true, true, true, true, true, false, false, false] (ls' := [some (rf Γ 9), some _, some _, some _, some _, some _, none, none, none]) rfl ?_
          exact ih (by omega) x4_100  (by simp only [lah, sm] at i19_0 ⊢; (repeat' split) <;> omega)
      · skip
        refine aw_iload dX7_lesserAhead_62 rfl ?_
        refine aw_iload_n dX7_lesserAhead_64 rfl ?_
        refine aw_icmp_ge (tgt := 72) dX7_lesserAhead_65 rfl (by omega) (fun c65 => ?_) (fun c65 => ?_)
        · skip
          refine aw_iconst dX7_lesserAhead_72 ?_
          refine aw_istore (ls' := [some (rf Γ 9), some _, some _, some _, some _, some _, some _, some _, some _]) dX7_lesserAhead_73 (by decide) rfl ?_
          refine aw_iload dX7_lesserAhead_75 rfl ?_
          refine aw_aload_n dX7_lesserAhead_77 rfl ?_
          refine aw_getf fg_X7_28 dX7_lesserAhead_78 (hc9 hnx) rfl ?_
          refine aw_iload dX7_lesserAhead_81 rfl ?_
          refine aw_callV (As := [_]) (ρ := (_, 0, 0)) (kn' := (0, 0)) cv_X7_148 dX7_lesserAhead_83 rfl rfl (hc25 hnx) rfl rfl (Nat.le_of_ble_eq_true rfl) (rmR _ _ _) ⟨Nat.le_refl _, Nat.le_refl _⟩ rfl (c_X3_isTraditional hnx hR (by omega) (fun r83 h83 => ?_))
          rcases h83 with ⟨rfl, h83⟩ | ⟨rfl, h83⟩
          · skip
            refine aw_if_eq (tgt := 98) dX7_lesserAhead_86 rfl (by decide) (fun c => absurd c (by decide)) (fun _ => ?_)
            refine aw_iload dX7_lesserAhead_89 rfl ?_
            refine aw_if_eq (tgt := 98) dX7_lesserAhead_91 rfl (by omega) (fun c91 => ?_) (fun c91 => ?_)
            · skip
              refine aw_iconst dX7_lesserAhead_98 ?_
              refine aw_iadd dX7_lesserAhead_99 ?_
              refine aw_nmI (fun x4_100 hx4_100 => ?_)
              refine aw_istore (ls' := [some (rf Γ 9), some _, some _, some _, some _, some _, some _, some _, some _]) dX7_lesserAhead_100 (by decide) rfl ?_
              refine aw_iinc (ls' := [some (rf Γ 9), some _, some _, some _, some _, some _, some _, some _, some _]) dX7_lesserAhead_102 rfl (by decide) rfl ?_
              refine aw_goto (tgt := 19) dX7_lesserAhead_105 rfl ?_
              refine aw_fg [true, true, true, true, true, true, false, false, false] (ls' := [some (rf Γ 9), some _, some _, some _, some _, some _, none, none, none]) rfl ?_
              exact ih (by omega) x4_100  (by simp only [lah, sm] at i19_0 ⊢; (repeat' split) <;> omega)
            · skip
              refine aw_iconst dX7_lesserAhead_94 ?_
              refine aw_goto (tgt := 99) dX7_lesserAhead_95 rfl ?_
              refine aw_iadd dX7_lesserAhead_99 ?_
              refine aw_nmI (fun x4_100 hx4_100 => ?_)
              refine aw_istore (ls' := [some (rf Γ 9), some _, some _, some _, some _, some _, some _, some _, some _]) dX7_lesserAhead_100 (by decide) rfl ?_
              refine aw_iinc (ls' := [some (rf Γ 9), some _, some _, some _, some _, some _, some _, some _, some _]) dX7_lesserAhead_102 rfl (by decide) rfl ?_
              refine aw_goto (tgt := 19) dX7_lesserAhead_105 rfl ?_
              refine aw_fg [true, true, true, true, true, true, false, false, false] (ls' := [some (rf Γ 9), some _, some _, some _, some _, some _, none, none, none]) rfl ?_
              exact ih (by omega) x4_100  (by simp only [lah, sm] at i19_0 ⊢; (repeat' split) <;> omega)
          · skip
            refine aw_if_eq (tgt := 98) dX7_lesserAhead_86 rfl (by decide) (fun _ => ?_) (fun c => absurd c (by decide))
            refine aw_iconst dX7_lesserAhead_98 ?_
            refine aw_iadd dX7_lesserAhead_99 ?_
            refine aw_nmI (fun x4_100 hx4_100 => ?_)
            refine aw_istore (ls' := [some (rf Γ 9), some _, some _, some _, some _, some _, some _, some _, some _]) dX7_lesserAhead_100 (by decide) rfl ?_
            refine aw_iinc (ls' := [some (rf Γ 9), some _, some _, some _, some _, some _, some _, some _, some _]) dX7_lesserAhead_102 rfl (by decide) rfl ?_
            refine aw_goto (tgt := 19) dX7_lesserAhead_105 rfl ?_
            refine aw_fg [true, true, true, true, true, true, false, false, false] (ls' := [some (rf Γ 9), some _, some _, some _, some _, some _, none, none, none]) rfl ?_
            exact ih (by omega) x4_100  (by simp only [lah, sm] at i19_0 ⊢; (repeat' split) <;> omega)
        · skip
          refine aw_iconst dX7_lesserAhead_68 ?_
          refine aw_goto (tgt := 73) dX7_lesserAhead_69 rfl ?_
          refine aw_istore (ls' := [some (rf Γ 9), some _, some _, some _, some _, some _, some _, some _, some _]) dX7_lesserAhead_73 (by decide) rfl ?_
          refine aw_iload dX7_lesserAhead_75 rfl ?_
          refine aw_aload_n dX7_lesserAhead_77 rfl ?_
          refine aw_getf fg_X7_28 dX7_lesserAhead_78 (hc9 hnx) rfl ?_
          refine aw_iload dX7_lesserAhead_81 rfl ?_
          refine aw_callV (As := [_]) (ρ := (_, 0, 0)) (kn' := (0, 0)) cv_X7_148 dX7_lesserAhead_83 rfl rfl (hc25 hnx) rfl rfl (Nat.le_of_ble_eq_true rfl) (rmR _ _ _) ⟨Nat.le_refl _, Nat.le_refl _⟩ rfl (c_X3_isTraditional hnx hR (by omega) (fun r83 h83 => ?_))
          rcases h83 with ⟨rfl, h83⟩ | ⟨rfl, h83⟩
          · skip
            refine aw_if_eq (tgt := 98) dX7_lesserAhead_86 rfl (by decide) (fun c => absurd c (by decide)) (fun _ => ?_)
            refine aw_iload dX7_lesserAhead_89 rfl ?_
            refine aw_if_eq (tgt := 98) dX7_lesserAhead_91 rfl (by omega) (fun c91 => ?_) (fun c91 => ?_)
            · skip
              refine aw_iconst dX7_lesserAhead_98 ?_
              refine aw_iadd dX7_lesserAhead_99 ?_
              refine aw_nmI (fun x4_100 hx4_100 => ?_)
              refine aw_istore (ls' := [some (rf Γ 9), some _, some _, some _, some _, some _, some _, some _, some _]) dX7_lesserAhead_100 (by decide) rfl ?_
              refine aw_iinc (ls' := [some (rf Γ 9), some _, some _, some _, some _, some _, some _, some _, some _]) dX7_lesserAhead_102 rfl (by decide) rfl ?_
              refine aw_goto (tgt := 19) dX7_lesserAhead_105 rfl ?_
              refine aw_fg [true, true, true, true, true, true, false, false, false] (ls' := [some (rf Γ 9), some _, some _, some _, some _, some _, none, none, none]) rfl ?_
              exact ih (by omega) x4_100  (by simp only [lah, sm] at i19_0 ⊢; (repeat' split) <;> omega)
            · skip
              refine aw_iconst dX7_lesserAhead_94 ?_
              refine aw_goto (tgt := 99) dX7_lesserAhead_95 rfl ?_
              refine aw_iadd dX7_lesserAhead_99 ?_
              refine aw_nmI (fun x4_100 hx4_100 => ?_)
              refine aw_istore (ls' := [some (rf Γ 9), some _, some _, some _, some _, some _, some _, some _, some _]) dX7_lesserAhead_100 (by decide) rfl ?_
              refine aw_iinc (ls' := [some (rf Γ 9), some _, some _, some _, some _, some _, some _, some _, some _]) dX7_lesserAhead_102 rfl (by decide) rfl ?_
              refine aw_goto (tgt := 19) dX7_lesserAhead_105 rfl ?_
              refine aw_fg [true, true, true, true, true, true, false, false, false] (ls' := [some (rf Γ 9), some _, some _, some _, some _, some _, none, none, none]) rfl ?_
              exact ih (by omega) x4_100  (by simp only [lah, sm] at i19_0 ⊢; (repeat' split) <;> omega)
          · skip
            refine aw_if_eq (tgt := 98) dX7_lesserAhead_86 rfl (by decide) (fun _ => ?_) (fun c => absurd c (by decide))
            refine aw_iconst dX7_lesserAhead_98 ?_
            refine aw_iadd dX7_lesserAhead_99 ?_
            refine aw_nmI (fun x4_100 hx4_100 => ?_)
            refine aw_istore (ls' := [some (rf Γ 9), some _, some _, some _, some _, some _, some _, some _, some _]) dX7_lesserAhead_100 (by decide) rfl ?_
            refine aw_iinc (ls' := [some (rf Γ 9), some _, some _, some _, some _, some _, some _, some _, some _]) dX7_lesserAhead_102 rfl (by decide) rfl ?_
            refine aw_goto (tgt := 19) dX7_lesserAhead_105 rfl ?_
            refine aw_fg [true, true, true, true, true, true, false, false, false] (ls' := [some (rf Γ 9), some _, some _, some _, some _, some _, none, none, none]) rfl ?_
            exact ih (by omega) x4_100  (by simp only [lah, sm] at i19_0 ⊢; (repeat' split) <;> omega)

set_option maxHeartbeats 1000000 in
theorem c_X7_shareBy {Γ : GT} {S T U V : St} {G : Gw} {nx d : Nat} {Q : QT} (hnx : 52 ≤ nx) {i j a q : Int} (hI : Inv0 S) (hi : 0 ≤ i ∧ i < S 27 0)(hj : 0 ≤ j ∧ j < S 26 0) (ha : (0 ≤ a ∧ a ≤ 100) ∧ 0 ≤ q ∧ q ≤ 99999) (hQ : ∀ r, r = shr S i j a q → Q (some (vi r)) (hp Γ S T U V G) nx) : AM Γ MX7_shareBy (d + 2, 0, 0) [rf Γ 9, vi i, vi j, vi a, vi q] (hp Γ S T U V G) nx Q := by
  refine am_of (by decide) (Nat.le_of_ble_eq_true rfl) (ls := [some (rf Γ 9), some _, some _, some _, some _, none, none, none, none, none]) rfl ?_
  have hR := hI.1
  have i1 := hI.2.1
  have i2 := hI.2.2.1
  have hkS : nS S = (S 28 0).toNat := rfl
  have hkI : nIm S = (S 27 0).toNat := rfl
  have hkO : nOr S = (S 26 0).toNat := rfl
  have m1 := hI.old (p := 4 * i + j) (by omega)
  have m2 := mul_rg ha.1 ha.2
  refine aw_iload_n dX7_shareBy_0 rfl ?_
  refine aw_iload_n dX7_shareBy_1 rfl ?_
  refine aw_callSN (As := [_, _]) (ρ := (_, 0, 0)) (kn' := (0, 0)) cs_X7_123 dX7_shareBy_2 rfl rfl (Nat.le_of_ble_eq_true rfl) (rmR _ _ _) ⟨Nat.le_refl _, Nat.le_refl _⟩ rfl (c_X10_pairOf hnx  (fun r2 h2 => ?_))
  refine aw_istore (ls' := [some (rf Γ 9), some _, some _, some _, some _, some _, none, none, none, none]) dX7_shareBy_5 (by decide) rfl ?_
  subst h2
  refine aw_aload_n dX7_shareBy_7 rfl ?_
  refine aw_getf fg_X7_28 dX7_shareBy_8 (hc9 hnx) rfl ?_
  refine aw_iload dX7_shareBy_11 rfl ?_
  refine aw_callV (As := [_]) (ρ := (_, 0, 0)) (kn' := (0, 0)) cv_X7_148 dX7_shareBy_13 rfl rfl (hc25 hnx) rfl rfl (Nat.le_of_ble_eq_true rfl) (rmR _ _ _) ⟨Nat.le_refl _, Nat.le_refl _⟩ rfl (c_X3_isTraditional hnx hR (by omega) (fun r13 h13 => ?_))
  rcases h13 with ⟨rfl, h13⟩ | ⟨rfl, h13⟩
  · skip
    refine aw_if_ne (tgt := 21) dX7_shareBy_16 rfl (by decide) (fun _ => ?_) (fun c => absurd c (by decide))
    refine aw_lconst0 dX7_shareBy_21 ?_
    refine aw_lstore (ls' := [some (rf Γ 9), some _, some _, some _, some _, some _, some _, none, none, none]) dX7_shareBy_22 (by decide) rfl ?_
    refine aw_iconst dX7_shareBy_24 ?_
    refine aw_istore (ls' := [some (rf Γ 9), some _, some _, some _, some _, some _, some _, none, some _, none]) dX7_shareBy_25 (by decide) rfl ?_
    refine loopN (nIm S) (P := fun k => ∀ (x : Int) , x = allT S j k →  AW Γ MX7_shareBy _ _ (0, 0) 27 [some (rf Γ 9), some (vi i), some (vi j), some (vi a), some (vi q), some (vi (4 * i + j)), some (vl x), none, some (vi (k : Int)), none] [] (hp Γ S T U V G) nx) (fun k hk ih => ?_) 0 (Nat.zero_le _) _ rfl
    intro x i27_0
    refine aw_iload dX7_shareBy_27 rfl ?_
    refine aw_aload_n dX7_shareBy_29 rfl ?_
    refine aw_getf fg_X7_12 dX7_shareBy_30 (hc9 hnx) rfl ?_
    refine aw_getf fg_X7_94 dX7_shareBy_33 (hc10 hnx) rfl ?_
    refine aw_icmp_ge (tgt := 84) dX7_shareBy_36 rfl (by omega) (fun c36 => ?_) (fun c36 => ?_)
    · skip
      obtain rfl : k = nIm S := by omega
      refine aw_iload_n dX7_shareBy_84 rfl ?_
      refine aw_iload dX7_shareBy_85 rfl ?_
      refine aw_imul dX7_shareBy_87 ?_
      refine aw_bipush dX7_shareBy_88 rfl ?_
      refine aw_idiv dX7_shareBy_90 (by omega) (by omega) ?_
      refine aw_aload_n dX7_shareBy_91 rfl ?_
      refine aw_getf fg_X7_12 dX7_shareBy_92 (hc9 hnx) rfl ?_
      refine aw_iload dX7_shareBy_95 rfl ?_
      refine aw_callV (As := [_]) (ρ := (_, 0, 0)) (kn' := (0, 0)) cv_X7_151 dX7_shareBy_97 rfl rfl (hc10 hnx) rfl rfl (Nat.le_of_ble_eq_true rfl) (rmR _ _ _) ⟨Nat.le_refl _, Nat.le_refl _⟩ rfl (c_X5_inOldYears hnx hR (by omega) (fun r97 h97 => ?_))
      subst h97
      subst i27_0
      have m4 := hI.allT (o := j) (by omega) (nIm S) (by omega)
      have m5 := mul_rg (a := a * q / 100) (b := old S (4 * i + j)) (A := 99999) (B := 153598464) ⟨by omega, by omega⟩ m1
      refine aw_lload dX7_shareBy_100 rfl ?_
      refine aw_callSN (As := [_, _, _]) (ρ := (_, 0, 0)) (kn' := (0, 0)) cs_X7_154 dX7_shareBy_102 rfl rfl (Nat.le_of_ble_eq_true rfl) (rmR _ _ _) ⟨Nat.le_refl _, Nat.le_refl _⟩ rfl (c_X10_partOfAll hnx (by omega) (by omega) (by omega) (fun r102 h102 => ?_))
      exact aw_ireturn dX7_shareBy_105 rfl rfl ⟨Nat.le_refl _, Nat.le_refl _⟩ (hQ _ (by unfold shr; rw [if_pos (by omega)]; subst h102; rfl))
    · skip
      refine aw_iload dX7_shareBy_39 rfl ?_
      refine aw_iload_n dX7_shareBy_41 rfl ?_
      refine aw_callSN (As := [_, _]) (ρ := (_, 0, 0)) (kn' := (0, 0)) cs_X7_123 dX7_shareBy_42 rfl rfl (Nat.le_of_ble_eq_true rfl) (rmR _ _ _) ⟨Nat.le_refl _, Nat.le_refl _⟩ rfl (c_X10_pairOf hnx  (fun r42 h42 => ?_))
      refine aw_istore (ls' := [some (rf Γ 9), some _, some _, some _, some _, some _, some _, none, some _, some _]) dX7_shareBy_45 (by decide) rfl ?_
      subst h42
      refine aw_lload dX7_shareBy_47 rfl ?_
      refine aw_aload_n dX7_shareBy_49 rfl ?_
      refine aw_getf fg_X7_28 dX7_shareBy_50 (hc9 hnx) rfl ?_
      refine aw_iload dX7_shareBy_53 rfl ?_
      refine aw_callV (As := [_]) (ρ := (_, 0, 0)) (kn' := (0, 0)) cv_X7_148 dX7_shareBy_55 rfl rfl (hc25 hnx) rfl rfl (Nat.le_of_ble_eq_true rfl) (rmR _ _ _) ⟨Nat.le_refl _, Nat.le_refl _⟩ rfl (c_X3_isTraditional hnx hR (by omega) (fun r55 h55 => ?_))
      rcases h55 with ⟨rfl, h55⟩ | ⟨rfl, h55⟩
      · skip
        refine aw_if_eq (tgt := 74) dX7_shareBy_58 rfl (by decide) (fun c => absurd c (by decide)) (fun _ => ?_)
        refine aw_aload_n dX7_shareBy_61 rfl ?_
        refine aw_getf fg_X7_12 dX7_shareBy_62 (hc9 hnx) rfl ?_
        refine aw_iload dX7_shareBy_65 rfl ?_
        refine aw_callV (As := [_]) (ρ := (_, 0, 0)) (kn' := (0, 0)) cv_X7_151 dX7_shareBy_67 rfl rfl (hc10 hnx) rfl rfl (Nat.le_of_ble_eq_true rfl) (rmR _ _ _) ⟨Nat.le_refl _, Nat.le_refl _⟩ rfl (c_X5_inOldYears hnx hR (by omega) (fun r67 h67 => ?_))
        subst h67
        have m3 := hI.old (p := 4 * (k : Int) + j) (by omega)
        refine aw_i2l dX7_shareBy_70 (by omega) ?_
        refine aw_goto (tgt := 75) dX7_shareBy_71 rfl ?_
        refine aw_ladd dX7_shareBy_75 ?_
        refine aw_nmL (fun x6_76 hx6_76 => ?_)
        refine aw_lstore (ls' := [some (rf Γ 9), some _, some _, some _, some _, some _, some _, none, some _, some _]) dX7_shareBy_76 (by decide) rfl ?_
        refine aw_iinc (ls' := [some (rf Γ 9), some _, some _, some _, some _, some _, some _, none, some _, some _]) dX7_shareBy_78 rfl (by decide) rfl ?_
        refine aw_goto (tgt := 27) dX7_shareBy_81 rfl ?_
        refine aw_fg [true, true, true, true, true, true, true, true, true, false] (ls' := [some (rf Γ 9), some _, some _, some _, some _, some _, some _, none, some _, none]) rfl ?_
        exact ih (by omega) x6_76  (by simp only [allT, sm] at i27_0 ⊢; (repeat' split) <;> omega)
      · skip
        refine aw_if_eq (tgt := 74) dX7_shareBy_58 rfl (by decide) (fun _ => ?_) (fun c => absurd c (by decide))
        refine aw_lconst0 dX7_shareBy_74 ?_
        refine aw_ladd dX7_shareBy_75 ?_
        refine aw_nmL (fun x6_76 hx6_76 => ?_)
        refine aw_lstore (ls' := [some (rf Γ 9), some _, some _, some _, some _, some _, some _, none, some _, some _]) dX7_shareBy_76 (by decide) rfl ?_
        refine aw_iinc (ls' := [some (rf Γ 9), some _, some _, some _, some _, some _, some _, none, some _, some _]) dX7_shareBy_78 rfl (by decide) rfl ?_
        refine aw_goto (tgt := 27) dX7_shareBy_81 rfl ?_
        refine aw_fg [true, true, true, true, true, true, true, true, true, false] (ls' := [some (rf Γ 9), some _, some _, some _, some _, some _, some _, none, some _, none]) rfl ?_
        exact ih (by omega) x6_76  (by simp only [allT, sm] at i27_0 ⊢; (repeat' split) <;> omega)
  · skip
    refine aw_if_ne (tgt := 21) dX7_shareBy_16 rfl (by decide) (fun c => absurd c (by decide)) (fun _ => ?_)
    refine aw_iconst dX7_shareBy_19 ?_
    exact aw_ireturn dX7_shareBy_20 rfl rfl ⟨Nat.le_refl _, Nat.le_refl _⟩ (hQ _ (by unfold shr; rw [if_neg (by omega)]))

set_option maxHeartbeats 1000000 in
theorem c_X7_countsNextYear {Γ : GT} {S T U V : St} {G : Gw} {nx d : Nat} {Q : QT} (hnx : 52 ≤ nx) {p : Int} {c : Int} (hI : Inv c S) (hp32 : 0 ≤ p ∧ p < 32) (hQ : ∀ r, r = cny S p → Q (some (vi r)) (hp Γ S T U V G) nx) : AM Γ MX7_countsNextYear (d + 1, 0, 0) [rf Γ 9, vi p] (hp Γ S T U V G) nx Q := by
  refine am_of (by decide) (Nat.le_of_ble_eq_true rfl) (ls := [some (rf Γ 9), some _, none, none, none, none]) rfl ?_
  have hR := hI.R
  have i1 := hI.i1
  have hz : 0 ≤ S 28 0 ∧ S 28 0 ≤ 60 := i1.2.2.1
  have hkS : nS S = (S 28 0).toNat := rfl
  have hkI : nIm S = (S 27 0).toNat := rfl
  have hkO : nOr S = (S 26 0).toNat := rfl
  have t5 := hR 0 (by decide) 5
  have q0 := hR 2 (by decide) (p * 3 + 0)
  have q1 := hR 2 (by decide) (p * 3 + 1)
  refine aw_aload_n dX7_countsNextYear_0 rfl ?_
  refine aw_getf fg_X7_35 dX7_countsNextYear_1 (hc9 hnx) rfl ?_
  refine aw_getf fg_X7_161 dX7_countsNextYear_4 (hc32 hnx) rfl ?_
  refine aw_iload_n dX7_countsNextYear_7 rfl ?_
  refine aw_ialdr dX7_countsNextYear_8 (hc33 hnx) (by omega) (by decide) (hR 20 (by decide)) (fun q8 => ?_)
  refine aw_nmI (fun x2_9 hx2_9 => ?_)
  refine aw_istore_n (ls' := [some (rf Γ 9), some _, some _, none, none, none]) dX7_countsNextYear_9 (by decide) rfl ?_
  refine aw_aload_n dX7_countsNextYear_10 rfl ?_
  refine aw_getf fg_X7_12 dX7_countsNextYear_11 (hc9 hnx) rfl ?_
  refine aw_iload_n dX7_countsNextYear_14 rfl ?_
  refine aw_iconst dX7_countsNextYear_15 ?_
  refine aw_callV (As := [_, _]) (ρ := (_, 0, 0)) (kn' := (0, 0)) cv_X7_164 dX7_countsNextYear_16 rfl rfl (hc10 hnx) rfl rfl (Nat.le_of_ble_eq_true rfl) (rmR _ _ _) ⟨Nat.le_refl _, Nat.le_refl _⟩ rfl (c_X5_inYear hnx hR (by omega) (by omega) (fun r16 h16 => ?_))
  subst h16
  refine aw_istore_n (ls' := [some (rf Γ 9), some _, some _, some _, none, none]) dX7_countsNextYear_19 (by decide) rfl ?_
  refine aw_aload_n dX7_countsNextYear_20 rfl ?_
  refine aw_getf fg_X7_12 dX7_countsNextYear_21 (hc9 hnx) rfl ?_
  refine aw_iload_n dX7_countsNextYear_24 rfl ?_
  refine aw_iconst dX7_countsNextYear_25 ?_
  refine aw_callV (As := [_, _]) (ρ := (_, 0, 0)) (kn' := (0, 0)) cv_X7_164 dX7_countsNextYear_26 rfl rfl (hc10 hnx) rfl rfl (Nat.le_of_ble_eq_true rfl) (rmR _ _ _) ⟨Nat.le_refl _, Nat.le_refl _⟩ rfl (c_X5_inYear hnx hR (by omega) (by omega) (fun r26 h26 => ?_))
  subst h26
  refine aw_istore (ls' := [some (rf Γ 9), some _, some _, some _, some _, none]) dX7_countsNextYear_29 (by decide) rfl ?_
  refine aw_iload_n dX7_countsNextYear_31 rfl ?_
  refine aw_if_le (tgt := 39) dX7_countsNextYear_32 rfl (by omega) (fun c32 => ?_) (fun c32 => ?_)
  · skip
    refine aw_iconst dX7_countsNextYear_39 ?_
    refine aw_iload_n dX7_countsNextYear_40 rfl ?_
    refine aw_if_le (tgt := 48) dX7_countsNextYear_41 rfl (by omega) (fun c41 => ?_) (fun c41 => ?_)
    · skip
      refine aw_iconst dX7_countsNextYear_48 ?_
      refine aw_iadd dX7_countsNextYear_49 ?_
      refine aw_iload dX7_countsNextYear_50 rfl ?_
      refine aw_if_le (tgt := 59) dX7_countsNextYear_52 rfl (by omega) (fun c52 => ?_) (fun c52 => ?_)
      · skip
        refine aw_iconst dX7_countsNextYear_59 ?_
        refine aw_iadd dX7_countsNextYear_60 ?_
        refine aw_nmI (fun x5_61 hx5_61 => ?_)
        refine aw_istore (ls' := [some (rf Γ 9), some _, some _, some _, some _, some _]) dX7_countsNextYear_61 (by decide) rfl ?_
        refine aw_iload dX7_countsNextYear_63 rfl ?_
        refine aw_aload_n dX7_countsNextYear_65 rfl ?_
        refine aw_getf fg_X7_12 dX7_countsNextYear_66 (hc9 hnx) rfl ?_
        refine aw_getf fg_X7_132 dX7_countsNextYear_69 (hc10 hnx) rfl ?_
        refine aw_iconst dX7_countsNextYear_72 ?_
        refine aw_ialdr dX7_countsNextYear_73 (hc11 hnx) (by omega) (by decide) (hR 0 (by decide)) (fun q73 => ?_)
        refine aw_icmp_lt (tgt := 86) dX7_countsNextYear_74 rfl (by omega) (fun c74 => ?_) (fun c74 => ?_)
        · skip
          refine aw_iconst dX7_countsNextYear_86 ?_
          exact aw_ireturn dX7_countsNextYear_87 rfl rfl ⟨Nat.le_refl _, Nat.le_refl _⟩ (hQ _ (by subst hx2_9; simp only [cny, b1]; (repeat' split) <;> omega))
        · skip
          refine aw_iload_n dX7_countsNextYear_77 rfl ?_
          refine aw_iload_n dX7_countsNextYear_78 rfl ?_
          refine aw_iadd dX7_countsNextYear_79 ?_
          refine aw_iload dX7_countsNextYear_80 rfl ?_
          refine aw_iadd dX7_countsNextYear_82 ?_
          refine aw_goto (tgt := 87) dX7_countsNextYear_83 rfl ?_
          exact aw_ireturn dX7_countsNextYear_87 rfl rfl ⟨Nat.le_refl _, Nat.le_refl _⟩ (hQ _ (by subst hx2_9; simp only [cny, b1]; (repeat' split) <;> omega))
      · skip
        refine aw_iconst dX7_countsNextYear_55 ?_
        refine aw_goto (tgt := 60) dX7_countsNextYear_56 rfl ?_
        refine aw_iadd dX7_countsNextYear_60 ?_
        refine aw_nmI (fun x5_61 hx5_61 => ?_)
        refine aw_istore (ls' := [some (rf Γ 9), some _, some _, some _, some _, some _]) dX7_countsNextYear_61 (by decide) rfl ?_
        refine aw_iload dX7_countsNextYear_63 rfl ?_
        refine aw_aload_n dX7_countsNextYear_65 rfl ?_
        refine aw_getf fg_X7_12 dX7_countsNextYear_66 (hc9 hnx) rfl ?_
        refine aw_getf fg_X7_132 dX7_countsNextYear_69 (hc10 hnx) rfl ?_
        refine aw_iconst dX7_countsNextYear_72 ?_
        refine aw_ialdr dX7_countsNextYear_73 (hc11 hnx) (by omega) (by decide) (hR 0 (by decide)) (fun q73 => ?_)
        refine aw_icmp_lt (tgt := 86) dX7_countsNextYear_74 rfl (by omega) (fun c74 => ?_) (fun c74 => ?_)
        · skip
          refine aw_iconst dX7_countsNextYear_86 ?_
          exact aw_ireturn dX7_countsNextYear_87 rfl rfl ⟨Nat.le_refl _, Nat.le_refl _⟩ (hQ _ (by subst hx2_9; simp only [cny, b1]; (repeat' split) <;> omega))
        · skip
          refine aw_iload_n dX7_countsNextYear_77 rfl ?_
          refine aw_iload_n dX7_countsNextYear_78 rfl ?_
          refine aw_iadd dX7_countsNextYear_79 ?_
          refine aw_iload dX7_countsNextYear_80 rfl ?_
          refine aw_iadd dX7_countsNextYear_82 ?_
          refine aw_goto (tgt := 87) dX7_countsNextYear_83 rfl ?_
          exact aw_ireturn dX7_countsNextYear_87 rfl rfl ⟨Nat.le_refl _, Nat.le_refl _⟩ (hQ _ (by subst hx2_9; simp only [cny, b1]; (repeat' split) <;> omega))
    · skip
      refine aw_iconst dX7_countsNextYear_44 ?_
      refine aw_goto (tgt := 49) dX7_countsNextYear_45 rfl ?_
      refine aw_iadd dX7_countsNextYear_49 ?_
      refine aw_iload dX7_countsNextYear_50 rfl ?_
      refine aw_if_le (tgt := 59) dX7_countsNextYear_52 rfl (by omega) (fun c52 => ?_) (fun c52 => ?_)
      · skip
        refine aw_iconst dX7_countsNextYear_59 ?_
        refine aw_iadd dX7_countsNextYear_60 ?_
        refine aw_nmI (fun x5_61 hx5_61 => ?_)
        refine aw_istore (ls' := [some (rf Γ 9), some _, some _, some _, some _, some _]) dX7_countsNextYear_61 (by decide) rfl ?_
        refine aw_iload dX7_countsNextYear_63 rfl ?_
        refine aw_aload_n dX7_countsNextYear_65 rfl ?_
        refine aw_getf fg_X7_12 dX7_countsNextYear_66 (hc9 hnx) rfl ?_
        refine aw_getf fg_X7_132 dX7_countsNextYear_69 (hc10 hnx) rfl ?_
        refine aw_iconst dX7_countsNextYear_72 ?_
        refine aw_ialdr dX7_countsNextYear_73 (hc11 hnx) (by omega) (by decide) (hR 0 (by decide)) (fun q73 => ?_)
        refine aw_icmp_lt (tgt := 86) dX7_countsNextYear_74 rfl (by omega) (fun c74 => ?_) (fun c74 => ?_)
        · skip
          refine aw_iconst dX7_countsNextYear_86 ?_
          exact aw_ireturn dX7_countsNextYear_87 rfl rfl ⟨Nat.le_refl _, Nat.le_refl _⟩ (hQ _ (by subst hx2_9; simp only [cny, b1]; (repeat' split) <;> omega))
        · skip
          refine aw_iload_n dX7_countsNextYear_77 rfl ?_
          refine aw_iload_n dX7_countsNextYear_78 rfl ?_
          refine aw_iadd dX7_countsNextYear_79 ?_
          refine aw_iload dX7_countsNextYear_80 rfl ?_
          refine aw_iadd dX7_countsNextYear_82 ?_
          refine aw_goto (tgt := 87) dX7_countsNextYear_83 rfl ?_
          exact aw_ireturn dX7_countsNextYear_87 rfl rfl ⟨Nat.le_refl _, Nat.le_refl _⟩ (hQ _ (by subst hx2_9; simp only [cny, b1]; (repeat' split) <;> omega))
      · skip
        refine aw_iconst dX7_countsNextYear_55 ?_
        refine aw_goto (tgt := 60) dX7_countsNextYear_56 rfl ?_
        refine aw_iadd dX7_countsNextYear_60 ?_
        refine aw_nmI (fun x5_61 hx5_61 => ?_)
        refine aw_istore (ls' := [some (rf Γ 9), some _, some _, some _, some _, some _]) dX7_countsNextYear_61 (by decide) rfl ?_
        refine aw_iload dX7_countsNextYear_63 rfl ?_
        refine aw_aload_n dX7_countsNextYear_65 rfl ?_
        refine aw_getf fg_X7_12 dX7_countsNextYear_66 (hc9 hnx) rfl ?_
        refine aw_getf fg_X7_132 dX7_countsNextYear_69 (hc10 hnx) rfl ?_
        refine aw_iconst dX7_countsNextYear_72 ?_
        refine aw_ialdr dX7_countsNextYear_73 (hc11 hnx) (by omega) (by decide) (hR 0 (by decide)) (fun q73 => ?_)
        refine aw_icmp_lt (tgt := 86) dX7_countsNextYear_74 rfl (by omega) (fun c74 => ?_) (fun c74 => ?_)
        · skip
          refine aw_iconst dX7_countsNextYear_86 ?_
          exact aw_ireturn dX7_countsNextYear_87 rfl rfl ⟨Nat.le_refl _, Nat.le_refl _⟩ (hQ _ (by subst hx2_9; simp only [cny, b1]; (repeat' split) <;> omega))
        · skip
          refine aw_iload_n dX7_countsNextYear_77 rfl ?_
          refine aw_iload_n dX7_countsNextYear_78 rfl ?_
          refine aw_iadd dX7_countsNextYear_79 ?_
          refine aw_iload dX7_countsNextYear_80 rfl ?_
          refine aw_iadd dX7_countsNextYear_82 ?_
          refine aw_goto (tgt := 87) dX7_countsNextYear_83 rfl ?_
          exact aw_ireturn dX7_countsNextYear_87 rfl rfl ⟨Nat.le_refl _, Nat.le_refl _⟩ (hQ _ (by subst hx2_9; simp only [cny, b1]; (repeat' split) <;> omega))
  · skip
    refine aw_iconst dX7_countsNextYear_35 ?_
    refine aw_goto (tgt := 40) dX7_countsNextYear_36 rfl ?_
    refine aw_iload_n dX7_countsNextYear_40 rfl ?_
    refine aw_if_le (tgt := 48) dX7_countsNextYear_41 rfl (by omega) (fun c41 => ?_) (fun c41 => ?_)
    · skip
      refine aw_iconst dX7_countsNextYear_48 ?_
      refine aw_iadd dX7_countsNextYear_49 ?_
      refine aw_iload dX7_countsNextYear_50 rfl ?_
      refine aw_if_le (tgt := 59) dX7_countsNextYear_52 rfl (by omega) (fun c52 => ?_) (fun c52 => ?_)
      · skip
        refine aw_iconst dX7_countsNextYear_59 ?_
        refine aw_iadd dX7_countsNextYear_60 ?_
        refine aw_nmI (fun x5_61 hx5_61 => ?_)
        refine aw_istore (ls' := [some (rf Γ 9), some _, some _, some _, some _, some _]) dX7_countsNextYear_61 (by decide) rfl ?_
        refine aw_iload dX7_countsNextYear_63 rfl ?_
        refine aw_aload_n dX7_countsNextYear_65 rfl ?_
        refine aw_getf fg_X7_12 dX7_countsNextYear_66 (hc9 hnx) rfl ?_
        refine aw_getf fg_X7_132 dX7_countsNextYear_69 (hc10 hnx) rfl ?_
        refine aw_iconst dX7_countsNextYear_72 ?_
        refine aw_ialdr dX7_countsNextYear_73 (hc11 hnx) (by omega) (by decide) (hR 0 (by decide)) (fun q73 => ?_)
        refine aw_icmp_lt (tgt := 86) dX7_countsNextYear_74 rfl (by omega) (fun c74 => ?_) (fun c74 => ?_)
        · skip
          refine aw_iconst dX7_countsNextYear_86 ?_
          exact aw_ireturn dX7_countsNextYear_87 rfl rfl ⟨Nat.le_refl _, Nat.le_refl _⟩ (hQ _ (by subst hx2_9; simp only [cny, b1]; (repeat' split) <;> omega))
        · skip
          refine aw_iload_n dX7_countsNextYear_77 rfl ?_
          refine aw_iload_n dX7_countsNextYear_78 rfl ?_
          refine aw_iadd dX7_countsNextYear_79 ?_
          refine aw_iload dX7_countsNextYear_80 rfl ?_
          refine aw_iadd dX7_countsNextYear_82 ?_
          refine aw_goto (tgt := 87) dX7_countsNextYear_83 rfl ?_
          exact aw_ireturn dX7_countsNextYear_87 rfl rfl ⟨Nat.le_refl _, Nat.le_refl _⟩ (hQ _ (by subst hx2_9; simp only [cny, b1]; (repeat' split) <;> omega))
      · skip
        refine aw_iconst dX7_countsNextYear_55 ?_
        refine aw_goto (tgt := 60) dX7_countsNextYear_56 rfl ?_
        refine aw_iadd dX7_countsNextYear_60 ?_
        refine aw_nmI (fun x5_61 hx5_61 => ?_)
        refine aw_istore (ls' := [some (rf Γ 9), some _, some _, some _, some _, some _]) dX7_countsNextYear_61 (by decide) rfl ?_
        refine aw_iload dX7_countsNextYear_63 rfl ?_
        refine aw_aload_n dX7_countsNextYear_65 rfl ?_
        refine aw_getf fg_X7_12 dX7_countsNextYear_66 (hc9 hnx) rfl ?_
        refine aw_getf fg_X7_132 dX7_countsNextYear_69 (hc10 hnx) rfl ?_
        refine aw_iconst dX7_countsNextYear_72 ?_
        refine aw_ialdr dX7_countsNextYear_73 (hc11 hnx) (by omega) (by decide) (hR 0 (by decide)) (fun q73 => ?_)
        refine aw_icmp_lt (tgt := 86) dX7_countsNextYear_74 rfl (by omega) (fun c74 => ?_) (fun c74 => ?_)
        · skip
          refine aw_iconst dX7_countsNextYear_86 ?_
          exact aw_ireturn dX7_countsNextYear_87 rfl rfl ⟨Nat.le_refl _, Nat.le_refl _⟩ (hQ _ (by subst hx2_9; simp only [cny, b1]; (repeat' split) <;> omega))
        · skip
          refine aw_iload_n dX7_countsNextYear_77 rfl ?_
          refine aw_iload_n dX7_countsNextYear_78 rfl ?_
          refine aw_iadd dX7_countsNextYear_79 ?_
          refine aw_iload dX7_countsNextYear_80 rfl ?_
          refine aw_iadd dX7_countsNextYear_82 ?_
          refine aw_goto (tgt := 87) dX7_countsNextYear_83 rfl ?_
          exact aw_ireturn dX7_countsNextYear_87 rfl rfl ⟨Nat.le_refl _, Nat.le_refl _⟩ (hQ _ (by subst hx2_9; simp only [cny, b1]; (repeat' split) <;> omega))
    · skip
      refine aw_iconst dX7_countsNextYear_44 ?_
      refine aw_goto (tgt := 49) dX7_countsNextYear_45 rfl ?_
      refine aw_iadd dX7_countsNextYear_49 ?_
      refine aw_iload dX7_countsNextYear_50 rfl ?_
      refine aw_if_le (tgt := 59) dX7_countsNextYear_52 rfl (by omega) (fun c52 => ?_) (fun c52 => ?_)
      · skip
        refine aw_iconst dX7_countsNextYear_59 ?_
        refine aw_iadd dX7_countsNextYear_60 ?_
        refine aw_nmI (fun x5_61 hx5_61 => ?_)
        refine aw_istore (ls' := [some (rf Γ 9), some _, some _, some _, some _, some _]) dX7_countsNextYear_61 (by decide) rfl ?_
        refine aw_iload dX7_countsNextYear_63 rfl ?_
        refine aw_aload_n dX7_countsNextYear_65 rfl ?_
        refine aw_getf fg_X7_12 dX7_countsNextYear_66 (hc9 hnx) rfl ?_
        refine aw_getf fg_X7_132 dX7_countsNextYear_69 (hc10 hnx) rfl ?_
        refine aw_iconst dX7_countsNextYear_72 ?_
        refine aw_ialdr dX7_countsNextYear_73 (hc11 hnx) (by omega) (by decide) (hR 0 (by decide)) (fun q73 => ?_)
        refine aw_icmp_lt (tgt := 86) dX7_countsNextYear_74 rfl (by omega) (fun c74 => ?_) (fun c74 => ?_)
        · skip
          refine aw_iconst dX7_countsNextYear_86 ?_
          exact aw_ireturn dX7_countsNextYear_87 rfl rfl ⟨Nat.le_refl _, Nat.le_refl _⟩ (hQ _ (by subst hx2_9; simp only [cny, b1]; (repeat' split) <;> omega))
        · skip
          refine aw_iload_n dX7_countsNextYear_77 rfl ?_
          refine aw_iload_n dX7_countsNextYear_78 rfl ?_
          refine aw_iadd dX7_countsNextYear_79 ?_
          refine aw_iload dX7_countsNextYear_80 rfl ?_
          refine aw_iadd dX7_countsNextYear_82 ?_
          refine aw_goto (tgt := 87) dX7_countsNextYear_83 rfl ?_
          exact aw_ireturn dX7_countsNextYear_87 rfl rfl ⟨Nat.le_refl _, Nat.le_refl _⟩ (hQ _ (by subst hx2_9; simp only [cny, b1]; (repeat' split) <;> omega))
      · skip
        refine aw_iconst dX7_countsNextYear_55 ?_
        refine aw_goto (tgt := 60) dX7_countsNextYear_56 rfl ?_
        refine aw_iadd dX7_countsNextYear_60 ?_
        refine aw_nmI (fun x5_61 hx5_61 => ?_)
        refine aw_istore (ls' := [some (rf Γ 9), some _, some _, some _, some _, some _]) dX7_countsNextYear_61 (by decide) rfl ?_
        refine aw_iload dX7_countsNextYear_63 rfl ?_
        refine aw_aload_n dX7_countsNextYear_65 rfl ?_
        refine aw_getf fg_X7_12 dX7_countsNextYear_66 (hc9 hnx) rfl ?_
        refine aw_getf fg_X7_132 dX7_countsNextYear_69 (hc10 hnx) rfl ?_
        refine aw_iconst dX7_countsNextYear_72 ?_
        refine aw_ialdr dX7_countsNextYear_73 (hc11 hnx) (by omega) (by decide) (hR 0 (by decide)) (fun q73 => ?_)
        refine aw_icmp_lt (tgt := 86) dX7_countsNextYear_74 rfl (by omega) (fun c74 => ?_) (fun c74 => ?_)
        · skip
          refine aw_iconst dX7_countsNextYear_86 ?_
          exact aw_ireturn dX7_countsNextYear_87 rfl rfl ⟨Nat.le_refl _, Nat.le_refl _⟩ (hQ _ (by subst hx2_9; simp only [cny, b1]; (repeat' split) <;> omega))
        · skip
          refine aw_iload_n dX7_countsNextYear_77 rfl ?_
          refine aw_iload_n dX7_countsNextYear_78 rfl ?_
          refine aw_iadd dX7_countsNextYear_79 ?_
          refine aw_iload dX7_countsNextYear_80 rfl ?_
          refine aw_iadd dX7_countsNextYear_82 ?_
          refine aw_goto (tgt := 87) dX7_countsNextYear_83 rfl ?_
          exact aw_ireturn dX7_countsNextYear_87 rfl rfl ⟨Nat.le_refl _, Nat.le_refl _⟩ (hQ _ (by subst hx2_9; simp only [cny, b1]; (repeat' split) <;> omega))

set_option maxHeartbeats 1000000 in
theorem c_X7_shareNextYear {Γ : GT} {S T U V : St} {G : Gw} {nx d : Nat} {Q : QT} (hnx : 52 ≤ nx) {i j : Int} {c : Int} (hI : Inv c S) (hi : 0 ≤ i ∧ i < S 27 0)(hj : 0 ≤ j ∧ j < S 26 0) (hQ : ∀ r, r = sny S i j → Q (some (vi r)) (hp Γ S T U V G) nx) : AM Γ MX7_shareNextYear (d + 2, 0, 0) [rf Γ 9, vi i, vi j] (hp Γ S T U V G) nx Q := by
  refine am_of (by decide) (Nat.le_of_ble_eq_true rfl) (ls := [some (rf Γ 9), some _, some _, none, none, none]) rfl ?_
  have hR := hI.R
  have i1 := hI.i1
  have hz : 0 ≤ S 28 0 ∧ S 28 0 ≤ 60 := i1.2.2.1
  have hkS : nS S = (S 28 0).toNat := rfl
  have hkI : nIm S = (S 27 0).toNat := rfl
  have hkO : nOr S = (S 26 0).toNat := rfl
  have m1 := hI.cny (p := 4 * i + j) (by omega)
  have t := hI.tm (hI.pos7 hi)
  have qu := hI.qu hj
  have m2 := mul_rg t.1 qu
  refine aw_lconst0 dX7_shareNextYear_0 ?_
  refine aw_lstore_n (ls' := [some (rf Γ 9), some _, some _, some _, none, none]) dX7_shareNextYear_1 (by decide) rfl ?_
  refine aw_iconst dX7_shareNextYear_2 ?_
  refine aw_istore (ls' := [some (rf Γ 9), some _, some _, some _, none, some _]) dX7_shareNextYear_3 (by decide) rfl ?_
  refine loopN (nIm S) (P := fun k => ∀ (x : Int) , x = cnys S j k →  AW Γ MX7_shareNextYear _ _ (0, 0) 5 [some (rf Γ 9), some (vi i), some (vi j), some (vl x), none, some (vi (k : Int))] [] (hp Γ S T U V G) nx) (fun k hk ih => ?_) 0 (Nat.zero_le _) _ rfl
  intro x i5_0
  refine aw_iload dX7_shareNextYear_5 rfl ?_
  refine aw_aload_n dX7_shareNextYear_7 rfl ?_
  refine aw_getf fg_X7_12 dX7_shareNextYear_8 (hc9 hnx) rfl ?_
  refine aw_getf fg_X7_94 dX7_shareNextYear_11 (hc10 hnx) rfl ?_
  refine aw_icmp_ge (tgt := 37) dX7_shareNextYear_14 rfl (by omega) (fun c14 => ?_) (fun c14 => ?_)
  · skip
    obtain rfl : k = nIm S := by omega
    refine aw_aload_n dX7_shareNextYear_37 rfl ?_
    refine aw_getf fg_X7_12 dX7_shareNextYear_38 (hc9 hnx) rfl ?_
    refine aw_getf fg_X7_132 dX7_shareNextYear_41 (hc10 hnx) rfl ?_
    refine aw_iconst dX7_shareNextYear_44 ?_
    refine aw_ialdr dX7_shareNextYear_45 (hc11 hnx) (by omega) (by decide) (hR 0 (by decide)) (fun q45 => ?_)
    refine aw_aload_n dX7_shareNextYear_46 rfl ?_
    refine aw_getf fg_X7_12 dX7_shareNextYear_47 (hc9 hnx) rfl ?_
    refine aw_getf fg_X7_108 dX7_shareNextYear_50 (hc10 hnx) rfl ?_
    refine aw_iload_n dX7_shareNextYear_53 rfl ?_
    refine aw_ialdr dX7_shareNextYear_54 (hc12 hnx) (by omega) (by decide) (hR 1 (by decide)) (fun q54 => ?_)
    refine aw_imul dX7_shareNextYear_55 ?_
    refine aw_bipush dX7_shareNextYear_56 rfl ?_
    refine aw_idiv dX7_shareNextYear_58 (by omega) (by omega) ?_
    refine aw_nmI (fun x5_59 hx5_59 => ?_)
    refine aw_istore (ls' := [some (rf Γ 9), some _, some _, some _, none, some _]) dX7_shareNextYear_59 (by decide) rfl ?_
    refine aw_iload dX7_shareNextYear_61 rfl ?_
    refine aw_aload_n dX7_shareNextYear_63 rfl ?_
    refine aw_iload_n dX7_shareNextYear_64 rfl ?_
    refine aw_iload_n dX7_shareNextYear_65 rfl ?_
    refine aw_callSN (As := [_, _]) (ρ := (_, 0, 0)) (kn' := (0, 0)) cs_X7_123 dX7_shareNextYear_66 rfl rfl (Nat.le_of_ble_eq_true rfl) (rmR _ _ _) ⟨Nat.le_refl _, Nat.le_refl _⟩ rfl (c_X10_pairOf hnx  (fun r66 h66 => ?_))
    subst h66
    refine aw_callV (As := [_]) (ρ := (_, 0, 0)) (kn' := (0, 0)) cv_X7_158 dX7_shareNextYear_69 rfl rfl (hc9 hnx) rfl rfl (Nat.le_of_ble_eq_true rfl) (rmR _ _ _) ⟨Nat.le_refl _, Nat.le_refl _⟩ rfl (c_X7_countsNextYear hnx (p := 4 * i + j) hI (by omega) (fun r69 h69 => ?_))
    subst h69
    subst i5_0
    subst hx5_59
    have m4 := hI.cnys (o := j) (by omega) (nIm S) (by omega)
    have m5 := mul_rg (a := S 0 0 * S 1 j / 100) (b := cny S (4 * i + j)) (A := 99999) (B := 153598464) ⟨by omega, by omega⟩ m1
    refine aw_lload_n dX7_shareNextYear_72 rfl ?_
    refine aw_callSN (As := [_, _, _]) (ρ := (_, 0, 0)) (kn' := (0, 0)) cs_X7_154 dX7_shareNextYear_73 rfl rfl (Nat.le_of_ble_eq_true rfl) (rmR _ _ _) ⟨Nat.le_refl _, Nat.le_refl _⟩ rfl (c_X10_partOfAll hnx (by omega) (by omega) (by omega) (fun r73 h73 => ?_))
    exact aw_ireturn dX7_shareNextYear_76 rfl rfl ⟨Nat.le_refl _, Nat.le_refl _⟩ (hQ _ (by subst h73; rfl))
  · skip
    refine aw_lload_n dX7_shareNextYear_17 rfl ?_
    refine aw_aload_n dX7_shareNextYear_18 rfl ?_
    refine aw_iload dX7_shareNextYear_19 rfl ?_
    refine aw_iload_n dX7_shareNextYear_21 rfl ?_
    refine aw_callSN (As := [_, _]) (ρ := (_, 0, 0)) (kn' := (0, 0)) cs_X7_123 dX7_shareNextYear_22 rfl rfl (Nat.le_of_ble_eq_true rfl) (rmR _ _ _) ⟨Nat.le_refl _, Nat.le_refl _⟩ rfl (c_X10_pairOf hnx  (fun r22 h22 => ?_))
    subst h22
    refine aw_callV (As := [_]) (ρ := (_, 0, 0)) (kn' := (0, 0)) cv_X7_158 dX7_shareNextYear_25 rfl rfl (hc9 hnx) rfl rfl (Nat.le_of_ble_eq_true rfl) (rmR _ _ _) ⟨Nat.le_refl _, Nat.le_refl _⟩ rfl (c_X7_countsNextYear hnx hI (by omega) (fun r25 h25 => ?_))
    have m3 := hI.cny (p := 4 * (k : Int) + j) (by omega)
    subst h25
    refine aw_i2l dX7_shareNextYear_28 (by omega) ?_
    refine aw_ladd dX7_shareNextYear_29 ?_
    refine aw_nmL (fun x3_30 hx3_30 => ?_)
    refine aw_lstore_n (ls' := [some (rf Γ 9), some _, some _, some _, none, some _]) dX7_shareNextYear_30 (by decide) rfl ?_
    refine aw_iinc (ls' := [some (rf Γ 9), some _, some _, some _, none, some _]) dX7_shareNextYear_31 rfl (by decide) rfl ?_
    refine aw_goto (tgt := 5) dX7_shareNextYear_34 rfl ?_
    exact ih (by omega) x3_30  (by simp only [cnys, sm] at i5_0 ⊢; omega)


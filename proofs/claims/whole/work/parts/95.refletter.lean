/-! the reference: the text, written -/
def spv (V : St) (k : Int) (ws : List Int) : St := u0 (sset (u0 V 18 k) 19 (if 0 ≤ k ∧ k < (ws.length : Int) then kf (ws.getD k.toNat 0) else V 19)) 17 ws.length
theorem spv_0 (V : St) (k : Int) : spv V k [] = u0 (u0 V 17 0) 18 k := by
  unfold spv
  rw [if_neg (by show ¬ (0 ≤ k ∧ k < ((0 : Nat) : Int)); omega)]
  funext g j; unfold u0 sset
  by_cases h1 : g = 17
  · subst h1; simp
  · by_cases h2 : g = 19
    · subst h2; simp
    · by_cases h3 : g = 18 <;> simp [h1, h2, h3]
theorem spv_a {V : St} {k : Int} {ws : List Int} {b : Int} (h : (ws.length : Int) = k) : spv V k (ws ++ [b]) = u0 (u0 (spv V k ws) 19 b) 17 ((ws.length : Int) + 1) := by
  unfold spv
  rw [List.length_append, if_pos (by simp; omega), show k.toNat = ws.length by omega]
  funext g j; unfold u0 sset
  by_cases h1 : g = 17
  · subst h1; simp
  · by_cases h2 : g = 19
    · subst h2; simp
    · by_cases h3 : g = 18 <;> simp [h1, h2, h3]
theorem spv_b {V : St} {k : Int} {ws : List Int} {b : Int} (h : ¬ (ws.length : Int) = k) : spv V k (ws ++ [b]) = u0 (spv V k ws) 17 ((ws.length : Int) + 1) := by
  unfold spv
  have e : (if 0 ≤ k ∧ k < ((ws ++ [b]).length : Int) then kf ((ws ++ [b]).getD k.toNat 0) else V 19) = (if 0 ≤ k ∧ k < (ws.length : Int) then kf (ws.getD k.toNat 0) else V 19) := by
    rw [List.length_append]
    by_cases h1 : 0 ≤ k ∧ k < (ws.length : Int)
    · rw [if_pos h1, if_pos (by simp; omega), List.getD_eq_getElem?_getD, List.getD_eq_getElem?_getD, List.getElem?_append_left (by omega)]
    · rw [if_neg h1, if_neg (by simp; omega)]
  rw [e, List.length_append]
  funext g j; unfold u0 sset
  by_cases h1 : g = 17
  · subst h1; simp
  · simp [h1]
section AWW
variable {Γ : GT} {M : MD} {R : Room} {Φ : PH} {kn : Nat × Nat} {pc : Nat} {ls : List (Option Value)} {st : List Value} {h : Nat → AC} {nx : Nat}
theorem aw_ldcSw {j : Nat} (hd : decode M.2.1 pc = .ok (.ldc_w j, 3)) (i : Nat) {q : String × Nat × String} (hq : SR[i]? = some q) (h1 : q.1 = M.1.cls) (h2 : q.2.1 = j) (k : AW Γ M R Φ kn (pc + 3) ls (.ref (gK Γ i) :: st) h nx) : AW Γ M R Φ kn pc ls (st) h nx := by
  intro p e s m args below meth c H locs lsa C hS hH hL
  have hZ : vk_R M.1.cls j q.2.2 (gK Γ i) s := h1 ▸ h2 ▸ C.2.2.2.2.2.2.2.2.2.2.1.1 i q hq
  intro T hT X
  obtain ⟨t, a1, b1⟩ := k p e s m args below meth c H locs lsa C hS hH hL T hT X
  exact ⟨t, X.ldcStringW C.1 C.2.2.2.2.2.1 (text := q.2.2) (a := gK Γ i) hZ.1 hZ.2 (g := F0 m pc lsa st) rfl (by rw [C.2.1]; exact hd) t a1, b1⟩
end AWW
theorem sB_w : sB 8 = sB 4 ∧ sB 12 = sB 5 ∧ sB 13 = sB 6 ∧ sB 14 = sB 7 := by decide
theorem fs_none {v : Int} : ∀ (k m : Nat), k ≤ m → pw m ≤ v → fs (dP v) k = -5
  | 0, _, _, _ => rfl
  | k + 1, m, hk, hv => by
    refine fs_s (fs_none k m (by omega) hv) ?_
    unfold dP; rw [Int.toNat_natCast]
    have h1 := pw_le (j := k + 1) m hk
    have h2 := pw_pos k
    have h3 : pw (k + 1) = pw k * 10 := rfl
    have h4 : 10 ≤ v / pw k := Int.le_ediv_of_mul_le (by omega) (by omega)
    omega
theorem dgl_m {v : Int} {m : Nat} (h9 : m < 10) (h : m = 0 ∨ pw m ≤ v) (h2 : v < pw (m + 1)) : dgl v = dl m v := by
  have p := pw_pos m
  have h3 : pw (m + 1) = pw m * 10 := rfl
  have e0 : fs (dP v) m = -5 := by
    rcases h with h | h
    · rw [h]; rfl
    · exact fs_none m m (Nat.le_refl _) h
  have e1 : fs (dP v) 10 = m := fs_hit e0 (by unfold dP; rw [Int.toNat_natCast]; exact Int.ediv_lt_of_lt_mul (by omega) (by omega)) 10 h9
  unfold dgl nd; rw [e1, Int.toNat_natCast]
theorem pw_ex {v : Int} : ∀ m : Nat, v < pw (m + 1) → ∃ j : Nat, j ≤ m ∧ (j = 0 ∨ pw j ≤ v) ∧ v < pw (j + 1)
  | 0, h => ⟨0, Nat.le_refl _, Or.inl rfl, h⟩
  | m + 1, h => by
    by_cases c : pw (m + 1) ≤ v
    · exact ⟨m + 1, Nat.le_refl _, Or.inr c, h⟩
    · obtain ⟨j, a, b, d⟩ := pw_ex (v := v) m (by omega)
      exact ⟨j, by omega, b, d⟩

set_option maxHeartbeats 1000000 in
theorem c_X11_writes {Γ : GT} {S T U V : St} {G : Gw} {nx d : Nat} {Q : QT} (hnx : 52 ≤ nx) {q b : Int} {ws : List Int} (hb : inI b) (hl : ws.length ≤ 100000) (hq : inI q) (hL : RgL (spv V q ws)) (hQ : RgL (spv V q (ws ++ [b])) → Q none (hp Γ S T U (spv V q (ws ++ [b])) G) nx) : AM Γ MX11_writes (d, 0, 0) [rf Γ 43, vi b] (hp Γ S T U (spv V q ws) G) nx Q := by
  refine am_of (by decide) (Nat.le_of_ble_eq_true rfl) (ls := [some (rf Γ 43), some _]) rfl ?_
  refine aw_aload_n dX11_writes_0 rfl ?_
  refine aw_getf fg_X11_368 dX11_writes_1 (hc43 hnx) rfl ?_
  refine aw_sv (a := (ws.length : Int)) (rfl) ?_
  refine aw_aload_n dX11_writes_4 rfl ?_
  refine aw_getf fg_X11_371 dX11_writes_5 (hc43 hnx) rfl ?_
  refine aw_sv (a := q) (rfl) ?_
  refine aw_icmp_ne (tgt := 16) dX11_writes_8 rfl (by omega) (fun c8 => ?_) (fun c8 => ?_)
  · skip
    refine aw_aload_n dX11_writes_16 rfl ?_
    refine aw_dup dX11_writes_17 rfl ?_
    refine aw_getf fg_X11_368 dX11_writes_18 (hc43 hnx) rfl ?_
    refine aw_sv (a := (ws.length : Int)) (rfl) ?_
    refine aw_iconst dX11_writes_21 ?_
    refine aw_iadd dX11_writes_22 ?_
    refine aw_putV fp_X11_368 dX11_writes_23 (hc43 hnx) (Nat.le_of_ble_eq_true rfl) hL (by omega) hu43_17 (fun hL => ?_)
    first | (have eq9 := spv_a (V := V) (k := q) (ws := ws) (b := b) (by omega)) | (have eq9 := spv_b (V := V) (k := q) (ws := ws) (b := b) (by omega))
    refine aw_hp (V' := spv V q (ws ++ [b])) rfl rfl rfl (eq9) rfl ?_
    exact aw_return dX11_writes_26 rfl ⟨Nat.le_refl _, Nat.le_refl _⟩ (hQ (by rw [eq9]; exact hL))
  · skip
    refine aw_aload_n dX11_writes_11 rfl ?_
    refine aw_iload_n dX11_writes_12 rfl ?_
    refine aw_putV fp_X11_374 dX11_writes_13 (hc43 hnx) (Nat.le_of_ble_eq_true rfl) hL (by omega) hu43_19 (fun hL => ?_)
    refine aw_aload_n dX11_writes_16 rfl ?_
    refine aw_dup dX11_writes_17 rfl ?_
    refine aw_getf fg_X11_368 dX11_writes_18 (hc43 hnx) rfl ?_
    refine aw_sv (a := (ws.length : Int)) (rfl) ?_
    refine aw_iconst dX11_writes_21 ?_
    refine aw_iadd dX11_writes_22 ?_
    refine aw_putV fp_X11_368 dX11_writes_23 (hc43 hnx) (Nat.le_of_ble_eq_true rfl) hL (by omega) hu43_17 (fun hL => ?_)
    first | (have eq9 := spv_a (V := V) (k := q) (ws := ws) (b := b) (by omega)) | (have eq9 := spv_b (V := V) (k := q) (ws := ws) (b := b) (by omega))
    refine aw_hp (V' := spv V q (ws ++ [b])) rfl rfl rfl (eq9) rfl ?_
    exact aw_return dX11_writes_26 rfl ⟨Nat.le_refl _, Nat.le_refl _⟩ (hQ (by rw [eq9]; exact hL))

set_option maxHeartbeats 1000000 in
theorem c_X11_writesWord {Γ : GT} {S T U V : St} {G : Gw} {nx d : Nat} {Q : QT} (hnx : 52 ≤ nx) {q : Int} {ws : List Int} {i : Nat} (hi : i < SR.length) (hl : ws.length ≤ 90000) (hq : inI q) (hL : RgL (spv V q ws))  (hQ : RgL (spv V q (ws ++ sB i)) → Q none (hp Γ S T U (spv V q (ws ++ sB i)) G) nx) : AM Γ MX11_writesWord (d + 4, 0, 0) [rf Γ 43, .ref (gK Γ i)] (hp Γ S T U (spv V q ws) G) nx Q := by
  refine am_of (by decide) (Nat.le_of_ble_eq_true rfl) (ls := [some (rf Γ 43), some _, none]) rfl ?_
  have hs := sB_small i hi
  refine aw_iconst dX11_writesWord_0 ?_
  refine aw_istore_n (ls' := [some (rf Γ 43), some _, some _]) dX11_writesWord_1 (by decide) rfl ?_
  refine aw_hp (V' := spv V q (ws ++ (sB i).take 0)) rfl rfl rfl (by simp) rfl ?_
  refine loopN ((sB i).length) (P := fun k => RgL (spv V q (ws ++ (sB i).take k)) →  AW Γ MX11_writesWord _ _ (0, 0) 2 [some (rf Γ 43), some (.ref (gK Γ i)), some (vi (k : Int))] [] (hp Γ S T U (spv V q (ws ++ (sB i).take k)) G) nx) (fun k hk ih => ?_) 0 (Nat.zero_le _) (by simpa using hL)
  intro  i2_0
  refine aw_iload_n dX11_writesWord_2 rfl ?_
  have hL := i2_0
  refine aw_aload_n dX11_writesWord_3 rfl ?_
  refine aw_callVS (As := []) (ρ := (_, 0, 0)) (kn' := (0, 0)) cv_X11_92 dX11_writesWord_4 rfl rfl hi rfl (Nat.le_of_ble_eq_true rfl) (rmR _ _ _) ⟨Nat.le_refl _, Nat.le_refl _⟩ rfl (c_J0_length hi ?_)
  refine aw_icmp_ge (tgt := 25) dX11_writesWord_7 rfl (by omega) (fun c7 => ?_) (fun c7 => ?_)
  · skip
    obtain rfl : k = (sB i).length := by omega
    rw [List.take_length] at hL ⊢
    exact aw_return dX11_writesWord_25 rfl ⟨Nat.le_refl _, Nat.le_refl _⟩ (hQ hL)
  · skip
    refine aw_aload_n dX11_writesWord_10 rfl ?_
    refine aw_aload_n dX11_writesWord_11 rfl ?_
    refine aw_iload_n dX11_writesWord_12 rfl ?_
    refine aw_callVS (As := [_]) (ρ := (_, 0, 0)) (kn' := (0, 0)) cv_X11_97 dX11_writesWord_13 rfl rfl hi rfl (Nat.le_of_ble_eq_true rfl) (rmR _ _ _) ⟨Nat.le_refl _, Nat.le_refl _⟩ rfl (c_J0_charAt hi (by omega) ?_)
    have b1 := sB_at hi (j := ((k : Int)).toNat) (by omega)
    refine aw_callV (As := [_]) (ρ := (_, 0, 0)) (kn' := (0, 0)) cv_X11_377 dX11_writesWord_16 rfl rfl (hc43 hnx) rfl rfl (Nat.le_of_ble_eq_true rfl) (rmR _ _ _) ⟨Nat.le_refl _, Nat.le_refl _⟩ rfl (c_X11_writes hnx (by omega) (by rw [List.length_append]; have := List.length_take_le k (sB i); omega) hq hL (fun hL => ?_))
    have eT : ws ++ (sB i).take (k + 1) = ws ++ (sB i).take k ++ [(sB i).getD ((k : Int)).toNat 0] := by rw [take_s (by omega), Int.toNat_natCast, List.append_assoc]
    refine aw_hp (V' := spv V q (ws ++ (sB i).take (k + 1))) rfl rfl rfl (by rw [eT]) rfl ?_
    refine aw_iinc (ls' := [some (rf Γ 43), some _, some _]) dX11_writesWord_19 rfl (by decide) rfl ?_
    refine aw_goto (tgt := 2) dX11_writesWord_22 rfl ?_
    exact ih (by omega)   (by rw [eT]; exact hL)

set_option maxHeartbeats 1000000 in
theorem c_X11_writesDigits_0 {Γ : GT} {S T U V : St} {G : Gw} {nx d : Nat} {Q : QT} (hnx : 52 ≤ nx) {q v : Int} {ws : List Int} (hl : ws.length ≤ 95000) (hq : inI q) (hL : RgL (spv V q ws)) (hv : 0 ≤ v ∧ v ≤ 9) (hQ : RgL (spv V q (ws ++ dl 0 v)) → Q none (hp Γ S T U (spv V q (ws ++ dl 0 v)) G) nx) : AM Γ MX11_writesDigits (d + 1, 0, 0) [rf Γ 43, vi v] (hp Γ S T U (spv V q ws) G) nx Q := by
  refine am_of (by decide) (Nat.le_of_ble_eq_true rfl) (ls := [some (rf Γ 43), some _]) rfl ?_
  refine aw_iload_n dX11_writesDigits_0 rfl ?_
  refine aw_bipush dX11_writesDigits_1 rfl ?_
  refine aw_icmp_le (tgt := 14) dX11_writesDigits_3 rfl (by omega) (fun c3 => ?_) (fun c3 => ?_)
  · skip
    refine aw_aload_n dX11_writesDigits_14 rfl ?_
    refine aw_bipush dX11_writesDigits_15 rfl ?_
    refine aw_iload_n dX11_writesDigits_17 rfl ?_
    refine aw_bipush dX11_writesDigits_18 rfl ?_
    refine aw_irem dX11_writesDigits_20 (by omega) (by omega) ?_
    refine aw_iadd dX11_writesDigits_21 ?_
    refine aw_callV (As := [_]) (ρ := (_, 0, 0)) (kn' := (0, 0)) cv_X11_377 dX11_writesDigits_22 rfl rfl (hc43 hnx) rfl rfl (Nat.le_of_ble_eq_true rfl) (rmR _ _ _) ⟨Nat.le_refl _, Nat.le_refl _⟩ rfl (c_X11_writes hnx (by omega) (by first | omega | (simp only [List.length_append, List.length_cons, List.length_nil]; omega)) hq hL (fun hL => ?_))
    exact aw_return dX11_writesDigits_25 rfl ⟨Nat.le_refl _, Nat.le_refl _⟩ (hQ hL)
  · skip
    exact absurd hv (by omega)

set_option maxHeartbeats 1000000 in
theorem c_X11_writesDigits_s {Γ : GT} {S T U V : St} {G : Gw} {nx d : Nat} {Q : QT} (hnx : 52 ≤ nx) {q v : Int} {ws : List Int} (hl : ws.length ≤ 95000) (hq : inI q) (hL : RgL (spv V q ws)) {m : Nat} (hm : m ≤ 9) (hv : 9 < v ∧ v < 2147483648) (hrec : ∀ {Q : QT}, (RgL (spv V q (ws ++ dl m (v / 10))) → Q none (hp Γ S T U (spv V q (ws ++ dl m (v / 10))) G) nx) → AM Γ MX11_writesDigits (d, 0, 0) [rf Γ 43, vi (v / 10)] (hp Γ S T U (spv V q ws) G) nx Q) (hQ : RgL (spv V q (ws ++ dl (m + 1) v)) → Q none (hp Γ S T U (spv V q (ws ++ dl (m + 1) v)) G) nx) : AM Γ MX11_writesDigits (d + 1, 0, 0) [rf Γ 43, vi v] (hp Γ S T U (spv V q ws) G) nx Q := by
  refine am_of (by decide) (Nat.le_of_ble_eq_true rfl) (ls := [some (rf Γ 43), some _]) rfl ?_
  refine aw_iload_n dX11_writesDigits_0 rfl ?_
  refine aw_bipush dX11_writesDigits_1 rfl ?_
  refine aw_icmp_le (tgt := 14) dX11_writesDigits_3 rfl (by omega) (fun c3 => ?_) (fun c3 => ?_)
  · skip
    exact absurd hv (by omega)
  · skip
    refine aw_aload_n dX11_writesDigits_6 rfl ?_
    refine aw_iload_n dX11_writesDigits_7 rfl ?_
    refine aw_bipush dX11_writesDigits_8 rfl ?_
    refine aw_idiv dX11_writesDigits_10 (by omega) (by omega) ?_
    refine aw_callV (As := [_]) (ρ := (_, 0, 0)) (kn' := (0, 0)) cv_X11_380 dX11_writesDigits_11 rfl rfl (hc43 hnx) rfl rfl (Nat.le_of_ble_eq_true rfl) (rmR _ _ _) ⟨Nat.le_refl _, Nat.le_refl _⟩ rfl (hrec (fun hL => ?_))
    refine aw_aload_n dX11_writesDigits_14 rfl ?_
    refine aw_bipush dX11_writesDigits_15 rfl ?_
    refine aw_iload_n dX11_writesDigits_17 rfl ?_
    refine aw_bipush dX11_writesDigits_18 rfl ?_
    refine aw_irem dX11_writesDigits_20 (by omega) (by omega) ?_
    refine aw_iadd dX11_writesDigits_21 ?_
    refine aw_callV (As := [_]) (ρ := (_, 0, 0)) (kn' := (0, 0)) cv_X11_377 dX11_writesDigits_22 rfl rfl (hc43 hnx) rfl rfl (Nat.le_of_ble_eq_true rfl) (rmR _ _ _) ⟨Nat.le_refl _, Nat.le_refl _⟩ rfl (c_X11_writes hnx (by omega) (by rw [List.length_append, dl_len]; omega) hq hL (fun hL => ?_))
    exact aw_return dX11_writesDigits_25 rfl ⟨Nat.le_refl _, Nat.le_refl _⟩ (by rw [dl, ← List.append_assoc] at hQ; exact hQ hL)

theorem c_wd {Γ : GT} {S T U V : St} {G : Gw} {nx : Nat} (hnx : 52 ≤ nx) {q : Int} (hq : inI q) : ∀ (m : Nat), m ≤ 9 → ∀ {d : Nat} {v : Int} {ws : List Int} {Q : QT}, ws.length ≤ 95000 → RgL (spv V q ws) → (m = 0 ∨ pw m ≤ v) → 0 ≤ v ∧ v < 2147483648 → v < pw (m + 1) → (RgL (spv V q (ws ++ dl m v)) → Q none (hp Γ S T U (spv V q (ws ++ dl m v)) G) nx) → AM Γ MX11_writesDigits (d + m + 1, 0, 0) [rf Γ 43, vi v] (hp Γ S T U (spv V q ws) G) nx Q
  | 0, _, d, v, ws, Q, hl, hL, h, hv, h2, hQ => c_X11_writesDigits_0 (d := d) hnx hl hq hL (by have : pw (0 + 1) = 10 := rfl; omega) hQ
  | m + 1, hm, d, v, ws, Q, hl, hL, h, hv, h2, hQ => by
    have e : pw (m + 1 + 1) = pw (m + 1) * 10 := rfl
    have e1 : pw (m + 1) = pw m * 10 := rfl
    have p := pw_pos m
    have h1 : pw (m + 1) ≤ v := h.resolve_left (by omega)
    have a1 : v / 10 < pw (m + 1) := by omega
    have a2 : pw m ≤ v / 10 := by omega
    exact c_X11_writesDigits_s (d := d + m + 1) hnx hl hq hL (by omega) (by omega) (fun hQ' => c_wd hnx hq m (by omega) hl hL (Or.inr a2) (by omega) a1 hQ') hQ
theorem c_X11_writesDigits {Γ : GT} {S T U V : St} {G : Gw} {nx d : Nat} {Q : QT} (hnx : 52 ≤ nx) {q v : Int} {ws : List Int} (hl : ws.length ≤ 95000) (hq : inI q) (hL : RgL (spv V q ws)) (hv : 0 ≤ v ∧ v < 1000000000) (hQ : RgL (spv V q (ws ++ dgl v)) → Q none (hp Γ S T U (spv V q (ws ++ dgl v)) G) nx) : AM Γ MX11_writesDigits (d + 10, 0, 0) [rf Γ 43, vi v] (hp Γ S T U (spv V q ws) G) nx Q := by
  obtain ⟨m, hm, a, b⟩ := pw_ex (v := v) 8 (by rw [show pw (8 + 1) = 1000000000 by decide]; omega)
  rw [dgl_m (by omega) a b] at hQ
  have k := c_wd (d := d + (9 - m)) hnx hq m (by omega) hl hL a (by omega) b hQ
  rw [show d + (9 - m) + m + 1 = d + 10 by omega] at k
  exact k

set_option maxHeartbeats 1000000 in
theorem c_X11_writesNumber {Γ : GT} {S T U V : St} {G : Gw} {nx d : Nat} {Q : QT} (hnx : 52 ≤ nx) {q v : Int} {ws : List Int} (hl : ws.length ≤ 90000) (hq : inI q) (hL : RgL (spv V q ws)) (hv : 0 ≤ v ∧ v < 1000000000) (hQ : RgL (spv V q (ws ++ txN v)) → Q none (hp Γ S T U (spv V q (ws ++ txN v)) G) nx) : AM Γ MX11_writesNumber (d + 11, 0, 0) [rf Γ 43, vi v] (hp Γ S T U (spv V q ws) G) nx Q := by
  refine am_of (by decide) (Nat.le_of_ble_eq_true rfl) (ls := [some (rf Γ 43), some _]) rfl ?_
  refine aw_aload_n dX11_writesNumber_0 rfl ?_
  refine aw_bipush dX11_writesNumber_1 rfl ?_
  refine aw_callV (As := [_]) (ρ := (_, 0, 0)) (kn' := (0, 0)) cv_X11_377 dX11_writesNumber_3 rfl rfl (hc43 hnx) rfl rfl (Nat.le_of_ble_eq_true rfl) (rmR _ _ _) ⟨Nat.le_refl _, Nat.le_refl _⟩ rfl (c_X11_writes hnx (by omega) (by first | omega | (simp only [List.length_append, List.length_cons, List.length_nil]; omega)) hq hL (fun hL => ?_))
  refine aw_aload_n dX11_writesNumber_6 rfl ?_
  refine aw_iload_n dX11_writesNumber_7 rfl ?_
  refine aw_callV (As := [_]) (ρ := (_, 0, 0)) (kn' := (0, 0)) cv_X11_380 dX11_writesNumber_8 rfl rfl (hc43 hnx) rfl rfl (Nat.le_of_ble_eq_true rfl) (rmR _ _ _) ⟨Nat.le_refl _, Nat.le_refl _⟩ rfl (c_X11_writesDigits hnx (by rw [List.length_append]; simp; omega) hq hL hv (fun hL => ?_))
  exact aw_return dX11_writesNumber_11 rfl ⟨Nat.le_refl _, Nat.le_refl _⟩ (by rw [show ws ++ txN v = ws ++ [32] ++ dgl v by rw [List.append_assoc]; rfl] at hQ; exact hQ hL)

theorem old_yws {A : St} {p : Int} (h : 0 ≤ A 2 (p * 3 + 0) ∧ 0 ≤ A 2 (p * 3 + 1) ∧ 0 ≤ A 2 (p * 3 + 2)) : Jvm.Pilot.@@N@@.old A p = 0 ↔ yws A p = 0 := by
  unfold Jvm.Pilot.@@N@@.old yws b1
  (repeat' split) <;> omega

set_option maxHeartbeats 8000000 in
theorem c_X11_writesAll {Γ : GT} {S T U V A : St} {G : Gw} {nx d : Nat} {Q : QT} (hnx : 52 ≤ nx) {q c : Int} (hI : Inv c A) (hA : Ag A (V 0)) (hq : inI q) (hL : RgL (spv V q [])) (h26 : 0 < A 26 0) (hQ : RgL (spv V q (texL A)) → Q none (hp Γ S T U (spv V q (texL A)) G) nx) : AM Γ MX11_writesAll (d + 12, 0, 0) [rf Γ 43] (hp Γ S T U (spv V q []) G) nx Q := by
  refine am_of (by decide) (Nat.le_of_ble_eq_true rfl) (ls := [some (rf Γ 43), none, none, none]) rfl ?_
  have hR := hI.R
  have i1 := hI.i1
  have hz : 0 ≤ A 28 0 ∧ A 28 0 ≤ 60 := i1.2.2.1
  have hkS : nS A = (A 28 0).toNat := rfl
  have hkI : nIm A = (A 27 0).toNat := rfl
  have hkO : nOr A = (A 26 0).toNat := rfl
  have hs4 : (sB 4).length = 6 := by decide
  have hs5 : (sB 5).length = 7 := by decide
  have hs6 : (sB 6).length = 9 := by decide
  have hs7 : (sB 7).length = 5 := by decide
  have l1 := trmL_len A 6
  have l2 := orgL_len A (nOr A)
  have l3 := impL_len (nIm A)
  refine aw_aload_n dX11_writesAll_0 rfl ?_
  refine aw_ldcS dX11_writesAll_1 8 rfl rfl rfl ?_
  refine aw_callV (As := [_]) (ρ := (_, 0, 0)) (kn' := (0, 0)) cv_X11_383 dX11_writesAll_3 rfl rfl (hc43 hnx) rfl rfl (Nat.le_of_ble_eq_true rfl) (rmR _ _ _) ⟨Nat.le_refl _, Nat.le_refl _⟩ rfl (c_X11_writesWord hnx (i := 8) (by decide) (by simp) hq hL (fun hL => ?_))
  have e8 : sB 8 = sB 4 := sB_w.1
  rw [e8] at hL ⊢
  replace hL : RgL (spv V q (sB 4 ++ trmL A 0)) := by rw [trmL, List.append_nil]; exact hL
  refine aw_hp (V' := spv V q (sB 4 ++ trmL A 0)) rfl rfl rfl (by rw [trmL, List.append_nil, List.nil_append]) rfl ?_
  refine aw_iconst dX11_writesAll_6 ?_
  refine aw_istore_n (ls' := [some (rf Γ 43), some _, none, none]) dX11_writesAll_7 (by decide) rfl ?_
  refine loopN (6) (P := fun k => RgL (spv V q (sB 4 ++ trmL A k)) →  AW Γ MX11_writesAll _ _ (0, 0) 8 [some (rf Γ 43), some (vi (k : Int)), none, none] [] (hp Γ S T U (spv V q (sB 4 ++ trmL A k)) G) nx) (fun k hk ih => ?_) 0 (Nat.zero_le _) hL
  intro  i8_0
  refine aw_iload_n dX11_writesAll_8 rfl ?_
  have hL := i8_0
  refine aw_iconst dX11_writesAll_9 ?_
  refine aw_icmp_gt (tgt := 28) dX11_writesAll_10 rfl (by omega) (fun c10 => ?_) (fun c10 => ?_)
  · skip
    obtain rfl : k = 6 := by omega
    replace hL : RgL (spv V q (sB 4 ++ trmL A 6 ++ orgL A 0)) := by rw [orgL, List.append_nil]; exact i8_0
    refine aw_hp (V' := spv V q (sB 4 ++ trmL A 6 ++ orgL A 0)) rfl rfl rfl (by rw [orgL, List.append_nil]) rfl ?_
    refine aw_iconst dX11_writesAll_28 ?_
    refine aw_istore_n (ls' := [some (rf Γ 43), some _, none, none]) dX11_writesAll_29 (by decide) rfl ?_
    refine loopN (nOr A) (P := fun k2 => RgL (spv V q (sB 4 ++ trmL A 6 ++ orgL A k2)) →  AW Γ MX11_writesAll _ _ (0, 0) 30 [some (rf Γ 43), some (vi (k2 : Int)), none, none] [] (hp Γ S T U (spv V q (sB 4 ++ trmL A 6 ++ orgL A k2)) G) nx) (fun k2 hk2 ihk2 => ?_) 0 (Nat.zero_le _) hL
    intro  i30_0
    refine aw_iload_n dX11_writesAll_30 rfl ?_
    have hL := i30_0
    refine aw_aload_n dX11_writesAll_31 rfl ?_
    refine aw_bipush dX11_writesAll_32 rfl ?_
    refine aw_callV (As := [_]) (ρ := (_, 0, 0)) (kn' := (0, 0)) cv_X11_164 dX11_writesAll_34 rfl rfl (hc43 hnx) rfl rfl (Nat.le_of_ble_eq_true rfl) (rmR _ _ _) ⟨Nat.le_refl _, Nat.le_refl _⟩ rfl (c_X11_many_6 (V := spv V q _) hnx hI hA hL (fun r34 h34 => ?_))
    refine aw_icmp_ge (tgt := 63) dX11_writesAll_37 rfl (by omega) (fun c37 => ?_) (fun c37 => ?_)
    · skip
      obtain rfl : k2 = nOr A := by omega
      replace hL : RgL (spv V q (sB 4 ++ trmL A 6 ++ orgL A (nOr A) ++ impL 0)) := by rw [impL, List.append_nil]; exact i30_0
      refine aw_hp (V' := spv V q (sB 4 ++ trmL A 6 ++ orgL A (nOr A) ++ impL 0)) rfl rfl rfl (by rw [impL, List.append_nil]) rfl ?_
      refine aw_iconst dX11_writesAll_63 ?_
      refine aw_istore_n (ls' := [some (rf Γ 43), some _, none, none]) dX11_writesAll_64 (by decide) rfl ?_
      refine loopN (nIm A) (P := fun k3 => RgL (spv V q (sB 4 ++ trmL A 6 ++ orgL A (nOr A) ++ impL k3)) →  AW Γ MX11_writesAll _ _ (0, 0) 65 [some (rf Γ 43), some (vi (k3 : Int)), none, none] [] (hp Γ S T U (spv V q (sB 4 ++ trmL A 6 ++ orgL A (nOr A) ++ impL k3)) G) nx) (fun k3 hk3 ihk3 => ?_) 0 (Nat.zero_le _) hL
      intro  i65_0
      refine aw_iload_n dX11_writesAll_65 rfl ?_
      have hL := i65_0
      refine aw_aload_n dX11_writesAll_66 rfl ?_
      refine aw_bipush dX11_writesAll_67 rfl ?_
      refine aw_callV (As := [_]) (ρ := (_, 0, 0)) (kn' := (0, 0)) cv_X11_164 dX11_writesAll_69 rfl rfl (hc43 hnx) rfl rfl (Nat.le_of_ble_eq_true rfl) (rmR _ _ _) ⟨Nat.le_refl _, Nat.le_refl _⟩ rfl (c_X11_many_7 (V := spv V q _) hnx hI hA hL (fun r69 h69 => ?_))
      refine aw_icmp_ge (tgt := 88) dX11_writesAll_72 rfl (by omega) (fun c72 => ?_) (fun c72 => ?_)
      · skip
        obtain rfl : k3 = nIm A := by omega
        replace hL : RgL (spv V q (sB 4 ++ trmL A 6 ++ orgL A (nOr A) ++ impL (nIm A) ++ allL A 0)) := by rw [allL, List.append_nil]; exact i65_0
        refine aw_hp (V' := spv V q (sB 4 ++ trmL A 6 ++ orgL A (nOr A) ++ impL (nIm A) ++ allL A 0)) rfl rfl rfl (by rw [allL, List.append_nil]) rfl ?_
        refine aw_iconst dX11_writesAll_88 ?_
        refine aw_istore_n (ls' := [some (rf Γ 43), some _, none, none]) dX11_writesAll_89 (by decide) rfl ?_
        refine aw_fg [true, true, false, false] (ls' := [some (rf Γ 43), some _, none, none]) rfl ?_
        refine loopN (nIm A) (P := fun k4 => RgL (spv V q (sB 4 ++ trmL A 6 ++ orgL A (nOr A) ++ impL (nIm A) ++ allL A k4)) →  AW Γ MX11_writesAll _ _ (0, 0) 90 [some (rf Γ 43), some (vi (k4 : Int)), none, none] [] (hp Γ S T U (spv V q (sB 4 ++ trmL A 6 ++ orgL A (nOr A) ++ impL (nIm A) ++ allL A k4)) G) nx) (fun k4 hk4 ihk4 => ?_) 0 (Nat.zero_le _) hL
        intro  i90_0
        refine aw_iload_n dX11_writesAll_90 rfl ?_
        have hL := i90_0
        refine aw_aload_n dX11_writesAll_91 rfl ?_
        refine aw_bipush dX11_writesAll_92 rfl ?_
        refine aw_callV (As := [_]) (ρ := (_, 0, 0)) (kn' := (0, 0)) cv_X11_164 dX11_writesAll_94 rfl rfl (hc43 hnx) rfl rfl (Nat.le_of_ble_eq_true rfl) (rmR _ _ _) ⟨Nat.le_refl _, Nat.le_refl _⟩ rfl (c_X11_many_7 (V := spv V q _) hnx hI hA hL (fun r94 h94 => ?_))
        refine aw_icmp_ge (tgt := 180) dX11_writesAll_97 rfl (by omega) (fun c97 => ?_) (fun c97 => ?_)
        · skip
          obtain rfl : k4 = nIm A := by omega
          rw [show texL A = (sB 4 ++ trmL A 6 ++ orgL A (nOr A) ++ impL (nIm A) ++ allL A (nIm A)) by unfold texL; rw [if_neg (by omega)]] at hQ
          exact aw_return dX11_writesAll_180 rfl ⟨Nat.le_refl _, Nat.le_refl _⟩ (hQ i90_0)
        · skip
          refine aw_iconst dX11_writesAll_100 ?_
          refine aw_istore_n (ls' := [some (rf Γ 43), some _, some _, none]) dX11_writesAll_101 (by decide) rfl ?_
          replace hL : RgL (spv V q (sB 4 ++ trmL A 6 ++ orgL A (nOr A) ++ impL (nIm A) ++ (allL A k4 ++ rowL A k4 0))) := by rw [rowL, List.append_nil]; exact hL
          refine aw_hp (V' := spv V q (sB 4 ++ trmL A 6 ++ orgL A (nOr A) ++ impL (nIm A) ++ (allL A k4 ++ rowL A k4 0))) rfl rfl rfl (by rw [rowL, List.append_nil]) rfl ?_
          refine aw_fg [true, true, true, false] (ls' := [some (rf Γ 43), some _, some _, none]) rfl ?_
          refine loopN (nOr A) (P := fun k5 => RgL (spv V q (sB 4 ++ trmL A 6 ++ orgL A (nOr A) ++ impL (nIm A) ++ (allL A k4 ++ rowL A k4 k5))) →  AW Γ MX11_writesAll _ _ (0, 0) 102 [some (rf Γ 43), some (vi (k4 : Int)), some (vi (k5 : Int)), none] [] (hp Γ S T U (spv V q (sB 4 ++ trmL A 6 ++ orgL A (nOr A) ++ impL (nIm A) ++ (allL A k4 ++ rowL A k4 k5))) G) nx) (fun k5 hk5 ihk5 => ?_) 0 (Nat.zero_le _) hL
          intro  i102_0
          refine aw_iload_n dX11_writesAll_102 rfl ?_
          have hL := i102_0
          refine aw_aload_n dX11_writesAll_103 rfl ?_
          refine aw_bipush dX11_writesAll_104 rfl ?_
          refine aw_callV (As := [_]) (ρ := (_, 0, 0)) (kn' := (0, 0)) cv_X11_164 dX11_writesAll_106 rfl rfl (hc43 hnx) rfl rfl (Nat.le_of_ble_eq_true rfl) (rmR _ _ _) ⟨Nat.le_refl _, Nat.le_refl _⟩ rfl (c_X11_many_6 (V := spv V q _) hnx hI hA hL (fun r106 h106 => ?_))
          refine aw_icmp_ge (tgt := 174) dX11_writesAll_109 rfl (by omega) (fun c109 => ?_) (fun c109 => ?_)
          · skip
            obtain rfl : k5 = nOr A := by omega
            replace hL : RgL (spv V q (sB 4 ++ trmL A 6 ++ orgL A (nOr A) ++ impL (nIm A) ++ allL A (k4 + 1))) := by rw [allL]; exact i102_0
            refine aw_hp (V' := spv V q (sB 4 ++ trmL A 6 ++ orgL A (nOr A) ++ impL (nIm A) ++ allL A (k4 + 1))) rfl rfl rfl (by rw [allL]) rfl ?_
            refine aw_iinc (ls' := [some (rf Γ 43), some _, some _, none]) dX11_writesAll_174 rfl (by decide) rfl ?_
            refine aw_goto (tgt := 90) dX11_writesAll_177 rfl ?_
            refine aw_fg [true, true, false, true] (ls' := [some (rf Γ 43), some _, none, none]) rfl ?_
            exact ihk4 (by omega)   hL
          · skip
            have la := allL_len A (by omega) k4
            have lb := rowL_len A k4 k5
            have yw := old_yws (A := A) (p := 4 * (k4 : Int) + (k5 : Int)) ⟨(hI.ps (by omega)).1, (hI.ps (by omega)).1, (hI.ps (by omega)).1⟩
            have t1 := txN_len (k4 : Int)
            have t2 := txN_len (k5 : Int)
            have ol := hI.old (p := 4 * (k4 : Int) + (k5 : Int)) (by omega)
            refine aw_aload_n dX11_writesAll_112 rfl ?_
            refine aw_iload_n dX11_writesAll_113 rfl ?_
            refine aw_iload_n dX11_writesAll_114 rfl ?_
            refine aw_callV (As := [_, _]) (ρ := (_, 0, 0)) (kn' := (0, 0)) cv_X11_170 dX11_writesAll_115 rfl rfl (hc43 hnx) rfl rfl (Nat.le_of_ble_eq_true rfl) (rmR _ _ _) ⟨Nat.le_refl _, Nat.le_refl _⟩ rfl (c_X11_importedOf (V := spv V q _) hnx hI hA hL (by omega) (by omega) (fun r115 h115 => ?_))
            refine aw_lconst0 dX11_writesAll_118 ?_
            refine aw_lif_ne (tgt := 126) dX11_writesAll_119 dX11_writesAll_120 rfl (by omega) (fun c119 => ?_) (fun c119 => ?_)
            · skip
              have ny : ¬ yws A (4 * (k4 : Int) + (k5 : Int)) = 0 := fun z => by have := yw.mpr z; omega
              refine aw_aload_n dX11_writesAll_126 rfl ?_
              refine aw_ldcSw dX11_writesAll_127 14 rfl rfl rfl ?_
              refine aw_callV (As := [_]) (ρ := (_, 0, 0)) (kn' := (0, 0)) cv_X11_383 dX11_writesAll_130 rfl rfl (hc43 hnx) rfl rfl (Nat.le_of_ble_eq_true rfl) (rmR _ _ _) ⟨Nat.le_refl _, Nat.le_refl _⟩ rfl (c_X11_writesWord hnx (i := 14) (by decide) (by simp only [List.length_append]; omega) hq hL (fun hL => ?_))
              have e14 : sB 14 = sB 7 := sB_w.2.2.2
              rw [e14] at hL ⊢
              refine aw_aload_n dX11_writesAll_133 rfl ?_
              refine aw_iload_n dX11_writesAll_134 rfl ?_
              refine aw_callV (As := [_]) (ρ := (_, 0, 0)) (kn' := (0, 0)) cv_X11_387 dX11_writesAll_135 rfl rfl (hc43 hnx) rfl rfl (Nat.le_of_ble_eq_true rfl) (rmR _ _ _) ⟨Nat.le_refl _, Nat.le_refl _⟩ rfl (c_X11_writesNumber hnx (by simp only [List.length_append]; omega) hq hL (by omega) (fun hL => ?_))
              refine aw_aload_n dX11_writesAll_138 rfl ?_
              refine aw_iload_n dX11_writesAll_139 rfl ?_
              refine aw_callV (As := [_]) (ρ := (_, 0, 0)) (kn' := (0, 0)) cv_X11_387 dX11_writesAll_140 rfl rfl (hc43 hnx) rfl rfl (Nat.le_of_ble_eq_true rfl) (rmR _ _ _) ⟨Nat.le_refl _, Nat.le_refl _⟩ rfl (c_X11_writesNumber hnx (by simp only [List.length_append]; omega) hq hL (by omega) (fun hL => ?_))
              replace hL : RgL (spv V q (pyL A (k4 : Int) (k5 : Int) ((sB 4 ++ trmL A 6 ++ orgL A (nOr A) ++ impL (nIm A) ++ (allL A k4 ++ rowL A k4 k5)) ++ sB 7 ++ txN (k4 : Int) ++ txN (k5 : Int)) 0)) := hL
              refine aw_hp (V' := spv V q (pyL A (k4 : Int) (k5 : Int) ((sB 4 ++ trmL A 6 ++ orgL A (nOr A) ++ impL (nIm A) ++ (allL A k4 ++ rowL A k4 k5)) ++ sB 7 ++ txN (k4 : Int) ++ txN (k5 : Int)) 0)) rfl rfl rfl (rfl) rfl ?_
              refine aw_iconst dX11_writesAll_143 ?_
              refine aw_istore_n (ls' := [some (rf Γ 43), some _, some _, some _]) dX11_writesAll_144 (by decide) rfl ?_
              refine loopN (3) (P := fun k6 => RgL (spv V q (pyL A (k4 : Int) (k5 : Int) ((sB 4 ++ trmL A 6 ++ orgL A (nOr A) ++ impL (nIm A) ++ (allL A k4 ++ rowL A k4 k5)) ++ sB 7 ++ txN (k4 : Int) ++ txN (k5 : Int)) k6)) →  AW Γ MX11_writesAll _ _ (0, 0) 145 [some (rf Γ 43), some (vi (k4 : Int)), some (vi (k5 : Int)), some (vi (2 - (k6 : Int)))] [] (hp Γ S T U (spv V q (pyL A (k4 : Int) (k5 : Int) ((sB 4 ++ trmL A 6 ++ orgL A (nOr A) ++ impL (nIm A) ++ (allL A k4 ++ rowL A k4 k5)) ++ sB 7 ++ txN (k4 : Int) ++ txN (k5 : Int)) k6)) G) nx) (fun k6 hk6 ihk6 => ?_) 0 (Nat.zero_le _) hL
              intro  i145_0
              refine aw_iload_n dX11_writesAll_145 rfl ?_
              have hL := i145_0
              refine aw_if_lt (tgt := 168) dX11_writesAll_146 rfl (by omega) (fun c146 => ?_) (fun c146 => ?_)
              · skip
                obtain rfl : k6 = 3 := by omega
                have eP : (sB 4 ++ trmL A 6 ++ orgL A (nOr A) ++ impL (nIm A) ++ (allL A k4 ++ rowL A k4 (k5 + 1))) = (pyL A (k4 : Int) (k5 : Int) ((sB 4 ++ trmL A 6 ++ orgL A (nOr A) ++ impL (nIm A) ++ (allL A k4 ++ rowL A k4 k5)) ++ sB 7 ++ txN (k4 : Int) ++ txN (k5 : Int)) 3) := by rw [rowL, show pstL A (k4 : Int) (k5 : Int) = pst0 A (k4 : Int) (k5 : Int) by unfold pstL; rw [if_neg ny]]; unfold pst0; simp only [pyL, List.append_assoc]; rfl
                replace hL : RgL (spv V q (sB 4 ++ trmL A 6 ++ orgL A (nOr A) ++ impL (nIm A) ++ (allL A k4 ++ rowL A k4 (k5 + 1)))) := by rw [eP]; exact i145_0
                refine aw_hp (V' := spv V q (sB 4 ++ trmL A 6 ++ orgL A (nOr A) ++ impL (nIm A) ++ (allL A k4 ++ rowL A k4 (k5 + 1)))) rfl rfl rfl (by rw [eP]) rfl ?_
                refine aw_iinc (ls' := [some (rf Γ 43), some _, some _, some _]) dX11_writesAll_168 rfl (by decide) rfl ?_
                refine aw_goto (tgt := 102) dX11_writesAll_171 rfl ?_
                refine aw_fg [true, true, true, false] (ls' := [some (rf Γ 43), some _, some _, none]) rfl ?_
                exact ihk5 (by omega)   hL
              · skip
                refine aw_aload_n dX11_writesAll_149 rfl ?_
                refine aw_aload_n dX11_writesAll_150 rfl ?_
                refine aw_iload_n dX11_writesAll_151 rfl ?_
                refine aw_iload_n dX11_writesAll_152 rfl ?_
                refine aw_iconst dX11_writesAll_153 ?_
                refine aw_iload_n dX11_writesAll_154 rfl ?_
                refine aw_iadd dX11_writesAll_155 ?_
                refine aw_callV (As := [_, _, _]) (ρ := (_, 0, 0)) (kn' := (0, 0)) cv_X11_167 dX11_writesAll_156 rfl rfl (hc43 hnx) rfl rfl (Nat.le_of_ble_eq_true rfl) (rmR _ _ _) ⟨Nat.le_refl _, Nat.le_refl _⟩ rfl (c_X11_ofPair hnx hL (by omega) (by omega) (by omega) (fun r156 h156 => ?_))
                have ps := hI.ps (k := (4 * (k4 : Int) + (k5 : Int)) * 3 + (2 - (k6 : Int))) (by omega)
                have lp := pyL_len A (k4 : Int) (k5 : Int) ((sB 4 ++ trmL A 6 ++ orgL A (nOr A) ++ impL (nIm A) ++ (allL A k4 ++ rowL A k4 k5)) ++ sB 7 ++ txN (k4 : Int) ++ txN (k5 : Int)) k6
                simp only [List.length_append] at lp
                have e156 : r156 = A 2 ((4 * (k4 : Int) + (k5 : Int)) * 3 + (2 - (k6 : Int))) := h156.trans (show V 0 (48 + 8 * (4 * (k4 : Int) + (k5 : Int)) + (0 + (2 - (k6 : Int)))) = _ by rw [show (0 : Int) + (2 - (k6 : Int)) = 2 - (k6 : Int) by omega]; exact hA.p2 (by omega) (by omega) (by omega) (by omega))
                subst e156
                refine aw_callV (As := [_]) (ρ := (_, 0, 0)) (kn' := (0, 0)) cv_X11_387 dX11_writesAll_159 rfl rfl (hc43 hnx) rfl rfl (Nat.le_of_ble_eq_true rfl) (rmR _ _ _) ⟨Nat.le_refl _, Nat.le_refl _⟩ rfl (c_X11_writesNumber hnx (by omega) hq hL (by omega) (fun hL => ?_))
                replace hL : RgL (spv V q (pyL A (k4 : Int) (k5 : Int) ((sB 4 ++ trmL A 6 ++ orgL A (nOr A) ++ impL (nIm A) ++ (allL A k4 ++ rowL A k4 k5)) ++ sB 7 ++ txN (k4 : Int) ++ txN (k5 : Int)) (k6 + 1))) := hL
                refine aw_hp (V' := spv V q (pyL A (k4 : Int) (k5 : Int) ((sB 4 ++ trmL A 6 ++ orgL A (nOr A) ++ impL (nIm A) ++ (allL A k4 ++ rowL A k4 k5)) ++ sB 7 ++ txN (k4 : Int) ++ txN (k5 : Int)) (k6 + 1))) rfl rfl rfl (rfl) rfl ?_
                refine aw_iinc (ls' := [some (rf Γ 43), some _, some _, some _]) dX11_writesAll_162 rfl (by decide) rfl ?_
                refine aw_goto (tgt := 145) dX11_writesAll_165 rfl ?_
                exact aw_ls2 (by rw [show 2 - (k6 : Int) + -1 = 2 - ((k6 + 1 : Nat) : Int) by omega]) (ihk6 (by omega) hL)
            · skip
              replace hL : RgL (spv V q (sB 4 ++ trmL A 6 ++ orgL A (nOr A) ++ impL (nIm A) ++ (allL A k4 ++ rowL A k4 (k5 + 1)))) := by rw [rowL, show pstL A (k4 : Int) (k5 : Int) = [] by unfold pstL; rw [if_pos (yw.mp (by omega))], List.append_nil]; exact hL
              refine aw_hp (V' := spv V q (sB 4 ++ trmL A 6 ++ orgL A (nOr A) ++ impL (nIm A) ++ (allL A k4 ++ rowL A k4 (k5 + 1)))) rfl rfl rfl (by rw [rowL, show pstL A (k4 : Int) (k5 : Int) = [] by unfold pstL; rw [if_pos (yw.mp (by omega))], List.append_nil]) rfl ?_
              refine aw_goto (tgt := 168) dX11_writesAll_123 rfl ?_
              refine aw_iinc (ls' := [some (rf Γ 43), some _, some _, none]) dX11_writesAll_168 rfl (by decide) rfl ?_
              refine aw_goto (tgt := 102) dX11_writesAll_171 rfl ?_
              exact ihk5 (by omega)   hL
      · skip
        have la := impL_len k3
        refine aw_aload_n dX11_writesAll_75 rfl ?_
        refine aw_ldcSw dX11_writesAll_76 13 rfl rfl rfl ?_
        refine aw_callV (As := [_]) (ρ := (_, 0, 0)) (kn' := (0, 0)) cv_X11_383 dX11_writesAll_79 rfl rfl (hc43 hnx) rfl rfl (Nat.le_of_ble_eq_true rfl) (rmR _ _ _) ⟨Nat.le_refl _, Nat.le_refl _⟩ rfl (c_X11_writesWord hnx (i := 13) (by decide) (by simp only [List.length_append]; omega) hq hL (fun hL => ?_))
        have e13 : sB 13 = sB 6 := sB_w.2.2.1
        rw [e13] at hL ⊢
        replace hL : RgL (spv V q (sB 4 ++ trmL A 6 ++ orgL A (nOr A) ++ impL (k3 + 1))) := by rw [impL]; simp only [← List.append_assoc]; exact hL
        refine aw_hp (V' := spv V q (sB 4 ++ trmL A 6 ++ orgL A (nOr A) ++ impL (k3 + 1))) rfl rfl rfl (by rw [impL]; simp only [← List.append_assoc]) rfl ?_
        refine aw_iinc (ls' := [some (rf Γ 43), some _, none, none]) dX11_writesAll_82 rfl (by decide) rfl ?_
        refine aw_goto (tgt := 65) dX11_writesAll_85 rfl ?_
        exact ihk3 (by omega)   hL
    · skip
      have la := orgL_len A k2
      refine aw_aload_n dX11_writesAll_40 rfl ?_
      refine aw_ldcSw dX11_writesAll_41 12 rfl rfl rfl ?_
      refine aw_callV (As := [_]) (ρ := (_, 0, 0)) (kn' := (0, 0)) cv_X11_383 dX11_writesAll_44 rfl rfl (hc43 hnx) rfl rfl (Nat.le_of_ble_eq_true rfl) (rmR _ _ _) ⟨Nat.le_refl _, Nat.le_refl _⟩ rfl (c_X11_writesWord hnx (i := 12) (by decide) (by simp only [List.length_append]; omega) hq hL (fun hL => ?_))
      have e12 : sB 12 = sB 5 := sB_w.2.1
      rw [e12] at hL ⊢
      refine aw_aload_n dX11_writesAll_47 rfl ?_
      refine aw_aload_n dX11_writesAll_48 rfl ?_
      refine aw_iload_n dX11_writesAll_49 rfl ?_
      refine aw_iconst dX11_writesAll_50 ?_
      refine aw_callV (As := [_, _]) (ρ := (_, 0, 0)) (kn' := (0, 0)) cv_X11_226 dX11_writesAll_51 rfl rfl (hc43 hnx) rfl rfl (Nat.le_of_ble_eq_true rfl) (rmR _ _ _) ⟨Nat.le_refl _, Nat.le_refl _⟩ rfl (c_X11_ofOrigin_0 (V := spv V q _) hnx hI hA hL (by omega) (fun r51 h51 => ?_))
      have qu := hI.qu (o := (k2 : Int)) (by omega)
      subst h51
      refine aw_callV (As := [_]) (ρ := (_, 0, 0)) (kn' := (0, 0)) cv_X11_387 dX11_writesAll_54 rfl rfl (hc43 hnx) rfl rfl (Nat.le_of_ble_eq_true rfl) (rmR _ _ _) ⟨Nat.le_refl _, Nat.le_refl _⟩ rfl (c_X11_writesNumber hnx (by simp only [List.length_append]; omega) hq hL (by omega) (fun hL => ?_))
      replace hL : RgL (spv V q (sB 4 ++ trmL A 6 ++ orgL A (k2 + 1))) := by rw [orgL]; simp only [← List.append_assoc]; exact hL
      refine aw_hp (V' := spv V q (sB 4 ++ trmL A 6 ++ orgL A (k2 + 1))) rfl rfl rfl (by rw [orgL]; simp only [← List.append_assoc]) rfl ?_
      refine aw_iinc (ls' := [some (rf Γ 43), some _, none, none]) dX11_writesAll_57 rfl (by decide) rfl ?_
      refine aw_goto (tgt := 30) dX11_writesAll_60 rfl ?_
      exact ihk2 (by omega)   hL
  · skip
    refine aw_aload_n dX11_writesAll_13 rfl ?_
    refine aw_aload_n dX11_writesAll_14 rfl ?_
    refine aw_iload_n dX11_writesAll_15 rfl ?_
    refine aw_callV (As := [_]) (ρ := (_, 0, 0)) (kn' := (0, 0)) cv_X11_164 dX11_writesAll_16 rfl rfl (hc43 hnx) rfl rfl (Nat.le_of_ble_eq_true rfl) (rmR _ _ _) ⟨Nat.le_refl _, Nat.le_refl _⟩ rfl (c_X11_many hnx hL (by omega) (fun r16 h16 => ?_))
    have tm := hI.tm (by omega)
    have la := trmL_len A k
    have e16 : r16 = A 0 k := h16.trans (hA.tm (w := (k : Int)) (by omega))
    subst e16
    have ti : 0 ≤ A 0 k ∧ A 0 k < 1000000000 := by rcases (show k = 0 ∨ k = 1 ∨ k = 2 ∨ k = 3 ∨ k = 4 ∨ k = 5 by omega) with rfl | rfl | rfl | rfl | rfl | rfl <;> (first | (show 0 ≤ A 0 0 ∧ A 0 0 < _; omega) | (show 0 ≤ A 0 1 ∧ A 0 1 < _; omega) | (show 0 ≤ A 0 2 ∧ A 0 2 < _; omega) | (show 0 ≤ A 0 3 ∧ A 0 3 < _; omega) | (show 0 ≤ A 0 4 ∧ A 0 4 < _; omega) | (show 0 ≤ A 0 5 ∧ A 0 5 < _; omega))
    refine aw_callV (As := [_]) (ρ := (_, 0, 0)) (kn' := (0, 0)) cv_X11_387 dX11_writesAll_19 rfl rfl (hc43 hnx) rfl rfl (Nat.le_of_ble_eq_true rfl) (rmR _ _ _) ⟨Nat.le_refl _, Nat.le_refl _⟩ rfl (c_X11_writesNumber hnx (by simp only [List.length_append]; omega) hq hL ti (fun hL => ?_))
    replace hL : RgL (spv V q (sB 4 ++ trmL A (k + 1))) := by rw [trmL, ← List.append_assoc]; exact hL
    refine aw_hp (V' := spv V q (sB 4 ++ trmL A (k + 1))) rfl rfl rfl (by rw [trmL, ← List.append_assoc]) rfl ?_
    refine aw_iinc (ls' := [some (rf Γ 43), some _, none, none]) dX11_writesAll_22 rfl (by decide) rfl ?_
    refine aw_goto (tgt := 8) dX11_writesAll_25 rfl ?_
    exact ih (by omega)   hL

set_option maxHeartbeats 1000000 in
theorem c_X11_letter {Γ : GT} {S T U V A : St} {G : Gw} {nx d : Nat} {Q : QT} (hnx : 52 ≤ nx) {q c : Int} (hI : Inv c A) (hA : Ag A (V 0)) (hL : RgL V) (hq : inI q) (hQ : ∀ r, r = aLetter A q → RgL (if q < -1 then V else if 0 < A 26 0 then spv V q (texL A) else spv V q []) → Q (some (vi r)) (hp Γ S T U (if q < -1 then V else if 0 < A 26 0 then spv V q (texL A) else spv V q []) G) nx) : AM Γ MX11_letter (d + 13, 0, 0) [rf Γ 43, vi q] (hp Γ S T U V G) nx Q := by
  refine am_of (by decide) (Nat.le_of_ble_eq_true rfl) (ls := [some (rf Γ 43), some _]) rfl ?_
  have hR := hI.R
  have i1 := hI.i1
  have hz : 0 ≤ A 28 0 ∧ A 28 0 ≤ 60 := i1.2.2.1
  have hkS : nS A = (A 28 0).toNat := rfl
  have hkI : nIm A = (A 27 0).toNat := rfl
  have hkO : nOr A = (A 26 0).toNat := rfl
  have tl := hI.tex
  have tz : ¬ 0 < A 26 0 → texL A = [] := fun z => by unfold texL; rw [if_pos (by omega)]
  have hL0 := hL
  refine aw_iload_n dX11_letter_0 rfl ?_
  refine aw_iconst dX11_letter_1 ?_
  refine aw_icmp_ge (tgt := 7) dX11_letter_2 rfl (by omega) (fun c2 => ?_) (fun c2 => ?_)
  · skip
    refine aw_aload_n dX11_letter_7 rfl ?_
    refine aw_iconst dX11_letter_8 ?_
    refine aw_putV fp_X11_368 dX11_letter_9 (hc43 hnx) (Nat.le_of_ble_eq_true rfl) hL (by omega) hu43_17 (fun hL => ?_)
    refine aw_aload_n dX11_letter_12 rfl ?_
    refine aw_iload_n dX11_letter_13 rfl ?_
    refine aw_putV fp_X11_371 dX11_letter_14 (hc43 hnx) (Nat.le_of_ble_eq_true rfl) hL (by omega) hu43_18 (fun hL => ?_)
    refine aw_hp (V' := spv V q []) rfl rfl rfl (spv_0 V q) rfl ?_
    replace hL : RgL (spv V q []) := by rw [spv_0]; exact hL
    refine aw_aload_n dX11_letter_17 rfl ?_
    refine aw_callV (As := []) (ρ := (_, 0, 0)) (kn' := (0, 0)) cv_X11_286 dX11_letter_18 rfl rfl (hc43 hnx) rfl rfl (Nat.le_of_ble_eq_true rfl) (rmR _ _ _) ⟨Nat.le_refl _, Nat.le_refl _⟩ rfl (c_X11_hasScheme hnx hI hA hL (fun r18 h18 => ?_))
    rcases h18 with ⟨rfl, h18⟩ | ⟨rfl, h18⟩
    · skip
      refine aw_if_eq (tgt := 28) dX11_letter_21 rfl (by decide) (fun c => absurd c (by decide)) (fun _ => ?_)
      refine aw_aload_n dX11_letter_24 rfl ?_
      refine aw_callV (As := []) (ρ := (_, 0, 0)) (kn' := (0, 0)) cv_X11_396 dX11_letter_25 rfl rfl (hc43 hnx) rfl rfl (Nat.le_of_ble_eq_true rfl) (rmR _ _ _) ⟨Nat.le_refl _, Nat.le_refl _⟩ rfl (c_X11_writesAll hnx hI hA hq hL h18 (fun hL => ?_))
      first | (have w0 : 0 < A 26 0 := (by assumption); rw [if_neg (show ¬ q < -1 by omega), if_pos w0] at hQ) | (rw [if_neg (show ¬ q < -1 by omega), if_neg (by assumption)] at hQ; have et := tz (by assumption); rw [← et] at hL hQ ⊢)
      refine aw_iload_n dX11_letter_28 rfl ?_
      refine aw_iconst dX11_letter_29 ?_
      refine aw_icmp_ne (tgt := 40) dX11_letter_30 rfl (by omega) (fun c30 => ?_) (fun c30 => ?_)
      · skip
        refine aw_iload_n dX11_letter_40 rfl ?_
        refine aw_aload_n dX11_letter_41 rfl ?_
        refine aw_getf fg_X11_368 dX11_letter_42 (hc43 hnx) rfl ?_
        refine aw_sv (a := ((texL A).length : Int)) (rfl) ?_
        refine aw_icmp_ge (tgt := 55) dX11_letter_45 rfl (by omega) (fun c45 => ?_) (fun c45 => ?_)
        · skip
          refine aw_bipush dX11_letter_55 rfl ?_
          exact aw_ireturn dX11_letter_57 rfl rfl ⟨Nat.le_refl _, Nat.le_refl _⟩ (hQ _ (by unfold aLetter; rw [if_neg (show ¬ q < -1 by omega)]; first | rw [if_pos (show q = -1 by omega)] | (rw [if_neg (show ¬ q = -1 by omega)]; first | rw [if_pos (by omega)] | rw [if_neg (by omega)])) hL)
        · skip
          refine aw_aload_n dX11_letter_48 rfl ?_
          refine aw_getf fg_X11_374 dX11_letter_49 (hc43 hnx) rfl ?_
          refine aw_sv (a := (texL A).getD q.toNat 0) (by show _ = (if 0 ≤ q ∧ q < ((texL A).length : Int) then kf _ else V 19) 0; rw [if_pos (by omega)]; rfl) ?_
          refine aw_goto (tgt := 57) dX11_letter_52 rfl ?_
          exact aw_ireturn dX11_letter_57 rfl rfl ⟨Nat.le_refl _, Nat.le_refl _⟩ (hQ _ (by unfold aLetter; rw [if_neg (show ¬ q < -1 by omega)]; first | rw [if_pos (show q = -1 by omega)] | (rw [if_neg (show ¬ q = -1 by omega)]; first | rw [if_pos (by omega)] | rw [if_neg (by omega)])) hL)
      · skip
        refine aw_aload_n dX11_letter_33 rfl ?_
        refine aw_getf fg_X11_368 dX11_letter_34 (hc43 hnx) rfl ?_
        refine aw_sv (a := ((texL A).length : Int)) (rfl) ?_
        refine aw_goto (tgt := 57) dX11_letter_37 rfl ?_
        exact aw_ireturn dX11_letter_57 rfl rfl ⟨Nat.le_refl _, Nat.le_refl _⟩ (hQ _ (by unfold aLetter; rw [if_neg (show ¬ q < -1 by omega)]; first | rw [if_pos (show q = -1 by omega)] | (rw [if_neg (show ¬ q = -1 by omega)]; first | rw [if_pos (by omega)] | rw [if_neg (by omega)])) hL)
    · skip
      refine aw_if_eq (tgt := 28) dX11_letter_21 rfl (by decide) (fun _ => ?_) (fun c => absurd c (by decide))
      first | (have w0 : 0 < A 26 0 := (by assumption); rw [if_neg (show ¬ q < -1 by omega), if_pos w0] at hQ) | (rw [if_neg (show ¬ q < -1 by omega), if_neg (by assumption)] at hQ; have et := tz (by assumption); rw [← et] at hL hQ ⊢)
      refine aw_iload_n dX11_letter_28 rfl ?_
      refine aw_iconst dX11_letter_29 ?_
      refine aw_icmp_ne (tgt := 40) dX11_letter_30 rfl (by omega) (fun c30 => ?_) (fun c30 => ?_)
      · skip
        refine aw_iload_n dX11_letter_40 rfl ?_
        refine aw_aload_n dX11_letter_41 rfl ?_
        refine aw_getf fg_X11_368 dX11_letter_42 (hc43 hnx) rfl ?_
        refine aw_sv (a := ((texL A).length : Int)) (rfl) ?_
        refine aw_icmp_ge (tgt := 55) dX11_letter_45 rfl (by omega) (fun c45 => ?_) (fun c45 => ?_)
        · skip
          refine aw_bipush dX11_letter_55 rfl ?_
          exact aw_ireturn dX11_letter_57 rfl rfl ⟨Nat.le_refl _, Nat.le_refl _⟩ (hQ _ (by unfold aLetter; rw [if_neg (show ¬ q < -1 by omega)]; first | rw [if_pos (show q = -1 by omega)] | (rw [if_neg (show ¬ q = -1 by omega)]; first | rw [if_pos (by omega)] | rw [if_neg (by omega)])) hL)
        · skip
          refine aw_aload_n dX11_letter_48 rfl ?_
          refine aw_getf fg_X11_374 dX11_letter_49 (hc43 hnx) rfl ?_
          refine aw_sv (a := (texL A).getD q.toNat 0) (by show _ = (if 0 ≤ q ∧ q < ((texL A).length : Int) then kf _ else V 19) 0; rw [if_pos (by omega)]; rfl) ?_
          refine aw_goto (tgt := 57) dX11_letter_52 rfl ?_
          exact aw_ireturn dX11_letter_57 rfl rfl ⟨Nat.le_refl _, Nat.le_refl _⟩ (hQ _ (by unfold aLetter; rw [if_neg (show ¬ q < -1 by omega)]; first | rw [if_pos (show q = -1 by omega)] | (rw [if_neg (show ¬ q = -1 by omega)]; first | rw [if_pos (by omega)] | rw [if_neg (by omega)])) hL)
      · skip
        refine aw_aload_n dX11_letter_33 rfl ?_
        refine aw_getf fg_X11_368 dX11_letter_34 (hc43 hnx) rfl ?_
        refine aw_sv (a := ((texL A).length : Int)) (rfl) ?_
        refine aw_goto (tgt := 57) dX11_letter_37 rfl ?_
        exact aw_ireturn dX11_letter_57 rfl rfl ⟨Nat.le_refl _, Nat.le_refl _⟩ (hQ _ (by unfold aLetter; rw [if_neg (show ¬ q < -1 by omega)]; first | rw [if_pos (show q = -1 by omega)] | (rw [if_neg (show ¬ q = -1 by omega)]; first | rw [if_pos (by omega)] | rw [if_neg (by omega)])) hL)
  · skip
    refine aw_iconst dX11_letter_5 ?_
    exact aw_ireturn dX11_letter_6 rfl rfl ⟨Nat.le_refl _, Nat.le_refl _⟩ (by have z := hQ (-1) (by unfold aLetter; rw [if_pos (by omega)]); rw [if_pos (by omega)] at z; exact z hL)


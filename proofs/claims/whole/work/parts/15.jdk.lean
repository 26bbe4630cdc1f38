section AWS
variable {Γ : GT} {M M' : MD} {R : Room} {Φ : PH} {kn kn' : Nat × Nat} {pc : Nat} {ls : List (Option Value)} {st : List Value} {h : Nat → AC} {nx : Nat}
theorem aw_getSV {i j : Nat} (hi : i < SR.length) (hl : Cond.fieldLink M.1.cls j "java/lang/String" "value" "[B" ∈ WL) (hd : decode M.2.1 pc = .ok (.getfield j, 3)) (k : AW Γ M R Φ kn (pc + 3) ls (.ref (gV Γ i) :: st) h nx) : AW Γ M R Φ kn pc ls (.ref (gK Γ i) :: st) h nx := by
  intro p e s m args below meth c H locs lsa C hS hH hL
  have hts := C.2.2.2.2.2.2.2.1
  have hG := C.2.2.2.2.2.2.2.2
  exact vk_getf C.1 C.2.1 ((hG.2.2.1.2.1 i hi).1 0 (by omega)).2.2.1 hS C.2.2.2.2.2.1 (hts _ hl) (fun _ q => q) hd (k p e s m args below meth c H locs lsa C hS hH hL)
theorem aw_getSC {i j : Nat} (hi : i < SR.length) (hl : Cond.fieldLink M.1.cls j "java/lang/String" "coder" "B" ∈ WL) (hd : decode M.2.1 pc = .ok (.getfield j, 3)) (k : AW Γ M R Φ kn (pc + 3) ls (vi 0 :: st) h nx) : AW Γ M R Φ kn pc ls (.ref (gK Γ i) :: st) h nx := by
  intro p e s m args below meth c H locs lsa C hS hH hL
  have hts := C.2.2.2.2.2.2.2.1
  have hG := C.2.2.2.2.2.2.2.2
  exact vk_getf C.1 C.2.1 ((hG.2.2.1.2.1 i hi).1 0 (by omega)).2.1 hS C.2.2.2.2.2.1 (hts _ hl) (fun _ q => q) hd (k p e s m args below meth c H locs lsa C hS hH hL)
theorem aw_lenS {i : Nat} (hi : i < SR.length) (hd : decode M.2.1 pc = .ok (.arraylength, 1)) (k : AW Γ M R Φ kn (pc + 1) ls (vi (sB i).length :: st) h nx) : AW Γ M R Φ kn pc ls (.ref (gV Γ i) :: st) h nx := by
  intro p e s m args below meth c H locs lsa C hS hH hL
  have hG := C.2.2.2.2.2.2.2.2
  refine va_tlen (v := I (sB i).length) C.1 C.2.1 ((hG.2.2.1.2.1 i hi).1 0 (by omega)).2.2.2 hS ?_ hd (k p e s m args below meth c H locs lsa C hS hH hL)
  show Int32.ofNat (sB i).length = Int32.ofInt ((sB i).length : Int)
  exact (Int32.ofInt_eq_ofNat).symm
theorem aw_baldS {i : Nat} {a : Int} (hi : i < SR.length) (ha : 0 ≤ a ∧ a < ((sB i).length : Int)) (hn : (sB i).length < 2147483648) (hd : decode M.2.1 pc = .ok (.baload, 1)) (k : AW Γ M R Φ kn (pc + 1) ls (vi ((sB i).getD a.toNat 0) :: st) h nx) : AW Γ M R Φ kn pc ls (vi a :: .ref (gV Γ i) :: st) h nx := by
  intro p e s m args below meth c H locs lsa C hS hH hL
  have hG := C.2.2.2.2.2.2.2.2
  refine va_tb (v := vi ((sB i).getD a.toNat 0)) C.1 C.2.1 ((hG.2.2.1.2.1 i hi).1 0 (by omega)).2.2.2 hS (I_in ha.1 (by simpa using ha.2) (by simpa using hn)) ?_ hd (k p e s m args below meth c H locs lsa C hS hH hL)
  rw [I_clamp ha.1 ⟨by omega, by omega⟩]
  show Value.int (((sB i).map I).getD a.toNat 0) = vi _
  rw [List.getD_eq_getElem?_getD, List.getD_eq_getElem?_getD, List.getElem?_map]
  cases (sB i)[a.toNat]? <;> rfl
theorem aw_getsC {j : Nat} (hl : Cond.fieldLink M.1.cls j "java/lang/String" "COMPACT_STRINGS" "Z" ∈ WL) (hd : decode M.2.1 pc = .ok (.getstatic j, 3)) (k : AW Γ M R Φ kn (pc + 3) ls (vi 1 :: st) h nx) : AW Γ M R Φ kn pc ls st h nx := by
  intro p e s m args below meth c H locs lsa C hS hH hL
  have hts := C.2.2.2.2.2.2.2.1
  have hG := C.2.2.2.2.2.2.2.2
  exact va_gets C.1 C.2.1 hG.2.2.1.2.2.1 hS C.2.2.2.2.2.1 (hts _ hl) (fun _ q => q) hd (k p e s m args below meth c H locs lsa C hS hH hL)
theorem aw_getsF {j : Nat} (hl : Cond.fieldLink M.1.cls j "jdk/internal/util/Preconditions" "SIOOBE_FORMATTER" "Ljava/util/function/BiFunction;" ∈ WL) (hd : decode M.2.1 pc = .ok (.getstatic j, 3)) (k : ∀ v : Value, v.category = 1 → c2 (some v) = false → AW Γ M R Φ kn (pc + 3) ls (v :: st) h nx) : AW Γ M R Φ kn pc ls st h nx := by
  intro p e s m args below meth c H locs lsa C hS hH hL
  have hts := C.2.2.2.2.2.2.2.1
  have hG := C.2.2.2.2.2.2.2.2
  rcases hG.2.2.1.2.2.2.2.2.2 with hz | ⟨t, hz⟩
  · exact va_gets C.1 C.2.1 hz hS C.2.2.2.2.2.1 (hts _ hl) (fun _ q => q) hd (k _ rfl rfl p e s m args below meth c H locs lsa C hS hH hL)
  · exact va_gets C.1 C.2.1 hz hS C.2.2.2.2.2.1 (hts _ hl) (fun _ q => q) hd (k _ rfl rfl p e s m args below meth c H locs lsa C hS hH hL)
theorem aw_callVS {j n i : Nat} {As st0 : List Value} {ρ : RM} (B : CV M.1.cls j M' n) (hd : decode M.2.1 pc = .ok (.invokevirtual j, 3)) (hs : st0 = As.reverse ++ .ref (gK Γ i) :: st) (hn : As.length = n) (hi : i < SR.length) (hq : M'.1.cls = "java/lang/String") (hW : (st.map fun v => v.category).sum ≤ 8) (hR : ρ.1 + 1 ≤ R.frames ∧ 48 * ρ.1 + 48 ≤ R.locals) (hf : kn.1 + ρ.2.1 ≤ R.cells ∧ kn.2 + ρ.2.2 ≤ R.slots) (hk : kn' = (kn.1 + ρ.2.1, kn.2 + ρ.2.2))
    (k : AM Γ M' ρ (.ref (gK Γ i) :: As) h nx (fun r h' nx' => AW Γ M R Φ kn' (pc + 3) ls (ret' r st) h' nx')) : AW Γ M R Φ kn pc ls st0 h nx := by
  intro p e s m args below meth c H locs lsa C hS hH hL
  subst hs; subst hk
  have hts := C.2.2.2.2.2.2.2.1
  have hG := C.2.2.2.2.2.2.2.2
  refine gRun C hS hL (va_runV (nL := M.2.2.1) (Ts := WL) (own := M.1.cls) (C := M'.1.cls) ⟨C.1, C.2.1, C.2.2.2.2.1, C.2.2.2.2.2.1, hts⟩ k ⟨gCB B.1 hts hR B.2.2.2, hts _ B.2.1, hts _ B.2.2.1⟩ ⟨gdP, ?_, fun U hU hW => gdU hG hS hH hU hW⟩ rfl hn hL.1 rfl (by show 2 * 0 + _ ≤ 8; omega) hd hf)
  have := vk_recv (hG.2.2.1.2.1 i hi) (i := 0) (by omega) hS
  rw [hq]
  exact this
theorem rmN (d c s : Nat) {n : Nat} (hn : n ≤ 30) : 1 ≤ (rmm (d + 1, c, s)).frames ∧ n + 15 ≤ (rmm (d + 1, c, s)).locals := ⟨by show 1 ≤ d + 1; omega, by show n + 15 ≤ 48 * (d + 1); omega⟩
theorem rmN13 (d c s : Nat) {n : Nat} (hn : n ≤ 30) : 1 ≤ (rmm (d + 1, c, s)).frames ∧ n + 13 ≤ (rmm (d + 1, c, s)).locals := ⟨by show 1 ≤ d + 1; omega, by show n + 13 ≤ 48 * (d + 1); omega⟩
theorem rmO (d c s : Nat) {n : Nat} (hn : n ≤ 30) : 1 ≤ (rmm (d + 1, c, s)).frames ∧ n + 12 ≤ (rmm (d + 1, c, s)).locals := ⟨by show 1 ≤ d + 1; omega, by show n + 12 ≤ 48 * (d + 1); omega⟩
theorem rmA (d c s : Nat) {n : Nat} (hn : n ≤ 8) : 1 ≤ (rmm (d + 1, c, s)).frames ∧ n + (nativeFrameWords "java/lang/System" "arraycopy" 5 + 11) ≤ (rmm (d + 1, c, s)).locals := ⟨by show 1 ≤ d + 1; omega, by
  have : nativeFrameWords "java/lang/System" "arraycopy" 5 ≤ 28 := by decide
  show n + (nativeFrameWords "java/lang/System" "arraycopy" 5 + 11) ≤ 48 * (d + 1)
  omega⟩
theorem qc_min : Cond.code Lib.Math.min.name Lib.Math.min.code 2 (some .int) ∈ WL := qc_J9_min_7cf53
theorem qc_max : Cond.code Lib.Math.max.name Lib.Math.max.code 2 (some .int) ∈ WL := qc_J9_max_7cf53
theorem qc_minL : Cond.code Lib.MathLoose.min_long.x Lib.MathLoose.min_long.code 4 (some .long) ∈ WL := qc_J9_min_f86c9
theorem qc_maxL : Cond.code Lib.MathLoose.max_long.x Lib.MathLoose.max_long.code 4 (some .long) ∈ WL := qc_J9_max_f86c9
theorem aw_mmin {j : Nat} {a b : Int} (hl : Cond.methodLink M.1.cls j yJ9_min_7cf53 ∈ WL) (hd : decode M.2.1 pc = .ok (.invokestatic j, 3)) (hab : inI a ∧ inI b) (hR : 1 ≤ R.frames ∧ (st.map fun v => v.category).sum + 13 ≤ R.locals) (hk : kn.1 ≤ R.cells ∧ kn.2 ≤ R.slots) (k : ∀ r, r = min a b → AW Γ M R Φ kn (pc + 3) ls (vi r :: st) h nx) : AW Γ M R Φ kn pc ls (vi b :: vi a :: st) h nx := by
  intro p e s m args below meth c H locs lsa C hS hH hL
  have hts := C.2.2.2.2.2.2.2.1
  refine va_mmin C.1 C.2.1 (C.2.2.2.2.1.trans hL.1.symm) C.2.2.2.2.2.1 (hts _ hl) (hts _ qt_J9_min_7cf53) (hts _ qn_J9) (hts _ qc_min) hR.1 hR.2 hk.1 hk.2 hd ?_
  have e1 : (if I b < I a then I b else I a) = I (min a b) := by
    by_cases q : b < a
    · rw [if_pos ((I_lt hab.2 hab.1).mpr q)]; congr 1; omega
    · rw [if_neg (fun z => q ((I_lt hab.2 hab.1).mp z))]; congr 1; omega
  rw [e1]
  exact k _ rfl p e s m args below meth c H locs lsa C hS hH hL
theorem aw_mmax {j : Nat} {a b : Int} (hl : Cond.methodLink M.1.cls j yJ9_max_7cf53 ∈ WL) (hd : decode M.2.1 pc = .ok (.invokestatic j, 3)) (hab : inI a ∧ inI b) (hR : 1 ≤ R.frames ∧ (st.map fun v => v.category).sum + 13 ≤ R.locals) (hk : kn.1 ≤ R.cells ∧ kn.2 ≤ R.slots) (k : ∀ r, r = max a b → AW Γ M R Φ kn (pc + 3) ls (vi r :: st) h nx) : AW Γ M R Φ kn pc ls (vi b :: vi a :: st) h nx := by
  intro p e s m args below meth c H locs lsa C hS hH hL
  have hts := C.2.2.2.2.2.2.2.1
  refine va_mmax C.1 C.2.1 (C.2.2.2.2.1.trans hL.1.symm) C.2.2.2.2.2.1 (hts _ hl) (hts _ qt_J9_max_7cf53) (hts _ qn_J9) (hts _ qc_max) hR.1 hR.2 hk.1 hk.2 hd ?_
  have e1 : (if I a < I b then I b else I a) = I (max a b) := by
    by_cases q : a < b
    · rw [if_pos ((I_lt hab.1 hab.2).mpr q)]; congr 1; omega
    · rw [if_neg (fun z => q ((I_lt hab.1 hab.2).mp z))]; congr 1; omega
  rw [e1]
  exact k _ rfl p e s m args below meth c H locs lsa C hS hH hL
theorem aw_mminL {j : Nat} {a b : Int} (hl : Cond.methodLink M.1.cls j yJ9_min_f86c9 ∈ WL) (hd : decode M.2.1 pc = .ok (.invokestatic j, 3)) (hab : inL a ∧ inL b) (hR : 1 ≤ R.frames ∧ (st.map fun v => v.category).sum + 15 ≤ R.locals) (hk : kn.1 ≤ R.cells ∧ kn.2 ≤ R.slots) (k : ∀ r, r = min a b → AW Γ M R Φ kn (pc + 3) ls (vl r :: st) h nx) : AW Γ M R Φ kn pc ls (vl b :: vl a :: st) h nx := by
  intro p e s m args below meth c H locs lsa C hS hH hL
  have hts := C.2.2.2.2.2.2.2.1
  refine va_mmin_long C.1 C.2.1 (C.2.2.2.2.1.trans hL.1.symm) C.2.2.2.2.2.1 (hts _ hl) (hts _ qt_J9_min_f86c9) (hts _ qn_J9) (hts _ qc_minL) hR.1 hR.2 hk.1 hk.2 hd ?_
  have e1 : (if L b < L a then L b else L a) = L (min a b) := by
    by_cases q : b < a
    · rw [if_pos ((L_lt hab.2 hab.1).mpr q)]; congr 1; omega
    · rw [if_neg (fun z => q ((L_lt hab.2 hab.1).mp z))]; congr 1; omega
  rw [e1]
  exact k _ rfl p e s m args below meth c H locs lsa C hS hH hL
theorem aw_mmaxL {j : Nat} {a b : Int} (hl : Cond.methodLink M.1.cls j yJ9_max_f86c9 ∈ WL) (hd : decode M.2.1 pc = .ok (.invokestatic j, 3)) (hab : inL a ∧ inL b) (hR : 1 ≤ R.frames ∧ (st.map fun v => v.category).sum + 15 ≤ R.locals) (hk : kn.1 ≤ R.cells ∧ kn.2 ≤ R.slots) (k : ∀ r, r = max a b → AW Γ M R Φ kn (pc + 3) ls (vl r :: st) h nx) : AW Γ M R Φ kn pc ls (vl b :: vl a :: st) h nx := by
  intro p e s m args below meth c H locs lsa C hS hH hL
  have hts := C.2.2.2.2.2.2.2.1
  refine va_mmax_long C.1 C.2.1 (C.2.2.2.2.1.trans hL.1.symm) C.2.2.2.2.2.1 (hts _ hl) (hts _ qt_J9_max_f86c9) (hts _ qn_J9) (hts _ qc_maxL) hR.1 hR.2 hk.1 hk.2 hd ?_
  have e1 : (if L b < L a then L a else L b) = L (max a b) := by
    by_cases q : b < a
    · rw [if_pos ((L_lt hab.2 hab.1).mpr q)]; congr 1; omega
    · rw [if_neg (fun z => q ((L_lt hab.2 hab.1).mp z))]; congr 1; omega
  rw [e1]
  exact k _ rfl p e s m args below meth c H locs lsa C hS hH hL
end AWS
theorem sB_small : ∀ i, i < SR.length → (sB i).length < 20 := by decide +kernel
theorem sB_byte : ∀ i, i < SR.length → ∀ x ∈ sB i, 0 ≤ x ∧ x < 128 := by decide +kernel

theorem c_J0_coder {Γ : GT} {h : Nat → AC} {nx d i : Nat} {Q : QT} (hi : i < SR.length) (hQ : Q (some (vi 0)) h nx) : AM Γ MJ0_coder_7d493 (d, 0, 0) [.ref (gK Γ i)] h nx Q := by
  refine am_of (by decide) (Nat.le_of_ble_eq_true rfl) (ls := [some (.ref (gK Γ i))]) rfl ?_
  refine aw_getsC qf_J0_38 dJ0_coder_7d493_0 ?_
  refine aw_if_eq (tgt := 13) dJ0_coder_7d493_3 rfl (by omega) (fun c => absurd c (by omega)) (fun c => ?_)
  refine aw_aload_n dJ0_coder_7d493_6 rfl ?_
  refine aw_getSC hi qf_J0_15 dJ0_coder_7d493_7 ?_
  refine aw_goto (tgt := 14) dJ0_coder_7d493_10 rfl ?_
  exact aw_ireturn dJ0_coder_7d493_14 rfl rfl ⟨Nat.le_refl _, Nat.le_refl _⟩ hQ
theorem c_J0_isLatin1 {Γ : GT} {h : Nat → AC} {nx d i : Nat} {Q : QT} (hi : i < SR.length) (hQ : Q (some (vi 1)) h nx) : AM Γ MJ0_isLatin1_aae02 (d, 0, 0) [.ref (gK Γ i)] h nx Q := by
  refine am_of (by decide) (Nat.le_of_ble_eq_true rfl) (ls := [some (.ref (gK Γ i))]) rfl ?_
  refine aw_getsC qf_J0_38 dJ0_isLatin1_aae02_0 ?_
  refine aw_if_eq (tgt := 17) dJ0_isLatin1_aae02_3 rfl (by omega) (fun c => absurd c (by omega)) (fun c => ?_)
  refine aw_aload_n dJ0_isLatin1_aae02_6 rfl ?_
  refine aw_getSC hi qf_J0_15 dJ0_isLatin1_aae02_7 ?_
  refine aw_if_ne (tgt := 17) dJ0_isLatin1_aae02_10 rfl (by omega) (fun c => absurd c (by omega)) (fun c => ?_)
  refine aw_iconst dJ0_isLatin1_aae02_13 ?_
  refine aw_goto (tgt := 18) dJ0_isLatin1_aae02_14 rfl ?_
  exact aw_zreturn dJ0_isLatin1_aae02_18 rfl (by omega) ⟨Nat.le_refl _, Nat.le_refl _⟩ hQ
/-- String.length -/
theorem c_J0_length {Γ : GT} {h : Nat → AC} {nx d i : Nat} {Q : QT} (hi : i < SR.length) (hQ : Q (some (vi (sB i).length)) h nx) : AM Γ MJ0_length_8abf5 (d + 1, 0, 0) [.ref (gK Γ i)] h nx Q := by
  refine am_of (by decide) (Nat.le_of_ble_eq_true rfl) (ls := [some (.ref (gK Γ i))]) rfl ?_
  refine aw_aload_n dJ0_length_8abf5_0 rfl ?_
  refine aw_getSV hi qf_J0_9 dJ0_length_8abf5_1 ?_
  refine aw_lenS hi dJ0_length_8abf5_4 ?_
  refine aw_aload_n dJ0_length_8abf5_5 rfl ?_
  refine aw_callVS (As := []) (ρ := (_, 0, 0)) (kn' := (0, 0)) cv_J0_335 dJ0_length_8abf5_6 rfl rfl hi rfl (Nat.le_of_ble_eq_true rfl) (rmR _ _ _) ⟨Nat.le_refl _, Nat.le_refl _⟩ rfl (c_J0_coder hi ?_)
  refine aw_ishr dJ0_length_8abf5_9 (v := I (sB i).length) ?_ ?_
  · show I _ >>> (I 0 &&& 31) = I _
    exact sb_shr0 _
  exact aw_ireturn dJ0_length_8abf5_10 rfl rfl ⟨Nat.le_refl _, Nat.le_refl _⟩ hQ
theorem c_J3_checkIndex {Γ : GT} {h : Nat → AC} {nx d : Nat} {Q : QT} {a n : Int} {v : Value} (hv : v.category = 1) (hc : c2 (some v) = false) (he : en0 [vi a, vi n, v] = [some (vi a), some (vi n), some v]) (hl : (lg_sl [vi a, vi n, v]).length = 3) (ha : 0 ≤ a ∧ a < n) (hn : inI n) (hQ : Q (some (vi a)) h nx) : AM Γ MJ3_checkIndex_8e157 (d, 0, 0) [vi a, vi n, v] h nx Q := by
  refine am_of (by decide) (by rw [hl]; decide) (ls := [some (vi a), some (vi n), some v]) ?_ ?_
  · unfold en
    rw [he, hl]
    rfl
  refine aw_iload_n dJ3_checkIndex_8e157_0 rfl ?_
  refine aw_if_lt (tgt := 9) dJ3_checkIndex_8e157_1 rfl (by omega) (fun c => absurd c (by omega)) (fun c => ?_)
  refine aw_iload_n dJ3_checkIndex_8e157_4 rfl ?_
  refine aw_iload_n dJ3_checkIndex_8e157_5 rfl ?_
  refine aw_icmp_lt (tgt := 16) dJ3_checkIndex_8e157_6 rfl (by omega) (fun c => ?_) (fun c => absurd c (by omega))
  refine aw_iload_n dJ3_checkIndex_8e157_16 rfl ?_
  exact aw_ireturn dJ3_checkIndex_8e157_17 rfl rfl ⟨Nat.le_refl _, Nat.le_refl _⟩ hQ
theorem c_J0_checkIndex {Γ : GT} {h : Nat → AC} {nx d : Nat} {Q : QT} {a n : Int} (ha : 0 ≤ a ∧ a < n) (hn : inI n) (hQ : Q none h nx) : AM Γ MJ0_checkIndex_df160 (d + 1, 0, 0) [vi a, vi n] h nx Q := by
  refine am_of (by decide) (Nat.le_of_ble_eq_true rfl) (ls := [some (vi a), some (vi n)]) rfl ?_
  refine aw_iload_n dJ0_checkIndex_df160_0 rfl ?_
  refine aw_iload_n dJ0_checkIndex_df160_1 rfl ?_
  refine aw_getsF qf_J0_1053 dJ0_checkIndex_df160_2 (fun v hv hc => ?_)
  refine aw_callS (As := [_, _, _]) (ρ := (_, 0, 0)) (kn' := (0, 0)) cs_J0_1059 dJ0_checkIndex_df160_5 rfl rfl (Nat.le_of_ble_eq_true rfl) (rmR _ _ _) ⟨Nat.le_refl _, Nat.le_refl _⟩ rfl (c_J3_checkIndex hv hc ?_ ?_ ha hn ?_)
  · revert hc; cases v <;> simp [en0, c2]
  · simp only [lg_sl, List.flatMap_cons, List.flatMap_nil, hv]; rfl
  refine aw_pop dJ0_checkIndex_df160_8 rfl ?_
  exact aw_return dJ0_checkIndex_df160_9 rfl ⟨Nat.le_refl _, Nat.le_refl _⟩ hQ
theorem c_J1_charAt {Γ : GT} {h : Nat → AC} {nx d i : Nat} {Q : QT} {a : Int} (hi : i < SR.length) (ha : 0 ≤ a ∧ a < ((sB i).length : Int)) (hQ : Q (some (vi ((sB i).getD a.toNat 0))) h nx) : AM Γ MJ1_charAt_3b067 (d + 2, 0, 0) [.ref (gV Γ i), vi a] h nx Q := by
  have hs := sB_small i hi
  have hb : 0 ≤ (sB i).getD a.toNat 0 ∧ (sB i).getD a.toNat 0 < 128 := by
    rw [List.getD_eq_getElem?_getD]
    cases q : (sB i)[a.toNat]? with
    | none => exact ⟨by simp, by simp⟩
    | some x => exact sB_byte i hi x (List.mem_of_getElem? q)
  refine am_of (by decide) (Nat.le_of_ble_eq_true rfl) (ls := [some (.ref (gV Γ i)), some (vi a)]) rfl ?_
  refine aw_iload_n dJ1_charAt_3b067_0 rfl ?_
  refine aw_aload_n dJ1_charAt_3b067_1 rfl ?_
  refine aw_lenS hi dJ1_charAt_3b067_2 ?_
  refine aw_callS (As := [_, _]) (ρ := (_, 0, 0)) (kn' := (0, 0)) cs_J1_9 dJ1_charAt_3b067_3 rfl rfl (Nat.le_of_ble_eq_true rfl) (rmR _ _ _) ⟨Nat.le_refl _, Nat.le_refl _⟩ rfl (c_J0_checkIndex ha (by omega) ?_)
  refine aw_aload_n dJ1_charAt_3b067_6 rfl ?_
  refine aw_iload_n dJ1_charAt_3b067_7 rfl ?_
  refine aw_baldS hi ha (by omega) dJ1_charAt_3b067_8 ?_
  refine aw_sipush dJ1_charAt_3b067_9 rfl ?_
  generalize (sB i).getD a.toNat 0 = y at hb hQ ⊢
  have e1 : ∀ z : Fin 128, I (z.val : Int) &&& I 255 = I (z.val : Int) ∧ ((I (z.val : Int)).toUInt32 % 65536).toInt32 = I (z.val : Int) ∧ narrow .char (vi (z.val : Int)) = vi (z.val : Int) := by decide +kernel
  obtain ⟨y1, y2, y3⟩ := e1 ⟨y.toNat, by omega⟩
  have ey : ((y.toNat : Nat) : Int) = y := Int.toNat_of_nonneg hb.1
  simp only [ey] at y1 y2 y3
  refine aw_iand dJ1_charAt_3b067_12 y1 ?_
  refine aw_i2c dJ1_charAt_3b067_13 y2 ?_
  exact aw_ireturn dJ1_charAt_3b067_14 rfl y3 ⟨Nat.le_refl _, Nat.le_refl _⟩ hQ
/-- String.charAt -/
theorem c_J0_charAt {Γ : GT} {h : Nat → AC} {nx d i : Nat} {Q : QT} {a : Int} (hi : i < SR.length) (ha : 0 ≤ a ∧ a < ((sB i).length : Int)) (hQ : Q (some (vi ((sB i).getD a.toNat 0))) h nx) : AM Γ MJ0_charAt_5068e (d + 3, 0, 0) [.ref (gK Γ i), vi a] h nx Q := by
  have hb : 0 ≤ (sB i).getD a.toNat 0 ∧ (sB i).getD a.toNat 0 < 128 := by
    rw [List.getD_eq_getElem?_getD]
    cases q : (sB i)[a.toNat]? with
    | none => exact ⟨by simp, by simp⟩
    | some x => exact sB_byte i hi x (List.mem_of_getElem? q)
  refine am_of (by decide) (Nat.le_of_ble_eq_true rfl) (ls := [some (.ref (gK Γ i)), some (vi a)]) rfl ?_
  refine aw_aload_n dJ0_charAt_5068e_0 rfl ?_
  refine aw_callVS (As := []) (ρ := (_, 0, 0)) (kn' := (0, 0)) cv_J0_492 dJ0_charAt_5068e_1 rfl rfl hi rfl (Nat.le_of_ble_eq_true rfl) (rmR _ _ _) ⟨Nat.le_refl _, Nat.le_refl _⟩ rfl (c_J0_isLatin1 hi ?_)
  refine aw_if_eq (tgt := 16) dJ0_charAt_5068e_4 rfl (by omega) (fun c => absurd c (by omega)) (fun c => ?_)
  refine aw_aload_n dJ0_charAt_5068e_7 rfl ?_
  refine aw_getSV hi qf_J0_9 dJ0_charAt_5068e_8 ?_
  refine aw_iload_n dJ0_charAt_5068e_11 rfl ?_
  refine aw_callS (As := [_, _]) (ρ := (_, 0, 0)) (kn' := (0, 0)) cs_J0_495 dJ0_charAt_5068e_12 rfl rfl (Nat.le_of_ble_eq_true rfl) (rmR _ _ _) ⟨Nat.le_refl _, Nat.le_refl _⟩ rfl (c_J1_charAt hi ha ?_)
  generalize (sB i).getD a.toNat 0 = y at hb hQ ⊢
  have e1 : ∀ z : Fin 128, narrow .char (vi (z.val : Int)) = vi (z.val : Int) := by decide +kernel
  have y3 := e1 ⟨y.toNat, by omega⟩
  have ey : ((y.toNat : Nat) : Int) = y := Int.toNat_of_nonneg hb.1
  simp only [ey] at y3
  exact aw_ireturn dJ0_charAt_5068e_15 rfl y3 ⟨Nat.le_refl _, Nat.le_refl _⟩ hQ

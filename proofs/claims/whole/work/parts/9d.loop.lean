/-! the law: a note; the loop -/
set_option maxHeartbeats 1000000 in
theorem law_note {Γ : GT} {nm : String} {b L : Nat} {xs : Nat → Int} {S T U V : St} {G : Gw} {nx k : Nat} (hG : GI k S T U V G nx) (hk : 6 * k + 6 ≤ L) (hL : L ≤ 3072) (hX : ∀ j, inI (xs j)) (hK : ∀ S2 T2 U2 V2 G2 nx2, GI ((k : Int) + 1) S2 T2 U2 V2 G2 nx2 → AW Γ (MLw nm) room_1 (PL Γ b L xs) (KN (k + 1)) 2122 [some (.ref b), some (rf Γ 0), some (rf Γ 43), some (vi (6 * (k : Int)))] [] (hp Γ S2 T2 U2 V2 G2) nx2) : AW Γ (MLw nm) room_1 (PL Γ b L xs) (KN k) 1979 [some (.ref b), some (rf Γ 0), some (rf Γ 43), some (vi (6 * (k : Int)))] [] (hp Γ S T U V G) nx := by
  have hnx := hG.1
  have hLv := hG.2.2.1
  have hI := hG.2.2.2.1
  have hA := hG.2.2.2.2.1
  have hM : 0 ≤ V 10 0 ∧ V 10 0 ≤ 10 := by have q := hG.2.2.2.2.2.2.2.2.1; have := q.2.1; have := q.2.2.1; omega
  have h7 := hG.2.2.2.2.2.2.1
  refine aw_aload_n dL_law_1979 rfl ?_
  refine aw_aload_n dL_law_1980 rfl ?_
  refine aw_iload_n dL_law_1981 rfl ?_
  refine aw_iconst dL_law_1982 ?_
  refine aw_iadd dL_law_1983 ?_
  refine aw_sld dL_law_1984 (by omega) (by omega) ?_
  refine aw_aload_n dL_law_1985 rfl ?_
  refine aw_iload_n dL_law_1986 rfl ?_
  refine aw_iconst dL_law_1987 ?_
  refine aw_iadd dL_law_1988 ?_
  refine aw_sld dL_law_1989 (by omega) (by omega) ?_
  refine aw_aload_n dL_law_1990 rfl ?_
  refine aw_iload_n dL_law_1991 rfl ?_
  refine aw_iconst dL_law_1992 ?_
  refine aw_iadd dL_law_1993 ?_
  refine aw_sld dL_law_1994 (by omega) (by omega) ?_
  refine aw_i2l dL_law_1995 (hX _) ?_
  refine aw_bipush dL_law_1996 rfl ?_
  refine aw_lshl dL_law_1998 rfl ?_
  refine aw_aload_n dL_law_1999 rfl ?_
  refine aw_iload_n dL_law_2000 rfl ?_
  refine aw_iconst dL_law_2001 ?_
  refine aw_iadd dL_law_2002 ?_
  refine aw_sld dL_law_2003 (by omega) (by omega) ?_
  refine aw_i2l dL_law_2004 (hX _) ?_
  refine aw_ldc2 dL_law_2005 qk_L_238 ?_
  refine aw_land dL_law_2008 rfl ?_
  refine aw_lor dL_law_2009 rfl ?_
  refine aw_nmll (fun y hy ey => ?_)
  refine aw_callV (As := [_, _, _]) (ρ := (21, 0, 0)) (kn' := ((KN k).1 + 0, (KN k).2 + 0)) cv_L_240 dL_law_2010 rfl rfl (hc0 hnx) rfl rfl (Nat.le_of_ble_eq_true rfl) ⟨(Nat.le_of_ble_eq_true rfl), (Nat.le_of_ble_eq_true rfl)⟩ ⟨by show 29 * k + 52 + 0 ≤ 600000; omega, by show 1248 * k + 20532 + 0 ≤ 7302250; omega⟩ rfl (c_X10_note (d := 20) hnx h7.2.2.1 h7.2.2.2.1 ⟨hX _, hX _⟩ hy (fun r1 h1 => ?_))
  refine aw_aload_n dL_law_2013 rfl ?_
  refine aw_aload_n dL_law_2014 rfl ?_
  refine aw_iload_n dL_law_2015 rfl ?_
  refine aw_iconst dL_law_2016 ?_
  refine aw_iadd dL_law_2017 ?_
  refine aw_sld dL_law_2018 (by omega) (by omega) ?_
  refine aw_aload_n dL_law_2019 rfl ?_
  refine aw_iload_n dL_law_2020 rfl ?_
  refine aw_iconst dL_law_2021 ?_
  refine aw_iadd dL_law_2022 ?_
  refine aw_sld dL_law_2023 (by omega) (by omega) ?_
  refine aw_aload_n dL_law_2024 rfl ?_
  refine aw_iload_n dL_law_2025 rfl ?_
  refine aw_iconst dL_law_2026 ?_
  refine aw_iadd dL_law_2027 ?_
  refine aw_sld dL_law_2028 (by omega) (by omega) ?_
  refine aw_i2l dL_law_2029 (hX _) ?_
  refine aw_bipush dL_law_2030 rfl ?_
  refine aw_lshl dL_law_2032 rfl ?_
  refine aw_aload_n dL_law_2033 rfl ?_
  refine aw_iload_n dL_law_2034 rfl ?_
  refine aw_iconst dL_law_2035 ?_
  refine aw_iadd dL_law_2036 ?_
  refine aw_sld dL_law_2037 (by omega) (by omega) ?_
  refine aw_i2l dL_law_2038 (hX _) ?_
  refine aw_ldc2 dL_law_2039 qk_L_238 ?_
  refine aw_land dL_law_2042 rfl ?_
  refine aw_lor dL_law_2043 rfl ?_
  refine aw_nmll (fun y2 hy2 ey2 => ?_)
  obtain rfl : y2 = y := ey2.trans ey.symm
  have h15 : -1 ≤ V 15 0 ∧ V 15 0 ≤ 3 := by rw [← h7.1]; exact h7.2.2.1
  have h16 : 0 ≤ V 16 0 ∧ V 16 0 ≤ 40 := by rw [← h7.2.1]; exact h7.2.2.2.1
  by_cases P : (xs (6 * (k : Int) + 2).toNat) = 2 ∧ V 15 0 = 2 ∧ (0 ≤ (xs (6 * (k : Int) + 1).toNat) ∧ (xs (6 * (k : Int) + 1).toNat) < V 16 0) ∧ vn_snl2d (Jvm.Pilot.@@N@@.L y2) = true
  · obtain ⟨p1, p2, p3, p4⟩ := P
    have er : rNoteV V (xs (6 * (k : Int) + 1).toNat) (xs (6 * (k : Int) + 2).toNat) y2 = (xs (6 * (k : Int) + 1).toNat) := by unfold rNoteV; rw [if_neg (by omega), if_neg (by omega), if_neg (by omega), if_neg (by omega), if_neg (by omega)]
    have e1 : r1 = (xs (6 * (k : Int) + 1).toNat) := h1.trans ((note_r h7 _ _ _).trans er)
    rw [p1]
    refine aw_callVD (PL.drewOk _ _ _ _) (As := [_, _, _]) (ρ := (22, 0, 0)) (kn' := ((KN k).1 + 0, (KN k).2 + 0)) cv_L_244 dL_law_2044 rfl rfl (hc43 hnx) rfl rfl (Nat.le_of_ble_eq_true rfl) ⟨(Nat.le_of_ble_eq_true rfl), (Nat.le_of_ble_eq_true rfl)⟩ ⟨by show 29 * k + 52 + 0 ≤ 600000; omega, by show 1248 * k + 20532 + 0 ≤ 7302250; omega⟩ rfl (c_X11_noteD (d := 20) hnx hLv p2 h16 p3 hy (by exact p4) (fun hL2 => ?_))
    have hg := hG.note (note_r h7 (xs (6 * (k : Int) + 1).toNat) 2 y2) hy (by rw [← p1, er, if_pos p3.1, p1]; exact hL2)
    rw [note_r h7, ← p1, er, if_pos p3.1, if_pos p3.1, p1] at hg
    subst e1
    rw [if_pos p3.1]
    refine aw_same_i (tgt := 2122) dL_law_2047 rfl ?_
    exact aw_wd ⟨by show 29 * k + 52 + 0 ≤ 29 * (k + 1) + 52; omega, by show 1248 * k + 20532 + 0 ≤ 1248 * (k + 1) + 20532; omega⟩ (hK _ _ _ _ _ _ (hg.mono ⟨by omega, by omega⟩))
  · skip
    refine aw_callV (As := [_, _, _]) (ρ := (22, 0, 0)) (kn' := ((KN k).1 + 0, (KN k).2 + 0)) cv_L_244 dL_law_2044 rfl rfl (hc43 hnx) rfl rfl (Nat.le_of_ble_eq_true rfl) ⟨(Nat.le_of_ble_eq_true rfl), (Nat.le_of_ble_eq_true rfl)⟩ ⟨by show 29 * k + 52 + 0 ≤ 600000; omega, by show 1248 * k + 20532 + 0 ≤ 7302250; omega⟩ rfl (c_X11_note (d := 20) hnx hLv h15 h16 ⟨hX _, hX _⟩ hy (fun a b d e => by rw [Bool.eq_false_iff]; exact fun z => P ⟨a, b, ⟨d, e⟩, z⟩) (fun r2 h2 hL2 => ?_))
    have er := note_r h7 (xs (6 * (k : Int) + 1).toNat) (xs (6 * (k : Int) + 2).toNat) y2
    subst h1
    subst h2
    have hg := hG.note er hy hL2
    rw [er] at hg ⊢
    refine aw_same_i (tgt := 2122) dL_law_2047 rfl ?_
    exact aw_wd ⟨by show 29 * k + 52 + 0 ≤ 29 * (k + 1) + 52; omega, by show 1248 * k + 20532 + 0 ≤ 1248 * (k + 1) + 20532; omega⟩ (hK _ _ _ _ _ _ (hg.mono ⟨by omega, by omega⟩))

theorem and63 (x : Int) : 0 ≤ ((I x &&& I 63).toInt) ∧ ((I x &&& I 63).toInt) < 64 := by
  have e : (I x &&& I 63).toInt = (((I x).toBitVec.toNat % 64 : Nat) : Int) := by
    have h1 : (I x &&& I 63).toBitVec = (I x).toBitVec &&& 63#32 := rfl
    show (I x &&& I 63).toBitVec.toInt = _
    rw [h1]
    have h2 : ((I x).toBitVec &&& 63#32).toNat = (I x).toBitVec.toNat % 64 := by
      rw [BitVec.toNat_and]
      show (I x).toBitVec.toNat &&& (2 ^ 6 - 1) = _
      rw [Nat.and_two_pow_sub_one_eq_mod]
    rw [BitVec.toInt_eq_toNat_of_lt (by rw [h2]; have := Nat.mod_lt (I x).toBitVec.toNat (show 64 > 0 by decide); omega), h2]
  rw [e]; omega

set_option maxHeartbeats 4000000 in
theorem law_switch {Γ : GT} {nm : String} {b L : Nat} {xs : Nat → Int} {S T U V : St} {G : Gw} {nx k : Nat} (hG : GI k S T U V G nx) (hk : 6 * k + 6 ≤ L) (hL : L ≤ 3072) (hX : ∀ j, inI (xs j)) (hK : ∀ S2 T2 U2 V2 G2 nx2, GI ((k : Int) + 1) S2 T2 U2 V2 G2 nx2 → AW Γ (MLw nm) room_1 (PL Γ b L xs) (KN (k + 1)) 2122 [some (.ref b), some (rf Γ 0), some (rf Γ 43), some (vi (6 * (k : Int)))] [] (hp Γ S2 T2 U2 V2 G2) nx2) : AW Γ (MLw nm) room_1 (PL Γ b L xs) (KN k) 27 [some (.ref b), some (rf Γ 0), some (rf Γ 43), some (vi (6 * (k : Int)))] [] (hp Γ S T U V G) nx := by
  refine aw_aload_n dL_law_27 rfl ?_
  refine aw_iload_n dL_law_28 rfl ?_
  refine aw_sld dL_law_29 (by omega) (by omega) ?_
  refine aw_bipush dL_law_30 rfl ?_
  refine aw_iand dL_law_32 rfl ?_
  refine aw_nmi (fun w hw ew => ?_)
  have w63 := and63 (xs (6 * (k : Int)).toNat)
  rw [← ew] at w63
  by_cases cs : 0 ≤ w ∧ w ≤ 57
  · rcases (show w = 0 ∨ w = 1 ∨ w = 2 ∨ w = 3 ∨ w = 4 ∨ w = 5 ∨ w = 6 ∨ w = 7 ∨ w = 8 ∨ w = 9 ∨ w = 10 ∨ w = 11 ∨ w = 12 ∨ w = 13 ∨ w = 14 ∨ w = 15 ∨ w = 16 ∨ w = 17 ∨ w = 18 ∨ w = 19 ∨ w = 20 ∨ w = 21 ∨ w = 22 ∨ w = 23 ∨ w = 24 ∨ w = 25 ∨ w = 26 ∨ w = 27 ∨ w = 28 ∨ w = 29 ∨ w = 30 ∨ w = 31 ∨ w = 32 ∨ w = 33 ∨ w = 34 ∨ w = 35 ∨ w = 36 ∨ w = 37 ∨ w = 38 ∨ w = 39 ∨ w = 40 ∨ w = 41 ∨ w = 42 ∨ w = 43 ∨ w = 44 ∨ w = 45 ∨ w = 46 ∨ w = 47 ∨ w = 48 ∨ w = 49 ∨ w = 50 ∨ w = 51 ∨ w = 52 ∨ w = 53 ∨ w = 54 ∨ w = 55 ∨ w = 56 ∨ w = 57 by omega) with e | e | e | e | e | e | e | e | e | e | e | e | e | e | e | e | e | e | e | e | e | e | e | e | e | e | e | e | e | e | e | e | e | e | e | e | e | e | e | e | e | e | e | e | e | e | e | e | e | e | e | e | e | e | e | e | e | e
    · refine aw_tableIn (tgt := 280) dL_law_33 hw (by omega) (by omega) (by rw [e]; rfl) rfl ?_
      exact law_feed hG hk hL hX hK
    · refine aw_tableIn (tgt := 343) dL_law_33 hw (by omega) (by omega) (by rw [e]; rfl) rfl ?_
      exact law_end hG hk hL hX hK
    · refine aw_tableIn (tgt := 366) dL_law_33 hw (by omega) (by omega) (by rw [e]; rfl) rfl ?_
      exact law_tell hG hk hL hX hK
    · refine aw_tableIn (tgt := 379) dL_law_33 hw (by omega) (by omega) (by rw [e]; rfl) rfl ?_
      exact law_apply hG hk hL hX hK
    · refine aw_tableIn (tgt := 422) dL_law_33 hw (by omega) (by omega) (by rw [e]; rfl) rfl ?_
      exact law_use hG hk hL hX hK
    · refine aw_tableIn (tgt := 455) dL_law_33 hw (by omega) (by omega) (by rw [e]; rfl) rfl ?_
      exact law_giveBack hG hk hL hX hK
    · refine aw_tableIn (tgt := 478) dL_law_33 hw (by omega) (by omega) (by rw [e]; rfl) rfl ?_
      exact law_hand hG hk hL hX hK
    · refine aw_tableIn (tgt := 521) dL_law_33 hw (by omega) (by omega) (by rw [e]; rfl) rfl ?_
      exact law_merge hG hk hL hX hK
    · refine aw_tableIn (tgt := 554) dL_law_33 hw (by omega) (by omega) (by rw [e]; rfl) rfl ?_
      exact law_lend hG hk hL hX hK
    · refine aw_tableIn (tgt := 607) dL_law_33 hw (by omega) (by omega) (by rw [e]; rfl) rfl ?_
      exact law_excess hG hk hL hX hK
    · refine aw_tableIn (tgt := 661) dL_law_33 hw (by omega) (by omega) (by rw [e]; rfl) rfl ?_
      exact law_days hG hk hL hX hK
    · refine aw_tableIn (tgt := 684) dL_law_33 hw (by omega) (by omega) (by rw [e]; rfl) rfl ?_
      exact law_widen hG hk hL hX hK
    · refine aw_tableIn (tgt := 717) dL_law_33 hw (by omega) (by omega) (by rw [e]; rfl) rfl ?_
      exact law_set hG hk hL hX hK
    · refine aw_tableIn (tgt := 750) dL_law_33 hw (by omega) (by omega) (by rw [e]; rfl) rfl ?_
      exact law_undo hG hk hL hX hK
    · refine aw_tableIn (tgt := 763) dL_law_33 hw (by omega) (by omega) (by rw [e]; rfl) rfl ?_
      exact law_keep hG hk hL hX hK
    · refine aw_tableIn (tgt := 786) dL_law_33 hw (by omega) (by omega) (by rw [e]; rfl) rfl ?_
      exact law_back hG hk hL hX hK
    · refine aw_tableIn (tgt := 809) dL_law_33 hw (by omega) (by omega) (by rw [e]; rfl) rfl ?_
      exact law_told hG hk hL hX hK
    · refine aw_tableIn (tgt := 832) dL_law_33 hw (by omega) (by omega) (by rw [e]; rfl) rfl ?_
      exact law_origin hG hk hL hX hK
    · refine aw_tableIn (tgt := 865) dL_law_33 hw (by omega) (by omega) (by rw [e]; rfl) rfl ?_
      exact law_past hG hk hL hX hK
    · refine aw_tableIn (tgt := 908) dL_law_33 hw (by omega) (by omega) (by rw [e]; rfl) rfl ?_
      exact law_sort hG hk hL hX hK
    · refine aw_tableIn (tgt := 941) dL_law_33 hw (by omega) (by omega) (by rw [e]; rfl) rfl ?_
      exact law_mean hG hk hL hX hK
    · refine aw_tableIn (tgt := 975) dL_law_33 hw (by omega) (by omega) (by rw [e]; rfl) rfl ?_
      exact law_share hG hk hL hX hK
    · refine aw_tableIn (tgt := 1018) dL_law_33 hw (by omega) (by omega) (by rw [e]; rfl) rfl ?_
      exact law_licence hG hk hL hX hK
    · refine aw_tableIn (tgt := 1051) dL_law_33 hw (by omega) (by omega) (by rw [e]; rfl) rfl ?_
      exact law_month hG hk hL hX hK
    · refine aw_tableIn (tgt := 1084) dL_law_33 hw (by omega) (by omega) (by rw [e]; rfl) rfl ?_
      exact law_rate hG hk hL hX hK
    · refine aw_tableIn (tgt := 1108) dL_law_33 hw (by omega) (by omega) (by rw [e]; rfl) rfl ?_
      exact law_idle hG hk hL hX hK
    · refine aw_tableIn (tgt := 1141) dL_law_33 hw (by omega) (by omega) (by rw [e]; rfl) rfl ?_
      exact law_owed hG hk hL hX hK
    · refine aw_tableIn (tgt := 1165) dL_law_33 hw (by omega) (by omega) (by rw [e]; rfl) rfl ?_
      exact law_would hG hk hL hX hK
    · refine aw_tableIn (tgt := 1208) dL_law_33 hw (by omega) (by omega) (by rw [e]; rfl) rfl ?_
      exact law_lapses hG hk hL hX hK
    · refine aw_tableIn (tgt := 1231) dL_law_33 hw (by omega) (by omega) (by rw [e]; rfl) rfl ?_
      exact law_next hG hk hL hX hK
    · refine aw_tableIn (tgt := 1254) dL_law_33 hw (by omega) (by omega) (by rw [e]; rfl) rfl ?_
      exact law_best hG hk hL hX hK
    · refine aw_tableIn (tgt := 1297) dL_law_33 hw (by omega) (by omega) (by rw [e]; rfl) rfl ?_
      exact law_order hG hk hL hX hK
    · refine aw_tableIn (tgt := 1320) dL_law_33 hw (by omega) (by omega) (by rw [e]; rfl) rfl ?_
      exact law_focus hG hk hL hX hK
    · refine aw_tableIn (tgt := 1344) dL_law_33 hw (by omega) (by omega) (by rw [e]; rfl) rfl ?_
      exact law_carry hG hk hL hX hK
    · refine aw_tableIn (tgt := 1367) dL_law_33 hw (by omega) (by omega) (by rw [e]; rfl) rfl ?_
      exact law_window hG hk hL hX hK
    · refine aw_tableIn (tgt := 1380) dL_law_33 hw (by omega) (by omega) (by rw [e]; rfl) rfl ?_
      exact law_shareAt hG hk hL hX hK
    · refine aw_tableIn (tgt := 1423) dL_law_33 hw (by omega) (by omega) (by rw [e]; rfl) rfl ?_
      exact law_speed hG hk hL hX hK
    · refine aw_tableIn (tgt := 1447) dL_law_33 hw (by omega) (by omega) (by rw [e]; rfl) rfl ?_
      exact law_fastest hG hk hL hX hK
    · refine aw_tableIn (tgt := 1470) dL_law_33 hw (by omega) (by omega) (by rw [e]; rfl) rfl ?_
      exact law_log hG hk hL hX hK
    · refine aw_tableIn (tgt := 1513) dL_law_33 hw (by omega) (by omega) (by rw [e]; rfl) rfl ?_
      exact law_risk hG hk hL hX hK
    · refine aw_tableIn (tgt := 1536) dL_law_33 hw (by omega) (by omega) (by rw [e]; rfl) rfl ?_
      exact law_lacks hG hk hL hX hK
    · refine aw_tableIn (tgt := 1579) dL_law_33 hw (by omega) (by omega) (by rw [e]; rfl) rfl ?_
      exact law_pace hG hk hL hX hK
    · refine aw_tableIn (tgt := 1602) dL_law_33 hw (by omega) (by omega) (by rw [e]; rfl) rfl ?_
      exact law_peak hG hk hL hX hK
    · refine aw_tableIn (tgt := 1645) dL_law_33 hw (by omega) (by omega) (by rw [e]; rfl) rfl ?_
      exact law_even hG hk hL hX hK
    · refine aw_tableIn (tgt := 1678) dL_law_33 hw (by omega) (by omega) (by rw [e]; rfl) rfl ?_
      exact law_future hG hk hL hX hK
    · refine aw_tableIn (tgt := 1711) dL_law_33 hw (by omega) (by omega) (by rw [e]; rfl) rfl ?_
      exact law_likely hG hk hL hX hK
    · refine aw_tableIn (tgt := 1735) dL_law_33 hw (by omega) (by omega) (by rw [e]; rfl) rfl ?_
      exact law_root hG hk hL hX hK
    · refine aw_tableIn (tgt := 1768) dL_law_33 hw (by omega) (by omega) (by rw [e]; rfl) rfl ?_
      exact law_median hG hk hL hX hK
    · refine aw_tableIn (tgt := 1791) dL_law_33 hw (by omega) (by omega) (by rw [e]; rfl) rfl ?_
      exact law_rush hG hk hL hX hK
    · refine aw_tableIn (tgt := 1834) dL_law_33 hw (by omega) (by omega) (by rw [e]; rfl) rfl ?_
      exact law_stood hG hk hL hX hK
    · refine aw_tableIn (tgt := 1867) dL_law_33 hw (by omega) (by omega) (by rw [e]; rfl) rfl ?_
      exact law_owing hG hk hL hX hK
    · refine aw_tableIn (tgt := 1890) dL_law_33 hw (by omega) (by omega) (by rw [e]; rfl) rfl ?_
      exact law_holds hG hk hL hX hK
    · refine aw_tableIn (tgt := 1923) dL_law_33 hw (by omega) (by omega) (by rw [e]; rfl) rfl ?_
      exact law_total hG hk hL hX hK
    · refine aw_tableIn (tgt := 1946) dL_law_33 hw (by omega) (by omega) (by rw [e]; rfl) rfl ?_
      exact law_row hG hk hL hX hK
    · refine aw_tableIn (tgt := 1979) dL_law_33 hw (by omega) (by omega) (by rw [e]; rfl) rfl ?_
      exact law_note hG hk hL hX hK
    · refine aw_tableIn (tgt := 2052) dL_law_33 hw (by omega) (by omega) (by rw [e]; rfl) rfl ?_
      exact law_noted hG hk hL hX hK
    · refine aw_tableIn (tgt := 2076) dL_law_33 hw (by omega) (by omega) (by rw [e]; rfl) rfl ?_
      exact law_letter hG hk hL hX hK
    · refine aw_tableIn (tgt := 2099) dL_law_33 hw (by omega) (by omega) (by rw [e]; rfl) rfl ?_
      exact law_count hG hk hL hX hK
  · refine aw_tableOut (tgt := 2122) dL_law_33 hw (by omega) rfl ?_
    exact aw_wd ⟨by show 29 * k + 52 ≤ 29 * (k + 1) + 52; omega, by show 1248 * k + 20532 ≤ 1248 * (k + 1) + 20532; omega⟩ (hK _ _ _ _ _ _ (hG.mono ⟨by omega, by omega⟩))

theorem law_loop {Γ : GT} {nm : String} {b L : Nat} {xs : Nat → Int} (hL : L ≤ 3072) (hX : ∀ j, inI (xs j)) : ∀ (k : Nat), k ≤ L / 6 → ∀ (S T U V : St) (G : Gw) (nx : Nat), GI k S T U V G nx → AW Γ (MLw nm) room_1 (PL Γ b L xs) (KN k) 18 [some (.ref b), some (rf Γ 0), some (rf Γ 43), some (vi (6 * (k : Int)))] [] (hp Γ S T U V G) nx := by
  refine loopN (L / 6) (P := fun k => ∀ (S T U V : St) (G : Gw) (nx : Nat), GI k S T U V G nx → AW Γ (MLw nm) room_1 (PL Γ b L xs) (KN k) 18 [some (.ref b), some (rf Γ 0), some (rf Γ 43), some (vi (6 * (k : Int)))] [] (hp Γ S T U V G) nx) (fun k hk ih => ?_)
  intro S T U V G nx hG
  refine aw_iload_n dL_law_18 rfl ?_
  refine aw_aload_n dL_law_19 rfl ?_
  refine aw_slen dL_law_20 ?_
  refine aw_bipush dL_law_21 rfl ?_
  refine aw_isub dL_law_23 ?_
  refine aw_icmp_gt (tgt := 2128) dL_law_24 rfl (by omega) (fun c24 => ?_) (fun c24 => ?_)
  · refine aw_iconst dL_law_2128 ?_
    exact aw_lret dL_law_2129 ⟨by show 29 * k + 52 ≤ 600000; omega, by show 1248 * k + 20532 ≤ 7302250; omega⟩
  · have h6 : 6 * k + 6 ≤ L := by omega
    refine law_switch hG h6 hL hX (fun S2 T2 U2 V2 G2 nx2 hG2 => ?_)
    refine aw_iinc (ls' := [some (.ref b), some (rf Γ 0), some (rf Γ 43), some (vi (6 * (k : Int) + 6))]) dL_law_2122 rfl (by show 3 < 4; decide) rfl ?_
    refine aw_goto (tgt := 18) dL_law_2125 rfl ?_
    refine aw_ls2 (by rw [show 6 * (k : Int) + 6 = 6 * ((k + 1 : Nat) : Int) by omega]) (ih (by omega) S2 T2 U2 V2 G2 nx2 ?_)
    rw [show ((k + 1 : Nat) : Int) = (k : Int) + 1 by omega]
    exact hG2


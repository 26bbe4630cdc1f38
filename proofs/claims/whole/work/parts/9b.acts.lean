/-! the law, call by call: acts, texts, notes -/
set_option maxHeartbeats 1000000 in
theorem law_apply {Γ : GT} {nm : String} {b L : Nat} {xs : Nat → Int} {S T U V : St} {G : Gw} {nx k : Nat} (hG : GI k S T U V G nx) (hk : 6 * k + 6 ≤ L) (hL : L ≤ 3072) (hX : ∀ j, inI (xs j)) (hK : ∀ S2 T2 U2 V2 G2 nx2, GI ((k : Int) + 1) S2 T2 U2 V2 G2 nx2 → AW Γ (MLw nm) room_1 (PL Γ b L xs) (KN (k + 1)) 2122 [some (.ref b), some (rf Γ 0), some (rf Γ 43), some (vi (6 * (k : Int)))] [] (hp Γ S2 T2 U2 V2 G2) nx2) : AW Γ (MLw nm) room_1 (PL Γ b L xs) (KN k) 379 [some (.ref b), some (rf Γ 0), some (rf Γ 43), some (vi (6 * (k : Int)))] [] (hp Γ S T U V G) nx := by
  have hnx := hG.1
  have hLv := hG.2.2.1
  have hI := hG.2.2.2.1
  have hA := hG.2.2.2.2.1
  have hM : 0 ≤ V 10 0 ∧ V 10 0 ≤ 10 := by have q := hG.2.2.2.2.2.2.2.2.1; have := q.2.1; have := q.2.2.1; omega
  refine aw_aload_n dL_law_379 rfl ?_
  refine aw_aload_n dL_law_380 rfl ?_
  refine aw_iload_n dL_law_381 rfl ?_
  refine aw_iconst dL_law_382 ?_
  refine aw_iadd dL_law_383 ?_
  refine aw_sld dL_law_384 (by omega) (by omega) ?_
  refine aw_aload_n dL_law_385 rfl ?_
  refine aw_iload_n dL_law_386 rfl ?_
  refine aw_iconst dL_law_387 ?_
  refine aw_iadd dL_law_388 ?_
  refine aw_sld dL_law_389 (by omega) (by omega) ?_
  refine aw_aload_n dL_law_390 rfl ?_
  refine aw_iload_n dL_law_391 rfl ?_
  refine aw_iconst dL_law_392 ?_
  refine aw_iadd dL_law_393 ?_
  refine aw_sld dL_law_394 (by omega) (by omega) ?_
  refine aw_callV (As := [_, _, _]) (ρ := (26, 29, 1248)) (kn' := ((KN k).1 + 29, (KN k).2 + 1248)) cv_L_28 dL_law_395 rfl rfl (hc0 hnx) rfl rfl (Nat.le_of_ble_eq_true rfl) ⟨(Nat.le_of_ble_eq_true rfl), (Nat.le_of_ble_eq_true rfl)⟩ ⟨by show 29 * k + 52 + 29 ≤ 600000; omega, by show 1248 * k + 20532 + 1248 ≤ 7302250; omega⟩ rfl (c_X10_apply (d := 20) hnx hI (hX _) (hX _) (hX _) hG.rw (fun r1 h1 n1 => ?_) (fun z1 U2 G2 nx2 hn2 hR2 hRg => ?_))
  · skip
    refine aw_aload_n dL_law_398 rfl ?_
    refine aw_aload_n dL_law_399 rfl ?_
    refine aw_iload_n dL_law_400 rfl ?_
    refine aw_iconst dL_law_401 ?_
    refine aw_iadd dL_law_402 ?_
    refine aw_sld dL_law_403 (by omega) (by omega) ?_
    refine aw_aload_n dL_law_404 rfl ?_
    refine aw_iload_n dL_law_405 rfl ?_
    refine aw_iconst dL_law_406 ?_
    refine aw_iadd dL_law_407 ?_
    refine aw_sld dL_law_408 (by omega) (by omega) ?_
    refine aw_aload_n dL_law_409 rfl ?_
    refine aw_iload_n dL_law_410 rfl ?_
    refine aw_iconst dL_law_411 ?_
    refine aw_iadd dL_law_412 ?_
    refine aw_sld dL_law_413 (by omega) (by omega) ?_
    refine aw_callV (As := [_, _, _]) (ρ := (27, 0, 0)) (kn' := ((KN k).1 + 29, (KN k).2 + 1248)) cv_L_32 dL_law_414 rfl rfl (hc43 hnx) rfl rfl (Nat.le_of_ble_eq_true rfl) ⟨(Nat.le_of_ble_eq_true rfl), (Nat.le_of_ble_eq_true rfl)⟩ ⟨by show 29 * k + 52 + 29 ≤ 600000; omega, by show 1248 * k + 20532 + 1248 ≤ 7302250; omega⟩ rfl (c_X11_apply (d := 20) hnx hI hA hLv hM (hX _) (hX _) (hX _) (fun r2 h2 n2 => ?_) (fun z2 => absurd (h1.trans z2) n1))
    obtain rfl : r2 = r1 := h2.trans h1.symm
    refine aw_same_i (tgt := 2122) dL_law_417 rfl ?_
    exact aw_wd ⟨by show 29 * k + 52 + 29 ≤ 29 * (k + 1) + 52; omega, by show 1248 * k + 20532 + 1248 ≤ 1248 * (k + 1) + 20532; omega⟩ (hK _ _ _ _ _ _ (hG.mono ⟨by omega, by omega⟩))
  · skip
    refine aw_aload_n dL_law_398 rfl ?_
    refine aw_aload_n dL_law_399 rfl ?_
    refine aw_iload_n dL_law_400 rfl ?_
    refine aw_iconst dL_law_401 ?_
    refine aw_iadd dL_law_402 ?_
    refine aw_sld dL_law_403 (by omega) (by omega) ?_
    refine aw_aload_n dL_law_404 rfl ?_
    refine aw_iload_n dL_law_405 rfl ?_
    refine aw_iconst dL_law_406 ?_
    refine aw_iadd dL_law_407 ?_
    refine aw_sld dL_law_408 (by omega) (by omega) ?_
    refine aw_aload_n dL_law_409 rfl ?_
    refine aw_iload_n dL_law_410 rfl ?_
    refine aw_iconst dL_law_411 ?_
    refine aw_iadd dL_law_412 ?_
    refine aw_sld dL_law_413 (by omega) (by omega) ?_
    refine aw_callV (As := [_, _, _]) (ρ := (27, 0, 0)) (kn' := ((KN k).1 + 29, (KN k).2 + 1248)) cv_L_32 dL_law_414 rfl rfl (hc43 hn2) rfl rfl (Nat.le_of_ble_eq_true rfl) ⟨(Nat.le_of_ble_eq_true rfl), (Nat.le_of_ble_eq_true rfl)⟩ ⟨by show 29 * k + 52 + 29 ≤ 600000; omega, by show 1248 * k + 20532 + 1248 ≤ 7302250; omega⟩ rfl (c_X11_apply (d := 20) hn2 hI hA hLv hM (hX _) (hX _) (hX _) (fun r2 h2 n2 => absurd (h2.trans z1) n2) (fun z2 V2 hK2 hA2 => ?_))
    obtain ⟨G3, e3, g3⟩ := hG.act (c' := (k : Int) + 1) ⟨by omega, by omega⟩ (i_apply hI (by omega) z1) hR2 hK2 hA2 hn2
    rw [← e3 Γ]
    refine aw_same_i (tgt := 2122) dL_law_417 rfl ?_
    exact aw_wd ⟨by show 29 * k + 52 + 29 ≤ 29 * (k + 1) + 52; omega, by show 1248 * k + 20532 + 1248 ≤ 1248 * (k + 1) + 20532; omega⟩ (hK _ _ _ _ _ _ g3)

set_option maxHeartbeats 1000000 in
theorem law_use {Γ : GT} {nm : String} {b L : Nat} {xs : Nat → Int} {S T U V : St} {G : Gw} {nx k : Nat} (hG : GI k S T U V G nx) (hk : 6 * k + 6 ≤ L) (hL : L ≤ 3072) (hX : ∀ j, inI (xs j)) (hK : ∀ S2 T2 U2 V2 G2 nx2, GI ((k : Int) + 1) S2 T2 U2 V2 G2 nx2 → AW Γ (MLw nm) room_1 (PL Γ b L xs) (KN (k + 1)) 2122 [some (.ref b), some (rf Γ 0), some (rf Γ 43), some (vi (6 * (k : Int)))] [] (hp Γ S2 T2 U2 V2 G2) nx2) : AW Γ (MLw nm) room_1 (PL Γ b L xs) (KN k) 422 [some (.ref b), some (rf Γ 0), some (rf Γ 43), some (vi (6 * (k : Int)))] [] (hp Γ S T U V G) nx := by
  have hnx := hG.1
  have hLv := hG.2.2.1
  have hI := hG.2.2.2.1
  have hA := hG.2.2.2.2.1
  have hM : 0 ≤ V 10 0 ∧ V 10 0 ≤ 10 := by have q := hG.2.2.2.2.2.2.2.2.1; have := q.2.1; have := q.2.2.1; omega
  refine aw_aload_n dL_law_422 rfl ?_
  refine aw_aload_n dL_law_423 rfl ?_
  refine aw_iload_n dL_law_424 rfl ?_
  refine aw_iconst dL_law_425 ?_
  refine aw_iadd dL_law_426 ?_
  refine aw_sld dL_law_427 (by omega) (by omega) ?_
  refine aw_aload_n dL_law_428 rfl ?_
  refine aw_iload_n dL_law_429 rfl ?_
  refine aw_iconst dL_law_430 ?_
  refine aw_iadd dL_law_431 ?_
  refine aw_sld dL_law_432 (by omega) (by omega) ?_
  refine aw_callV (As := [_, _]) (ρ := (25, 29, 1248)) (kn' := ((KN k).1 + 29, (KN k).2 + 1248)) cv_L_33 dL_law_433 rfl rfl (hc0 hnx) rfl rfl (Nat.le_of_ble_eq_true rfl) ⟨(Nat.le_of_ble_eq_true rfl), (Nat.le_of_ble_eq_true rfl)⟩ ⟨by show 29 * k + 52 + 29 ≤ 600000; omega, by show 1248 * k + 20532 + 1248 ≤ 7302250; omega⟩ rfl (c_X10_use (d := 20) hnx hI (hX _) (hX _) hG.rw (fun r1 h1 n1 => ?_) (fun z1 U2 G2 nx2 hn2 hR2 hRg => ?_))
  · skip
    refine aw_aload_n dL_law_436 rfl ?_
    refine aw_aload_n dL_law_437 rfl ?_
    refine aw_iload_n dL_law_438 rfl ?_
    refine aw_iconst dL_law_439 ?_
    refine aw_iadd dL_law_440 ?_
    refine aw_sld dL_law_441 (by omega) (by omega) ?_
    refine aw_aload_n dL_law_442 rfl ?_
    refine aw_iload_n dL_law_443 rfl ?_
    refine aw_iconst dL_law_444 ?_
    refine aw_iadd dL_law_445 ?_
    refine aw_sld dL_law_446 (by omega) (by omega) ?_
    refine aw_callV (As := [_, _]) (ρ := (25, 0, 0)) (kn' := ((KN k).1 + 29, (KN k).2 + 1248)) cv_L_37 dL_law_447 rfl rfl (hc43 hnx) rfl rfl (Nat.le_of_ble_eq_true rfl) ⟨(Nat.le_of_ble_eq_true rfl), (Nat.le_of_ble_eq_true rfl)⟩ ⟨by show 29 * k + 52 + 29 ≤ 600000; omega, by show 1248 * k + 20532 + 1248 ≤ 7302250; omega⟩ rfl (c_X11_use (d := 20) hnx hI hA hLv hM (hX _) (hX _) (fun r2 h2 n2 => ?_) (fun z2 => absurd (h1.trans z2) n1))
    obtain rfl : r2 = r1 := h2.trans h1.symm
    refine aw_same_i (tgt := 2122) dL_law_450 rfl ?_
    exact aw_wd ⟨by show 29 * k + 52 + 29 ≤ 29 * (k + 1) + 52; omega, by show 1248 * k + 20532 + 1248 ≤ 1248 * (k + 1) + 20532; omega⟩ (hK _ _ _ _ _ _ (hG.mono ⟨by omega, by omega⟩))
  · skip
    refine aw_aload_n dL_law_436 rfl ?_
    refine aw_aload_n dL_law_437 rfl ?_
    refine aw_iload_n dL_law_438 rfl ?_
    refine aw_iconst dL_law_439 ?_
    refine aw_iadd dL_law_440 ?_
    refine aw_sld dL_law_441 (by omega) (by omega) ?_
    refine aw_aload_n dL_law_442 rfl ?_
    refine aw_iload_n dL_law_443 rfl ?_
    refine aw_iconst dL_law_444 ?_
    refine aw_iadd dL_law_445 ?_
    refine aw_sld dL_law_446 (by omega) (by omega) ?_
    refine aw_callV (As := [_, _]) (ρ := (25, 0, 0)) (kn' := ((KN k).1 + 29, (KN k).2 + 1248)) cv_L_37 dL_law_447 rfl rfl (hc43 hn2) rfl rfl (Nat.le_of_ble_eq_true rfl) ⟨(Nat.le_of_ble_eq_true rfl), (Nat.le_of_ble_eq_true rfl)⟩ ⟨by show 29 * k + 52 + 29 ≤ 600000; omega, by show 1248 * k + 20532 + 1248 ≤ 7302250; omega⟩ rfl (c_X11_use (d := 20) hn2 hI hA hLv hM (hX _) (hX _) (fun r2 h2 n2 => absurd (h2.trans z1) n2) (fun z2 V2 hK2 hA2 => ?_))
    obtain ⟨G3, e3, g3⟩ := hG.act (c' := (k : Int) + 1) ⟨by omega, by omega⟩ (i_use hI (by omega) z1) hR2 hK2 hA2 hn2
    rw [← e3 Γ]
    refine aw_same_i (tgt := 2122) dL_law_450 rfl ?_
    exact aw_wd ⟨by show 29 * k + 52 + 29 ≤ 29 * (k + 1) + 52; omega, by show 1248 * k + 20532 + 1248 ≤ 1248 * (k + 1) + 20532; omega⟩ (hK _ _ _ _ _ _ g3)

set_option maxHeartbeats 1000000 in
theorem law_giveBack {Γ : GT} {nm : String} {b L : Nat} {xs : Nat → Int} {S T U V : St} {G : Gw} {nx k : Nat} (hG : GI k S T U V G nx) (hk : 6 * k + 6 ≤ L) (hL : L ≤ 3072) (hX : ∀ j, inI (xs j)) (hK : ∀ S2 T2 U2 V2 G2 nx2, GI ((k : Int) + 1) S2 T2 U2 V2 G2 nx2 → AW Γ (MLw nm) room_1 (PL Γ b L xs) (KN (k + 1)) 2122 [some (.ref b), some (rf Γ 0), some (rf Γ 43), some (vi (6 * (k : Int)))] [] (hp Γ S2 T2 U2 V2 G2) nx2) : AW Γ (MLw nm) room_1 (PL Γ b L xs) (KN k) 455 [some (.ref b), some (rf Γ 0), some (rf Γ 43), some (vi (6 * (k : Int)))] [] (hp Γ S T U V G) nx := by
  have hnx := hG.1
  have hLv := hG.2.2.1
  have hI := hG.2.2.2.1
  have hA := hG.2.2.2.2.1
  have hM : 0 ≤ V 10 0 ∧ V 10 0 ≤ 10 := by have q := hG.2.2.2.2.2.2.2.2.1; have := q.2.1; have := q.2.2.1; omega
  refine aw_aload_n dL_law_455 rfl ?_
  refine aw_aload_n dL_law_456 rfl ?_
  refine aw_iload_n dL_law_457 rfl ?_
  refine aw_iconst dL_law_458 ?_
  refine aw_iadd dL_law_459 ?_
  refine aw_sld dL_law_460 (by omega) (by omega) ?_
  refine aw_callV (As := [_]) (ρ := (25, 29, 1248)) (kn' := ((KN k).1 + 29, (KN k).2 + 1248)) cv_L_38 dL_law_461 rfl rfl (hc0 hnx) rfl rfl (Nat.le_of_ble_eq_true rfl) ⟨(Nat.le_of_ble_eq_true rfl), (Nat.le_of_ble_eq_true rfl)⟩ ⟨by show 29 * k + 52 + 29 ≤ 600000; omega, by show 1248 * k + 20532 + 1248 ≤ 7302250; omega⟩ rfl (c_X10_giveBack (d := 20) hnx hI (hX _) hG.rw (fun r1 h1 n1 => ?_) (fun z1 U2 G2 nx2 hn2 hR2 hRg => ?_))
  · skip
    refine aw_aload_n dL_law_464 rfl ?_
    refine aw_aload_n dL_law_465 rfl ?_
    refine aw_iload_n dL_law_466 rfl ?_
    refine aw_iconst dL_law_467 ?_
    refine aw_iadd dL_law_468 ?_
    refine aw_sld dL_law_469 (by omega) (by omega) ?_
    refine aw_callV (As := [_]) (ρ := (25, 0, 0)) (kn' := ((KN k).1 + 29, (KN k).2 + 1248)) cv_L_41 dL_law_470 rfl rfl (hc43 hnx) rfl rfl (Nat.le_of_ble_eq_true rfl) ⟨(Nat.le_of_ble_eq_true rfl), (Nat.le_of_ble_eq_true rfl)⟩ ⟨by show 29 * k + 52 + 29 ≤ 600000; omega, by show 1248 * k + 20532 + 1248 ≤ 7302250; omega⟩ rfl (c_X11_giveBack (d := 20) hnx hI hA hLv hM (hX _) (fun r2 h2 n2 => ?_) (fun z2 => absurd (h1.trans z2) n1))
    obtain rfl : r2 = r1 := h2.trans h1.symm
    refine aw_same_i (tgt := 2122) dL_law_473 rfl ?_
    exact aw_wd ⟨by show 29 * k + 52 + 29 ≤ 29 * (k + 1) + 52; omega, by show 1248 * k + 20532 + 1248 ≤ 1248 * (k + 1) + 20532; omega⟩ (hK _ _ _ _ _ _ (hG.mono ⟨by omega, by omega⟩))
  · skip
    refine aw_aload_n dL_law_464 rfl ?_
    refine aw_aload_n dL_law_465 rfl ?_
    refine aw_iload_n dL_law_466 rfl ?_
    refine aw_iconst dL_law_467 ?_
    refine aw_iadd dL_law_468 ?_
    refine aw_sld dL_law_469 (by omega) (by omega) ?_
    refine aw_callV (As := [_]) (ρ := (25, 0, 0)) (kn' := ((KN k).1 + 29, (KN k).2 + 1248)) cv_L_41 dL_law_470 rfl rfl (hc43 hn2) rfl rfl (Nat.le_of_ble_eq_true rfl) ⟨(Nat.le_of_ble_eq_true rfl), (Nat.le_of_ble_eq_true rfl)⟩ ⟨by show 29 * k + 52 + 29 ≤ 600000; omega, by show 1248 * k + 20532 + 1248 ≤ 7302250; omega⟩ rfl (c_X11_giveBack (d := 20) hn2 hI hA hLv hM (hX _) (fun r2 h2 n2 => absurd (h2.trans z1) n2) (fun z2 V2 hK2 hA2 => ?_))
    obtain ⟨G3, e3, g3⟩ := hG.act (c' := (k : Int) + 1) ⟨by omega, by omega⟩ (i_give hI (by omega) z1) hR2 hK2 hA2 hn2
    rw [← e3 Γ]
    refine aw_same_i (tgt := 2122) dL_law_473 rfl ?_
    exact aw_wd ⟨by show 29 * k + 52 + 29 ≤ 29 * (k + 1) + 52; omega, by show 1248 * k + 20532 + 1248 ≤ 1248 * (k + 1) + 20532; omega⟩ (hK _ _ _ _ _ _ g3)

set_option maxHeartbeats 1000000 in
theorem law_hand {Γ : GT} {nm : String} {b L : Nat} {xs : Nat → Int} {S T U V : St} {G : Gw} {nx k : Nat} (hG : GI k S T U V G nx) (hk : 6 * k + 6 ≤ L) (hL : L ≤ 3072) (hX : ∀ j, inI (xs j)) (hK : ∀ S2 T2 U2 V2 G2 nx2, GI ((k : Int) + 1) S2 T2 U2 V2 G2 nx2 → AW Γ (MLw nm) room_1 (PL Γ b L xs) (KN (k + 1)) 2122 [some (.ref b), some (rf Γ 0), some (rf Γ 43), some (vi (6 * (k : Int)))] [] (hp Γ S2 T2 U2 V2 G2) nx2) : AW Γ (MLw nm) room_1 (PL Γ b L xs) (KN k) 478 [some (.ref b), some (rf Γ 0), some (rf Γ 43), some (vi (6 * (k : Int)))] [] (hp Γ S T U V G) nx := by
  have hnx := hG.1
  have hLv := hG.2.2.1
  have hI := hG.2.2.2.1
  have hA := hG.2.2.2.2.1
  have hM : 0 ≤ V 10 0 ∧ V 10 0 ≤ 10 := by have q := hG.2.2.2.2.2.2.2.2.1; have := q.2.1; have := q.2.2.1; omega
  refine aw_aload_n dL_law_478 rfl ?_
  refine aw_aload_n dL_law_479 rfl ?_
  refine aw_iload_n dL_law_480 rfl ?_
  refine aw_iconst dL_law_481 ?_
  refine aw_iadd dL_law_482 ?_
  refine aw_sld dL_law_483 (by omega) (by omega) ?_
  refine aw_aload_n dL_law_484 rfl ?_
  refine aw_iload_n dL_law_485 rfl ?_
  refine aw_iconst dL_law_486 ?_
  refine aw_iadd dL_law_487 ?_
  refine aw_sld dL_law_488 (by omega) (by omega) ?_
  refine aw_aload_n dL_law_489 rfl ?_
  refine aw_iload_n dL_law_490 rfl ?_
  refine aw_iconst dL_law_491 ?_
  refine aw_iadd dL_law_492 ?_
  refine aw_sld dL_law_493 (by omega) (by omega) ?_
  refine aw_callV (As := [_, _, _]) (ρ := (25, 29, 1248)) (kn' := ((KN k).1 + 29, (KN k).2 + 1248)) cv_L_42 dL_law_494 rfl rfl (hc0 hnx) rfl rfl (Nat.le_of_ble_eq_true rfl) ⟨(Nat.le_of_ble_eq_true rfl), (Nat.le_of_ble_eq_true rfl)⟩ ⟨by show 29 * k + 52 + 29 ≤ 600000; omega, by show 1248 * k + 20532 + 1248 ≤ 7302250; omega⟩ rfl (c_X10_hand (d := 20) hnx hI (hX _) (hX _) (hX _) hG.rw (fun r1 h1 n1 => ?_) (fun z1 U2 G2 nx2 hn2 hR2 hRg => ?_))
  · skip
    refine aw_aload_n dL_law_497 rfl ?_
    refine aw_aload_n dL_law_498 rfl ?_
    refine aw_iload_n dL_law_499 rfl ?_
    refine aw_iconst dL_law_500 ?_
    refine aw_iadd dL_law_501 ?_
    refine aw_sld dL_law_502 (by omega) (by omega) ?_
    refine aw_aload_n dL_law_503 rfl ?_
    refine aw_iload_n dL_law_504 rfl ?_
    refine aw_iconst dL_law_505 ?_
    refine aw_iadd dL_law_506 ?_
    refine aw_sld dL_law_507 (by omega) (by omega) ?_
    refine aw_aload_n dL_law_508 rfl ?_
    refine aw_iload_n dL_law_509 rfl ?_
    refine aw_iconst dL_law_510 ?_
    refine aw_iadd dL_law_511 ?_
    refine aw_sld dL_law_512 (by omega) (by omega) ?_
    refine aw_callV (As := [_, _, _]) (ρ := (25, 0, 0)) (kn' := ((KN k).1 + 29, (KN k).2 + 1248)) cv_L_45 dL_law_513 rfl rfl (hc43 hnx) rfl rfl (Nat.le_of_ble_eq_true rfl) ⟨(Nat.le_of_ble_eq_true rfl), (Nat.le_of_ble_eq_true rfl)⟩ ⟨by show 29 * k + 52 + 29 ≤ 600000; omega, by show 1248 * k + 20532 + 1248 ≤ 7302250; omega⟩ rfl (c_X11_hand (d := 20) hnx hI hA hLv hM (hX _) (hX _) (hX _) (fun r2 h2 n2 => ?_) (fun z2 => absurd (h1.trans z2) n1))
    obtain rfl : r2 = r1 := h2.trans h1.symm
    refine aw_same_i (tgt := 2122) dL_law_516 rfl ?_
    exact aw_wd ⟨by show 29 * k + 52 + 29 ≤ 29 * (k + 1) + 52; omega, by show 1248 * k + 20532 + 1248 ≤ 1248 * (k + 1) + 20532; omega⟩ (hK _ _ _ _ _ _ (hG.mono ⟨by omega, by omega⟩))
  · skip
    refine aw_aload_n dL_law_497 rfl ?_
    refine aw_aload_n dL_law_498 rfl ?_
    refine aw_iload_n dL_law_499 rfl ?_
    refine aw_iconst dL_law_500 ?_
    refine aw_iadd dL_law_501 ?_
    refine aw_sld dL_law_502 (by omega) (by omega) ?_
    refine aw_aload_n dL_law_503 rfl ?_
    refine aw_iload_n dL_law_504 rfl ?_
    refine aw_iconst dL_law_505 ?_
    refine aw_iadd dL_law_506 ?_
    refine aw_sld dL_law_507 (by omega) (by omega) ?_
    refine aw_aload_n dL_law_508 rfl ?_
    refine aw_iload_n dL_law_509 rfl ?_
    refine aw_iconst dL_law_510 ?_
    refine aw_iadd dL_law_511 ?_
    refine aw_sld dL_law_512 (by omega) (by omega) ?_
    refine aw_callV (As := [_, _, _]) (ρ := (25, 0, 0)) (kn' := ((KN k).1 + 29, (KN k).2 + 1248)) cv_L_45 dL_law_513 rfl rfl (hc43 hn2) rfl rfl (Nat.le_of_ble_eq_true rfl) ⟨(Nat.le_of_ble_eq_true rfl), (Nat.le_of_ble_eq_true rfl)⟩ ⟨by show 29 * k + 52 + 29 ≤ 600000; omega, by show 1248 * k + 20532 + 1248 ≤ 7302250; omega⟩ rfl (c_X11_hand (d := 20) hn2 hI hA hLv hM (hX _) (hX _) (hX _) (fun r2 h2 n2 => absurd (h2.trans z1) n2) (fun z2 V2 hK2 hA2 => ?_))
    obtain ⟨G3, e3, g3⟩ := hG.act (c' := (k : Int) + 1) ⟨by omega, by omega⟩ (i_hand hI (by omega) z1) hR2 hK2 hA2 hn2
    rw [← e3 Γ]
    refine aw_same_i (tgt := 2122) dL_law_516 rfl ?_
    exact aw_wd ⟨by show 29 * k + 52 + 29 ≤ 29 * (k + 1) + 52; omega, by show 1248 * k + 20532 + 1248 ≤ 1248 * (k + 1) + 20532; omega⟩ (hK _ _ _ _ _ _ g3)

set_option maxHeartbeats 1000000 in
theorem law_merge {Γ : GT} {nm : String} {b L : Nat} {xs : Nat → Int} {S T U V : St} {G : Gw} {nx k : Nat} (hG : GI k S T U V G nx) (hk : 6 * k + 6 ≤ L) (hL : L ≤ 3072) (hX : ∀ j, inI (xs j)) (hK : ∀ S2 T2 U2 V2 G2 nx2, GI ((k : Int) + 1) S2 T2 U2 V2 G2 nx2 → AW Γ (MLw nm) room_1 (PL Γ b L xs) (KN (k + 1)) 2122 [some (.ref b), some (rf Γ 0), some (rf Γ 43), some (vi (6 * (k : Int)))] [] (hp Γ S2 T2 U2 V2 G2) nx2) : AW Γ (MLw nm) room_1 (PL Γ b L xs) (KN k) 521 [some (.ref b), some (rf Γ 0), some (rf Γ 43), some (vi (6 * (k : Int)))] [] (hp Γ S T U V G) nx := by
  have hnx := hG.1
  have hLv := hG.2.2.1
  have hI := hG.2.2.2.1
  have hA := hG.2.2.2.2.1
  have hM : 0 ≤ V 10 0 ∧ V 10 0 ≤ 10 := by have q := hG.2.2.2.2.2.2.2.2.1; have := q.2.1; have := q.2.2.1; omega
  refine aw_aload_n dL_law_521 rfl ?_
  refine aw_aload_n dL_law_522 rfl ?_
  refine aw_iload_n dL_law_523 rfl ?_
  refine aw_iconst dL_law_524 ?_
  refine aw_iadd dL_law_525 ?_
  refine aw_sld dL_law_526 (by omega) (by omega) ?_
  refine aw_aload_n dL_law_527 rfl ?_
  refine aw_iload_n dL_law_528 rfl ?_
  refine aw_iconst dL_law_529 ?_
  refine aw_iadd dL_law_530 ?_
  refine aw_sld dL_law_531 (by omega) (by omega) ?_
  refine aw_callV (As := [_, _]) (ρ := (25, 29, 1248)) (kn' := ((KN k).1 + 29, (KN k).2 + 1248)) cv_L_46 dL_law_532 rfl rfl (hc0 hnx) rfl rfl (Nat.le_of_ble_eq_true rfl) ⟨(Nat.le_of_ble_eq_true rfl), (Nat.le_of_ble_eq_true rfl)⟩ ⟨by show 29 * k + 52 + 29 ≤ 600000; omega, by show 1248 * k + 20532 + 1248 ≤ 7302250; omega⟩ rfl (c_X10_merge (d := 20) hnx hI (hX _) (hX _) hG.rw (fun r1 h1 n1 => ?_) (fun z1 U2 G2 nx2 hn2 hR2 hRg => ?_))
  · skip
    refine aw_aload_n dL_law_535 rfl ?_
    refine aw_aload_n dL_law_536 rfl ?_
    refine aw_iload_n dL_law_537 rfl ?_
    refine aw_iconst dL_law_538 ?_
    refine aw_iadd dL_law_539 ?_
    refine aw_sld dL_law_540 (by omega) (by omega) ?_
    refine aw_aload_n dL_law_541 rfl ?_
    refine aw_iload_n dL_law_542 rfl ?_
    refine aw_iconst dL_law_543 ?_
    refine aw_iadd dL_law_544 ?_
    refine aw_sld dL_law_545 (by omega) (by omega) ?_
    refine aw_callV (As := [_, _]) (ρ := (25, 0, 0)) (kn' := ((KN k).1 + 29, (KN k).2 + 1248)) cv_L_49 dL_law_546 rfl rfl (hc43 hnx) rfl rfl (Nat.le_of_ble_eq_true rfl) ⟨(Nat.le_of_ble_eq_true rfl), (Nat.le_of_ble_eq_true rfl)⟩ ⟨by show 29 * k + 52 + 29 ≤ 600000; omega, by show 1248 * k + 20532 + 1248 ≤ 7302250; omega⟩ rfl (c_X11_merge (d := 20) hnx hI hA hLv hM (hX _) (hX _) (fun r2 h2 n2 => ?_) (fun z2 => absurd (h1.trans z2) n1))
    obtain rfl : r2 = r1 := h2.trans h1.symm
    refine aw_same_i (tgt := 2122) dL_law_549 rfl ?_
    exact aw_wd ⟨by show 29 * k + 52 + 29 ≤ 29 * (k + 1) + 52; omega, by show 1248 * k + 20532 + 1248 ≤ 1248 * (k + 1) + 20532; omega⟩ (hK _ _ _ _ _ _ (hG.mono ⟨by omega, by omega⟩))
  · skip
    refine aw_aload_n dL_law_535 rfl ?_
    refine aw_aload_n dL_law_536 rfl ?_
    refine aw_iload_n dL_law_537 rfl ?_
    refine aw_iconst dL_law_538 ?_
    refine aw_iadd dL_law_539 ?_
    refine aw_sld dL_law_540 (by omega) (by omega) ?_
    refine aw_aload_n dL_law_541 rfl ?_
    refine aw_iload_n dL_law_542 rfl ?_
    refine aw_iconst dL_law_543 ?_
    refine aw_iadd dL_law_544 ?_
    refine aw_sld dL_law_545 (by omega) (by omega) ?_
    refine aw_callV (As := [_, _]) (ρ := (25, 0, 0)) (kn' := ((KN k).1 + 29, (KN k).2 + 1248)) cv_L_49 dL_law_546 rfl rfl (hc43 hn2) rfl rfl (Nat.le_of_ble_eq_true rfl) ⟨(Nat.le_of_ble_eq_true rfl), (Nat.le_of_ble_eq_true rfl)⟩ ⟨by show 29 * k + 52 + 29 ≤ 600000; omega, by show 1248 * k + 20532 + 1248 ≤ 7302250; omega⟩ rfl (c_X11_merge (d := 20) hn2 hI hA hLv hM (hX _) (hX _) (fun r2 h2 n2 => absurd (h2.trans z1) n2) (fun z2 V2 hK2 hA2 => ?_))
    obtain ⟨G3, e3, g3⟩ := hG.act (c' := (k : Int) + 1) ⟨by omega, by omega⟩ (i_merge hI (by omega) z1) hR2 hK2 hA2 hn2
    rw [← e3 Γ]
    refine aw_same_i (tgt := 2122) dL_law_549 rfl ?_
    exact aw_wd ⟨by show 29 * k + 52 + 29 ≤ 29 * (k + 1) + 52; omega, by show 1248 * k + 20532 + 1248 ≤ 1248 * (k + 1) + 20532; omega⟩ (hK _ _ _ _ _ _ g3)

set_option maxHeartbeats 1000000 in
theorem law_lend {Γ : GT} {nm : String} {b L : Nat} {xs : Nat → Int} {S T U V : St} {G : Gw} {nx k : Nat} (hG : GI k S T U V G nx) (hk : 6 * k + 6 ≤ L) (hL : L ≤ 3072) (hX : ∀ j, inI (xs j)) (hK : ∀ S2 T2 U2 V2 G2 nx2, GI ((k : Int) + 1) S2 T2 U2 V2 G2 nx2 → AW Γ (MLw nm) room_1 (PL Γ b L xs) (KN (k + 1)) 2122 [some (.ref b), some (rf Γ 0), some (rf Γ 43), some (vi (6 * (k : Int)))] [] (hp Γ S2 T2 U2 V2 G2) nx2) : AW Γ (MLw nm) room_1 (PL Γ b L xs) (KN k) 554 [some (.ref b), some (rf Γ 0), some (rf Γ 43), some (vi (6 * (k : Int)))] [] (hp Γ S T U V G) nx := by
  have hnx := hG.1
  have hLv := hG.2.2.1
  have hI := hG.2.2.2.1
  have hA := hG.2.2.2.2.1
  have hM : 0 ≤ V 10 0 ∧ V 10 0 ≤ 10 := by have q := hG.2.2.2.2.2.2.2.2.1; have := q.2.1; have := q.2.2.1; omega
  refine aw_aload_n dL_law_554 rfl ?_
  refine aw_aload_n dL_law_555 rfl ?_
  refine aw_iload_n dL_law_556 rfl ?_
  refine aw_iconst dL_law_557 ?_
  refine aw_iadd dL_law_558 ?_
  refine aw_sld dL_law_559 (by omega) (by omega) ?_
  refine aw_aload_n dL_law_560 rfl ?_
  refine aw_iload_n dL_law_561 rfl ?_
  refine aw_iconst dL_law_562 ?_
  refine aw_iadd dL_law_563 ?_
  refine aw_sld dL_law_564 (by omega) (by omega) ?_
  refine aw_aload_n dL_law_565 rfl ?_
  refine aw_iload_n dL_law_566 rfl ?_
  refine aw_iconst dL_law_567 ?_
  refine aw_iadd dL_law_568 ?_
  refine aw_sld dL_law_569 (by omega) (by omega) ?_
  refine aw_aload_n dL_law_570 rfl ?_
  refine aw_iload_n dL_law_571 rfl ?_
  refine aw_iconst dL_law_572 ?_
  refine aw_iadd dL_law_573 ?_
  refine aw_sld dL_law_574 (by omega) (by omega) ?_
  refine aw_callV (As := [_, _, _, _]) (ρ := (25, 29, 1248)) (kn' := ((KN k).1 + 29, (KN k).2 + 1248)) cv_L_50 dL_law_575 rfl rfl (hc0 hnx) rfl rfl (Nat.le_of_ble_eq_true rfl) ⟨(Nat.le_of_ble_eq_true rfl), (Nat.le_of_ble_eq_true rfl)⟩ ⟨by show 29 * k + 52 + 29 ≤ 600000; omega, by show 1248 * k + 20532 + 1248 ≤ 7302250; omega⟩ rfl (c_X10_lend (d := 20) hnx hI (hX _) (hX _) (hX _) (hX _) hG.rw (fun r1 h1 n1 => ?_) (fun z1 U2 G2 nx2 hn2 hR2 hRg => ?_))
  · skip
    refine aw_aload_n dL_law_578 rfl ?_
    refine aw_aload_n dL_law_579 rfl ?_
    refine aw_iload_n dL_law_580 rfl ?_
    refine aw_iconst dL_law_581 ?_
    refine aw_iadd dL_law_582 ?_
    refine aw_sld dL_law_583 (by omega) (by omega) ?_
    refine aw_aload_n dL_law_584 rfl ?_
    refine aw_iload_n dL_law_585 rfl ?_
    refine aw_iconst dL_law_586 ?_
    refine aw_iadd dL_law_587 ?_
    refine aw_sld dL_law_588 (by omega) (by omega) ?_
    refine aw_aload_n dL_law_589 rfl ?_
    refine aw_iload_n dL_law_590 rfl ?_
    refine aw_iconst dL_law_591 ?_
    refine aw_iadd dL_law_592 ?_
    refine aw_sld dL_law_593 (by omega) (by omega) ?_
    refine aw_aload_n dL_law_594 rfl ?_
    refine aw_iload_n dL_law_595 rfl ?_
    refine aw_iconst dL_law_596 ?_
    refine aw_iadd dL_law_597 ?_
    refine aw_sld dL_law_598 (by omega) (by omega) ?_
    refine aw_callV (As := [_, _, _, _]) (ρ := (24, 0, 0)) (kn' := ((KN k).1 + 29, (KN k).2 + 1248)) cv_L_54 dL_law_599 rfl rfl (hc43 hnx) rfl rfl (Nat.le_of_ble_eq_true rfl) ⟨(Nat.le_of_ble_eq_true rfl), (Nat.le_of_ble_eq_true rfl)⟩ ⟨by show 29 * k + 52 + 29 ≤ 600000; omega, by show 1248 * k + 20532 + 1248 ≤ 7302250; omega⟩ rfl (c_X11_lend (d := 20) hnx hI hA hLv hM (hX _) (hX _) (hX _) (hX _) (fun r2 h2 n2 => ?_) (fun z2 => absurd (h1.trans z2) n1))
    obtain rfl : r2 = r1 := h2.trans h1.symm
    refine aw_same_i (tgt := 2122) dL_law_602 rfl ?_
    exact aw_wd ⟨by show 29 * k + 52 + 29 ≤ 29 * (k + 1) + 52; omega, by show 1248 * k + 20532 + 1248 ≤ 1248 * (k + 1) + 20532; omega⟩ (hK _ _ _ _ _ _ (hG.mono ⟨by omega, by omega⟩))
  · skip
    refine aw_aload_n dL_law_578 rfl ?_
    refine aw_aload_n dL_law_579 rfl ?_
    refine aw_iload_n dL_law_580 rfl ?_
    refine aw_iconst dL_law_581 ?_
    refine aw_iadd dL_law_582 ?_
    refine aw_sld dL_law_583 (by omega) (by omega) ?_
    refine aw_aload_n dL_law_584 rfl ?_
    refine aw_iload_n dL_law_585 rfl ?_
    refine aw_iconst dL_law_586 ?_
    refine aw_iadd dL_law_587 ?_
    refine aw_sld dL_law_588 (by omega) (by omega) ?_
    refine aw_aload_n dL_law_589 rfl ?_
    refine aw_iload_n dL_law_590 rfl ?_
    refine aw_iconst dL_law_591 ?_
    refine aw_iadd dL_law_592 ?_
    refine aw_sld dL_law_593 (by omega) (by omega) ?_
    refine aw_aload_n dL_law_594 rfl ?_
    refine aw_iload_n dL_law_595 rfl ?_
    refine aw_iconst dL_law_596 ?_
    refine aw_iadd dL_law_597 ?_
    refine aw_sld dL_law_598 (by omega) (by omega) ?_
    refine aw_callV (As := [_, _, _, _]) (ρ := (24, 0, 0)) (kn' := ((KN k).1 + 29, (KN k).2 + 1248)) cv_L_54 dL_law_599 rfl rfl (hc43 hn2) rfl rfl (Nat.le_of_ble_eq_true rfl) ⟨(Nat.le_of_ble_eq_true rfl), (Nat.le_of_ble_eq_true rfl)⟩ ⟨by show 29 * k + 52 + 29 ≤ 600000; omega, by show 1248 * k + 20532 + 1248 ≤ 7302250; omega⟩ rfl (c_X11_lend (d := 20) hn2 hI hA hLv hM (hX _) (hX _) (hX _) (hX _) (fun r2 h2 n2 => absurd (h2.trans z1) n2) (fun z2 V2 hK2 hA2 => ?_))
    obtain ⟨G3, e3, g3⟩ := hG.act (c' := (k : Int) + 1) ⟨by omega, by omega⟩ (i_lend hI (by omega) z1) hR2 hK2 hA2 hn2
    rw [← e3 Γ]
    refine aw_same_i (tgt := 2122) dL_law_602 rfl ?_
    exact aw_wd ⟨by show 29 * k + 52 + 29 ≤ 29 * (k + 1) + 52; omega, by show 1248 * k + 20532 + 1248 ≤ 1248 * (k + 1) + 20532; omega⟩ (hK _ _ _ _ _ _ g3)

set_option maxHeartbeats 1000000 in
theorem law_excess {Γ : GT} {nm : String} {b L : Nat} {xs : Nat → Int} {S T U V : St} {G : Gw} {nx k : Nat} (hG : GI k S T U V G nx) (hk : 6 * k + 6 ≤ L) (hL : L ≤ 3072) (hX : ∀ j, inI (xs j)) (hK : ∀ S2 T2 U2 V2 G2 nx2, GI ((k : Int) + 1) S2 T2 U2 V2 G2 nx2 → AW Γ (MLw nm) room_1 (PL Γ b L xs) (KN (k + 1)) 2122 [some (.ref b), some (rf Γ 0), some (rf Γ 43), some (vi (6 * (k : Int)))] [] (hp Γ S2 T2 U2 V2 G2) nx2) : AW Γ (MLw nm) room_1 (PL Γ b L xs) (KN k) 607 [some (.ref b), some (rf Γ 0), some (rf Γ 43), some (vi (6 * (k : Int)))] [] (hp Γ S T U V G) nx := by
  have hnx := hG.1
  have hLv := hG.2.2.1
  have hI := hG.2.2.2.1
  have hA := hG.2.2.2.2.1
  have hM : 0 ≤ V 10 0 ∧ V 10 0 ≤ 10 := by have q := hG.2.2.2.2.2.2.2.2.1; have := q.2.1; have := q.2.2.1; omega
  refine aw_aload_n dL_law_607 rfl ?_
  refine aw_aload_n dL_law_608 rfl ?_
  refine aw_iload_n dL_law_609 rfl ?_
  refine aw_iconst dL_law_610 ?_
  refine aw_iadd dL_law_611 ?_
  refine aw_sld dL_law_612 (by omega) (by omega) ?_
  refine aw_aload_n dL_law_613 rfl ?_
  refine aw_iload_n dL_law_614 rfl ?_
  refine aw_iconst dL_law_615 ?_
  refine aw_iadd dL_law_616 ?_
  refine aw_sld dL_law_617 (by omega) (by omega) ?_
  refine aw_aload_n dL_law_618 rfl ?_
  refine aw_iload_n dL_law_619 rfl ?_
  refine aw_iconst dL_law_620 ?_
  refine aw_iadd dL_law_621 ?_
  refine aw_sld dL_law_622 (by omega) (by omega) ?_
  refine aw_aload_n dL_law_623 rfl ?_
  refine aw_iload_n dL_law_624 rfl ?_
  refine aw_iconst dL_law_625 ?_
  refine aw_iadd dL_law_626 ?_
  refine aw_sld dL_law_627 (by omega) (by omega) ?_
  refine aw_callV (As := [_, _, _, _]) (ρ := (25, 29, 1248)) (kn' := ((KN k).1 + 29, (KN k).2 + 1248)) cv_L_55 dL_law_628 rfl rfl (hc0 hnx) rfl rfl (Nat.le_of_ble_eq_true rfl) ⟨(Nat.le_of_ble_eq_true rfl), (Nat.le_of_ble_eq_true rfl)⟩ ⟨by show 29 * k + 52 + 29 ≤ 600000; omega, by show 1248 * k + 20532 + 1248 ≤ 7302250; omega⟩ rfl (c_X10_excess (d := 20) hnx hI (hX _) (hX _) (hX _) (hX _) (by omega) hG.rw (fun r1 h1 n1 => ?_) (fun z1 U2 G2 nx2 hn2 hR2 hRg => ?_))
  · skip
    refine aw_aload_n dL_law_631 rfl ?_
    refine aw_aload_n dL_law_632 rfl ?_
    refine aw_iload_n dL_law_633 rfl ?_
    refine aw_iconst dL_law_634 ?_
    refine aw_iadd dL_law_635 ?_
    refine aw_sld dL_law_636 (by omega) (by omega) ?_
    refine aw_aload_n dL_law_637 rfl ?_
    refine aw_iload_n dL_law_638 rfl ?_
    refine aw_iconst dL_law_639 ?_
    refine aw_iadd dL_law_640 ?_
    refine aw_sld dL_law_641 (by omega) (by omega) ?_
    refine aw_aload_n dL_law_642 rfl ?_
    refine aw_iload_n dL_law_643 rfl ?_
    refine aw_iconst dL_law_644 ?_
    refine aw_iadd dL_law_645 ?_
    refine aw_sld dL_law_646 (by omega) (by omega) ?_
    refine aw_aload_n dL_law_647 rfl ?_
    refine aw_iload_n dL_law_648 rfl ?_
    refine aw_iconst dL_law_649 ?_
    refine aw_iadd dL_law_650 ?_
    refine aw_sld dL_law_651 (by omega) (by omega) ?_
    refine aw_callV (As := [_, _, _, _]) (ρ := (24, 0, 0)) (kn' := ((KN k).1 + 29, (KN k).2 + 1248)) cv_L_59 dL_law_652 rfl rfl (hc43 hnx) rfl rfl (Nat.le_of_ble_eq_true rfl) ⟨(Nat.le_of_ble_eq_true rfl), (Nat.le_of_ble_eq_true rfl)⟩ ⟨by show 29 * k + 52 + 29 ≤ 600000; omega, by show 1248 * k + 20532 + 1248 ≤ 7302250; omega⟩ rfl (c_X11_excess (d := 20) hnx hI hA hLv hM (hX _) (hX _) (hX _) (hX _) (fun r2 h2 n2 => ?_) (by omega) (fun z2 => absurd (h1.trans z2) n1))
    obtain rfl : r2 = r1 := h2.trans h1.symm
    refine aw_same_l (tgt := 2122) dL_law_655 dL_law_656 rfl ?_
    exact aw_wd ⟨by show 29 * k + 52 + 29 ≤ 29 * (k + 1) + 52; omega, by show 1248 * k + 20532 + 1248 ≤ 1248 * (k + 1) + 20532; omega⟩ (hK _ _ _ _ _ _ (hG.mono ⟨by omega, by omega⟩))
  · skip
    refine aw_aload_n dL_law_631 rfl ?_
    refine aw_aload_n dL_law_632 rfl ?_
    refine aw_iload_n dL_law_633 rfl ?_
    refine aw_iconst dL_law_634 ?_
    refine aw_iadd dL_law_635 ?_
    refine aw_sld dL_law_636 (by omega) (by omega) ?_
    refine aw_aload_n dL_law_637 rfl ?_
    refine aw_iload_n dL_law_638 rfl ?_
    refine aw_iconst dL_law_639 ?_
    refine aw_iadd dL_law_640 ?_
    refine aw_sld dL_law_641 (by omega) (by omega) ?_
    refine aw_aload_n dL_law_642 rfl ?_
    refine aw_iload_n dL_law_643 rfl ?_
    refine aw_iconst dL_law_644 ?_
    refine aw_iadd dL_law_645 ?_
    refine aw_sld dL_law_646 (by omega) (by omega) ?_
    refine aw_aload_n dL_law_647 rfl ?_
    refine aw_iload_n dL_law_648 rfl ?_
    refine aw_iconst dL_law_649 ?_
    refine aw_iadd dL_law_650 ?_
    refine aw_sld dL_law_651 (by omega) (by omega) ?_
    refine aw_callV (As := [_, _, _, _]) (ρ := (24, 0, 0)) (kn' := ((KN k).1 + 29, (KN k).2 + 1248)) cv_L_59 dL_law_652 rfl rfl (hc43 hn2) rfl rfl (Nat.le_of_ble_eq_true rfl) ⟨(Nat.le_of_ble_eq_true rfl), (Nat.le_of_ble_eq_true rfl)⟩ ⟨by show 29 * k + 52 + 29 ≤ 600000; omega, by show 1248 * k + 20532 + 1248 ≤ 7302250; omega⟩ rfl (c_X11_excess (d := 20) hn2 hI hA hLv hM (hX _) (hX _) (hX _) (hX _) (fun r2 h2 n2 => absurd (h2.trans z1) n2) (by omega) (fun z2 V2 hK2 hA2 => ?_))
    obtain ⟨G3, e3, g3⟩ := hG.act (c' := (k : Int) + 1) ⟨by omega, by omega⟩ (i_exc hI (by omega) z1) hR2 hK2 hA2 hn2
    rw [← e3 Γ]
    refine aw_same_l (tgt := 2122) dL_law_655 dL_law_656 rfl ?_
    exact aw_wd ⟨by show 29 * k + 52 + 29 ≤ 29 * (k + 1) + 52; omega, by show 1248 * k + 20532 + 1248 ≤ 1248 * (k + 1) + 20532; omega⟩ (hK _ _ _ _ _ _ g3)

set_option maxHeartbeats 1000000 in
theorem law_days {Γ : GT} {nm : String} {b L : Nat} {xs : Nat → Int} {S T U V : St} {G : Gw} {nx k : Nat} (hG : GI k S T U V G nx) (hk : 6 * k + 6 ≤ L) (hL : L ≤ 3072) (hX : ∀ j, inI (xs j)) (hK : ∀ S2 T2 U2 V2 G2 nx2, GI ((k : Int) + 1) S2 T2 U2 V2 G2 nx2 → AW Γ (MLw nm) room_1 (PL Γ b L xs) (KN (k + 1)) 2122 [some (.ref b), some (rf Γ 0), some (rf Γ 43), some (vi (6 * (k : Int)))] [] (hp Γ S2 T2 U2 V2 G2) nx2) : AW Γ (MLw nm) room_1 (PL Γ b L xs) (KN k) 661 [some (.ref b), some (rf Γ 0), some (rf Γ 43), some (vi (6 * (k : Int)))] [] (hp Γ S T U V G) nx := by
  have hnx := hG.1
  have hLv := hG.2.2.1
  have hI := hG.2.2.2.1
  have hA := hG.2.2.2.2.1
  have hM : 0 ≤ V 10 0 ∧ V 10 0 ≤ 10 := by have q := hG.2.2.2.2.2.2.2.2.1; have := q.2.1; have := q.2.2.1; omega
  refine aw_aload_n dL_law_661 rfl ?_
  refine aw_aload_n dL_law_662 rfl ?_
  refine aw_iload_n dL_law_663 rfl ?_
  refine aw_iconst dL_law_664 ?_
  refine aw_iadd dL_law_665 ?_
  refine aw_sld dL_law_666 (by omega) (by omega) ?_
  refine aw_callV (As := [_]) (ρ := (27, 29, 1248)) (kn' := ((KN k).1 + 29, (KN k).2 + 1248)) cv_L_60 dL_law_667 rfl rfl (hc0 hnx) rfl rfl (Nat.le_of_ble_eq_true rfl) ⟨(Nat.le_of_ble_eq_true rfl), (Nat.le_of_ble_eq_true rfl)⟩ ⟨by show 29 * k + 52 + 29 ≤ 600000; omega, by show 1248 * k + 20532 + 1248 ≤ 7302250; omega⟩ rfl (c_X10_days (d := 20) hnx hI (hX _) hG.rw (fun r1 h1 n1 => ?_) (fun z1 U2 G2 nx2 hn2 hR2 => ?_))
  · skip
    refine aw_aload_n dL_law_670 rfl ?_
    refine aw_aload_n dL_law_671 rfl ?_
    refine aw_iload_n dL_law_672 rfl ?_
    refine aw_iconst dL_law_673 ?_
    refine aw_iadd dL_law_674 ?_
    refine aw_sld dL_law_675 (by omega) (by omega) ?_
    refine aw_callV (As := [_]) (ρ := (26, 0, 0)) (kn' := ((KN k).1 + 29, (KN k).2 + 1248)) cv_L_63 dL_law_676 rfl rfl (hc43 hnx) rfl rfl (Nat.le_of_ble_eq_true rfl) ⟨(Nat.le_of_ble_eq_true rfl), (Nat.le_of_ble_eq_true rfl)⟩ ⟨by show 29 * k + 52 + 29 ≤ 600000; omega, by show 1248 * k + 20532 + 1248 ≤ 7302250; omega⟩ rfl (c_X11_days (d := 20) hnx hI hA hLv hM (hX _) (fun r2 h2 n2 => ?_) (fun z2 => absurd (h1.trans z2) n1))
    obtain rfl : r2 = r1 := h2.trans h1.symm
    refine aw_same_i (tgt := 2122) dL_law_679 rfl ?_
    exact aw_wd ⟨by show 29 * k + 52 + 29 ≤ 29 * (k + 1) + 52; omega, by show 1248 * k + 20532 + 1248 ≤ 1248 * (k + 1) + 20532; omega⟩ (hK _ _ _ _ _ _ (hG.mono ⟨by omega, by omega⟩))
  · skip
    refine aw_aload_n dL_law_670 rfl ?_
    refine aw_aload_n dL_law_671 rfl ?_
    refine aw_iload_n dL_law_672 rfl ?_
    refine aw_iconst dL_law_673 ?_
    refine aw_iadd dL_law_674 ?_
    refine aw_sld dL_law_675 (by omega) (by omega) ?_
    refine aw_callV (As := [_]) (ρ := (26, 0, 0)) (kn' := ((KN k).1 + 29, (KN k).2 + 1248)) cv_L_63 dL_law_676 rfl rfl (hc43 hn2) rfl rfl (Nat.le_of_ble_eq_true rfl) ⟨(Nat.le_of_ble_eq_true rfl), (Nat.le_of_ble_eq_true rfl)⟩ ⟨by show 29 * k + 52 + 29 ≤ 600000; omega, by show 1248 * k + 20532 + 1248 ≤ 7302250; omega⟩ rfl (c_X11_days (d := 20) hn2 hI hA hLv hM (hX _) (fun r2 h2 n2 => absurd (h2.trans z1) n2) (fun z2 V2 hK2 hA2 => ?_))
    obtain ⟨G3, e3, g3⟩ := hG.act (c' := (k : Int) + 1) ⟨by omega, by omega⟩ (i_days hI (by omega) z1) hR2 hK2 hA2 hn2
    rw [← e3 Γ]
    refine aw_same_i (tgt := 2122) dL_law_679 rfl ?_
    exact aw_wd ⟨by show 29 * k + 52 + 29 ≤ 29 * (k + 1) + 52; omega, by show 1248 * k + 20532 + 1248 ≤ 1248 * (k + 1) + 20532; omega⟩ (hK _ _ _ _ _ _ g3)

set_option maxHeartbeats 1000000 in
theorem law_widen {Γ : GT} {nm : String} {b L : Nat} {xs : Nat → Int} {S T U V : St} {G : Gw} {nx k : Nat} (hG : GI k S T U V G nx) (hk : 6 * k + 6 ≤ L) (hL : L ≤ 3072) (hX : ∀ j, inI (xs j)) (hK : ∀ S2 T2 U2 V2 G2 nx2, GI ((k : Int) + 1) S2 T2 U2 V2 G2 nx2 → AW Γ (MLw nm) room_1 (PL Γ b L xs) (KN (k + 1)) 2122 [some (.ref b), some (rf Γ 0), some (rf Γ 43), some (vi (6 * (k : Int)))] [] (hp Γ S2 T2 U2 V2 G2) nx2) : AW Γ (MLw nm) room_1 (PL Γ b L xs) (KN k) 684 [some (.ref b), some (rf Γ 0), some (rf Γ 43), some (vi (6 * (k : Int)))] [] (hp Γ S T U V G) nx := by
  have hnx := hG.1
  have hLv := hG.2.2.1
  have hI := hG.2.2.2.1
  have hA := hG.2.2.2.2.1
  have hM : 0 ≤ V 10 0 ∧ V 10 0 ≤ 10 := by have q := hG.2.2.2.2.2.2.2.2.1; have := q.2.1; have := q.2.2.1; omega
  refine aw_aload_n dL_law_684 rfl ?_
  refine aw_aload_n dL_law_685 rfl ?_
  refine aw_iload_n dL_law_686 rfl ?_
  refine aw_iconst dL_law_687 ?_
  refine aw_iadd dL_law_688 ?_
  refine aw_sld dL_law_689 (by omega) (by omega) ?_
  refine aw_aload_n dL_law_690 rfl ?_
  refine aw_iload_n dL_law_691 rfl ?_
  refine aw_iconst dL_law_692 ?_
  refine aw_iadd dL_law_693 ?_
  refine aw_sld dL_law_694 (by omega) (by omega) ?_
  refine aw_callV (As := [_, _]) (ρ := (25, 29, 1248)) (kn' := ((KN k).1 + 29, (KN k).2 + 1248)) cv_L_64 dL_law_695 rfl rfl (hc0 hnx) rfl rfl (Nat.le_of_ble_eq_true rfl) ⟨(Nat.le_of_ble_eq_true rfl), (Nat.le_of_ble_eq_true rfl)⟩ ⟨by show 29 * k + 52 + 29 ≤ 600000; omega, by show 1248 * k + 20532 + 1248 ≤ 7302250; omega⟩ rfl (c_X10_widen (d := 20) hnx hI (hX _) (hX _) hG.rw (fun r1 h1 n1 => ?_) (fun z1 U2 G2 nx2 hn2 hR2 hRg => ?_))
  · skip
    refine aw_aload_n dL_law_698 rfl ?_
    refine aw_aload_n dL_law_699 rfl ?_
    refine aw_iload_n dL_law_700 rfl ?_
    refine aw_iconst dL_law_701 ?_
    refine aw_iadd dL_law_702 ?_
    refine aw_sld dL_law_703 (by omega) (by omega) ?_
    refine aw_aload_n dL_law_704 rfl ?_
    refine aw_iload_n dL_law_705 rfl ?_
    refine aw_iconst dL_law_706 ?_
    refine aw_iadd dL_law_707 ?_
    refine aw_sld dL_law_708 (by omega) (by omega) ?_
    refine aw_callV (As := [_, _]) (ρ := (23, 0, 0)) (kn' := ((KN k).1 + 29, (KN k).2 + 1248)) cv_L_67 dL_law_709 rfl rfl (hc43 hnx) rfl rfl (Nat.le_of_ble_eq_true rfl) ⟨(Nat.le_of_ble_eq_true rfl), (Nat.le_of_ble_eq_true rfl)⟩ ⟨by show 29 * k + 52 + 29 ≤ 600000; omega, by show 1248 * k + 20532 + 1248 ≤ 7302250; omega⟩ rfl (c_X11_widen (d := 20) hnx hI hA hLv hM (hX _) (hX _) (fun r2 h2 n2 => ?_) (fun z2 => absurd (h1.trans z2) n1))
    obtain rfl : r2 = r1 := h2.trans h1.symm
    refine aw_same_i (tgt := 2122) dL_law_712 rfl ?_
    exact aw_wd ⟨by show 29 * k + 52 + 29 ≤ 29 * (k + 1) + 52; omega, by show 1248 * k + 20532 + 1248 ≤ 1248 * (k + 1) + 20532; omega⟩ (hK _ _ _ _ _ _ (hG.mono ⟨by omega, by omega⟩))
  · skip
    refine aw_aload_n dL_law_698 rfl ?_
    refine aw_aload_n dL_law_699 rfl ?_
    refine aw_iload_n dL_law_700 rfl ?_
    refine aw_iconst dL_law_701 ?_
    refine aw_iadd dL_law_702 ?_
    refine aw_sld dL_law_703 (by omega) (by omega) ?_
    refine aw_aload_n dL_law_704 rfl ?_
    refine aw_iload_n dL_law_705 rfl ?_
    refine aw_iconst dL_law_706 ?_
    refine aw_iadd dL_law_707 ?_
    refine aw_sld dL_law_708 (by omega) (by omega) ?_
    refine aw_callV (As := [_, _]) (ρ := (23, 0, 0)) (kn' := ((KN k).1 + 29, (KN k).2 + 1248)) cv_L_67 dL_law_709 rfl rfl (hc43 hn2) rfl rfl (Nat.le_of_ble_eq_true rfl) ⟨(Nat.le_of_ble_eq_true rfl), (Nat.le_of_ble_eq_true rfl)⟩ ⟨by show 29 * k + 52 + 29 ≤ 600000; omega, by show 1248 * k + 20532 + 1248 ≤ 7302250; omega⟩ rfl (c_X11_widen (d := 20) hn2 hI hA hLv hM (hX _) (hX _) (fun r2 h2 n2 => absurd (h2.trans z1) n2) (fun z2 V2 hK2 hA2 => ?_))
    obtain ⟨G3, e3, g3⟩ := hG.act (c' := (k : Int) + 1) ⟨by omega, by omega⟩ (i_widen hI (by omega) z1) hR2 hK2 hA2 hn2
    rw [← e3 Γ]
    refine aw_same_i (tgt := 2122) dL_law_712 rfl ?_
    exact aw_wd ⟨by show 29 * k + 52 + 29 ≤ 29 * (k + 1) + 52; omega, by show 1248 * k + 20532 + 1248 ≤ 1248 * (k + 1) + 20532; omega⟩ (hK _ _ _ _ _ _ g3)

set_option maxHeartbeats 1000000 in
theorem law_set {Γ : GT} {nm : String} {b L : Nat} {xs : Nat → Int} {S T U V : St} {G : Gw} {nx k : Nat} (hG : GI k S T U V G nx) (hk : 6 * k + 6 ≤ L) (hL : L ≤ 3072) (hX : ∀ j, inI (xs j)) (hK : ∀ S2 T2 U2 V2 G2 nx2, GI ((k : Int) + 1) S2 T2 U2 V2 G2 nx2 → AW Γ (MLw nm) room_1 (PL Γ b L xs) (KN (k + 1)) 2122 [some (.ref b), some (rf Γ 0), some (rf Γ 43), some (vi (6 * (k : Int)))] [] (hp Γ S2 T2 U2 V2 G2) nx2) : AW Γ (MLw nm) room_1 (PL Γ b L xs) (KN k) 717 [some (.ref b), some (rf Γ 0), some (rf Γ 43), some (vi (6 * (k : Int)))] [] (hp Γ S T U V G) nx := by
  have hnx := hG.1
  have hLv := hG.2.2.1
  have hI := hG.2.2.2.1
  have hA := hG.2.2.2.2.1
  have hM : 0 ≤ V 10 0 ∧ V 10 0 ≤ 10 := by have q := hG.2.2.2.2.2.2.2.2.1; have := q.2.1; have := q.2.2.1; omega
  refine aw_aload_n dL_law_717 rfl ?_
  refine aw_aload_n dL_law_718 rfl ?_
  refine aw_iload_n dL_law_719 rfl ?_
  refine aw_iconst dL_law_720 ?_
  refine aw_iadd dL_law_721 ?_
  refine aw_sld dL_law_722 (by omega) (by omega) ?_
  refine aw_aload_n dL_law_723 rfl ?_
  refine aw_iload_n dL_law_724 rfl ?_
  refine aw_iconst dL_law_725 ?_
  refine aw_iadd dL_law_726 ?_
  refine aw_sld dL_law_727 (by omega) (by omega) ?_
  refine aw_callV (As := [_, _]) (ρ := (25, 29, 1248)) (kn' := ((KN k).1 + 29, (KN k).2 + 1248)) cv_L_68 dL_law_728 rfl rfl (hc0 hnx) rfl rfl (Nat.le_of_ble_eq_true rfl) ⟨(Nat.le_of_ble_eq_true rfl), (Nat.le_of_ble_eq_true rfl)⟩ ⟨by show 29 * k + 52 + 29 ≤ 600000; omega, by show 1248 * k + 20532 + 1248 ≤ 7302250; omega⟩ rfl (c_X10_set (d := 20) hnx hI (hX _) (hX _) hG.rw (fun r1 h1 n1 => ?_) (fun z1 U2 G2 nx2 hn2 hR2 hRg => ?_))
  · skip
    refine aw_aload_n dL_law_731 rfl ?_
    refine aw_aload_n dL_law_732 rfl ?_
    refine aw_iload_n dL_law_733 rfl ?_
    refine aw_iconst dL_law_734 ?_
    refine aw_iadd dL_law_735 ?_
    refine aw_sld dL_law_736 (by omega) (by omega) ?_
    refine aw_aload_n dL_law_737 rfl ?_
    refine aw_iload_n dL_law_738 rfl ?_
    refine aw_iconst dL_law_739 ?_
    refine aw_iadd dL_law_740 ?_
    refine aw_sld dL_law_741 (by omega) (by omega) ?_
    refine aw_callV (As := [_, _]) (ρ := (23, 0, 0)) (kn' := ((KN k).1 + 29, (KN k).2 + 1248)) cv_L_71 dL_law_742 rfl rfl (hc43 hnx) rfl rfl (Nat.le_of_ble_eq_true rfl) ⟨(Nat.le_of_ble_eq_true rfl), (Nat.le_of_ble_eq_true rfl)⟩ ⟨by show 29 * k + 52 + 29 ≤ 600000; omega, by show 1248 * k + 20532 + 1248 ≤ 7302250; omega⟩ rfl (c_X11_set (d := 20) hnx hI hA hLv hM (hX _) (hX _) (fun r2 h2 n2 => ?_) (fun z2 => absurd (h1.trans z2) n1))
    obtain rfl : r2 = r1 := h2.trans h1.symm
    refine aw_same_i (tgt := 2122) dL_law_745 rfl ?_
    exact aw_wd ⟨by show 29 * k + 52 + 29 ≤ 29 * (k + 1) + 52; omega, by show 1248 * k + 20532 + 1248 ≤ 1248 * (k + 1) + 20532; omega⟩ (hK _ _ _ _ _ _ (hG.mono ⟨by omega, by omega⟩))
  · skip
    refine aw_aload_n dL_law_731 rfl ?_
    refine aw_aload_n dL_law_732 rfl ?_
    refine aw_iload_n dL_law_733 rfl ?_
    refine aw_iconst dL_law_734 ?_
    refine aw_iadd dL_law_735 ?_
    refine aw_sld dL_law_736 (by omega) (by omega) ?_
    refine aw_aload_n dL_law_737 rfl ?_
    refine aw_iload_n dL_law_738 rfl ?_
    refine aw_iconst dL_law_739 ?_
    refine aw_iadd dL_law_740 ?_
    refine aw_sld dL_law_741 (by omega) (by omega) ?_
    refine aw_callV (As := [_, _]) (ρ := (23, 0, 0)) (kn' := ((KN k).1 + 29, (KN k).2 + 1248)) cv_L_71 dL_law_742 rfl rfl (hc43 hn2) rfl rfl (Nat.le_of_ble_eq_true rfl) ⟨(Nat.le_of_ble_eq_true rfl), (Nat.le_of_ble_eq_true rfl)⟩ ⟨by show 29 * k + 52 + 29 ≤ 600000; omega, by show 1248 * k + 20532 + 1248 ≤ 7302250; omega⟩ rfl (c_X11_set (d := 20) hn2 hI hA hLv hM (hX _) (hX _) (fun r2 h2 n2 => absurd (h2.trans z1) n2) (fun z2 V2 hK2 hA2 => ?_))
    obtain ⟨G3, e3, g3⟩ := hG.act (c' := (k : Int) + 1) ⟨by omega, by omega⟩ (i_set hI (by omega) z1) hR2 hK2 hA2 hn2
    rw [← e3 Γ]
    refine aw_same_i (tgt := 2122) dL_law_745 rfl ?_
    exact aw_wd ⟨by show 29 * k + 52 + 29 ≤ 29 * (k + 1) + 52; omega, by show 1248 * k + 20532 + 1248 ≤ 1248 * (k + 1) + 20532; omega⟩ (hK _ _ _ _ _ _ g3)

set_option maxHeartbeats 1000000 in
theorem law_feed {Γ : GT} {nm : String} {b L : Nat} {xs : Nat → Int} {S T U V : St} {G : Gw} {nx k : Nat} (hG : GI k S T U V G nx) (hk : 6 * k + 6 ≤ L) (hL : L ≤ 3072) (hX : ∀ j, inI (xs j)) (hK : ∀ S2 T2 U2 V2 G2 nx2, GI ((k : Int) + 1) S2 T2 U2 V2 G2 nx2 → AW Γ (MLw nm) room_1 (PL Γ b L xs) (KN (k + 1)) 2122 [some (.ref b), some (rf Γ 0), some (rf Γ 43), some (vi (6 * (k : Int)))] [] (hp Γ S2 T2 U2 V2 G2) nx2) : AW Γ (MLw nm) room_1 (PL Γ b L xs) (KN k) 280 [some (.ref b), some (rf Γ 0), some (rf Γ 43), some (vi (6 * (k : Int)))] [] (hp Γ S T U V G) nx := by
  have hnx := hG.1
  have hLv := hG.2.2.1
  have hI := hG.2.2.2.1
  have hA := hG.2.2.2.2.1
  have hM : 0 ≤ V 10 0 ∧ V 10 0 ≤ 10 := by have q := hG.2.2.2.2.2.2.2.2.1; have := q.2.1; have := q.2.2.1; omega
  have h6 := hG.2.2.2.2.2.1
  refine aw_aload_n dL_law_280 rfl ?_
  refine aw_aload_n dL_law_281 rfl ?_
  refine aw_iload_n dL_law_282 rfl ?_
  refine aw_iconst dL_law_283 ?_
  refine aw_iadd dL_law_284 ?_
  refine aw_sld dL_law_285 (by omega) (by omega) ?_
  refine aw_aload_n dL_law_286 rfl ?_
  refine aw_iload_n dL_law_287 rfl ?_
  refine aw_iconst dL_law_288 ?_
  refine aw_iadd dL_law_289 ?_
  refine aw_sld dL_law_290 (by omega) (by omega) ?_
  refine aw_aload_n dL_law_291 rfl ?_
  refine aw_iload_n dL_law_292 rfl ?_
  refine aw_iconst dL_law_293 ?_
  refine aw_iadd dL_law_294 ?_
  refine aw_sld dL_law_295 (by omega) (by omega) ?_
  refine aw_aload_n dL_law_296 rfl ?_
  refine aw_iload_n dL_law_297 rfl ?_
  refine aw_iconst dL_law_298 ?_
  refine aw_iadd dL_law_299 ?_
  refine aw_sld dL_law_300 (by omega) (by omega) ?_
  refine aw_aload_n dL_law_301 rfl ?_
  refine aw_iload_n dL_law_302 rfl ?_
  refine aw_iconst dL_law_303 ?_
  refine aw_iadd dL_law_304 ?_
  refine aw_sld dL_law_305 (by omega) (by omega) ?_
  refine aw_callV (As := [_, _, _, _, _]) (ρ := (22, 0, 0)) (kn' := ((KN k).1 + 0, (KN k).2 + 0)) cv_L_13 dL_law_306 rfl rfl (hc0 hnx) rfl rfl (Nat.le_of_ble_eq_true rfl) ⟨(Nat.le_of_ble_eq_true rfl), (Nat.le_of_ble_eq_true rfl)⟩ ⟨by show 29 * k + 52 + 0 ≤ 600000; omega, by show 1248 * k + 20532 + 0 ≤ 7302250; omega⟩ rfl (c_X10_feed (d := 20) hnx h6.2.2.1 ⟨hX _, hX _, hX _, hX _, hX _⟩ (fun r1 h1 => ?_))
  refine aw_aload_n dL_law_309 rfl ?_
  refine aw_aload_n dL_law_310 rfl ?_
  refine aw_iload_n dL_law_311 rfl ?_
  refine aw_iconst dL_law_312 ?_
  refine aw_iadd dL_law_313 ?_
  refine aw_sld dL_law_314 (by omega) (by omega) ?_
  refine aw_aload_n dL_law_315 rfl ?_
  refine aw_iload_n dL_law_316 rfl ?_
  refine aw_iconst dL_law_317 ?_
  refine aw_iadd dL_law_318 ?_
  refine aw_sld dL_law_319 (by omega) (by omega) ?_
  refine aw_aload_n dL_law_320 rfl ?_
  refine aw_iload_n dL_law_321 rfl ?_
  refine aw_iconst dL_law_322 ?_
  refine aw_iadd dL_law_323 ?_
  refine aw_sld dL_law_324 (by omega) (by omega) ?_
  refine aw_aload_n dL_law_325 rfl ?_
  refine aw_iload_n dL_law_326 rfl ?_
  refine aw_iconst dL_law_327 ?_
  refine aw_iadd dL_law_328 ?_
  refine aw_sld dL_law_329 (by omega) (by omega) ?_
  refine aw_aload_n dL_law_330 rfl ?_
  refine aw_iload_n dL_law_331 rfl ?_
  refine aw_iconst dL_law_332 ?_
  refine aw_iadd dL_law_333 ?_
  refine aw_sld dL_law_334 (by omega) (by omega) ?_
  refine aw_callV (As := [_, _, _, _, _]) (ρ := (21, 0, 0)) (kn' := ((KN k).1 + 0, (KN k).2 + 0)) cv_L_17 dL_law_335 rfl rfl (hc43 hnx) rfl rfl (Nat.le_of_ble_eq_true rfl) ⟨(Nat.le_of_ble_eq_true rfl), (Nat.le_of_ble_eq_true rfl)⟩ ⟨by show 29 * k + 52 + 0 ≤ 600000; omega, by show 1248 * k + 20532 + 0 ≤ 7302250; omega⟩ rfl (c_X11_feed (d := 20) hnx hLv (by rw [← h6.2.1]; exact h6.2.2.1) ⟨hX _, hX _, hX _, hX _, hX _⟩ (fun r2 h2 hL2 => ?_))
  have q := hG.feed _ _ _ _ _ hL2
  obtain rfl : r2 = r1 := h2.trans (q.1.symm.trans h1.symm)
  refine aw_same_i (tgt := 2122) dL_law_338 rfl ?_
  exact aw_wd ⟨by show 29 * k + 52 + 0 ≤ 29 * (k + 1) + 52; omega, by show 1248 * k + 20532 + 0 ≤ 1248 * (k + 1) + 20532; omega⟩ (hK _ _ _ _ _ _ (q.2.mono ⟨by omega, by omega⟩))

set_option maxHeartbeats 1000000 in
theorem law_end {Γ : GT} {nm : String} {b L : Nat} {xs : Nat → Int} {S T U V : St} {G : Gw} {nx k : Nat} (hG : GI k S T U V G nx) (hk : 6 * k + 6 ≤ L) (hL : L ≤ 3072) (hX : ∀ j, inI (xs j)) (hK : ∀ S2 T2 U2 V2 G2 nx2, GI ((k : Int) + 1) S2 T2 U2 V2 G2 nx2 → AW Γ (MLw nm) room_1 (PL Γ b L xs) (KN (k + 1)) 2122 [some (.ref b), some (rf Γ 0), some (rf Γ 43), some (vi (6 * (k : Int)))] [] (hp Γ S2 T2 U2 V2 G2) nx2) : AW Γ (MLw nm) room_1 (PL Γ b L xs) (KN k) 343 [some (.ref b), some (rf Γ 0), some (rf Γ 43), some (vi (6 * (k : Int)))] [] (hp Γ S T U V G) nx := by
  have hnx := hG.1
  have hLv := hG.2.2.1
  have hI := hG.2.2.2.1
  have hA := hG.2.2.2.2.1
  have hM : 0 ≤ V 10 0 ∧ V 10 0 ≤ 10 := by have q := hG.2.2.2.2.2.2.2.2.1; have := q.2.1; have := q.2.2.1; omega
  have h6 := hG.2.2.2.2.2.1
  refine aw_aload_n dL_law_343 rfl ?_
  refine aw_aload_n dL_law_344 rfl ?_
  refine aw_iload_n dL_law_345 rfl ?_
  refine aw_iconst dL_law_346 ?_
  refine aw_iadd dL_law_347 ?_
  refine aw_sld dL_law_348 (by omega) (by omega) ?_
  refine aw_callV (As := [_]) (ρ := (21, 0, 0)) (kn' := ((KN k).1 + 0, (KN k).2 + 0)) cv_L_18 dL_law_349 rfl rfl (hc0 hnx) rfl rfl (Nat.le_of_ble_eq_true rfl) ⟨(Nat.le_of_ble_eq_true rfl), (Nat.le_of_ble_eq_true rfl)⟩ ⟨by show 29 * k + 52 + 0 ≤ 600000; omega, by show 1248 * k + 20532 + 0 ≤ 7302250; omega⟩ rfl (c_X10_end (d := 20) hnx h6.2.2.1 (hX _) (fun r1 h1 => ?_))
  refine aw_aload_n dL_law_352 rfl ?_
  refine aw_aload_n dL_law_353 rfl ?_
  refine aw_iload_n dL_law_354 rfl ?_
  refine aw_iconst dL_law_355 ?_
  refine aw_iadd dL_law_356 ?_
  refine aw_sld dL_law_357 (by omega) (by omega) ?_
  refine aw_callV (As := [_]) (ρ := (20, 0, 0)) (kn' := ((KN k).1 + 0, (KN k).2 + 0)) cv_L_22 dL_law_358 rfl rfl (hc43 hnx) rfl rfl (Nat.le_of_ble_eq_true rfl) ⟨(Nat.le_of_ble_eq_true rfl), (Nat.le_of_ble_eq_true rfl)⟩ ⟨by show 29 * k + 52 + 0 ≤ 600000; omega, by show 1248 * k + 20532 + 0 ≤ 7302250; omega⟩ rfl (c_X11_end (d := 20) hnx hLv (by rw [← h6.2.1]; exact h6.2.2.1) (hX _) (fun r2 h2 hL2 => ?_))
  have q := hG.end' hL2
  obtain rfl : r2 = r1 := by rw [h2, h1, h6.2.1]
  refine aw_same_i (tgt := 2122) dL_law_361 rfl ?_
  exact aw_wd ⟨by show 29 * k + 52 + 0 ≤ 29 * (k + 1) + 52; omega, by show 1248 * k + 20532 + 0 ≤ 1248 * (k + 1) + 20532; omega⟩ (hK _ _ _ _ _ _ (q.mono ⟨by omega, by omega⟩))

set_option maxHeartbeats 1000000 in
theorem law_tell {Γ : GT} {nm : String} {b L : Nat} {xs : Nat → Int} {S T U V : St} {G : Gw} {nx k : Nat} (hG : GI k S T U V G nx) (hk : 6 * k + 6 ≤ L) (hL : L ≤ 3072) (hX : ∀ j, inI (xs j)) (hK : ∀ S2 T2 U2 V2 G2 nx2, GI ((k : Int) + 1) S2 T2 U2 V2 G2 nx2 → AW Γ (MLw nm) room_1 (PL Γ b L xs) (KN (k + 1)) 2122 [some (.ref b), some (rf Γ 0), some (rf Γ 43), some (vi (6 * (k : Int)))] [] (hp Γ S2 T2 U2 V2 G2) nx2) : AW Γ (MLw nm) room_1 (PL Γ b L xs) (KN k) 366 [some (.ref b), some (rf Γ 0), some (rf Γ 43), some (vi (6 * (k : Int)))] [] (hp Γ S T U V G) nx := by
  have hnx := hG.1
  have hLv := hG.2.2.1
  have hI := hG.2.2.2.1
  have hA := hG.2.2.2.2.1
  have hM : 0 ≤ V 10 0 ∧ V 10 0 ≤ 10 := by have q := hG.2.2.2.2.2.2.2.2.1; have := q.2.1; have := q.2.2.1; omega
  have h6 := hG.2.2.2.2.2.1
  have hT := hG.2.1
  have eV : rtx (V 6) (V 11 0) T = rtx (U 0) (U 10 0) T := by rw [h6.1, h6.2.1]
  have eN : V 11 0 = U 10 0 := h6.2.1.symm
  have hB6 : ∀ j : Int, -128 ≤ V 6 j ∧ V 6 j ≤ 127 := by rw [← h6.1]; exact h6.2.2.2
  have hn6 : 0 ≤ V 11 0 ∧ V 11 0 ≤ 400 := by rw [eN]; exact h6.2.2.1
  refine aw_aload_n dL_law_366 rfl ?_
  refine aw_callV (As := []) (ρ := (27, 0, 0)) (kn' := ((KN k).1 + 0, (KN k).2 + 0)) cv_L_23 dL_law_367 rfl rfl (hc0 hnx) rfl rfl (Nat.le_of_ble_eq_true rfl) ⟨(Nat.le_of_ble_eq_true rfl), (Nat.le_of_ble_eq_true rfl)⟩ ⟨by show 29 * k + 52 + 0 ≤ 600000; omega, by show 1248 * k + 20532 + 0 ≤ 7302250; omega⟩ rfl (c_X10_tell (d := 20) hnx hI.R h6.2.2.2 h6.2.2.1 hT (fun p e1 e2 e3 => (Inv.beg (c := 1) (rtx_V h6.2.2.1 hT (by rw [← e1]; exact e3)).2 hI.R (by omega) (rtx_V h6.2.2.1 hT (by rw [← e1]; exact e3)).1).2 |> (fun z => by rw [e1]; exact z)) (fun p e1 e2 e3 => ?_) (fun p e1 e2 e3 hRg => ?_))
  · skip
    refine aw_aload_n dL_law_370 rfl ?_
    subst e1
    refine aw_callV (As := []) (ρ := (27, 0, 0)) (kn' := ((KN k).1 + 0, (KN k).2 + 0)) cv_L_27 dL_law_371 rfl rfl (hc43 hnx) rfl rfl (Nat.le_of_ble_eq_true rfl) ⟨(Nat.le_of_ble_eq_true rfl), (Nat.le_of_ble_eq_true rfl)⟩ ⟨by show 29 * k + 52 + 0 ≤ 600000; omega, by show 1248 * k + 20532 + 0 ≤ 7302250; omega⟩ rfl (c_X11_tell (d := 20) (A := T) (S0 := S) hnx hB6 hn6 hT hLv (fun V2 r2 f1 vo v0 v10 v11 hL2 hr => ?_) (fun V2 r2 f1 vo v10 v11 hL2 hA2 hr => absurd (by rw [eV, eN] at f1; exact f1) e3))
    rw [eV, eN] at hr
    subst hr
    refine aw_same_i (tgt := 2122) dL_law_374 rfl ?_
    exact aw_wd ⟨by show 29 * k + 52 + 0 ≤ 29 * (k + 1) + 52; omega, by show 1248 * k + 20532 + 0 ≤ 1248 * (k + 1) + 20532; omega⟩ (hK _ _ _ _ _ _ ((hG.tellN _ _ e2.2.2.1 vo v0 v10 v11 hL2).mono ⟨by omega, by omega⟩))
  · skip
    refine aw_aload_n dL_law_370 rfl ?_
    subst e1
    refine aw_callV (As := []) (ρ := (27, 0, 0)) (kn' := ((KN k).1 + 0, (KN k).2 + 0)) cv_L_27 dL_law_371 rfl rfl (hc43 hnx) rfl rfl (Nat.le_of_ble_eq_true rfl) ⟨(Nat.le_of_ble_eq_true rfl), (Nat.le_of_ble_eq_true rfl)⟩ ⟨by show 29 * k + 52 + 0 ≤ 600000; omega, by show 1248 * k + 20532 + 0 ≤ 7302250; omega⟩ rfl (c_X11_tell (d := 20) (A := T) (S0 := S) hnx hB6 hn6 hT hLv (fun V2 r2 f1 vo v0 v10 v11 hL2 hr => absurd (by rw [eV, eN]; exact e3) f1) (fun V2 r2 f1 vo v10 v11 hL2 hA2 hr => ?_))
    rw [eV] at hr hA2
    subst hr
    have vv := rtx_V (B := U 0) h6.2.2.1 hT e3
    refine aw_same_i (tgt := 2122) dL_law_374 rfl ?_
    exact aw_wd ⟨by show 29 * k + 52 + 0 ≤ 29 * (k + 1) + 52; omega, by show 1248 * k + 20532 + 0 ≤ 1248 * (k + 1) + 20532; omega⟩ (hK _ _ _ _ _ _ (hG.tellQ (c' := (k : Int) + 1) ⟨by omega, by omega, by omega⟩ _ _ vv.2 vv.1 vo v10 v11 hL2 hA2))

set_option maxHeartbeats 1000000 in
theorem law_undo {Γ : GT} {nm : String} {b L : Nat} {xs : Nat → Int} {S T U V : St} {G : Gw} {nx k : Nat} (hG : GI k S T U V G nx) (hk : 6 * k + 6 ≤ L) (hL : L ≤ 3072) (hX : ∀ j, inI (xs j)) (hK : ∀ S2 T2 U2 V2 G2 nx2, GI ((k : Int) + 1) S2 T2 U2 V2 G2 nx2 → AW Γ (MLw nm) room_1 (PL Γ b L xs) (KN (k + 1)) 2122 [some (.ref b), some (rf Γ 0), some (rf Γ 43), some (vi (6 * (k : Int)))] [] (hp Γ S2 T2 U2 V2 G2) nx2) : AW Γ (MLw nm) room_1 (PL Γ b L xs) (KN k) 750 [some (.ref b), some (rf Γ 0), some (rf Γ 43), some (vi (6 * (k : Int)))] [] (hp Γ S T U V G) nx := by
  have hnx := hG.1
  have hLv := hG.2.2.1
  have hI := hG.2.2.2.1
  have hA := hG.2.2.2.2.1
  have hM : 0 ≤ V 10 0 ∧ V 10 0 ≤ 10 := by have q := hG.2.2.2.2.2.2.2.2.1; have := q.2.1; have := q.2.2.1; omega
  have h9 := hG.2.2.2.2.2.2.2.2.1
  have h8 := hG.2.2.2.2.2.2.2.1
  have e10 : V 10 0 = U 17 0 := h9.2.2.1
  have hh : 0 < U 17 0 → ∃ j : Nat, U 3 ((U 16 0 + 10 - 1) % 10) = ((j * 29 + 52 : Nat) : Int) ∧ j * 29 + 81 ≤ nx ∧ Inv k (G j) := fun z => by have q := h9.2.2.2 0 (by omega) z; rw [show (U 16 0 + 9 - 0) % 10 = (U 16 0 + 10 - 1) % 10 by omega] at q; obtain ⟨j, a, b, d, _⟩ := q; exact ⟨j, a, b, d⟩
  refine aw_aload_n dL_law_750 rfl ?_
  refine aw_callV (As := []) (ρ := (24, 0, 0)) (kn' := ((KN k).1 + 0, (KN k).2 + 0)) cv_L_72 dL_law_751 rfl rfl (hc0 hnx) rfl rfl (Nat.le_of_ble_eq_true rfl) ⟨(Nat.le_of_ble_eq_true rfl), (Nat.le_of_ble_eq_true rfl)⟩ ⟨by show 29 * k + 52 + 0 ≤ 600000; omega, by show 1248 * k + 20532 + 0 ≤ 7302250; omega⟩ rfl (c_X10_undo (d := 20) hnx hI.R h9.1 h9.2.1 ((h8.2.1 _ (by omega) (by omega)).imp id (fun z => ⟨z.choose, z.choose_spec.1⟩)) (fun z => ?_) (fun z => ?_))
  · skip
    refine aw_aload_n dL_law_754 rfl ?_
    refine aw_callV (As := []) (ρ := (21, 0, 0)) (kn' := ((KN k).1 + 0, (KN k).2 + 0)) cv_L_75 dL_law_755 rfl rfl (hc43 hnx) rfl rfl (Nat.le_of_ble_eq_true rfl) ⟨(Nat.le_of_ble_eq_true rfl), (Nat.le_of_ble_eq_true rfl)⟩ ⟨by show 29 * k + 52 + 0 ≤ 600000; omega, by show 1248 * k + 20532 + 0 ≤ 7302250; omega⟩ rfl (c_X11_undo (d := 20) hnx hLv hM (fun z2 => ?_) (fun z2 => absurd z2 (by omega)))
    refine aw_same_i (tgt := 2122) dL_law_758 rfl ?_
    exact aw_wd ⟨by show 29 * k + 52 + 0 ≤ 29 * (k + 1) + 52; omega, by show 1248 * k + 20532 + 0 ≤ 1248 * (k + 1) + 20532; omega⟩ (hK _ _ _ _ _ _ (hG.mono ⟨by omega, by omega⟩))
  · obtain ⟨j, a, b1, d⟩ := hh z
    refine ⟨j, a, b1, d.R, d.i1.2.2.1, fun hRg => ?_⟩
    refine aw_aload_n dL_law_754 rfl ?_
    refine aw_callV (As := []) (ρ := (21, 0, 0)) (kn' := ((KN k).1 + 0, (KN k).2 + 0)) cv_L_75 dL_law_755 rfl rfl (hc43 hnx) rfl rfl (Nat.le_of_ble_eq_true rfl) ⟨(Nat.le_of_ble_eq_true rfl), (Nat.le_of_ble_eq_true rfl)⟩ ⟨by show 29 * k + 52 + 0 ≤ 600000; omega, by show 1248 * k + 20532 + 0 ≤ 7302250; omega⟩ rfl (c_X11_undo (d := 20) hnx hLv hM (fun z2 => absurd z2 (by omega)) (fun z2 V2 e2 hL2 => ?_))
    rw [e10]
    refine aw_same_i (tgt := 2122) dL_law_758 rfl ?_
    exact aw_wd ⟨by show 29 * k + 52 + 0 ≤ 29 * (k + 1) + 52; omega, by show 1248 * k + 20532 + 0 ≤ 1248 * (k + 1) + 20532; omega⟩ (hK _ _ _ _ _ _ ((hG.undo z e2 hL2 a hRg).mono ⟨by omega, by omega⟩))

set_option maxHeartbeats 1000000 in
theorem law_keep {Γ : GT} {nm : String} {b L : Nat} {xs : Nat → Int} {S T U V : St} {G : Gw} {nx k : Nat} (hG : GI k S T U V G nx) (hk : 6 * k + 6 ≤ L) (hL : L ≤ 3072) (hX : ∀ j, inI (xs j)) (hK : ∀ S2 T2 U2 V2 G2 nx2, GI ((k : Int) + 1) S2 T2 U2 V2 G2 nx2 → AW Γ (MLw nm) room_1 (PL Γ b L xs) (KN (k + 1)) 2122 [some (.ref b), some (rf Γ 0), some (rf Γ 43), some (vi (6 * (k : Int)))] [] (hp Γ S2 T2 U2 V2 G2) nx2) : AW Γ (MLw nm) room_1 (PL Γ b L xs) (KN k) 763 [some (.ref b), some (rf Γ 0), some (rf Γ 43), some (vi (6 * (k : Int)))] [] (hp Γ S T U V G) nx := by
  have hnx := hG.1
  have hLv := hG.2.2.1
  have hI := hG.2.2.2.1
  have hA := hG.2.2.2.2.1
  have hM : 0 ≤ V 10 0 ∧ V 10 0 ≤ 10 := by have q := hG.2.2.2.2.2.2.2.2.1; have := q.2.1; have := q.2.2.1; omega
  have h8 := hG.2.2.2.2.2.2.2.1
  refine aw_aload_n dL_law_763 rfl ?_
  refine aw_aload_n dL_law_764 rfl ?_
  refine aw_iload_n dL_law_765 rfl ?_
  refine aw_iconst dL_law_766 ?_
  refine aw_iadd dL_law_767 ?_
  refine aw_sld dL_law_768 (by omega) (by omega) ?_
  refine aw_callV (As := [_]) (ρ := (24, 29, 1248)) (kn' := ((KN k).1 + 29, (KN k).2 + 1248)) cv_L_76 dL_law_769 rfl rfl (hc0 hnx) rfl rfl (Nat.le_of_ble_eq_true rfl) ⟨(Nat.le_of_ble_eq_true rfl), (Nat.le_of_ble_eq_true rfl)⟩ ⟨by show 29 * k + 52 + 29 ≤ 600000; omega, by show 1248 * k + 20532 + 1248 ≤ 7302250; omega⟩ rfl (c_X10_keep (d := 20) hnx (hX _) hI.i1.2.2.1 (fun z => (h8.2.2.1 _ z.1 z.2).elim (fun w => Or.inl ⟨w, h8.1⟩) Or.inr) (fun z => ?_) (fun z U2 G2 nx2 hn2 hR2 => ?_))
  · skip
    refine aw_aload_n dL_law_772 rfl ?_
    refine aw_aload_n dL_law_773 rfl ?_
    refine aw_iload_n dL_law_774 rfl ?_
    refine aw_iconst dL_law_775 ?_
    refine aw_iadd dL_law_776 ?_
    refine aw_sld dL_law_777 (by omega) (by omega) ?_
    refine aw_callV (As := [_]) (ρ := (21, 0, 0)) (kn' := ((KN k).1 + 29, (KN k).2 + 1248)) cv_L_79 dL_law_778 rfl rfl (hc43 hnx) rfl rfl (Nat.le_of_ble_eq_true rfl) ⟨(Nat.le_of_ble_eq_true rfl), (Nat.le_of_ble_eq_true rfl)⟩ ⟨by show 29 * k + 52 + 29 ≤ 600000; omega, by show 1248 * k + 20532 + 1248 ≤ 7302250; omega⟩ rfl (c_X11_keep (d := 20) hnx hLv (hX _) (fun z2 => ?_) (fun z2 => absurd z2 z))
    refine aw_same_i (tgt := 2122) dL_law_781 rfl ?_
    exact aw_wd ⟨by show 29 * k + 52 + 29 ≤ 29 * (k + 1) + 52; omega, by show 1248 * k + 20532 + 1248 ≤ 1248 * (k + 1) + 20532; omega⟩ (hK _ _ _ _ _ _ (hG.mono ⟨by omega, by omega⟩))
  · skip
    refine aw_aload_n dL_law_772 rfl ?_
    refine aw_aload_n dL_law_773 rfl ?_
    refine aw_iload_n dL_law_774 rfl ?_
    refine aw_iconst dL_law_775 ?_
    refine aw_iadd dL_law_776 ?_
    refine aw_sld dL_law_777 (by omega) (by omega) ?_
    refine aw_callV (As := [_]) (ρ := (21, 0, 0)) (kn' := ((KN k).1 + 29, (KN k).2 + 1248)) cv_L_79 dL_law_778 rfl rfl (hc43 hn2) rfl rfl (Nat.le_of_ble_eq_true rfl) ⟨(Nat.le_of_ble_eq_true rfl), (Nat.le_of_ble_eq_true rfl)⟩ ⟨by show 29 * k + 52 + 29 ≤ 600000; omega, by show 1248 * k + 20532 + 1248 ≤ 7302250; omega⟩ rfl (c_X11_keep (d := 20) hn2 hLv (hX _) (fun z2 => absurd z z2) (fun z2 V2 e2 hL2 => ?_))
    rw [hA.c6]
    obtain ⟨G3, e3, g3⟩ := hG.keep z hR2 e2 hL2 hn2
    rw [← e3 Γ]
    refine aw_same_i (tgt := 2122) dL_law_781 rfl ?_
    exact aw_wd ⟨by show 29 * k + 52 + 29 ≤ 29 * (k + 1) + 52; omega, by show 1248 * k + 20532 + 1248 ≤ 1248 * (k + 1) + 20532; omega⟩ (hK _ _ _ _ _ _ (g3.mono ⟨by omega, by omega⟩))

set_option maxHeartbeats 1000000 in
theorem law_back {Γ : GT} {nm : String} {b L : Nat} {xs : Nat → Int} {S T U V : St} {G : Gw} {nx k : Nat} (hG : GI k S T U V G nx) (hk : 6 * k + 6 ≤ L) (hL : L ≤ 3072) (hX : ∀ j, inI (xs j)) (hK : ∀ S2 T2 U2 V2 G2 nx2, GI ((k : Int) + 1) S2 T2 U2 V2 G2 nx2 → AW Γ (MLw nm) room_1 (PL Γ b L xs) (KN (k + 1)) 2122 [some (.ref b), some (rf Γ 0), some (rf Γ 43), some (vi (6 * (k : Int)))] [] (hp Γ S2 T2 U2 V2 G2) nx2) : AW Γ (MLw nm) room_1 (PL Γ b L xs) (KN k) 786 [some (.ref b), some (rf Γ 0), some (rf Γ 43), some (vi (6 * (k : Int)))] [] (hp Γ S T U V G) nx := by
  have hnx := hG.1
  have hLv := hG.2.2.1
  have hI := hG.2.2.2.1
  have hA := hG.2.2.2.2.1
  have hM : 0 ≤ V 10 0 ∧ V 10 0 ≤ 10 := by have q := hG.2.2.2.2.2.2.2.2.1; have := q.2.1; have := q.2.2.1; omega
  have h10 := hG.2.2.2.2.2.2.2.2.2
  refine aw_aload_n dL_law_786 rfl ?_
  refine aw_aload_n dL_law_787 rfl ?_
  refine aw_iload_n dL_law_788 rfl ?_
  refine aw_iconst dL_law_789 ?_
  refine aw_iadd dL_law_790 ?_
  refine aw_sld dL_law_791 (by omega) (by omega) ?_
  refine aw_callV (As := [_]) (ρ := (24, 0, 0)) (kn' := ((KN k).1 + 0, (KN k).2 + 0)) cv_L_80 dL_law_792 rfl rfl (hc0 hnx) rfl rfl (Nat.le_of_ble_eq_true rfl) ⟨(Nat.le_of_ble_eq_true rfl), (Nat.le_of_ble_eq_true rfl)⟩ ⟨by show 29 * k + 52 + 0 ≤ 600000; omega, by show 1248 * k + 20532 + 0 ≤ 7302250; omega⟩ rfl (c_X10_back (d := 20) hnx (hX _) hI.R (fun z => ?_) (fun z z1 => ?_) (fun z z1 => ?_))
  · skip
    refine aw_aload_n dL_law_795 rfl ?_
    refine aw_aload_n dL_law_796 rfl ?_
    refine aw_iload_n dL_law_797 rfl ?_
    refine aw_iconst dL_law_798 ?_
    refine aw_iadd dL_law_799 ?_
    refine aw_sld dL_law_800 (by omega) (by omega) ?_
    refine aw_callV (As := [_]) (ρ := (21, 0, 0)) (kn' := ((KN k).1 + 0, (KN k).2 + 0)) cv_L_83 dL_law_801 rfl rfl (hc43 hnx) rfl rfl (Nat.le_of_ble_eq_true rfl) ⟨(Nat.le_of_ble_eq_true rfl), (Nat.le_of_ble_eq_true rfl)⟩ ⟨by show 29 * k + 52 + 0 ≤ 600000; omega, by show 1248 * k + 20532 + 0 ≤ 7302250; omega⟩ rfl (c_X11_back (d := 20) hnx hLv (hX _) (fun z => h10.1 _) (fun z2 => ?_) (fun z2 => absurd z2 z) (fun z2 => absurd z2 z))
    refine aw_same_i (tgt := 2122) dL_law_804 rfl ?_
    exact aw_wd ⟨by show 29 * k + 52 + 0 ≤ 29 * (k + 1) + 52; omega, by show 1248 * k + 20532 + 0 ≤ 1248 * (k + 1) + 20532; omega⟩ (hK _ _ _ _ _ _ (hG.mono ⟨by omega, by omega⟩))
  · have w : V 5 _ = 0 := (h10.2 _ z.1 z.2).elim (fun q => q.2) (fun q => absurd z1 (by obtain ⟨j, e, _⟩ := q.2; omega))
    refine aw_aload_n dL_law_795 rfl ?_
    refine aw_aload_n dL_law_796 rfl ?_
    refine aw_iload_n dL_law_797 rfl ?_
    refine aw_iconst dL_law_798 ?_
    refine aw_iadd dL_law_799 ?_
    refine aw_sld dL_law_800 (by omega) (by omega) ?_
    refine aw_callV (As := [_]) (ρ := (21, 0, 0)) (kn' := ((KN k).1 + 0, (KN k).2 + 0)) cv_L_83 dL_law_801 rfl rfl (hc43 hnx) rfl rfl (Nat.le_of_ble_eq_true rfl) ⟨(Nat.le_of_ble_eq_true rfl), (Nat.le_of_ble_eq_true rfl)⟩ ⟨by show 29 * k + 52 + 0 ≤ 600000; omega, by show 1248 * k + 20532 + 0 ≤ 7302250; omega⟩ rfl (c_X11_back (d := 20) hnx hLv (hX _) (fun z => h10.1 _) (fun z2 => absurd z z2) (fun z2 w2 => ?_) (fun z2 w2 => absurd (w2.symm.trans w) (by decide)))
    refine aw_same_i (tgt := 2122) dL_law_804 rfl ?_
    exact aw_wd ⟨by show 29 * k + 52 + 0 ≤ 29 * (k + 1) + 52; omega, by show 1248 * k + 20532 + 0 ≤ 1248 * (k + 1) + 20532; omega⟩ (hK _ _ _ _ _ _ (hG.mono ⟨by omega, by omega⟩))
  · obtain ⟨w, j, e1, e2, e3, e4⟩ := (h10.2 _ z.1 z.2).resolve_left (fun q => absurd q.1 (by omega))
    refine ⟨j, e1, e2, e3.R, e3.i1.2.2.1, fun hRg => ?_⟩
    refine aw_aload_n dL_law_795 rfl ?_
    refine aw_aload_n dL_law_796 rfl ?_
    refine aw_iload_n dL_law_797 rfl ?_
    refine aw_iconst dL_law_798 ?_
    refine aw_iadd dL_law_799 ?_
    refine aw_sld dL_law_800 (by omega) (by omega) ?_
    refine aw_callV (As := [_]) (ρ := (21, 0, 0)) (kn' := ((KN k).1 + 0, (KN k).2 + 0)) cv_L_83 dL_law_801 rfl rfl (hc43 hnx) rfl rfl (Nat.le_of_ble_eq_true rfl) ⟨(Nat.le_of_ble_eq_true rfl), (Nat.le_of_ble_eq_true rfl)⟩ ⟨by show 29 * k + 52 + 0 ≤ 600000; omega, by show 1248 * k + 20532 + 0 ≤ 7302250; omega⟩ rfl (c_X11_back (d := 20) hnx hLv (hX _) (fun z => h10.1 _) (fun z2 => absurd z z2) (fun z2 w2 => absurd (w.symm.trans w2) (by decide)) (fun z2 w2 V2 ev hL2 => ?_))
    rw [show V 4 (1216 * _ + 6) = G j 26 0 from e4.c6]
    refine aw_same_i (tgt := 2122) dL_law_804 rfl ?_
    exact aw_wd ⟨by show 29 * k + 52 + 0 ≤ 29 * (k + 1) + 52; omega, by show 1248 * k + 20532 + 0 ≤ 1248 * (k + 1) + 20532; omega⟩ (hK _ _ _ _ _ _ ((hG.back z ev hL2 e1 hRg).mono ⟨by omega, by omega⟩))

set_option maxHeartbeats 1000000 in
theorem law_count {Γ : GT} {nm : String} {b L : Nat} {xs : Nat → Int} {S T U V : St} {G : Gw} {nx k : Nat} (hG : GI k S T U V G nx) (hk : 6 * k + 6 ≤ L) (hL : L ≤ 3072) (hX : ∀ j, inI (xs j)) (hK : ∀ S2 T2 U2 V2 G2 nx2, GI ((k : Int) + 1) S2 T2 U2 V2 G2 nx2 → AW Γ (MLw nm) room_1 (PL Γ b L xs) (KN (k + 1)) 2122 [some (.ref b), some (rf Γ 0), some (rf Γ 43), some (vi (6 * (k : Int)))] [] (hp Γ S2 T2 U2 V2 G2) nx2) : AW Γ (MLw nm) room_1 (PL Γ b L xs) (KN k) 2099 [some (.ref b), some (rf Γ 0), some (rf Γ 43), some (vi (6 * (k : Int)))] [] (hp Γ S T U V G) nx := by
  have hnx := hG.1
  have hLv := hG.2.2.1
  have hI := hG.2.2.2.1
  have hA := hG.2.2.2.2.1
  have hM : 0 ≤ V 10 0 ∧ V 10 0 ≤ 10 := by have q := hG.2.2.2.2.2.2.2.2.1; have := q.2.1; have := q.2.2.1; omega
  refine aw_aload_n dL_law_2099 rfl ?_
  refine aw_aload_n dL_law_2100 rfl ?_
  refine aw_iload_n dL_law_2101 rfl ?_
  refine aw_iconst dL_law_2102 ?_
  refine aw_iadd dL_law_2103 ?_
  refine aw_sld dL_law_2104 (by omega) (by omega) ?_
  refine aw_callV (As := [_]) (ρ := (22, 0, 0)) (kn' := ((KN k).1 + 0, (KN k).2 + 0)) cv_L_253 dL_law_2105 rfl rfl (hc0 hnx) rfl rfl (Nat.le_of_ble_eq_true rfl) ⟨(Nat.le_of_ble_eq_true rfl), (Nat.le_of_ble_eq_true rfl)⟩ ⟨by show 29 * k + 52 + 0 ≤ 600000; omega, by show 1248 * k + 20532 + 0 ≤ 7302250; omega⟩ rfl (c_X10_count (d := 20) hnx hI (hX _) (fun r1 h1 => ?_))
  refine aw_aload_n dL_law_2108 rfl ?_
  refine aw_aload_n dL_law_2109 rfl ?_
  refine aw_iload_n dL_law_2110 rfl ?_
  refine aw_iconst dL_law_2111 ?_
  refine aw_iadd dL_law_2112 ?_
  refine aw_sld dL_law_2113 (by omega) (by omega) ?_
  refine aw_callV (As := [_]) (ρ := (24, 0, 0)) (kn' := ((KN k).1 + 0, (KN k).2 + 0)) cv_L_256 dL_law_2114 rfl rfl (hc43 hnx) rfl rfl (Nat.le_of_ble_eq_true rfl) ⟨(Nat.le_of_ble_eq_true rfl), (Nat.le_of_ble_eq_true rfl)⟩ ⟨by show 29 * k + 52 + 0 ≤ 600000; omega, by show 1248 * k + 20532 + 0 ≤ 7302250; omega⟩ rfl (c_X11_count (d := 20) hnx hI hA hLv (hX _) hG.2.2.2.2.2.2.2.2.2.1 (fun r2 h2 => ?_))
  obtain rfl : r2 = r1 := by rw [h2, h1, count_r hG]
  refine aw_same_i (tgt := 2122) dL_law_2117 rfl ?_
  exact aw_wd ⟨by show 29 * k + 52 + 0 ≤ 29 * (k + 1) + 52; omega, by show 1248 * k + 20532 + 0 ≤ 1248 * (k + 1) + 20532; omega⟩ (hK _ _ _ _ _ _ (hG.mono ⟨by omega, by omega⟩))

theorem GI.rush {c : Int} {S T U V V2 : St} {G : Gw} {nx : Nat} (h : GI c S T U V G nx) (hv : ∀ f : Nat, f ≠ 0 → f ≠ 2 → V2 f = V f) (hL : RgL V2) (h0 : ∀ k : Int, 0 ≤ k ∧ k < 1216 → V2 0 k = V 0 k) : GI c S T U V2 G nx := by
  obtain ⟨h1, h2, h3, h4, h5, h6, h7, h8, h9, h10⟩ := h
  refine ⟨h1, h2, hL, h4, h5.row h4.bd (fun k k0 k1 => h0 k ⟨k0, k1⟩), ?_, ?_, h8, ?_, ?_⟩
  · unfold TapeI; rw [hv 6 (by decide) (by decide), hv 11 (by decide) (by decide)]; exact h6
  · unfold NoteI; rw [hv 15 (by decide) (by decide), hv 16 (by decide) (by decide), hv 7 (by decide) (by decide)]; exact h7
  · unfold ActI hrow; rw [hv 10 (by decide) (by decide), hv 3 (by decide) (by decide)]; exact h9
  · unfold ShlI; rw [hv 5 (by decide) (by decide), hv 4 (by decide) (by decide)]; exact h10

set_option maxHeartbeats 1000000 in
theorem law_rush {Γ : GT} {nm : String} {b L : Nat} {xs : Nat → Int} {S T U V : St} {G : Gw} {nx k : Nat} (hG : GI k S T U V G nx) (hk : 6 * k + 6 ≤ L) (hL : L ≤ 3072) (hX : ∀ j, inI (xs j)) (hK : ∀ S2 T2 U2 V2 G2 nx2, GI ((k : Int) + 1) S2 T2 U2 V2 G2 nx2 → AW Γ (MLw nm) room_1 (PL Γ b L xs) (KN (k + 1)) 2122 [some (.ref b), some (rf Γ 0), some (rf Γ 43), some (vi (6 * (k : Int)))] [] (hp Γ S2 T2 U2 V2 G2) nx2) : AW Γ (MLw nm) room_1 (PL Γ b L xs) (KN k) 1791 [some (.ref b), some (rf Γ 0), some (rf Γ 43), some (vi (6 * (k : Int)))] [] (hp Γ S T U V G) nx := by
  have hnx := hG.1
  have hLv := hG.2.2.1
  have hI := hG.2.2.2.1
  have hA := hG.2.2.2.2.1
  have hM : 0 ≤ V 10 0 ∧ V 10 0 ≤ 10 := by have q := hG.2.2.2.2.2.2.2.2.1; have := q.2.1; have := q.2.2.1; omega
  refine aw_aload_n dL_law_1791 rfl ?_
  refine aw_aload_n dL_law_1792 rfl ?_
  refine aw_iload_n dL_law_1793 rfl ?_
  refine aw_iconst dL_law_1794 ?_
  refine aw_iadd dL_law_1795 ?_
  refine aw_sld dL_law_1796 (by omega) (by omega) ?_
  refine aw_aload_n dL_law_1797 rfl ?_
  refine aw_iload_n dL_law_1798 rfl ?_
  refine aw_iconst dL_law_1799 ?_
  refine aw_iadd dL_law_1800 ?_
  refine aw_sld dL_law_1801 (by omega) (by omega) ?_
  refine aw_aload_n dL_law_1802 rfl ?_
  refine aw_iload_n dL_law_1803 rfl ?_
  refine aw_iconst dL_law_1804 ?_
  refine aw_iadd dL_law_1805 ?_
  refine aw_sld dL_law_1806 (by omega) (by omega) ?_
  refine aw_callV (As := [_, _, _]) (ρ := (24, 0, 0)) (kn' := ((KN k).1 + 0, (KN k).2 + 0)) cv_L_214 dL_law_1807 rfl rfl (hc0 hnx) rfl rfl (Nat.le_of_ble_eq_true rfl) ⟨(Nat.le_of_ble_eq_true rfl), (Nat.le_of_ble_eq_true rfl)⟩ ⟨by show 29 * k + 52 + 0 ≤ 600000; omega, by show 1248 * k + 20532 + 0 ≤ 7302250; omega⟩ rfl (c_X10_rush (d := 20) hnx hI (hX _) (hX _) (hX _) (fun r1 h1 => ?_))
  refine aw_aload_n dL_law_1810 rfl ?_
  refine aw_aload_n dL_law_1811 rfl ?_
  refine aw_iload_n dL_law_1812 rfl ?_
  refine aw_iconst dL_law_1813 ?_
  refine aw_iadd dL_law_1814 ?_
  refine aw_sld dL_law_1815 (by omega) (by omega) ?_
  refine aw_aload_n dL_law_1816 rfl ?_
  refine aw_iload_n dL_law_1817 rfl ?_
  refine aw_iconst dL_law_1818 ?_
  refine aw_iadd dL_law_1819 ?_
  refine aw_sld dL_law_1820 (by omega) (by omega) ?_
  refine aw_aload_n dL_law_1821 rfl ?_
  refine aw_iload_n dL_law_1822 rfl ?_
  refine aw_iconst dL_law_1823 ?_
  refine aw_iadd dL_law_1824 ?_
  refine aw_sld dL_law_1825 (by omega) (by omega) ?_
  refine aw_callV (As := [_, _, _]) (ρ := (27, 0, 0)) (kn' := ((KN k).1 + 0, (KN k).2 + 0)) cv_L_217 dL_law_1826 rfl rfl (hc43 hnx) rfl rfl (Nat.le_of_ble_eq_true rfl) ⟨(Nat.le_of_ble_eq_true rfl), (Nat.le_of_ble_eq_true rfl)⟩ ⟨by show 29 * k + 52 + 0 ≤ 600000; omega, by show 1248 * k + 20532 + 0 ≤ 7302250; omega⟩ rfl (c_X11_rush (d := 20) hnx hI hA hLv (hX _) (hX _) (hX _) (fun r2 V2 h2 hv hL2 h0 => ?_))
  obtain rfl : r2 = r1 := h2.trans h1.symm
  refine aw_same_i (tgt := 2122) dL_law_1829 rfl ?_
  exact aw_wd ⟨by show 29 * k + 52 + 0 ≤ 29 * (k + 1) + 52; omega, by show 1248 * k + 20532 + 0 ≤ 1248 * (k + 1) + 20532; omega⟩ (hK _ _ _ _ _ _ ((hG.rush hv hL2 h0).mono ⟨by omega, by omega⟩))

set_option maxHeartbeats 1000000 in
theorem law_row {Γ : GT} {nm : String} {b L : Nat} {xs : Nat → Int} {S T U V : St} {G : Gw} {nx k : Nat} (hG : GI k S T U V G nx) (hk : 6 * k + 6 ≤ L) (hL : L ≤ 3072) (hX : ∀ j, inI (xs j)) (hK : ∀ S2 T2 U2 V2 G2 nx2, GI ((k : Int) + 1) S2 T2 U2 V2 G2 nx2 → AW Γ (MLw nm) room_1 (PL Γ b L xs) (KN (k + 1)) 2122 [some (.ref b), some (rf Γ 0), some (rf Γ 43), some (vi (6 * (k : Int)))] [] (hp Γ S2 T2 U2 V2 G2) nx2) : AW Γ (MLw nm) room_1 (PL Γ b L xs) (KN k) 1946 [some (.ref b), some (rf Γ 0), some (rf Γ 43), some (vi (6 * (k : Int)))] [] (hp Γ S T U V G) nx := by
  have hnx := hG.1
  have hLv := hG.2.2.1
  have hI := hG.2.2.2.1
  have hA := hG.2.2.2.2.1
  have hM : 0 ≤ V 10 0 ∧ V 10 0 ≤ 10 := by have q := hG.2.2.2.2.2.2.2.2.1; have := q.2.1; have := q.2.2.1; omega
  refine aw_aload_n dL_law_1946 rfl ?_
  refine aw_aload_n dL_law_1947 rfl ?_
  refine aw_iload_n dL_law_1948 rfl ?_
  refine aw_iconst dL_law_1949 ?_
  refine aw_iadd dL_law_1950 ?_
  refine aw_sld dL_law_1951 (by omega) (by omega) ?_
  refine aw_aload_n dL_law_1952 rfl ?_
  refine aw_iload_n dL_law_1953 rfl ?_
  refine aw_iconst dL_law_1954 ?_
  refine aw_iadd dL_law_1955 ?_
  refine aw_sld dL_law_1956 (by omega) (by omega) ?_
  refine aw_callV (As := [_, _]) (ρ := (22, 0, 0)) (kn' := ((KN k).1 + 0, (KN k).2 + 0)) cv_L_234 dL_law_1957 rfl rfl (hc0 hnx) rfl rfl (Nat.le_of_ble_eq_true rfl) ⟨(Nat.le_of_ble_eq_true rfl), (Nat.le_of_ble_eq_true rfl)⟩ ⟨by show 29 * k + 52 + 0 ≤ 600000; omega, by show 1248 * k + 20532 + 0 ≤ 7302250; omega⟩ rfl (c_X10_row (d := 20) hnx ⟨hX _, hX _⟩ (fun r1 h1 => ?_))
  refine aw_aload_n dL_law_1960 rfl ?_
  refine aw_aload_n dL_law_1961 rfl ?_
  refine aw_iload_n dL_law_1962 rfl ?_
  refine aw_iconst dL_law_1963 ?_
  refine aw_iadd dL_law_1964 ?_
  refine aw_sld dL_law_1965 (by omega) (by omega) ?_
  refine aw_aload_n dL_law_1966 rfl ?_
  refine aw_iload_n dL_law_1967 rfl ?_
  refine aw_iconst dL_law_1968 ?_
  refine aw_iadd dL_law_1969 ?_
  refine aw_sld dL_law_1970 (by omega) (by omega) ?_
  refine aw_callV (As := [_, _]) (ρ := (21, 0, 0)) (kn' := ((KN k).1 + 0, (KN k).2 + 0)) cv_L_237 dL_law_1971 rfl rfl (hc43 hnx) rfl rfl (Nat.le_of_ble_eq_true rfl) ⟨(Nat.le_of_ble_eq_true rfl), (Nat.le_of_ble_eq_true rfl)⟩ ⟨by show 29 * k + 52 + 0 ≤ 600000; omega, by show 1248 * k + 20532 + 0 ≤ 7302250; omega⟩ rfl (c_X11_row (d := 20) hnx ⟨hX _, hX _⟩ hLv (fun r2 h2 hL2 => ?_))
  obtain rfl : r2 = r1 := h2.trans h1.symm
  refine aw_same_i (tgt := 2122) dL_law_1974 rfl ?_
  exact aw_wd ⟨by show 29 * k + 52 + 0 ≤ 29 * (k + 1) + 52; omega, by show 1248 * k + 20532 + 0 ≤ 1248 * (k + 1) + 20532; omega⟩ (hK _ _ _ _ _ _ ((hG.row hL2).mono ⟨by omega, by omega⟩))

set_option maxHeartbeats 1000000 in
theorem law_noted {Γ : GT} {nm : String} {b L : Nat} {xs : Nat → Int} {S T U V : St} {G : Gw} {nx k : Nat} (hG : GI k S T U V G nx) (hk : 6 * k + 6 ≤ L) (hL : L ≤ 3072) (hX : ∀ j, inI (xs j)) (hK : ∀ S2 T2 U2 V2 G2 nx2, GI ((k : Int) + 1) S2 T2 U2 V2 G2 nx2 → AW Γ (MLw nm) room_1 (PL Γ b L xs) (KN (k + 1)) 2122 [some (.ref b), some (rf Γ 0), some (rf Γ 43), some (vi (6 * (k : Int)))] [] (hp Γ S2 T2 U2 V2 G2) nx2) : AW Γ (MLw nm) room_1 (PL Γ b L xs) (KN k) 2052 [some (.ref b), some (rf Γ 0), some (rf Γ 43), some (vi (6 * (k : Int)))] [] (hp Γ S T U V G) nx := by
  have hnx := hG.1
  have hLv := hG.2.2.1
  have hI := hG.2.2.2.1
  have hA := hG.2.2.2.2.1
  have hM : 0 ≤ V 10 0 ∧ V 10 0 ≤ 10 := by have q := hG.2.2.2.2.2.2.2.2.1; have := q.2.1; have := q.2.2.1; omega
  have h7 := hG.2.2.2.2.2.2.1
  refine aw_aload_n dL_law_2052 rfl ?_
  refine aw_aload_n dL_law_2053 rfl ?_
  refine aw_iload_n dL_law_2054 rfl ?_
  refine aw_iconst dL_law_2055 ?_
  refine aw_iadd dL_law_2056 ?_
  refine aw_sld dL_law_2057 (by omega) (by omega) ?_
  refine aw_callV (As := [_]) (ρ := (21, 0, 0)) (kn' := ((KN k).1 + 0, (KN k).2 + 0)) cv_L_245 dL_law_2058 rfl rfl (hc0 hnx) rfl rfl (Nat.le_of_ble_eq_true rfl) ⟨(Nat.le_of_ble_eq_true rfl), (Nat.le_of_ble_eq_true rfl)⟩ ⟨by show 29 * k + 52 + 0 ≤ 600000; omega, by show 1248 * k + 20532 + 0 ≤ 7302250; omega⟩ rfl (c_X10_noted (d := 20) hnx h7.2.2.1 h7.2.2.2.1 (hX _) h7.2.2.2.2.2.2 (fun r1 h1 => ?_))
  refine aw_aload_n dL_law_2061 rfl ?_
  refine aw_aload_n dL_law_2062 rfl ?_
  refine aw_iload_n dL_law_2063 rfl ?_
  refine aw_iconst dL_law_2064 ?_
  refine aw_iadd dL_law_2065 ?_
  refine aw_sld dL_law_2066 (by omega) (by omega) ?_
  refine aw_callV (As := [_]) (ρ := (21, 0, 0)) (kn' := ((KN k).1 + 0, (KN k).2 + 0)) cv_L_248 dL_law_2067 rfl rfl (hc43 hnx) rfl rfl (Nat.le_of_ble_eq_true rfl) ⟨(Nat.le_of_ble_eq_true rfl), (Nat.le_of_ble_eq_true rfl)⟩ ⟨by show 29 * k + 52 + 0 ≤ 600000; omega, by show 1248 * k + 20532 + 0 ≤ 7302250; omega⟩ rfl (c_X11_noted (d := 20) hnx hLv (by rw [← h7.1]; exact h7.2.2.1) (by rw [← h7.2.1]; exact h7.2.2.2.1) (hX _) (fun r2 h2 => ?_))
  obtain rfl : r2 = r1 := by rw [h2, h1, noted_r h7]
  refine aw_same_l (tgt := 2122) dL_law_2070 dL_law_2071 rfl ?_
  exact aw_wd ⟨by show 29 * k + 52 + 0 ≤ 29 * (k + 1) + 52; omega, by show 1248 * k + 20532 + 0 ≤ 1248 * (k + 1) + 20532; omega⟩ (hK _ _ _ _ _ _ (hG.mono ⟨by omega, by omega⟩))

theorem GI.letter2 {c : Int} {S T U V : St} {G : Gw} {nx : Nat} (h : GI c S T U V G nx) {q : Int} (hL : RgL (if q < -1 then V else if 0 < S 26 0 then spv V q (texL S) else spv V q [])) : GI c S T (if q < -1 then U else spw U q (texL S)) (if q < -1 then V else if 0 < S 26 0 then spv V q (texL S) else spv V q []) G nx := by
  by_cases z : q < -1
  · rw [if_pos z, if_pos z]; exact h
  · rw [if_neg z] at hL ⊢; rw [if_neg z]
    by_cases w : 0 < S 26 0
    · rw [if_pos w] at hL ⊢; exact h.letter _ _ _ hL
    · rw [if_neg w] at hL ⊢; exact h.letter _ _ _ hL

set_option maxHeartbeats 1000000 in
theorem law_letter {Γ : GT} {nm : String} {b L : Nat} {xs : Nat → Int} {S T U V : St} {G : Gw} {nx k : Nat} (hG : GI k S T U V G nx) (hk : 6 * k + 6 ≤ L) (hL : L ≤ 3072) (hX : ∀ j, inI (xs j)) (hK : ∀ S2 T2 U2 V2 G2 nx2, GI ((k : Int) + 1) S2 T2 U2 V2 G2 nx2 → AW Γ (MLw nm) room_1 (PL Γ b L xs) (KN (k + 1)) 2122 [some (.ref b), some (rf Γ 0), some (rf Γ 43), some (vi (6 * (k : Int)))] [] (hp Γ S2 T2 U2 V2 G2) nx2) : AW Γ (MLw nm) room_1 (PL Γ b L xs) (KN k) 2076 [some (.ref b), some (rf Γ 0), some (rf Γ 43), some (vi (6 * (k : Int)))] [] (hp Γ S T U V G) nx := by
  have hnx := hG.1
  have hLv := hG.2.2.1
  have hI := hG.2.2.2.1
  have hA := hG.2.2.2.2.1
  have hM : 0 ≤ V 10 0 ∧ V 10 0 ≤ 10 := by have q := hG.2.2.2.2.2.2.2.2.1; have := q.2.1; have := q.2.2.1; omega
  refine aw_aload_n dL_law_2076 rfl ?_
  refine aw_aload_n dL_law_2077 rfl ?_
  refine aw_iload_n dL_law_2078 rfl ?_
  refine aw_iconst dL_law_2079 ?_
  refine aw_iadd dL_law_2080 ?_
  refine aw_sld dL_law_2081 (by omega) (by omega) ?_
  refine aw_callV (As := [_]) (ρ := (27, 0, 0)) (kn' := ((KN k).1 + 0, (KN k).2 + 0)) cv_L_249 dL_law_2082 rfl rfl (hc0 hnx) rfl rfl (Nat.le_of_ble_eq_true rfl) ⟨(Nat.le_of_ble_eq_true rfl), (Nat.le_of_ble_eq_true rfl)⟩ ⟨by show 29 * k + 52 + 0 ≤ 600000; omega, by show 1248 * k + 20532 + 0 ≤ 7302250; omega⟩ rfl (c_X10_letter (d := 20) hnx hI (hX _) (fun r1 h1 => ?_))
  refine aw_aload_n dL_law_2085 rfl ?_
  refine aw_aload_n dL_law_2086 rfl ?_
  refine aw_iload_n dL_law_2087 rfl ?_
  refine aw_iconst dL_law_2088 ?_
  refine aw_iadd dL_law_2089 ?_
  refine aw_sld dL_law_2090 (by omega) (by omega) ?_
  refine aw_callV (As := [_]) (ρ := (33, 0, 0)) (kn' := ((KN k).1 + 0, (KN k).2 + 0)) cv_L_252 dL_law_2091 rfl rfl (hc43 hnx) rfl rfl (Nat.le_of_ble_eq_true rfl) ⟨(Nat.le_of_ble_eq_true rfl), (Nat.le_of_ble_eq_true rfl)⟩ ⟨by show 29 * k + 52 + 0 ≤ 600000; omega, by show 1248 * k + 20532 + 0 ≤ 7302250; omega⟩ rfl (c_X11_letter (d := 20) hnx hI hA hLv (hX _) (fun r2 h2 hL2 => ?_))
  obtain rfl : r2 = r1 := h2.trans h1.symm
  refine aw_same_i (tgt := 2122) dL_law_2094 rfl ?_
  exact aw_wd ⟨by show 29 * k + 52 + 0 ≤ 29 * (k + 1) + 52; omega, by show 1248 * k + 20532 + 0 ≤ 1248 * (k + 1) + 20532; omega⟩ (hK _ _ _ _ _ _ ((hG.letter2 hL2).mono ⟨by omega, by omega⟩))


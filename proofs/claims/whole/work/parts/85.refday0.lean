/-! the reference: a day goes -/
theorem day_cg {X : St} {v : Int} {r : Int → Int} (h : Ag (u1 X 25 0 v) r) : Ag (u0 X 25 v) r := by
  refine h.cg rfl rfl rfl rfl rfl (fun f i hu => ?_)
  rw [u1_at, u0_at]
  by_cases e : f = 25
  · subst e
    have z : i = 0 := (show 25 ≤ 29 ∧ i = 0 from hu).2
    rw [if_pos ⟨rfl, z⟩, if_pos rfl]
  · rw [if_neg (fun z => e z.1), if_neg e]
theorem bd_log {X : St} (h : bd X) : bd (logS X) := ⟨h.1, h.2.1, h.2.2.1, (show 0 ≤ min (X 29 0 + 1) 8 ∧ min (X 29 0 + 1) 8 ≤ 8 by have := h.2.2.2; omega)⟩
theorem bd_turn {X : St} (h : bd X) : bd (turnS X) := by
  unfold bd; rw [turn_ne X (f := 26) (by decide) (by decide) (by decide) (by decide), turn_ne X (f := 27) (by decide) (by decide) (by decide) (by decide), turn_ne X (f := 28) (by decide) (by decide) (by decide) (by decide), turn_ne X (f := 29) (by decide) (by decide) (by decide) (by decide)]; exact h
theorem log_ne2 (X : St) {f : Nat} (h19 : f ≠ 19) (h29 : f ≠ 29) : logS X f = X f := by
  unfold logS u0; rw [sset_ne _ _ h29, sset_ne _ _ h19]
theorem log_29 (X : St) : logS X 29 0 = min (X 29 0 + 1) 8 := rfl
theorem log_19 (X : St) : logS X 19 = lg2 X 20 := rfl
theorem log_turn {X : St} {r : Int → Int} (b : bd X) (h : Ag (turnS (logS X)) r) : Ag (logS (turnS X)) r := by
  obtain ⟨b1, b2, b3, b4⟩ := id b
  have t14 := turn_ne X (f := 14) (by decide) (by decide) (by decide) (by decide)
  have t19 := turn_ne X (f := 19) (by decide) (by decide) (by decide) (by decide)
  have t29 := turn_ne X (f := 29) (by decide) (by decide) (by decide) (by decide)
  have k1 : ∀ {f : Nat}, f ≠ 2 → f ≠ 20 → f ≠ 21 → f ≠ 22 → f ≠ 19 → f ≠ 29 → turnS (logS X) f = logS (turnS X) f := by
    intro f h2 h20 h21 h22 h19 h29
    rw [turn_ne _ h2 h20 h21 h22, log_ne2 _ h19 h29, log_ne2 _ h19 h29, turn_ne _ h2 h20 h21 h22]
  have k29 : turnS (logS X) 29 0 = logS (turnS X) 29 0 := by
    rw [turn_ne _ (by decide) (by decide) (by decide) (by decide), log_29, log_29, t29]
  refine h.cg (k1 (by decide) (by decide) (by decide) (by decide) (by decide) (by decide)) (congrFun (k1 (by decide) (by decide) (by decide) (by decide) (by decide) (by decide)) 0) (congrFun (k1 (by decide) (by decide) (by decide) (by decide) (by decide) (by decide)) 0) (congrFun (k1 (by decide) (by decide) (by decide) (by decide) (by decide) (by decide)) 0) k29 (fun f i hu => ?_)
  by_cases h29 : f = 29
  · subst h29
    have z : i = 0 := (show 29 ≤ 29 ∧ i = 0 from hu).2
    rw [z]; exact k29
  have e26 : logS (turnS X) 26 0 = X 26 0 := by rw [log_ne2 _ (by decide) (by decide), turn_ne X (f := 26) (by decide) (by decide) (by decide) (by decide)]
  have e27 : logS (turnS X) 27 0 = X 27 0 := by rw [log_ne2 _ (by decide) (by decide), turn_ne X (f := 27) (by decide) (by decide) (by decide) (by decide)]
  by_cases h19 : f = 19
  · subst h19
    rw [turn_ne _ (by decide) (by decide) (by decide) (by decide), log_19, log_19]
    unfold lg2 lg1; rw [t14, t19]
  by_cases h2 : f = 2
  · subst h2
    have u : 0 ≤ i ∧ i / 3 / 4 < logS (turnS X) 27 0 ∧ i / 3 % 4 < logS (turnS X) 26 0 := hu
    rw [e26, e27] at u
    rw [turn_2 _ (by omega), log_ne2 (turnS X) (f := 2) (by decide) (by decide), turn_2 _ (by omega), log_ne2 X (f := 20) (by decide) (by decide), log_ne2 X (f := 2) (by decide) (by decide)]
  by_cases h20 : f = 20
  · subst h20
    have u : 0 ≤ i ∧ i / 4 < logS (turnS X) 27 0 ∧ i % 4 < logS (turnS X) 26 0 := hu
    rw [e26, e27] at u
    rw [turn_20 _ (by omega), log_ne2 (turnS X) (f := 20) (by decide) (by decide), turn_20 _ (by omega)]
  by_cases h21 : f = 21
  · subst h21
    have u : 0 ≤ i ∧ i < 12 * logS (turnS X) 27 0 := hu
    rw [e27] at u
    rw [turn_21 _ (by omega), log_ne2 (turnS X) (f := 21) (by decide) (by decide), turn_21 _ (by omega)]
  by_cases h22 : f = 22
  · subst h22
    have u : 0 ≤ i ∧ i < 12 * logS (turnS X) 26 0 := hu
    rw [e26] at u
    rw [turn_22 _ (by omega), log_ne2 (turnS X) (f := 22) (by decide) (by decide), turn_22 _ (by omega)]
  exact congrFun (k1 h2 h20 h21 h22 h19 h29) i
theorem dy_yes {A : St} {r : Int → Int} (b : bd (dyA A)) (w : (A 25 0 + 1) % 360 = 0) (h : Ag (turnS (logS (dyA A))) r) : Ag (logS (dyB A)) r := by
  unfold dyB; rw [if_pos w]; exact log_turn b h
theorem dy_no {A : St} {r : Int → Int} (w : ¬ (A 25 0 + 1) % 360 = 0) (h : Ag (logS (dyA A)) r) : Ag (logS (dyB A)) r := by
  unfold dyB; rw [if_neg w]; exact h


/-! constructors -/
set_option maxRecDepth 20000 in
theorem qc_objInit : Cond.code objectInit ⟨#[0xb1]⟩ 1 none ∈ WL := wl_of (in_t1 (List.mem_of_getElem? (i := 30) rfl)) rfl
theorem up_eq (h : Nat → AC) (o : Nat) (c : AC) : va_up h o c o = c := by simp [va_up]
theorem up_ne {h : Nat → AC} {o k : Nat} {c : AC} (e : k ≠ o) : va_up h o c k = h k := by simp [va_up, e]
theorem hat_new {h : Nat → AC} {nx o : Nat} {x c : AC} (he : hat h nx o x) : hat (va_up h nx c) (nx + 1) o x := ⟨by have := he.1; omega, (up_ne (by have := he.1; omega)).trans he.2⟩

set_option maxHeartbeats 1000000 in
theorem c_X5_init {Γ : GT} {h : Nat → AC} {nx d o : Nat} {Q : QT} (he : hat h nx o (ob 5 [.null, .null, .null, vi 0, vi 0])) (hQ : ∀ h' : Nat → AC, (∀ k, k < nx → k ≠ o → h' k = h k) → h' o = ob 5 [rf Γ (nx + 0), rf Γ (nx + 1), rf Γ (nx + 2), vi 0, vi 0] → h' (nx + 0) = ai 6 (fun _ => 0) → h' (nx + 1) = ai 4 (fun _ => 0) → h' (nx + 2) = ai 96 (fun _ => 0) → Q none h' (nx + 3)) : AM Γ MX5_init (d + 1, 3, 106) [rf Γ o] h nx Q := by
  refine am_of (by decide) (Nat.le_of_ble_eq_true rfl) (ls := [some (rf Γ o)]) rfl ?_
  have ho := he.1
  refine aw_aload_n dX5_init_0 rfl ?_
  refine aw_objInit qm_X5_3 qi_java_lang_Object__init_ qc_objInit dX5_init_1 (rmO _ _ _ (Nat.le_of_ble_eq_true rfl)) ?_
  refine aw_aload_n dX5_init_4 rfl ?_
  refine aw_bipush dX5_init_5 rfl ?_
  refine aw_newi (n := 6) (kn' := (1, 6)) (by decide) (by decide) dX5_init_7 (Nat.le_of_ble_eq_true rfl) (Nat.le_of_ble_eq_true rfl) rfl ?_
  refine aw_put0 fp_X5_9 (fun _ => rfl) rfl rfl dX5_init_9 (hat_new he) (Nat.le_of_ble_eq_true rfl) rfl ?_
  refine aw_aload_n dX5_init_12 rfl ?_
  refine aw_iconst dX5_init_13 ?_
  refine aw_newi (n := 4) (kn' := (2, 10)) (by decide) (by decide) dX5_init_14 (Nat.le_of_ble_eq_true rfl) (Nat.le_of_ble_eq_true rfl) rfl ?_
  refine aw_put0 fp_X5_15 (fun _ => rfl) rfl rfl dX5_init_16 (hat_new (hat_up (hat_new he))) (Nat.le_of_ble_eq_true rfl) rfl ?_
  refine aw_aload_n dX5_init_19 rfl ?_
  refine aw_bipush dX5_init_20 rfl ?_
  refine aw_newi (n := 96) (kn' := (3, 106)) (by decide) (by decide) dX5_init_22 (Nat.le_of_ble_eq_true rfl) (Nat.le_of_ble_eq_true rfl) rfl ?_
  refine aw_put0 fp_X5_18 (fun _ => rfl) rfl rfl dX5_init_24 (hat_new (hat_up (hat_new (hat_up (hat_new he))))) (Nat.le_of_ble_eq_true rfl) rfl ?_
  exact aw_return dX5_init_27 rfl ⟨Nat.le_refl _, Nat.le_refl _⟩ (hQ _ (fun k h1 h2 => (up_ne h2).trans ((up_ne (by omega)).trans ((up_ne h2).trans ((up_ne (by omega)).trans ((up_ne h2).trans ((up_ne (by omega)).trans (rfl))))))) (up_eq _ _ _) ((up_ne (by omega)).trans ((up_ne (by omega)).trans ((up_ne (by omega)).trans ((up_ne (by omega)).trans ((up_ne (by omega)).trans (up_eq _ _ _)))))) ((up_ne (by omega)).trans ((up_ne (by omega)).trans ((up_ne (by omega)).trans (up_eq _ _ _)))) ((up_ne (by omega)).trans (up_eq _ _ _)))
set_option maxHeartbeats 1000000 in
theorem c_X1_init {Γ : GT} {h : Nat → AC} {nx d o : Nat} {Q : QT} (he : hat h nx o (ob 1 [.null, .null, .null, .null, .null, .null, .null, .null, .null, .null, vi 0])) (hQ : ∀ h' : Nat → AC, (∀ k, k < nx → k ≠ o → h' k = h k) → h' o = ob 1 [rf Γ (nx + 0), rf Γ (nx + 1), rf Γ (nx + 2), rf Γ (nx + 3), rf Γ (nx + 4), rf Γ (nx + 5), rf Γ (nx + 6), rf Γ (nx + 7), rf Γ (nx + 8), rf Γ (nx + 9), vi 0] → h' (nx + 0) = ai 60 (fun _ => 0) → h' (nx + 1) = ai 60 (fun _ => 0) → h' (nx + 2) = ai 60 (fun _ => 0) → h' (nx + 3) = ai 60 (fun _ => 0) → h' (nx + 4) = ai 60 (fun _ => 0) → h' (nx + 5) = ai 60 (fun _ => 0) → h' (nx + 6) = ai 60 (fun _ => 0) → h' (nx + 7) = ai 60 (fun _ => 0) → h' (nx + 8) = ai 60 (fun _ => 0) → h' (nx + 9) = ai 60 (fun _ => 0) → Q none h' (nx + 10)) : AM Γ MX1_init (d + 1, 10, 600) [rf Γ o] h nx Q := by
  refine am_of (by decide) (Nat.le_of_ble_eq_true rfl) (ls := [some (rf Γ o)]) rfl ?_
  have ho := he.1
  refine aw_aload_n dX1_init_0 rfl ?_
  refine aw_objInit qm_X1_3 qi_java_lang_Object__init_ qc_objInit dX1_init_1 (rmO _ _ _ (Nat.le_of_ble_eq_true rfl)) ?_
  refine aw_aload_n dX1_init_4 rfl ?_
  refine aw_bipush dX1_init_5 rfl ?_
  refine aw_newi (n := 60) (kn' := (1, 60)) (by decide) (by decide) dX1_init_7 (Nat.le_of_ble_eq_true rfl) (Nat.le_of_ble_eq_true rfl) rfl ?_
  refine aw_put0 fp_X1_9 (fun _ => rfl) rfl rfl dX1_init_9 (hat_new he) (Nat.le_of_ble_eq_true rfl) rfl ?_
  refine aw_aload_n dX1_init_12 rfl ?_
  refine aw_bipush dX1_init_13 rfl ?_
  refine aw_newi (n := 60) (kn' := (2, 120)) (by decide) (by decide) dX1_init_15 (Nat.le_of_ble_eq_true rfl) (Nat.le_of_ble_eq_true rfl) rfl ?_
  refine aw_put0 fp_X1_15 (fun _ => rfl) rfl rfl dX1_init_17 (hat_new (hat_up (hat_new he))) (Nat.le_of_ble_eq_true rfl) rfl ?_
  refine aw_aload_n dX1_init_20 rfl ?_
  refine aw_bipush dX1_init_21 rfl ?_
  refine aw_newi (n := 60) (kn' := (3, 180)) (by decide) (by decide) dX1_init_23 (Nat.le_of_ble_eq_true rfl) (Nat.le_of_ble_eq_true rfl) rfl ?_
  refine aw_put0 fp_X1_18 (fun _ => rfl) rfl rfl dX1_init_25 (hat_new (hat_up (hat_new (hat_up (hat_new he))))) (Nat.le_of_ble_eq_true rfl) rfl ?_
  refine aw_aload_n dX1_init_28 rfl ?_
  refine aw_bipush dX1_init_29 rfl ?_
  refine aw_newi (n := 60) (kn' := (4, 240)) (by decide) (by decide) dX1_init_31 (Nat.le_of_ble_eq_true rfl) (Nat.le_of_ble_eq_true rfl) rfl ?_
  refine aw_put0 fp_X1_21 (fun _ => rfl) rfl rfl dX1_init_33 (hat_new (hat_up (hat_new (hat_up (hat_new (hat_up (hat_new he))))))) (Nat.le_of_ble_eq_true rfl) rfl ?_
  refine aw_aload_n dX1_init_36 rfl ?_
  refine aw_bipush dX1_init_37 rfl ?_
  refine aw_newi (n := 60) (kn' := (5, 300)) (by decide) (by decide) dX1_init_39 (Nat.le_of_ble_eq_true rfl) (Nat.le_of_ble_eq_true rfl) rfl ?_
  refine aw_put0 fp_X1_24 (fun _ => rfl) rfl rfl dX1_init_41 (hat_new (hat_up (hat_new (hat_up (hat_new (hat_up (hat_new (hat_up (hat_new he))))))))) (Nat.le_of_ble_eq_true rfl) rfl ?_
  refine aw_aload_n dX1_init_44 rfl ?_
  refine aw_bipush dX1_init_45 rfl ?_
  refine aw_newi (n := 60) (kn' := (6, 360)) (by decide) (by decide) dX1_init_47 (Nat.le_of_ble_eq_true rfl) (Nat.le_of_ble_eq_true rfl) rfl ?_
  refine aw_put0 fp_X1_27 (fun _ => rfl) rfl rfl dX1_init_49 (hat_new (hat_up (hat_new (hat_up (hat_new (hat_up (hat_new (hat_up (hat_new (hat_up (hat_new he))))))))))) (Nat.le_of_ble_eq_true rfl) rfl ?_
  refine aw_aload_n dX1_init_52 rfl ?_
  refine aw_bipush dX1_init_53 rfl ?_
  refine aw_newi (n := 60) (kn' := (7, 420)) (by decide) (by decide) dX1_init_55 (Nat.le_of_ble_eq_true rfl) (Nat.le_of_ble_eq_true rfl) rfl ?_
  refine aw_put0 fp_X1_30 (fun _ => rfl) rfl rfl dX1_init_57 (hat_new (hat_up (hat_new (hat_up (hat_new (hat_up (hat_new (hat_up (hat_new (hat_up (hat_new (hat_up (hat_new he))))))))))))) (Nat.le_of_ble_eq_true rfl) rfl ?_
  refine aw_aload_n dX1_init_60 rfl ?_
  refine aw_bipush dX1_init_61 rfl ?_
  refine aw_newi (n := 60) (kn' := (8, 480)) (by decide) (by decide) dX1_init_63 (Nat.le_of_ble_eq_true rfl) (Nat.le_of_ble_eq_true rfl) rfl ?_
  refine aw_put0 fp_X1_33 (fun _ => rfl) rfl rfl dX1_init_65 (hat_new (hat_up (hat_new (hat_up (hat_new (hat_up (hat_new (hat_up (hat_new (hat_up (hat_new (hat_up (hat_new (hat_up (hat_new he))))))))))))))) (Nat.le_of_ble_eq_true rfl) rfl ?_
  refine aw_aload_n dX1_init_68 rfl ?_
  refine aw_bipush dX1_init_69 rfl ?_
  refine aw_newi (n := 60) (kn' := (9, 540)) (by decide) (by decide) dX1_init_71 (Nat.le_of_ble_eq_true rfl) (Nat.le_of_ble_eq_true rfl) rfl ?_
  refine aw_put0 fp_X1_36 (fun _ => rfl) rfl rfl dX1_init_73 (hat_new (hat_up (hat_new (hat_up (hat_new (hat_up (hat_new (hat_up (hat_new (hat_up (hat_new (hat_up (hat_new (hat_up (hat_new (hat_up (hat_new he))))))))))))))))) (Nat.le_of_ble_eq_true rfl) rfl ?_
  refine aw_aload_n dX1_init_76 rfl ?_
  refine aw_bipush dX1_init_77 rfl ?_
  refine aw_newi (n := 60) (kn' := (10, 600)) (by decide) (by decide) dX1_init_79 (Nat.le_of_ble_eq_true rfl) (Nat.le_of_ble_eq_true rfl) rfl ?_
  refine aw_put0 fp_X1_39 (fun _ => rfl) rfl rfl dX1_init_81 (hat_new (hat_up (hat_new (hat_up (hat_new (hat_up (hat_new (hat_up (hat_new (hat_up (hat_new (hat_up (hat_new (hat_up (hat_new (hat_up (hat_new (hat_up (hat_new he))))))))))))))))))) (Nat.le_of_ble_eq_true rfl) rfl ?_
  exact aw_return dX1_init_84 rfl ⟨Nat.le_refl _, Nat.le_refl _⟩ (hQ _ (fun k h1 h2 => (up_ne h2).trans ((up_ne (by omega)).trans ((up_ne h2).trans ((up_ne (by omega)).trans ((up_ne h2).trans ((up_ne (by omega)).trans ((up_ne h2).trans ((up_ne (by omega)).trans ((up_ne h2).trans ((up_ne (by omega)).trans ((up_ne h2).trans ((up_ne (by omega)).trans ((up_ne h2).trans ((up_ne (by omega)).trans ((up_ne h2).trans ((up_ne (by omega)).trans ((up_ne h2).trans ((up_ne (by omega)).trans ((up_ne h2).trans ((up_ne (by omega)).trans (rfl))))))))))))))))))))) (up_eq _ _ _) ((up_ne (by omega)).trans ((up_ne (by omega)).trans ((up_ne (by omega)).trans ((up_ne (by omega)).trans ((up_ne (by omega)).trans ((up_ne (by omega)).trans ((up_ne (by omega)).trans ((up_ne (by omega)).trans ((up_ne (by omega)).trans ((up_ne (by omega)).trans ((up_ne (by omega)).trans ((up_ne (by omega)).trans ((up_ne (by omega)).trans ((up_ne (by omega)).trans ((up_ne (by omega)).trans ((up_ne (by omega)).trans ((up_ne (by omega)).trans ((up_ne (by omega)).trans ((up_ne (by omega)).trans (up_eq _ _ _)))))))))))))))))))) ((up_ne (by omega)).trans ((up_ne (by omega)).trans ((up_ne (by omega)).trans ((up_ne (by omega)).trans ((up_ne (by omega)).trans ((up_ne (by omega)).trans ((up_ne (by omega)).trans ((up_ne (by omega)).trans ((up_ne (by omega)).trans ((up_ne (by omega)).trans ((up_ne (by omega)).trans ((up_ne (by omega)).trans ((up_ne (by omega)).trans ((up_ne (by omega)).trans ((up_ne (by omega)).trans ((up_ne (by omega)).trans ((up_ne (by omega)).trans (up_eq _ _ _)))))))))))))))))) ((up_ne (by omega)).trans ((up_ne (by omega)).trans ((up_ne (by omega)).trans ((up_ne (by omega)).trans ((up_ne (by omega)).trans ((up_ne (by omega)).trans ((up_ne (by omega)).trans ((up_ne (by omega)).trans ((up_ne (by omega)).trans ((up_ne (by omega)).trans ((up_ne (by omega)).trans ((up_ne (by omega)).trans ((up_ne (by omega)).trans ((up_ne (by omega)).trans ((up_ne (by omega)).trans (up_eq _ _ _)))))))))))))))) ((up_ne (by omega)).trans ((up_ne (by omega)).trans ((up_ne (by omega)).trans ((up_ne (by omega)).trans ((up_ne (by omega)).trans ((up_ne (by omega)).trans ((up_ne (by omega)).trans ((up_ne (by omega)).trans ((up_ne (by omega)).trans ((up_ne (by omega)).trans ((up_ne (by omega)).trans ((up_ne (by omega)).trans ((up_ne (by omega)).trans (up_eq _ _ _)))))))))))))) ((up_ne (by omega)).trans ((up_ne (by omega)).trans ((up_ne (by omega)).trans ((up_ne (by omega)).trans ((up_ne (by omega)).trans ((up_ne (by omega)).trans ((up_ne (by omega)).trans ((up_ne (by omega)).trans ((up_ne (by omega)).trans ((up_ne (by omega)).trans ((up_ne (by omega)).trans (up_eq _ _ _)))))))))))) ((up_ne (by omega)).trans ((up_ne (by omega)).trans ((up_ne (by omega)).trans ((up_ne (by omega)).trans ((up_ne (by omega)).trans ((up_ne (by omega)).trans ((up_ne (by omega)).trans ((up_ne (by omega)).trans ((up_ne (by omega)).trans (up_eq _ _ _)))))))))) ((up_ne (by omega)).trans ((up_ne (by omega)).trans ((up_ne (by omega)).trans ((up_ne (by omega)).trans ((up_ne (by omega)).trans ((up_ne (by omega)).trans ((up_ne (by omega)).trans (up_eq _ _ _)))))))) ((up_ne (by omega)).trans ((up_ne (by omega)).trans ((up_ne (by omega)).trans ((up_ne (by omega)).trans ((up_ne (by omega)).trans (up_eq _ _ _)))))) ((up_ne (by omega)).trans ((up_ne (by omega)).trans ((up_ne (by omega)).trans (up_eq _ _ _)))) ((up_ne (by omega)).trans (up_eq _ _ _)))
set_option maxHeartbeats 1000000 in
theorem c_X3_init {Γ : GT} {h : Nat → AC} {nx d o : Nat} {Q : QT} (he : hat h nx o (ob 3 [.null, .null, .null, .null, .null, .null, vi 0])) (hQ : ∀ h' : Nat → AC, (∀ k, k < nx → k ≠ o → h' k = h k) → h' o = ob 3 [rf Γ (nx + 0), rf Γ (nx + 1), rf Γ (nx + 2), rf Γ (nx + 3), rf Γ (nx + 4), rf Γ (nx + 5), vi 0] → h' (nx + 0) = ai 32 (fun _ => 0) → h' (nx + 1) = ai 32 (fun _ => 0) → h' (nx + 2) = ai 32 (fun _ => 0) → h' (nx + 3) = ai 32 (fun _ => 0) → h' (nx + 4) = ai 32 (fun _ => 0) → h' (nx + 5) = ai 160 (fun _ => 0) → Q none h' (nx + 6)) : AM Γ MX3_init (d + 1, 6, 320) [rf Γ o] h nx Q := by
  refine am_of (by decide) (Nat.le_of_ble_eq_true rfl) (ls := [some (rf Γ o)]) rfl ?_
  have ho := he.1
  refine aw_aload_n dX3_init_0 rfl ?_
  refine aw_objInit qm_X3_3 qi_java_lang_Object__init_ qc_objInit dX3_init_1 (rmO _ _ _ (Nat.le_of_ble_eq_true rfl)) ?_
  refine aw_aload_n dX3_init_4 rfl ?_
  refine aw_bipush dX3_init_5 rfl ?_
  refine aw_newi (n := 32) (kn' := (1, 32)) (by decide) (by decide) dX3_init_7 (Nat.le_of_ble_eq_true rfl) (Nat.le_of_ble_eq_true rfl) rfl ?_
  refine aw_put0 fp_X3_9 (fun _ => rfl) rfl rfl dX3_init_9 (hat_new he) (Nat.le_of_ble_eq_true rfl) rfl ?_
  refine aw_aload_n dX3_init_12 rfl ?_
  refine aw_bipush dX3_init_13 rfl ?_
  refine aw_newi (n := 32) (kn' := (2, 64)) (by decide) (by decide) dX3_init_15 (Nat.le_of_ble_eq_true rfl) (Nat.le_of_ble_eq_true rfl) rfl ?_
  refine aw_put0 fp_X3_15 (fun _ => rfl) rfl rfl dX3_init_17 (hat_new (hat_up (hat_new he))) (Nat.le_of_ble_eq_true rfl) rfl ?_
  refine aw_aload_n dX3_init_20 rfl ?_
  refine aw_bipush dX3_init_21 rfl ?_
  refine aw_newi (n := 32) (kn' := (3, 96)) (by decide) (by decide) dX3_init_23 (Nat.le_of_ble_eq_true rfl) (Nat.le_of_ble_eq_true rfl) rfl ?_
  refine aw_put0 fp_X3_18 (fun _ => rfl) rfl rfl dX3_init_25 (hat_new (hat_up (hat_new (hat_up (hat_new he))))) (Nat.le_of_ble_eq_true rfl) rfl ?_
  refine aw_aload_n dX3_init_28 rfl ?_
  refine aw_bipush dX3_init_29 rfl ?_
  refine aw_newi (n := 32) (kn' := (4, 128)) (by decide) (by decide) dX3_init_31 (Nat.le_of_ble_eq_true rfl) (Nat.le_of_ble_eq_true rfl) rfl ?_
  refine aw_put0 fp_X3_21 (fun _ => rfl) rfl rfl dX3_init_33 (hat_new (hat_up (hat_new (hat_up (hat_new (hat_up (hat_new he))))))) (Nat.le_of_ble_eq_true rfl) rfl ?_
  refine aw_aload_n dX3_init_36 rfl ?_
  refine aw_bipush dX3_init_37 rfl ?_
  refine aw_newi (n := 32) (kn' := (5, 160)) (by decide) (by decide) dX3_init_39 (Nat.le_of_ble_eq_true rfl) (Nat.le_of_ble_eq_true rfl) rfl ?_
  refine aw_put0 fp_X3_24 (fun _ => rfl) rfl rfl dX3_init_41 (hat_new (hat_up (hat_new (hat_up (hat_new (hat_up (hat_new (hat_up (hat_new he))))))))) (Nat.le_of_ble_eq_true rfl) rfl ?_
  refine aw_aload_n dX3_init_44 rfl ?_
  refine aw_sipush dX3_init_45 rfl ?_
  refine aw_newi (n := 160) (kn' := (6, 320)) (by decide) (by decide) dX3_init_48 (Nat.le_of_ble_eq_true rfl) (Nat.le_of_ble_eq_true rfl) rfl ?_
  refine aw_put0 fp_X3_27 (fun _ => rfl) rfl rfl dX3_init_50 (hat_new (hat_up (hat_new (hat_up (hat_new (hat_up (hat_new (hat_up (hat_new (hat_up (hat_new he))))))))))) (Nat.le_of_ble_eq_true rfl) rfl ?_
  exact aw_return dX3_init_53 rfl ⟨Nat.le_refl _, Nat.le_refl _⟩ (hQ _ (fun k h1 h2 => (up_ne h2).trans ((up_ne (by omega)).trans ((up_ne h2).trans ((up_ne (by omega)).trans ((up_ne h2).trans ((up_ne (by omega)).trans ((up_ne h2).trans ((up_ne (by omega)).trans ((up_ne h2).trans ((up_ne (by omega)).trans ((up_ne h2).trans ((up_ne (by omega)).trans (rfl))))))))))))) (up_eq _ _ _) ((up_ne (by omega)).trans ((up_ne (by omega)).trans ((up_ne (by omega)).trans ((up_ne (by omega)).trans ((up_ne (by omega)).trans ((up_ne (by omega)).trans ((up_ne (by omega)).trans ((up_ne (by omega)).trans ((up_ne (by omega)).trans ((up_ne (by omega)).trans ((up_ne (by omega)).trans (up_eq _ _ _)))))))))))) ((up_ne (by omega)).trans ((up_ne (by omega)).trans ((up_ne (by omega)).trans ((up_ne (by omega)).trans ((up_ne (by omega)).trans ((up_ne (by omega)).trans ((up_ne (by omega)).trans ((up_ne (by omega)).trans ((up_ne (by omega)).trans (up_eq _ _ _)))))))))) ((up_ne (by omega)).trans ((up_ne (by omega)).trans ((up_ne (by omega)).trans ((up_ne (by omega)).trans ((up_ne (by omega)).trans ((up_ne (by omega)).trans ((up_ne (by omega)).trans (up_eq _ _ _)))))))) ((up_ne (by omega)).trans ((up_ne (by omega)).trans ((up_ne (by omega)).trans ((up_ne (by omega)).trans ((up_ne (by omega)).trans (up_eq _ _ _)))))) ((up_ne (by omega)).trans ((up_ne (by omega)).trans ((up_ne (by omega)).trans (up_eq _ _ _)))) ((up_ne (by omega)).trans (up_eq _ _ _)))
set_option maxHeartbeats 1000000 in
theorem c_X9_init {Γ : GT} {h : Nat → AC} {nx d o : Nat} {Q : QT} (he : hat h nx o (ob 9 [.null, .null, .null])) (hQ : ∀ h' : Nat → AC, (∀ k, k < nx → k ≠ o → h' k = h k) → h' o = ob 9 [rf Γ (nx + 0), rf Γ (nx + 1), rf Γ (nx + 2)] → h' (nx + 0) = ai 32 (fun _ => 0) → h' (nx + 1) = ai 96 (fun _ => 0) → h' (nx + 2) = ai 48 (fun _ => 0) → Q none h' (nx + 3)) : AM Γ MX9_init (d + 1, 3, 176) [rf Γ o] h nx Q := by
  refine am_of (by decide) (Nat.le_of_ble_eq_true rfl) (ls := [some (rf Γ o)]) rfl ?_
  have ho := he.1
  refine aw_aload_n dX9_init_0 rfl ?_
  refine aw_objInit qm_X9_3 qi_java_lang_Object__init_ qc_objInit dX9_init_1 (rmO _ _ _ (Nat.le_of_ble_eq_true rfl)) ?_
  refine aw_aload_n dX9_init_4 rfl ?_
  refine aw_bipush dX9_init_5 rfl ?_
  refine aw_newi (n := 32) (kn' := (1, 32)) (by decide) (by decide) dX9_init_7 (Nat.le_of_ble_eq_true rfl) (Nat.le_of_ble_eq_true rfl) rfl ?_
  refine aw_put0 fp_X9_9 (fun _ => rfl) rfl rfl dX9_init_9 (hat_new he) (Nat.le_of_ble_eq_true rfl) rfl ?_
  refine aw_aload_n dX9_init_12 rfl ?_
  refine aw_bipush dX9_init_13 rfl ?_
  refine aw_newi (n := 96) (kn' := (2, 128)) (by decide) (by decide) dX9_init_15 (Nat.le_of_ble_eq_true rfl) (Nat.le_of_ble_eq_true rfl) rfl ?_
  refine aw_put0 fp_X9_15 (fun _ => rfl) rfl rfl dX9_init_17 (hat_new (hat_up (hat_new he))) (Nat.le_of_ble_eq_true rfl) rfl ?_
  refine aw_aload_n dX9_init_20 rfl ?_
  refine aw_bipush dX9_init_21 rfl ?_
  refine aw_newi (n := 48) (kn' := (3, 176)) (by decide) (by decide) dX9_init_23 (Nat.le_of_ble_eq_true rfl) (Nat.le_of_ble_eq_true rfl) rfl ?_
  refine aw_put0 fp_X9_18 (fun _ => rfl) rfl rfl dX9_init_25 (hat_new (hat_up (hat_new (hat_up (hat_new he))))) (Nat.le_of_ble_eq_true rfl) rfl ?_
  exact aw_return dX9_init_28 rfl ⟨Nat.le_refl _, Nat.le_refl _⟩ (hQ _ (fun k h1 h2 => (up_ne h2).trans ((up_ne (by omega)).trans ((up_ne h2).trans ((up_ne (by omega)).trans ((up_ne h2).trans ((up_ne (by omega)).trans (rfl))))))) (up_eq _ _ _) ((up_ne (by omega)).trans ((up_ne (by omega)).trans ((up_ne (by omega)).trans ((up_ne (by omega)).trans ((up_ne (by omega)).trans (up_eq _ _ _)))))) ((up_ne (by omega)).trans ((up_ne (by omega)).trans ((up_ne (by omega)).trans (up_eq _ _ _)))) ((up_ne (by omega)).trans (up_eq _ _ _)))
set_option maxHeartbeats 1000000 in
theorem c_X8_init {Γ : GT} {h : Nat → AC} {nx d o : Nat} {Q : QT} (he : hat h nx o (ob 8 [.null, vi 0])) (hQ : ∀ h' : Nat → AC, (∀ k, k < nx → k ≠ o → h' k = h k) → h' o = ob 8 [rf Γ (nx + 0), vi 0] → h' (nx + 0) = ab 400 (fun _ => 0) → Q none h' (nx + 1)) : AM Γ MX8_init (d + 1, 1, 400) [rf Γ o] h nx Q := by
  refine am_of (by decide) (Nat.le_of_ble_eq_true rfl) (ls := [some (rf Γ o)]) rfl ?_
  have ho := he.1
  refine aw_aload_n dX8_init_0 rfl ?_
  refine aw_objInit qm_X8_3 qi_java_lang_Object__init_ qc_objInit dX8_init_1 (rmO _ _ _ (Nat.le_of_ble_eq_true rfl)) ?_
  refine aw_aload_n dX8_init_4 rfl ?_
  refine aw_sipush dX8_init_5 rfl ?_
  refine aw_newb (n := 400) (kn' := (1, 400)) (by decide) (by decide) dX8_init_8 (Nat.le_of_ble_eq_true rfl) (Nat.le_of_ble_eq_true rfl) rfl ?_
  refine aw_put0 fp_X8_9 (fun _ => rfl) rfl rfl dX8_init_10 (hat_new he) (Nat.le_of_ble_eq_true rfl) rfl ?_
  exact aw_return dX8_init_13 rfl ⟨Nat.le_refl _, Nat.le_refl _⟩ (hQ _ (fun k h1 h2 => (up_ne h2).trans ((up_ne (by omega)).trans (rfl))) (up_eq _ _ _) ((up_ne (by omega)).trans (up_eq _ _ _)))
set_option maxHeartbeats 1000000 in
theorem c_X0_init {Γ : GT} {h : Nat → AC} {nx d o : Nat} {Q : QT} (he : hat h nx o (ob 0 [.null, vi 0, vi 0])) (hQ : ∀ h' : Nat → AC, (∀ k, k < nx → k ≠ o → h' k = h k) → h' o = ob 0 [rf Γ (nx + 0), vi 0, vi 0] → h' (nx + 0) = aq Γ 10 (fun _ => -1) → Q none h' (nx + 1)) : AM Γ MX0_init (d + 1, 1, 10) [rf Γ o] h nx Q := by
  refine am_of (by decide) (Nat.le_of_ble_eq_true rfl) (ls := [some (rf Γ o)]) rfl ?_
  have ho := he.1
  refine aw_aload_n dX0_init_0 rfl ?_
  refine aw_objInit qm_X0_3 qi_java_lang_Object__init_ qc_objInit dX0_init_1 (rmO _ _ _ (Nat.le_of_ble_eq_true rfl)) ?_
  refine aw_aload_n dX0_init_4 rfl ?_
  refine aw_bipush dX0_init_5 rfl ?_
  refine aw_newq (n := 10) (kn' := (1, 10)) ql_X0_9 (by decide) dX0_init_7 (Nat.le_of_ble_eq_true rfl) (Nat.le_of_ble_eq_true rfl) rfl ?_
  refine aw_put0 fp_X0_11 (fun _ => rfl) rfl rfl dX0_init_10 (hat_new he) (Nat.le_of_ble_eq_true rfl) rfl ?_
  exact aw_return dX0_init_13 rfl ⟨Nat.le_refl _, Nat.le_refl _⟩ (hQ _ (fun k h1 h2 => (up_ne h2).trans ((up_ne (by omega)).trans (rfl))) (up_eq _ _ _) ((up_ne (by omega)).trans (up_eq _ _ _)))
set_option maxHeartbeats 1000000 in
theorem c_X2_init {Γ : GT} {h : Nat → AC} {nx d o : Nat} {Q : QT} (he : hat h nx o (ob 2 [.null, vi 0, vi 0])) (hQ : ∀ h' : Nat → AC, (∀ k, k < nx → k ≠ o → h' k = h k) → h' o = ob 2 [rf Γ (nx + 0), vi (-1), vi 0] → h' (nx + 0) = al 40 (fun _ => 0) → Q none h' (nx + 1)) : AM Γ MX2_init (d + 1, 1, 40) [rf Γ o] h nx Q := by
  refine am_of (by decide) (Nat.le_of_ble_eq_true rfl) (ls := [some (rf Γ o)]) rfl ?_
  have ho := he.1
  refine aw_aload_n dX2_init_0 rfl ?_
  refine aw_objInit qm_X2_3 qi_java_lang_Object__init_ qc_objInit dX2_init_1 (rmO _ _ _ (Nat.le_of_ble_eq_true rfl)) ?_
  refine aw_aload_n dX2_init_4 rfl ?_
  refine aw_bipush dX2_init_5 rfl ?_
  refine aw_newl (n := 40) (kn' := (1, 40)) (by decide) (by decide) dX2_init_7 (Nat.le_of_ble_eq_true rfl) (Nat.le_of_ble_eq_true rfl) rfl ?_
  refine aw_put0 fp_X2_9 (fun _ => rfl) rfl rfl dX2_init_9 (hat_new he) (Nat.le_of_ble_eq_true rfl) rfl ?_
  refine aw_aload_n dX2_init_12 rfl ?_
  refine aw_iconst dX2_init_13 ?_
  refine aw_put0 fp_X2_15 (fun _ => rfl) rfl rfl dX2_init_14 (hat_up (hat_new he)) (Nat.le_of_ble_eq_true rfl) rfl ?_
  exact aw_return dX2_init_17 rfl ⟨Nat.le_refl _, Nat.le_refl _⟩ (hQ _ (fun k h1 h2 => (up_ne h2).trans ((up_ne h2).trans ((up_ne (by omega)).trans (rfl)))) (up_eq _ _ _) ((up_ne (by omega)).trans ((up_ne (by omega)).trans (up_eq _ _ _))))
set_option maxHeartbeats 1000000 in
theorem c_X6_init {Γ : GT} {h : Nat → AC} {nx d o : Nat} {Q : QT} (he : hat h nx o (ob 6 [vi 0, vi 0, vi 0])) (hQ : ∀ h' : Nat → AC, (∀ k, k < nx → k ≠ o → h' k = h k) → h' o = ob 6 [vi 0, vi 0, vi 0] → Q none h' (nx + 0)) : AM Γ MX6_init (d + 1, 0, 0) [rf Γ o] h nx Q := by
  refine am_of (by decide) (Nat.le_of_ble_eq_true rfl) (ls := [some (rf Γ o)]) rfl ?_
  have ho := he.1
  refine aw_aload_n dX6_init_0 rfl ?_
  refine aw_objInit qm_X6_3 qi_java_lang_Object__init_ qc_objInit dX6_init_1 (rmO _ _ _ (Nat.le_of_ble_eq_true rfl)) ?_
  exact aw_return dX6_init_4 rfl ⟨Nat.le_refl _, Nat.le_refl _⟩ (hQ _ (fun k h1 h2 => rfl) (he.2) )
set_option maxHeartbeats 4000000 in
theorem c_X7_init {Γ : GT} {h : Nat → AC} {d o : Nat} {Q : QT} (he : hat h (o + 1) o (ob 7 [.null, .null, .null, .null, .null, .null, vi 0])) (hQ : ∀ h' : Nat → AC, (∀ k, k < o → h' k = h k) → (∀ q, q < 29 → h' (o + q) = stC Γ o (fun _ _ => 0) q) → Q none h' (o + 29)) : AM Γ MX7_init (d + 2, 28, 1241) [rf Γ o] h (o + 1) Q := by
  refine am_of (by decide) (Nat.le_of_ble_eq_true rfl) (ls := [some (rf Γ o)]) rfl ?_
  refine aw_aload_n dX7_init_0 rfl ?_
  refine aw_objInit qm_X7_3 qi_java_lang_Object__init_ qc_objInit dX7_init_1 (rmO _ _ _ (Nat.le_of_ble_eq_true rfl)) ?_
  refine aw_aload_n dX7_init_4 rfl ?_
  refine aw_new (kn' := (1, 5)) nb_X7_9 dX7_init_5 (Nat.le_of_ble_eq_true rfl) (Nat.le_of_ble_eq_true rfl) rfl ?_
  refine aw_dup dX7_init_8 rfl ?_
  refine aw_callIN (As := []) (ρ := (_, 3, 106)) (kn' := (4, 111)) ci_X7_11 dX7_init_9 rfl rfl (Nat.le_of_ble_eq_true rfl) (rmR _ _ _) ⟨(Nat.le_of_ble_eq_true rfl), (Nat.le_of_ble_eq_true rfl)⟩ rfl (c_X5_init (o := o + 1) ⟨by omega, up_eq _ _ _⟩ (fun h1 a1 b1 g1_0 g1_1 g1_2 => ?_))
  have he1 : hat h1 (o + 5) o (ob 7 [.null, .null, .null, .null, .null, .null, vi 0]) := ⟨by omega, (a1 o (by omega) (by omega)).trans ((up_ne (by omega)).trans (he.2))⟩
  have lo1 : ∀ k, k < o → h1 k = h k := fun k hk => (a1 k (by omega) (by omega)).trans (up_ne (by omega))
  have f1 := b1
  have f2 := g1_0
  have f3 := g1_1
  have f4 := g1_2
  refine aw_put0 fp_X7_12 (fun _ => rfl) rfl rfl dX7_init_12 he1 (Nat.le_of_ble_eq_true rfl) rfl ?_
  refine aw_aload_n dX7_init_15 rfl ?_
  refine aw_new (kn' := (5, 122)) nb_X7_18 dX7_init_16 (Nat.le_of_ble_eq_true rfl) (Nat.le_of_ble_eq_true rfl) rfl ?_
  refine aw_dup dX7_init_19 rfl ?_
  refine aw_callIN (As := []) (ρ := (_, 10, 600)) (kn' := (15, 722)) ci_X7_20 dX7_init_20 rfl rfl (Nat.le_of_ble_eq_true rfl) (rmR _ _ _) ⟨(Nat.le_of_ble_eq_true rfl), (Nat.le_of_ble_eq_true rfl)⟩ rfl (c_X1_init (o := o + 5) ⟨by omega, up_eq _ _ _⟩ (fun h2 a2 b2 g2_0 g2_1 g2_2 g2_3 g2_4 g2_5 g2_6 g2_7 g2_8 g2_9 => ?_))
  replace f1 := (a2 (o + 1) (by omega) (by omega)).trans ((up_ne (by omega)).trans ((up_ne (by omega)).trans f1))
  replace f2 := (a2 (o + 2) (by omega) (by omega)).trans ((up_ne (by omega)).trans ((up_ne (by omega)).trans f2))
  replace f3 := (a2 (o + 3) (by omega) (by omega)).trans ((up_ne (by omega)).trans ((up_ne (by omega)).trans f3))
  replace f4 := (a2 (o + 4) (by omega) (by omega)).trans ((up_ne (by omega)).trans ((up_ne (by omega)).trans f4))
  have he2 : hat h2 (o + 16) o (ob 7 [rf Γ (o + 1), .null, .null, .null, .null, .null, vi 0]) := ⟨by omega, (a2 o (by omega) (by omega)).trans ((up_ne (by omega)).trans (up_eq _ _ _))⟩
  have lo2 : ∀ k, k < o → h2 k = h k := fun k hk => (a2 k (by omega) (by omega)).trans ((up_ne (by omega)).trans ((up_ne (by omega)).trans (lo1 k hk)))
  have f5 := b2
  have f6 := g2_0
  have f7 := g2_1
  have f8 := g2_2
  have f9 := g2_3
  have f10 := g2_4
  have f11 := g2_5
  have f12 := g2_6
  have f13 := g2_7
  have f14 := g2_8
  have f15 := g2_9
  refine aw_put0 fp_X7_21 (fun _ => rfl) rfl rfl dX7_init_23 he2 (Nat.le_of_ble_eq_true rfl) rfl ?_
  refine aw_aload_n dX7_init_26 rfl ?_
  refine aw_new (kn' := (16, 729)) nb_X7_25 dX7_init_27 (Nat.le_of_ble_eq_true rfl) (Nat.le_of_ble_eq_true rfl) rfl ?_
  refine aw_dup dX7_init_30 rfl ?_
  refine aw_callIN (As := []) (ρ := (_, 6, 320)) (kn' := (22, 1049)) ci_X7_27 dX7_init_31 rfl rfl (Nat.le_of_ble_eq_true rfl) (rmR _ _ _) ⟨(Nat.le_of_ble_eq_true rfl), (Nat.le_of_ble_eq_true rfl)⟩ rfl (c_X3_init (o := o + 16) ⟨by omega, up_eq _ _ _⟩ (fun h3 a3 b3 g3_0 g3_1 g3_2 g3_3 g3_4 g3_5 => ?_))
  replace f1 := (a3 (o + 1) (by omega) (by omega)).trans ((up_ne (by omega)).trans ((up_ne (by omega)).trans f1))
  replace f2 := (a3 (o + 2) (by omega) (by omega)).trans ((up_ne (by omega)).trans ((up_ne (by omega)).trans f2))
  replace f3 := (a3 (o + 3) (by omega) (by omega)).trans ((up_ne (by omega)).trans ((up_ne (by omega)).trans f3))
  replace f4 := (a3 (o + 4) (by omega) (by omega)).trans ((up_ne (by omega)).trans ((up_ne (by omega)).trans f4))
  replace f5 := (a3 (o + 5) (by omega) (by omega)).trans ((up_ne (by omega)).trans ((up_ne (by omega)).trans f5))
  replace f6 := (a3 (o + 6) (by omega) (by omega)).trans ((up_ne (by omega)).trans ((up_ne (by omega)).trans f6))
  replace f7 := (a3 (o + 7) (by omega) (by omega)).trans ((up_ne (by omega)).trans ((up_ne (by omega)).trans f7))
  replace f8 := (a3 (o + 8) (by omega) (by omega)).trans ((up_ne (by omega)).trans ((up_ne (by omega)).trans f8))
  replace f9 := (a3 (o + 9) (by omega) (by omega)).trans ((up_ne (by omega)).trans ((up_ne (by omega)).trans f9))
  replace f10 := (a3 (o + 10) (by omega) (by omega)).trans ((up_ne (by omega)).trans ((up_ne (by omega)).trans f10))
  replace f11 := (a3 (o + 11) (by omega) (by omega)).trans ((up_ne (by omega)).trans ((up_ne (by omega)).trans f11))
  replace f12 := (a3 (o + 12) (by omega) (by omega)).trans ((up_ne (by omega)).trans ((up_ne (by omega)).trans f12))
  replace f13 := (a3 (o + 13) (by omega) (by omega)).trans ((up_ne (by omega)).trans ((up_ne (by omega)).trans f13))
  replace f14 := (a3 (o + 14) (by omega) (by omega)).trans ((up_ne (by omega)).trans ((up_ne (by omega)).trans f14))
  replace f15 := (a3 (o + 15) (by omega) (by omega)).trans ((up_ne (by omega)).trans ((up_ne (by omega)).trans f15))
  have he3 : hat h3 (o + 23) o (ob 7 [rf Γ (o + 1), rf Γ (o + 5), .null, .null, .null, .null, vi 0]) := ⟨by omega, (a3 o (by omega) (by omega)).trans ((up_ne (by omega)).trans (up_eq _ _ _))⟩
  have lo3 : ∀ k, k < o → h3 k = h k := fun k hk => (a3 k (by omega) (by omega)).trans ((up_ne (by omega)).trans ((up_ne (by omega)).trans (lo2 k hk)))
  have f16 := b3
  have f17 := g3_0
  have f18 := g3_1
  have f19 := g3_2
  have f20 := g3_3
  have f21 := g3_4
  have f22 := g3_5
  refine aw_put0 fp_X7_28 (fun _ => rfl) rfl rfl dX7_init_34 he3 (Nat.le_of_ble_eq_true rfl) rfl ?_
  refine aw_aload_n dX7_init_37 rfl ?_
  refine aw_new (kn' := (23, 1052)) nb_X7_32 dX7_init_38 (Nat.le_of_ble_eq_true rfl) (Nat.le_of_ble_eq_true rfl) rfl ?_
  refine aw_dup dX7_init_41 rfl ?_
  refine aw_callIN (As := []) (ρ := (_, 3, 176)) (kn' := (26, 1228)) ci_X7_34 dX7_init_42 rfl rfl (Nat.le_of_ble_eq_true rfl) (rmR _ _ _) ⟨(Nat.le_of_ble_eq_true rfl), (Nat.le_of_ble_eq_true rfl)⟩ rfl (c_X9_init (o := o + 23) ⟨by omega, up_eq _ _ _⟩ (fun h4 a4 b4 g4_0 g4_1 g4_2 => ?_))
  replace f1 := (a4 (o + 1) (by omega) (by omega)).trans ((up_ne (by omega)).trans ((up_ne (by omega)).trans f1))
  replace f2 := (a4 (o + 2) (by omega) (by omega)).trans ((up_ne (by omega)).trans ((up_ne (by omega)).trans f2))
  replace f3 := (a4 (o + 3) (by omega) (by omega)).trans ((up_ne (by omega)).trans ((up_ne (by omega)).trans f3))
  replace f4 := (a4 (o + 4) (by omega) (by omega)).trans ((up_ne (by omega)).trans ((up_ne (by omega)).trans f4))
  replace f5 := (a4 (o + 5) (by omega) (by omega)).trans ((up_ne (by omega)).trans ((up_ne (by omega)).trans f5))
  replace f6 := (a4 (o + 6) (by omega) (by omega)).trans ((up_ne (by omega)).trans ((up_ne (by omega)).trans f6))
  replace f7 := (a4 (o + 7) (by omega) (by omega)).trans ((up_ne (by omega)).trans ((up_ne (by omega)).trans f7))
  replace f8 := (a4 (o + 8) (by omega) (by omega)).trans ((up_ne (by omega)).trans ((up_ne (by omega)).trans f8))
  replace f9 := (a4 (o + 9) (by omega) (by omega)).trans ((up_ne (by omega)).trans ((up_ne (by omega)).trans f9))
  replace f10 := (a4 (o + 10) (by omega) (by omega)).trans ((up_ne (by omega)).trans ((up_ne (by omega)).trans f10))
  replace f11 := (a4 (o + 11) (by omega) (by omega)).trans ((up_ne (by omega)).trans ((up_ne (by omega)).trans f11))
  replace f12 := (a4 (o + 12) (by omega) (by omega)).trans ((up_ne (by omega)).trans ((up_ne (by omega)).trans f12))
  replace f13 := (a4 (o + 13) (by omega) (by omega)).trans ((up_ne (by omega)).trans ((up_ne (by omega)).trans f13))
  replace f14 := (a4 (o + 14) (by omega) (by omega)).trans ((up_ne (by omega)).trans ((up_ne (by omega)).trans f14))
  replace f15 := (a4 (o + 15) (by omega) (by omega)).trans ((up_ne (by omega)).trans ((up_ne (by omega)).trans f15))
  replace f16 := (a4 (o + 16) (by omega) (by omega)).trans ((up_ne (by omega)).trans ((up_ne (by omega)).trans f16))
  replace f17 := (a4 (o + 17) (by omega) (by omega)).trans ((up_ne (by omega)).trans ((up_ne (by omega)).trans f17))
  replace f18 := (a4 (o + 18) (by omega) (by omega)).trans ((up_ne (by omega)).trans ((up_ne (by omega)).trans f18))
  replace f19 := (a4 (o + 19) (by omega) (by omega)).trans ((up_ne (by omega)).trans ((up_ne (by omega)).trans f19))
  replace f20 := (a4 (o + 20) (by omega) (by omega)).trans ((up_ne (by omega)).trans ((up_ne (by omega)).trans f20))
  replace f21 := (a4 (o + 21) (by omega) (by omega)).trans ((up_ne (by omega)).trans ((up_ne (by omega)).trans f21))
  replace f22 := (a4 (o + 22) (by omega) (by omega)).trans ((up_ne (by omega)).trans ((up_ne (by omega)).trans f22))
  have he4 : hat h4 (o + 27) o (ob 7 [rf Γ (o + 1), rf Γ (o + 5), rf Γ (o + 16), .null, .null, .null, vi 0]) := ⟨by omega, (a4 o (by omega) (by omega)).trans ((up_ne (by omega)).trans (up_eq _ _ _))⟩
  have lo4 : ∀ k, k < o → h4 k = h k := fun k hk => (a4 k (by omega) (by omega)).trans ((up_ne (by omega)).trans ((up_ne (by omega)).trans (lo3 k hk)))
  have f23 := b4
  have f24 := g4_0
  have f25 := g4_1
  have f26 := g4_2
  refine aw_put0 fp_X7_35 (fun _ => rfl) rfl rfl dX7_init_45 he4 (Nat.le_of_ble_eq_true rfl) rfl ?_
  refine aw_aload_n dX7_init_48 rfl ?_
  refine aw_bipush dX7_init_49 rfl ?_
  refine aw_newd (n := 8) (kn' := (27, 1236)) (by decide) (by decide) dX7_init_51 (Nat.le_of_ble_eq_true rfl) (Nat.le_of_ble_eq_true rfl) rfl ?_
  refine aw_put0 fp_X7_39 (fun _ => rfl) rfl rfl dX7_init_53 (hat_new (hat_up he4)) (Nat.le_of_ble_eq_true rfl) rfl ?_
  refine aw_aload_n dX7_init_56 rfl ?_
  refine aw_iconst dX7_init_57 ?_
  refine aw_newi (n := 5) (kn' := (28, 1241)) (by decide) (by decide) dX7_init_58 (Nat.le_of_ble_eq_true rfl) (Nat.le_of_ble_eq_true rfl) rfl ?_
  refine aw_put0 fp_X7_43 (fun _ => rfl) rfl rfl dX7_init_60 (hat_new (hat_up (hat_new (hat_up he4)))) (Nat.le_of_ble_eq_true rfl) rfl ?_
  exact aw_return dX7_init_63 rfl ⟨Nat.le_refl _, Nat.le_refl _⟩ (hQ _ (fun k hk => (up_ne (by omega)).trans ((up_ne (by omega)).trans ((up_ne (by omega)).trans ((up_ne (by omega)).trans ((up_ne (by omega)).trans (lo4 k hk)))))) (fun q hq => match q, hq with | 0, _ => up_eq _ _ _ | 1, _ => (up_ne (by omega)).trans ((up_ne (by omega)).trans ((up_ne (by omega)).trans ((up_ne (by omega)).trans ((up_ne (by omega)).trans (f1))))) | 2, _ => (up_ne (by omega)).trans ((up_ne (by omega)).trans ((up_ne (by omega)).trans ((up_ne (by omega)).trans ((up_ne (by omega)).trans (f2))))) | 3, _ => (up_ne (by omega)).trans ((up_ne (by omega)).trans ((up_ne (by omega)).trans ((up_ne (by omega)).trans ((up_ne (by omega)).trans (f3))))) | 4, _ => (up_ne (by omega)).trans ((up_ne (by omega)).trans ((up_ne (by omega)).trans ((up_ne (by omega)).trans ((up_ne (by omega)).trans (f4))))) | 5, _ => (up_ne (by omega)).trans ((up_ne (by omega)).trans ((up_ne (by omega)).trans ((up_ne (by omega)).trans ((up_ne (by omega)).trans (f5))))) | 6, _ => (up_ne (by omega)).trans ((up_ne (by omega)).trans ((up_ne (by omega)).trans ((up_ne (by omega)).trans ((up_ne (by omega)).trans (f6))))) | 7, _ => (up_ne (by omega)).trans ((up_ne (by omega)).trans ((up_ne (by omega)).trans ((up_ne (by omega)).trans ((up_ne (by omega)).trans (f7))))) | 8, _ => (up_ne (by omega)).trans ((up_ne (by omega)).trans ((up_ne (by omega)).trans ((up_ne (by omega)).trans ((up_ne (by omega)).trans (f8))))) | 9, _ => (up_ne (by omega)).trans ((up_ne (by omega)).trans ((up_ne (by omega)).trans ((up_ne (by omega)).trans ((up_ne (by omega)).trans (f9))))) | 10, _ => (up_ne (by omega)).trans ((up_ne (by omega)).trans ((up_ne (by omega)).trans ((up_ne (by omega)).trans ((up_ne (by omega)).trans (f10))))) | 11, _ => (up_ne (by omega)).trans ((up_ne (by omega)).trans ((up_ne (by omega)).trans ((up_ne (by omega)).trans ((up_ne (by omega)).trans (f11))))) | 12, _ => (up_ne (by omega)).trans ((up_ne (by omega)).trans ((up_ne (by omega)).trans ((up_ne (by omega)).trans ((up_ne (by omega)).trans (f12))))) | 13, _ => (up_ne (by omega)).trans ((up_ne (by omega)).trans ((up_ne (by omega)).trans ((up_ne (by omega)).trans ((up_ne (by omega)).trans (f13))))) | 14, _ => (up_ne (by omega)).trans ((up_ne (by omega)).trans ((up_ne (by omega)).trans ((up_ne (by omega)).trans ((up_ne (by omega)).trans (f14))))) | 15, _ => (up_ne (by omega)).trans ((up_ne (by omega)).trans ((up_ne (by omega)).trans ((up_ne (by omega)).trans ((up_ne (by omega)).trans (f15))))) | 16, _ => (up_ne (by omega)).trans ((up_ne (by omega)).trans ((up_ne (by omega)).trans ((up_ne (by omega)).trans ((up_ne (by omega)).trans (f16))))) | 17, _ => (up_ne (by omega)).trans ((up_ne (by omega)).trans ((up_ne (by omega)).trans ((up_ne (by omega)).trans ((up_ne (by omega)).trans (f17))))) | 18, _ => (up_ne (by omega)).trans ((up_ne (by omega)).trans ((up_ne (by omega)).trans ((up_ne (by omega)).trans ((up_ne (by omega)).trans (f18))))) | 19, _ => (up_ne (by omega)).trans ((up_ne (by omega)).trans ((up_ne (by omega)).trans ((up_ne (by omega)).trans ((up_ne (by omega)).trans (f19))))) | 20, _ => (up_ne (by omega)).trans ((up_ne (by omega)).trans ((up_ne (by omega)).trans ((up_ne (by omega)).trans ((up_ne (by omega)).trans (f20))))) | 21, _ => (up_ne (by omega)).trans ((up_ne (by omega)).trans ((up_ne (by omega)).trans ((up_ne (by omega)).trans ((up_ne (by omega)).trans (f21))))) | 22, _ => (up_ne (by omega)).trans ((up_ne (by omega)).trans ((up_ne (by omega)).trans ((up_ne (by omega)).trans ((up_ne (by omega)).trans (f22))))) | 23, _ => (up_ne (by omega)).trans ((up_ne (by omega)).trans ((up_ne (by omega)).trans ((up_ne (by omega)).trans ((up_ne (by omega)).trans (f23))))) | 24, _ => (up_ne (by omega)).trans ((up_ne (by omega)).trans ((up_ne (by omega)).trans ((up_ne (by omega)).trans ((up_ne (by omega)).trans (f24))))) | 25, _ => (up_ne (by omega)).trans ((up_ne (by omega)).trans ((up_ne (by omega)).trans ((up_ne (by omega)).trans ((up_ne (by omega)).trans (f25))))) | 26, _ => (up_ne (by omega)).trans ((up_ne (by omega)).trans ((up_ne (by omega)).trans ((up_ne (by omega)).trans ((up_ne (by omega)).trans (f26))))) | 27, _ => (up_ne (by omega)).trans ((up_ne (by omega)).trans ((up_ne (by omega)).trans (up_eq _ _ _))) | 28, _ => (up_ne (by omega)).trans (up_eq _ _ _) | n + 29, h => absurd h (by omega)))

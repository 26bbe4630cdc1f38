/-! constructors of the reader, of the class and of the reference -/
set_option maxHeartbeats 1000000 in
theorem c_X11_init {Γ : GT} {h : Nat → AC} {nx d o : Nat} {Q : QT} (he : hat h nx o (ob 11 [.null, .null, .null, .null, .null, .null, vi 0, .null, vi 0, vi 0, vi 0, vi 0, .null, vi 0, vi 0, vi 0, vi 0, vi 0])) (hQ : ∀ h' : Nat → AC, (∀ k, k < nx → k ≠ o → h' k = h k) → h' o = ob 11 [rf Γ (nx + 0), rf Γ (nx + 1), rf Γ (nx + 2), rf Γ (nx + 3), rf Γ (nx + 4), rf Γ (nx + 5), vi 0, rf Γ (nx + 6), vi 0, vi 0, vi 0, vi 0, rf Γ (nx + 7), vi (-1), vi 0, vi 0, vi 0, vi 0] → h' (nx + 0) = al 1216 (fun _ => 0) → h' (nx + 1) = al 1216 (fun _ => 0) → h' (nx + 2) = al 1216 (fun _ => 0) → h' (nx + 3) = al 12160 (fun _ => 0) → h' (nx + 4) = al 2432 (fun _ => 0) → h' (nx + 5) = az 2 (fun _ => 0) → h' (nx + 6) = ab 400 (fun _ => 0) → h' (nx + 7) = al 40 (fun _ => 0) → Q none h' (nx + 8)) : AM Γ MX11_init (d + 1, 8, 18682) [rf Γ o] h nx Q := by
  refine am_of (by decide) (Nat.le_of_ble_eq_true rfl) (ls := [some (rf Γ o)]) rfl ?_
  have ho := he.1
  refine aw_aload_n dX11_init_0 rfl ?_
  refine aw_objInit qm_X11_1 qi_java_lang_Object__init_ qc_objInit dX11_init_1 (rmO _ _ _ (Nat.le_of_ble_eq_true rfl)) ?_
  refine aw_aload_n dX11_init_4 rfl ?_
  refine aw_sipush dX11_init_5 rfl ?_
  refine aw_newl (n := 1216) (kn' := (1, 1216)) (by decide) (by decide) dX11_init_8 (Nat.le_of_ble_eq_true rfl) (Nat.le_of_ble_eq_true rfl) rfl ?_
  refine aw_put0 fp_X11_9 (fun _ => rfl) rfl rfl dX11_init_10 (hat_new he) (Nat.le_of_ble_eq_true rfl) rfl ?_
  refine aw_aload_n dX11_init_13 rfl ?_
  refine aw_sipush dX11_init_14 rfl ?_
  refine aw_newl (n := 1216) (kn' := (2, 2432)) (by decide) (by decide) dX11_init_17 (Nat.le_of_ble_eq_true rfl) (Nat.le_of_ble_eq_true rfl) rfl ?_
  refine aw_put0 fp_X11_13 (fun _ => rfl) rfl rfl dX11_init_19 (hat_new (hat_up (hat_new he))) (Nat.le_of_ble_eq_true rfl) rfl ?_
  refine aw_aload_n dX11_init_22 rfl ?_
  refine aw_sipush dX11_init_23 rfl ?_
  refine aw_newl (n := 1216) (kn' := (3, 3648)) (by decide) (by decide) dX11_init_26 (Nat.le_of_ble_eq_true rfl) (Nat.le_of_ble_eq_true rfl) rfl ?_
  refine aw_put0 fp_X11_16 (fun _ => rfl) rfl rfl dX11_init_28 (hat_new (hat_up (hat_new (hat_up (hat_new he))))) (Nat.le_of_ble_eq_true rfl) rfl ?_
  refine aw_aload_n dX11_init_31 rfl ?_
  refine aw_sipush dX11_init_32 rfl ?_
  refine aw_newl (n := 12160) (kn' := (4, 15808)) (by decide) (by decide) dX11_init_35 (Nat.le_of_ble_eq_true rfl) (Nat.le_of_ble_eq_true rfl) rfl ?_
  refine aw_put0 fp_X11_19 (fun _ => rfl) rfl rfl dX11_init_37 (hat_new (hat_up (hat_new (hat_up (hat_new (hat_up (hat_new he))))))) (Nat.le_of_ble_eq_true rfl) rfl ?_
  refine aw_aload_n dX11_init_40 rfl ?_
  refine aw_sipush dX11_init_41 rfl ?_
  refine aw_newl (n := 2432) (kn' := (5, 18240)) (by decide) (by decide) dX11_init_44 (Nat.le_of_ble_eq_true rfl) (Nat.le_of_ble_eq_true rfl) rfl ?_
  refine aw_put0 fp_X11_22 (fun _ => rfl) rfl rfl dX11_init_46 (hat_new (hat_up (hat_new (hat_up (hat_new (hat_up (hat_new (hat_up (hat_new he))))))))) (Nat.le_of_ble_eq_true rfl) rfl ?_
  refine aw_aload_n dX11_init_49 rfl ?_
  refine aw_iconst dX11_init_50 ?_
  refine aw_newz (n := 2) (kn' := (6, 18242)) (by decide) (by decide) dX11_init_51 (Nat.le_of_ble_eq_true rfl) (Nat.le_of_ble_eq_true rfl) rfl ?_
  refine aw_put0 fp_X11_25 (fun _ => rfl) rfl rfl dX11_init_53 (hat_new (hat_up (hat_new (hat_up (hat_new (hat_up (hat_new (hat_up (hat_new (hat_up (hat_new he))))))))))) (Nat.le_of_ble_eq_true rfl) rfl ?_
  refine aw_aload_n dX11_init_56 rfl ?_
  refine aw_sipush dX11_init_57 rfl ?_
  refine aw_newb (n := 400) (kn' := (7, 18642)) (by decide) (by decide) dX11_init_60 (Nat.le_of_ble_eq_true rfl) (Nat.le_of_ble_eq_true rfl) rfl ?_
  refine aw_put0 fp_X11_29 (fun _ => rfl) rfl rfl dX11_init_62 (hat_new (hat_up (hat_new (hat_up (hat_new (hat_up (hat_new (hat_up (hat_new (hat_up (hat_new (hat_up (hat_new he))))))))))))) (Nat.le_of_ble_eq_true rfl) rfl ?_
  refine aw_aload_n dX11_init_65 rfl ?_
  refine aw_bipush dX11_init_66 rfl ?_
  refine aw_newl (n := 40) (kn' := (8, 18682)) (by decide) (by decide) dX11_init_68 (Nat.le_of_ble_eq_true rfl) (Nat.le_of_ble_eq_true rfl) rfl ?_
  refine aw_put0 fp_X11_33 (fun _ => rfl) rfl rfl dX11_init_70 (hat_new (hat_up (hat_new (hat_up (hat_new (hat_up (hat_new (hat_up (hat_new (hat_up (hat_new (hat_up (hat_new (hat_up (hat_new he))))))))))))))) (Nat.le_of_ble_eq_true rfl) rfl ?_
  refine aw_aload_n dX11_init_73 rfl ?_
  refine aw_iconst dX11_init_74 ?_
  refine aw_put0 fp_X11_36 (fun _ => rfl) rfl rfl dX11_init_75 (hat_up (hat_new (hat_up (hat_new (hat_up (hat_new (hat_up (hat_new (hat_up (hat_new (hat_up (hat_new (hat_up (hat_new (hat_up (hat_new he)))))))))))))))) (Nat.le_of_ble_eq_true rfl) rfl ?_
  exact aw_return dX11_init_78 rfl ⟨Nat.le_refl _, Nat.le_refl _⟩ (hQ _ (fun k h1 h2 => (up_ne h2).trans ((up_ne h2).trans ((up_ne (by omega)).trans ((up_ne h2).trans ((up_ne (by omega)).trans ((up_ne h2).trans ((up_ne (by omega)).trans ((up_ne h2).trans ((up_ne (by omega)).trans ((up_ne h2).trans ((up_ne (by omega)).trans ((up_ne h2).trans ((up_ne (by omega)).trans ((up_ne h2).trans ((up_ne (by omega)).trans ((up_ne h2).trans ((up_ne (by omega)).trans (rfl)))))))))))))))))) (up_eq _ _ _) ((up_ne (by omega)).trans ((up_ne (by omega)).trans ((up_ne (by omega)).trans ((up_ne (by omega)).trans ((up_ne (by omega)).trans ((up_ne (by omega)).trans ((up_ne (by omega)).trans ((up_ne (by omega)).trans ((up_ne (by omega)).trans ((up_ne (by omega)).trans ((up_ne (by omega)).trans ((up_ne (by omega)).trans ((up_ne (by omega)).trans ((up_ne (by omega)).trans ((up_ne (by omega)).trans ((up_ne (by omega)).trans (up_eq _ _ _))))))))))))))))) ((up_ne (by omega)).trans ((up_ne (by omega)).trans ((up_ne (by omega)).trans ((up_ne (by omega)).trans ((up_ne (by omega)).trans ((up_ne (by omega)).trans ((up_ne (by omega)).trans ((up_ne (by omega)).trans ((up_ne (by omega)).trans ((up_ne (by omega)).trans ((up_ne (by omega)).trans ((up_ne (by omega)).trans ((up_ne (by omega)).trans ((up_ne (by omega)).trans (up_eq _ _ _))))))))))))))) ((up_ne (by omega)).trans ((up_ne (by omega)).trans ((up_ne (by omega)).trans ((up_ne (by omega)).trans ((up_ne (by omega)).trans ((up_ne (by omega)).trans ((up_ne (by omega)).trans ((up_ne (by omega)).trans ((up_ne (by omega)).trans ((up_ne (by omega)).trans ((up_ne (by omega)).trans ((up_ne (by omega)).trans (up_eq _ _ _))))))))))))) ((up_ne (by omega)).trans ((up_ne (by omega)).trans ((up_ne (by omega)).trans ((up_ne (by omega)).trans ((up_ne (by omega)).trans ((up_ne (by omega)).trans ((up_ne (by omega)).trans ((up_ne (by omega)).trans ((up_ne (by omega)).trans ((up_ne (by omega)).trans (up_eq _ _ _))))))))))) ((up_ne (by omega)).trans ((up_ne (by omega)).trans ((up_ne (by omega)).trans ((up_ne (by omega)).trans ((up_ne (by omega)).trans ((up_ne (by omega)).trans ((up_ne (by omega)).trans ((up_ne (by omega)).trans (up_eq _ _ _))))))))) ((up_ne (by omega)).trans ((up_ne (by omega)).trans ((up_ne (by omega)).trans ((up_ne (by omega)).trans ((up_ne (by omega)).trans ((up_ne (by omega)).trans (up_eq _ _ _))))))) ((up_ne (by omega)).trans ((up_ne (by omega)).trans ((up_ne (by omega)).trans ((up_ne (by omega)).trans (up_eq _ _ _))))) ((up_ne (by omega)).trans ((up_ne (by omega)).trans (up_eq _ _ _))))
def rdC (Γ : GT) (o : Nat) (q : Nat) : AC := match q with
  | 0 => ob 4 [rf Γ (o + 1), rf Γ (o + 3), vi 0, vi 0]
  | 1 => ob 8 [rf Γ (o + 2), vi 0]
  | 2 => ab 400 (fun _ => 0)
  | 3 => ob 5 [rf Γ (o + 4), rf Γ (o + 5), rf Γ (o + 6), vi 0, vi 0]
  | 4 => ai 6 (fun _ => 0)
  | 5 => ai 4 (fun _ => 0)
  | _ => ai 96 (fun _ => 0)
def U00 : St := fun f _ => if f = 3 ∨ f = 4 ∨ f = 18 then -1 else 0
def V00 : St := fun f _ => if f = 15 then -1 else 0
def G00 : Gw := fun _ _ _ => 0
def H00 (Γ : GT) : Nat → AC := hp Γ Z0 Z0 U00 V00 G00

set_option maxHeartbeats 4000000 in
theorem c_X4_init {Γ : GT} {h : Nat → AC} {d o : Nat} {Q : QT} (he : hat h (o + 1) o (ob 4 [.null, .null, vi 0, vi 0])) (hQ : ∀ h' : Nat → AC, (∀ k, k < o → h' k = h k) → (∀ q, q < 7 → h' (o + q) = rdC Γ o q) → Q none h' (o + 7)) : AM Γ MX4_init (d + 2, 6, 513) [rf Γ o] h (o + 1) Q := by
  refine am_of (by decide) (Nat.le_of_ble_eq_true rfl) (ls := [some (rf Γ o)]) rfl ?_
  refine aw_aload_n dX4_init_0 rfl ?_
  refine aw_objInit qm_X4_3 qi_java_lang_Object__init_ qc_objInit dX4_init_1 (rmO _ _ _ (Nat.le_of_ble_eq_true rfl)) ?_
  refine aw_aload_n dX4_init_4 rfl ?_
  refine aw_new (kn' := (1, 2)) nb_X4_9 dX4_init_5 (Nat.le_of_ble_eq_true rfl) (Nat.le_of_ble_eq_true rfl) rfl ?_
  refine aw_dup dX4_init_8 rfl ?_
  refine aw_callIN (As := []) (ρ := (_, 1, 400)) (kn' := (2, 402)) ci_X4_11 dX4_init_9 rfl rfl (Nat.le_of_ble_eq_true rfl) (rmR _ _ _) ⟨(Nat.le_of_ble_eq_true rfl), (Nat.le_of_ble_eq_true rfl)⟩ rfl (c_X8_init (o := o + 1) ⟨by omega, up_eq _ _ _⟩ (fun h1 a1 b1 g1_0 => ?_))
  have he1 : hat h1 (o + 3) o (ob 4 [.null, .null, vi 0, vi 0]) := ⟨by omega, (a1 o (by omega) (by omega)).trans ((up_ne (by omega)).trans (he.2))⟩
  have lo1 : ∀ k, k < o → h1 k = h k := fun k hk => (a1 k (by omega) (by omega)).trans (up_ne (by omega))
  refine aw_put0 fp_X4_12 (fun _ => rfl) rfl rfl dX4_init_12 he1 (Nat.le_of_ble_eq_true rfl) rfl ?_
  refine aw_aload_n dX4_init_15 rfl ?_
  refine aw_new (kn' := (3, 407)) nb_X4_18 dX4_init_16 (Nat.le_of_ble_eq_true rfl) (Nat.le_of_ble_eq_true rfl) rfl ?_
  refine aw_dup dX4_init_19 rfl ?_
  refine aw_callIN (As := []) (ρ := (_, 3, 106)) (kn' := (6, 513)) ci_X4_20 dX4_init_20 rfl rfl (Nat.le_of_ble_eq_true rfl) (rmR _ _ _) ⟨(Nat.le_of_ble_eq_true rfl), (Nat.le_of_ble_eq_true rfl)⟩ rfl (c_X5_init (o := o + 3) ⟨by omega, up_eq _ _ _⟩ (fun h2 a2 b2 g2_0 g2_1 g2_2 => ?_))
  have he2 : hat h2 (o + 7) o (ob 4 [rf Γ (o + 1), .null, vi 0, vi 0]) := ⟨by omega, (a2 o (by omega) (by omega)).trans ((up_ne (by omega)).trans (up_eq _ _ _))⟩
  have lo2 : ∀ k, k < o → h2 k = h k := fun k hk => (a2 k (by omega) (by omega)).trans ((up_ne (by omega)).trans ((up_ne (by omega)).trans (lo1 k hk)))
  have f1 := (a2 (o + 1) (by omega) (by omega)).trans ((up_ne (by omega)).trans ((up_ne (by omega)).trans b1))
  have f2 := (a2 (o + 2) (by omega) (by omega)).trans ((up_ne (by omega)).trans ((up_ne (by omega)).trans g1_0))
  refine aw_put0 fp_X4_21 (fun _ => rfl) rfl rfl dX4_init_23 he2 (Nat.le_of_ble_eq_true rfl) rfl ?_
  exact aw_return dX4_init_26 rfl ⟨Nat.le_refl _, Nat.le_refl _⟩ (hQ _ (fun k hk => (up_ne (by omega)).trans (lo2 k hk)) (fun q hq => match q, hq with | 0, _ => up_eq _ _ _ | 1, _ => (up_ne (by omega)).trans (f1) | 2, _ => (up_ne (by omega)).trans (f2) | 3, _ => (up_ne (by omega)).trans (b2) | 4, _ => (up_ne (by omega)).trans (g2_0) | 5, _ => (up_ne (by omega)).trans (g2_1) | 6, _ => (up_ne (by omega)).trans (g2_2) | n + 7, h => absurd h (by omega)))
set_option maxHeartbeats 4000000 in
set_option maxRecDepth 20000 in
theorem c_X10_init {Γ : GT} {h : Nat → AC} {d : Nat} {Q : QT} (he : hat h 1 0 (ob 10 [.null, .null, .null, .null, .null, .null])) (hQ : ∀ h' : Nat → AC, (∀ k, k < 43 → h' k = H00 Γ k) → Q none h' 43) : AM Γ MX10_init (d + 3, 42, 1826) [rf Γ 0] h 1 Q := by
  refine am_of (by decide) (Nat.le_of_ble_eq_true rfl) (ls := [some (rf Γ 0)]) rfl ?_
  refine aw_aload_n dX10_init_0 rfl ?_
  refine aw_objInit qm_X10_1 qi_java_lang_Object__init_ qc_objInit dX10_init_1 (rmO _ _ _ (Nat.le_of_ble_eq_true rfl)) ?_
  have z0 : ∀ k, 0 < k → k < 1 → h k = H00 Γ k := fun k a b => absurd a (by omega)
  have e0 := he
  refine aw_aload_n dX10_init_4 rfl ?_
  refine aw_new (kn' := (1, 4)) nb_X10_7 dX10_init_5 (Nat.le_of_ble_eq_true rfl) (Nat.le_of_ble_eq_true rfl) rfl ?_
  refine aw_dup dX10_init_8 rfl ?_
  refine aw_callIN (As := []) (ρ := (_, 6, 513)) (kn' := (7, 517)) ci_X10_9 dX10_init_9 rfl rfl (Nat.le_of_ble_eq_true rfl) (rmR _ _ _) ⟨(Nat.le_of_ble_eq_true rfl), (Nat.le_of_ble_eq_true rfl)⟩ rfl (c_X4_init (o := 1) ⟨by omega, up_eq _ _ _⟩ (fun h1 a1 f1 => ?_))
  have z1 : ∀ k, 0 < k → k < 8 → h1 k = H00 Γ k := by
    intro k a b
    by_cases q : k < 1
    · rw [(a1 k (by omega)), up_ne (by omega)]; exact z0 k a q
    · obtain ⟨w, rfl⟩ : ∃ w, k = 1 + w := ⟨k - 1, by omega⟩
      rw [f1 w (by omega)]
      have hw : w < 7 := by omega
      exact match w, hw with | 0, _ => rfl | 1, _ => rfl | 2, _ => rfl | 3, _ => rfl | 4, _ => rfl | 5, _ => rfl | 6, _ => rfl | n + 7, h => absurd h (by omega)
  have e1 : hat h1 8 0 (ob 10 [.null, .null, .null, .null, .null, .null]) := ⟨by omega, (a1 0 (by omega)).trans ((up_ne (by omega)).trans e0.2)⟩
  refine aw_put0 fp_X10_10 (fun _ => rfl) rfl rfl dX10_init_12 e1 (Nat.le_of_ble_eq_true rfl) rfl ?_
  have z1 : ∀ k, 0 < k → k < 8 → (va_up h1 0 (ob 10 [rf Γ 1, .null, .null, .null, .null, .null])) k = H00 Γ k := fun k a b => (up_ne (by omega)).trans (z1 k a b)
  have e1 : hat (va_up h1 0 (ob 10 [rf Γ 1, .null, .null, .null, .null, .null])) 8 0 (ob 10 [rf Γ 1, .null, .null, .null, .null, .null]) := hat_up e1
  refine aw_aload_n dX10_init_15 rfl ?_
  refine aw_new (kn' := (8, 520)) nb_X10_16 dX10_init_16 (Nat.le_of_ble_eq_true rfl) (Nat.le_of_ble_eq_true rfl) rfl ?_
  refine aw_dup dX10_init_19 rfl ?_
  refine aw_callIN (As := []) (ρ := (_, 0, 0)) (kn' := (8, 520)) ci_X10_18 dX10_init_20 rfl rfl (Nat.le_of_ble_eq_true rfl) (rmR _ _ _) ⟨(Nat.le_of_ble_eq_true rfl), (Nat.le_of_ble_eq_true rfl)⟩ rfl (c_X6_init (o := 8) ⟨by omega, up_eq _ _ _⟩ (fun h2 a2 b2  => ?_))
  have z2 : ∀ k, 0 < k → k < 9 → h2 k = H00 Γ k := by
    intro k a b
    by_cases q : k < 8
    · rw [(a2 k (by omega) (by omega)), up_ne (by omega)]; exact z1 k a q
    · rcases (show k = 8 by omega) with rfl
      · exact b2
  have e2 : hat h2 9 0 (ob 10 [rf Γ 1, .null, .null, .null, .null, .null]) := ⟨by omega, (a2 0 (by omega) (by omega)).trans ((up_ne (by omega)).trans e1.2)⟩
  refine aw_put0 fp_X10_19 (fun _ => rfl) rfl rfl dX10_init_23 e2 (Nat.le_of_ble_eq_true rfl) rfl ?_
  have z2 : ∀ k, 0 < k → k < 9 → (va_up h2 0 (ob 10 [rf Γ 1, rf Γ 8, .null, .null, .null, .null])) k = H00 Γ k := fun k a b => (up_ne (by omega)).trans (z2 k a b)
  have e2 : hat (va_up h2 0 (ob 10 [rf Γ 1, rf Γ 8, .null, .null, .null, .null])) 9 0 (ob 10 [rf Γ 1, rf Γ 8, .null, .null, .null, .null]) := hat_up e2
  refine aw_aload_n dX10_init_26 rfl ?_
  refine aw_new (kn' := (9, 527)) nb_X10_23 dX10_init_27 (Nat.le_of_ble_eq_true rfl) (Nat.le_of_ble_eq_true rfl) rfl ?_
  refine aw_dup dX10_init_30 rfl ?_
  refine aw_callIN (As := []) (ρ := (_, 28, 1241)) (kn' := (37, 1768)) ci_X10_25 dX10_init_31 rfl rfl (Nat.le_of_ble_eq_true rfl) (rmR _ _ _) ⟨(Nat.le_of_ble_eq_true rfl), (Nat.le_of_ble_eq_true rfl)⟩ rfl (c_X7_init (o := 9) ⟨by omega, up_eq _ _ _⟩ (fun h3 a3 f3 => ?_))
  have z3 : ∀ k, 0 < k → k < 38 → h3 k = H00 Γ k := by
    intro k a b
    by_cases q : k < 9
    · rw [(a3 k (by omega)), up_ne (by omega)]; exact z2 k a q
    · obtain ⟨w, rfl⟩ : ∃ w, k = 9 + w := ⟨k - 9, by omega⟩
      rw [f3 w (by omega)]
      have hw : w < 29 := by omega
      exact match w, hw with | 0, _ => rfl | 1, _ => rfl | 2, _ => rfl | 3, _ => rfl | 4, _ => rfl | 5, _ => rfl | 6, _ => rfl | 7, _ => rfl | 8, _ => rfl | 9, _ => rfl | 10, _ => rfl | 11, _ => rfl | 12, _ => rfl | 13, _ => rfl | 14, _ => rfl | 15, _ => rfl | 16, _ => rfl | 17, _ => rfl | 18, _ => rfl | 19, _ => rfl | 20, _ => rfl | 21, _ => rfl | 22, _ => rfl | 23, _ => rfl | 24, _ => rfl | 25, _ => rfl | 26, _ => rfl | 27, _ => rfl | 28, _ => rfl | n + 29, h => absurd h (by omega)
  have e3 : hat h3 38 0 (ob 10 [rf Γ 1, rf Γ 8, .null, .null, .null, .null]) := ⟨by omega, (a3 0 (by omega)).trans ((up_ne (by omega)).trans e2.2)⟩
  refine aw_put0 fp_X10_26 (fun _ => rfl) rfl rfl dX10_init_34 e3 (Nat.le_of_ble_eq_true rfl) rfl ?_
  have z3 : ∀ k, 0 < k → k < 38 → (va_up h3 0 (ob 10 [rf Γ 1, rf Γ 8, rf Γ 9, .null, .null, .null])) k = H00 Γ k := fun k a b => (up_ne (by omega)).trans (z3 k a b)
  have e3 : hat (va_up h3 0 (ob 10 [rf Γ 1, rf Γ 8, rf Γ 9, .null, .null, .null])) 38 0 (ob 10 [rf Γ 1, rf Γ 8, rf Γ 9, .null, .null, .null]) := hat_up e3
  refine aw_aload_n dX10_init_37 rfl ?_
  refine aw_new (kn' := (38, 1771)) nb_X10_30 dX10_init_38 (Nat.le_of_ble_eq_true rfl) (Nat.le_of_ble_eq_true rfl) rfl ?_
  refine aw_dup dX10_init_41 rfl ?_
  refine aw_callIN (As := []) (ρ := (_, 1, 10)) (kn' := (39, 1781)) ci_X10_32 dX10_init_42 rfl rfl (Nat.le_of_ble_eq_true rfl) (rmR _ _ _) ⟨(Nat.le_of_ble_eq_true rfl), (Nat.le_of_ble_eq_true rfl)⟩ rfl (c_X0_init (o := 38) ⟨by omega, up_eq _ _ _⟩ (fun h4 a4 b4 g4_0 => ?_))
  have z4 : ∀ k, 0 < k → k < 40 → h4 k = H00 Γ k := by
    intro k a b
    by_cases q : k < 38
    · rw [(a4 k (by omega) (by omega)), up_ne (by omega)]; exact z3 k a q
    · rcases (show k = 38 ∨ k = 39 by omega) with rfl | rfl
      · exact b4
      · exact g4_0
  have e4 : hat h4 40 0 (ob 10 [rf Γ 1, rf Γ 8, rf Γ 9, .null, .null, .null]) := ⟨by omega, (a4 0 (by omega) (by omega)).trans ((up_ne (by omega)).trans e3.2)⟩
  refine aw_put0 fp_X10_33 (fun _ => rfl) rfl rfl dX10_init_45 e4 (Nat.le_of_ble_eq_true rfl) rfl ?_
  have z4 : ∀ k, 0 < k → k < 40 → (va_up h4 0 (ob 10 [rf Γ 1, rf Γ 8, rf Γ 9, rf Γ 38, .null, .null])) k = H00 Γ k := fun k a b => (up_ne (by omega)).trans (z4 k a b)
  have e4 : hat (va_up h4 0 (ob 10 [rf Γ 1, rf Γ 8, rf Γ 9, rf Γ 38, .null, .null])) 40 0 (ob 10 [rf Γ 1, rf Γ 8, rf Γ 9, rf Γ 38, .null, .null]) := hat_up e4
  refine aw_aload_n dX10_init_48 rfl ?_
  refine aw_iconst dX10_init_49 ?_
  refine aw_newq (n := 2) (kn' := (40, 1783)) ql_X10_23 (by decide) dX10_init_50 (Nat.le_of_ble_eq_true rfl) (Nat.le_of_ble_eq_true rfl) rfl ?_
  have z5 : ∀ k, 0 < k → k < 41 → va_up (va_up h4 0 (ob 10 [rf Γ 1, rf Γ 8, rf Γ 9, rf Γ 38, .null, .null])) 40 (aq Γ 2 (fun _ => -1)) k = H00 Γ k := by
    intro k a b
    by_cases q : k = 40
    · subst q; exact up_eq _ _ _
    · rw [up_ne q]; exact z4 k a (by omega)
  have e5 : hat (va_up (va_up h4 0 (ob 10 [rf Γ 1, rf Γ 8, rf Γ 9, rf Γ 38, .null, .null])) 40 (aq Γ 2 (fun _ => -1))) 41 0 (ob 10 [rf Γ 1, rf Γ 8, rf Γ 9, rf Γ 38, .null, .null]) := ⟨by omega, (up_ne (by omega)).trans e4.2⟩
  refine aw_put0 fp_X10_37 (fun _ => rfl) rfl rfl dX10_init_53 e5 (Nat.le_of_ble_eq_true rfl) rfl ?_
  have z5 : ∀ k, 0 < k → k < 41 → (va_up (va_up (va_up h4 0 (ob 10 [rf Γ 1, rf Γ 8, rf Γ 9, rf Γ 38, .null, .null])) 40 (aq Γ 2 (fun _ => -1))) 0 (ob 10 [rf Γ 1, rf Γ 8, rf Γ 9, rf Γ 38, rf Γ 40, .null])) k = H00 Γ k := fun k a b => (up_ne (by omega)).trans (z5 k a b)
  have e5 : hat (va_up (va_up (va_up h4 0 (ob 10 [rf Γ 1, rf Γ 8, rf Γ 9, rf Γ 38, .null, .null])) 40 (aq Γ 2 (fun _ => -1))) 0 (ob 10 [rf Γ 1, rf Γ 8, rf Γ 9, rf Γ 38, rf Γ 40, .null])) 41 0 (ob 10 [rf Γ 1, rf Γ 8, rf Γ 9, rf Γ 38, rf Γ 40, .null]) := hat_up e5
  refine aw_aload_n dX10_init_56 rfl ?_
  refine aw_new (kn' := (41, 1786)) nb_X10_41 dX10_init_57 (Nat.le_of_ble_eq_true rfl) (Nat.le_of_ble_eq_true rfl) rfl ?_
  refine aw_dup dX10_init_60 rfl ?_
  refine aw_callIN (As := []) (ρ := (_, 1, 40)) (kn' := (42, 1826)) ci_X10_43 dX10_init_61 rfl rfl (Nat.le_of_ble_eq_true rfl) (rmR _ _ _) ⟨(Nat.le_of_ble_eq_true rfl), (Nat.le_of_ble_eq_true rfl)⟩ rfl (c_X2_init (o := 41) ⟨by omega, up_eq _ _ _⟩ (fun h6 a6 b6 g6_0 => ?_))
  have z6 : ∀ k, 0 < k → k < 43 → h6 k = H00 Γ k := by
    intro k a b
    by_cases q : k < 41
    · rw [(a6 k (by omega) (by omega)), up_ne (by omega)]; exact z5 k a q
    · rcases (show k = 41 ∨ k = 42 by omega) with rfl | rfl
      · exact b6
      · exact g6_0
  have e6 : hat h6 43 0 (ob 10 [rf Γ 1, rf Γ 8, rf Γ 9, rf Γ 38, rf Γ 40, .null]) := ⟨by omega, (a6 0 (by omega) (by omega)).trans ((up_ne (by omega)).trans e5.2)⟩
  refine aw_put0 fp_X10_44 (fun _ => rfl) rfl rfl dX10_init_64 e6 (Nat.le_of_ble_eq_true rfl) rfl ?_
  have z6 : ∀ k, 0 < k → k < 43 → (va_up h6 0 (ob 10 [rf Γ 1, rf Γ 8, rf Γ 9, rf Γ 38, rf Γ 40, rf Γ 41])) k = H00 Γ k := fun k a b => (up_ne (by omega)).trans (z6 k a b)
  have e6 : hat (va_up h6 0 (ob 10 [rf Γ 1, rf Γ 8, rf Γ 9, rf Γ 38, rf Γ 40, rf Γ 41])) 43 0 (ob 10 [rf Γ 1, rf Γ 8, rf Γ 9, rf Γ 38, rf Γ 40, rf Γ 41]) := hat_up e6
  exact aw_return dX10_init_67 rfl ⟨Nat.le_refl _, Nat.le_refl _⟩ (hQ _ (fun k hk => (Nat.eq_zero_or_pos k).elim (fun q => by subst q; exact e6.2) (fun q => z6 k q hk)))

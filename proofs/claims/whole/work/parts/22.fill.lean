/-! rows that are filled -/
def fl (a : Int → Int) (n : Nat) (v : Int) : Int → Int := fun j => if 0 ≤ j ∧ j < (n : Int) then v else a j
theorem uz_fl (a : Int → Int) (n : Nat) (v : Int) : uz (fl a n v) (n : Int) v = fl a (n + 1) v := by
  funext j; unfold uz fl
  by_cases h : j = (n : Int)
  · subst h; rw [if_pos rfl, if_pos (by omega)]
  · rw [if_neg h]
    by_cases h2 : 0 ≤ j ∧ j < (n : Int)
    · rw [if_pos h2, if_pos (by omega)]
    · rw [if_neg h2, if_neg (by omega)]
theorem fl_0 (a : Int → Int) (v : Int) : fl a 0 v = a := by
  funext j; unfold fl; rw [if_neg (by omega)]
theorem up_up (h : Nat → AC) (o : Nat) (c c' : AC) : va_up (va_up h o c) o c' = va_up h o c' := by
  funext q; by_cases e : q = o <;> simp [va_up, e]
theorem up_id {h : Nat → AC} {o : Nat} {c : AC} (e : h o = c) : va_up h o c = h := by
  funext q; by_cases e' : q = o
  · subst e'; simp [va_up, e]
  · simp [va_up, e']
theorem hat_up {h : Nat → AC} {nx o : Nat} {c c' : AC} (e : hat h nx o c) : hat (va_up h o c') nx o c' := ⟨e.1, by simp [va_up]⟩
theorem Rg.sset {S : St} (hR : Rg S) {f : Nat} {a : Int → Int} (ha : ∀ i, inI (a i)) : Rg (Jvm.Pilot.@@N@@.sset S f a) := by
  intro f' hf' i'
  unfold Jvm.Pilot.@@N@@.sset
  split
  · exact ha i'
  · exact hR f' hf' i'
/-- cleared -/
def clS (S : St) (f n : Nat) : St := sset S f (fl (S f) n 0)
theorem clS_at (S : St) (f n f' : Nat) (i : Int) : clS S f n f' i = if f' = f ∧ 0 ≤ i ∧ i < (n : Int) then 0 else S f' i := by
  unfold clS sset fl
  by_cases h : f' = f
  · subst h; by_cases h2 : 0 ≤ i ∧ i < (n : Int) <;> simp [h2]
  · simp [h]
theorem Rg.cl {S : St} (hR : Rg S) {f n : Nat} (hf : f ≠ 23) : Rg (clS S f n) := by
  refine hR.sset (fun i => ?_)
  unfold fl
  split
  · exact ⟨by omega, by omega⟩
  · exact hR f hf i
theorem c_fill_i {Γ : GT} {h h' : Nat → AC} {nx d o n : Nat} {Q : QT} {a : Int → Int} {v : Int} (he : hat h nx o (ai n a)) (hn : n < 2147483648) (hh : va_up h o (ai n (fl a n v)) = h') (hQ : Q none h' nx) : AM Γ MJ7_fill_53178 (d, 0, 0) [rf Γ o, vi v] h nx Q := by
  refine am_of (by decide) (Nat.le_of_ble_eq_true rfl) (ls := [some (rf Γ o), some _, none, none]) rfl ?_
  refine aw_iconst dJ7_fill_53178_0 ?_
  refine aw_istore_n (ls' := [some (rf Γ o), some _, some _, none]) dJ7_fill_53178_1 (by decide) rfl ?_
  refine aw_aload_n dJ7_fill_53178_2 rfl ?_
  refine aw_alen dJ7_fill_53178_3 he rfl ?_
  refine aw_istore_n (ls' := [some (rf Γ o), some _, some _, some _]) dJ7_fill_53178_4 (by decide) rfl ?_
  have e0 : h = va_up h o (ai n (fl a 0 v)) := by rw [fl_0]; exact (up_id he.2).symm
  rw [e0]
  refine loopN n (P := fun k => AW Γ MJ7_fill_53178 _ _ (0, 0) 5 [some (rf Γ o), some (vi v), some (vi (k : Int)), some (vi (n : Int))] [] (va_up h o (ai n (fl a k v))) nx) (fun k hk ih => ?_) 0 (Nat.zero_le _)
  refine aw_iload_n dJ7_fill_53178_5 rfl ?_
  refine aw_iload_n dJ7_fill_53178_6 rfl ?_
  refine aw_icmp_ge (tgt := 20) dJ7_fill_53178_7 rfl (by omega) (fun c7 => ?_) (fun c7 => ?_)
  · obtain rfl : k = n := by omega
    rw [hh]
    exact aw_return dJ7_fill_53178_20 rfl ⟨Nat.le_refl _, Nat.le_refl _⟩ hQ
  · refine aw_aload_n dJ7_fill_53178_10 rfl ?_
    refine aw_iload_n dJ7_fill_53178_11 rfl ?_
    refine aw_iload_n dJ7_fill_53178_12 rfl ?_
    refine aw_iast dJ7_fill_53178_13 (hat_up he) (by omega) hn (by rw [up_up, uz_fl]) ?_
    refine aw_iinc (ls' := [some (rf Γ o), some _, some _, some _]) dJ7_fill_53178_14 rfl (by decide) rfl ?_
    refine aw_goto (tgt := 5) dJ7_fill_53178_17 rfl ?_
    exact ih (by omega)
theorem c_fill_l {Γ : GT} {h h' : Nat → AC} {nx d o n : Nat} {Q : QT} {a : Int → Int} {v : Int} (he : hat h nx o (al n a)) (hn : n < 2147483648) (hh : va_up h o (al n (fl a n v)) = h') (hQ : Q none h' nx) : AM Γ MJ7_fill_d0a16 (d, 0, 0) [rf Γ o, vl v] h nx Q := by
  refine am_of (by decide) (Nat.le_of_ble_eq_true rfl) (ls := [some (rf Γ o), some _, none, none, none]) rfl ?_
  refine aw_iconst dJ7_fill_d0a16_0 ?_
  refine aw_istore_n (ls' := [some (rf Γ o), some _, none, some _, none]) dJ7_fill_d0a16_1 (by decide) rfl ?_
  refine aw_aload_n dJ7_fill_d0a16_2 rfl ?_
  refine aw_alen dJ7_fill_d0a16_3 he rfl ?_
  refine aw_istore (ls' := [some (rf Γ o), some _, none, some _, some _]) dJ7_fill_d0a16_4 (by decide) rfl ?_
  have e0 : h = va_up h o (al n (fl a 0 v)) := by rw [fl_0]; exact (up_id he.2).symm
  rw [e0]
  refine loopN n (P := fun k => AW Γ MJ7_fill_d0a16 _ _ (0, 0) 6 [some (rf Γ o), some (vl v), none, some (vi (k : Int)), some (vi (n : Int))] [] (va_up h o (al n (fl a k v))) nx) (fun k hk ih => ?_) 0 (Nat.zero_le _)
  refine aw_iload_n dJ7_fill_d0a16_6 rfl ?_
  refine aw_iload dJ7_fill_d0a16_7 rfl ?_
  refine aw_icmp_ge (tgt := 22) dJ7_fill_d0a16_9 rfl (by omega) (fun c7 => ?_) (fun c7 => ?_)
  · obtain rfl : k = n := by omega
    rw [hh]
    exact aw_return dJ7_fill_d0a16_22 rfl ⟨Nat.le_refl _, Nat.le_refl _⟩ hQ
  · refine aw_aload_n dJ7_fill_d0a16_12 rfl ?_
    refine aw_iload_n dJ7_fill_d0a16_13 rfl ?_
    refine aw_lload_n dJ7_fill_d0a16_14 rfl ?_
    refine aw_last dJ7_fill_d0a16_15 (hat_up he) (by omega) hn (by rw [up_up, uz_fl]) ?_
    refine aw_iinc (ls' := [some (rf Γ o), some _, none, some _, some _]) dJ7_fill_d0a16_16 rfl (by decide) rfl ?_
    refine aw_goto (tgt := 6) dJ7_fill_d0a16_19 rfl ?_
    exact ih (by omega)
theorem c_fill_d {Γ : GT} {h h' : Nat → AC} {nx d o n : Nat} {Q : QT} {a : Int → Int} {v : UInt64} (he : hat h nx o (ad n a)) (hn : n < 2147483648) (hh : va_up h o (ad n (fl a n v.toInt64.toInt)) = h') (hQ : Q none h' nx) : AM Γ MJ7_fill_7f8df (d, 0, 0) [rf Γ o, .double v] h nx Q := by
  refine am_of (by decide) (Nat.le_of_ble_eq_true rfl) (ls := [some (rf Γ o), some _, none, none, none]) rfl ?_
  refine aw_iconst dJ7_fill_7f8df_0 ?_
  refine aw_istore_n (ls' := [some (rf Γ o), some _, none, some _, none]) dJ7_fill_7f8df_1 (by decide) rfl ?_
  refine aw_aload_n dJ7_fill_7f8df_2 rfl ?_
  refine aw_alen dJ7_fill_7f8df_3 he rfl ?_
  refine aw_istore (ls' := [some (rf Γ o), some _, none, some _, some _]) dJ7_fill_7f8df_4 (by decide) rfl ?_
  have e0 : h = va_up h o (ad n (fl a 0 v.toInt64.toInt)) := by rw [fl_0]; exact (up_id he.2).symm
  rw [e0]
  refine loopN n (P := fun k => AW Γ MJ7_fill_7f8df _ _ (0, 0) 6 [some (rf Γ o), some (.double v), none, some (vi (k : Int)), some (vi (n : Int))] [] (va_up h o (ad n (fl a k v.toInt64.toInt))) nx) (fun k hk ih => ?_) 0 (Nat.zero_le _)
  refine aw_iload_n dJ7_fill_7f8df_6 rfl ?_
  refine aw_iload dJ7_fill_7f8df_7 rfl ?_
  refine aw_icmp_ge (tgt := 22) dJ7_fill_7f8df_9 rfl (by omega) (fun c7 => ?_) (fun c7 => ?_)
  · obtain rfl : k = n := by omega
    rw [hh]
    exact aw_return dJ7_fill_7f8df_22 rfl ⟨Nat.le_refl _, Nat.le_refl _⟩ hQ
  · refine aw_aload_n dJ7_fill_7f8df_12 rfl ?_
    refine aw_iload_n dJ7_fill_7f8df_13 rfl ?_
    refine aw_dload_n dJ7_fill_7f8df_14 rfl ?_
    refine aw_dast dJ7_fill_7f8df_15 (hat_up he) (by omega) hn (by rw [up_up, uz_fl]) ?_
    refine aw_iinc (ls' := [some (rf Γ o), some _, none, some _, some _]) dJ7_fill_7f8df_16 rfl (by decide) rfl ?_
    refine aw_goto (tgt := 6) dJ7_fill_7f8df_19 rfl ?_
    exact ih (by omega)


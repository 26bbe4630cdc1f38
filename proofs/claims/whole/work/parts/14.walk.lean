/-! small helps of the walks -/
theorem loopN {P : Nat → Prop} (N : Nat) (st : ∀ k, k ≤ N → (k < N → P (k + 1)) → P k) : ∀ k, k ≤ N → P k := by
  intro k hk
  obtain ⟨d, hd⟩ : ∃ d, d = N - k := ⟨_, rfl⟩
  induction d generalizing k with
  | zero => exact st k hk (fun h => absurd h (by omega))
  | succ d ih => exact st k hk (fun h => ih (k + 1) (by omega) (by omega))
def mask : List (Option Value) → List Bool → List (Option Value)
  | [], _ => []
  | o :: l, [] => o :: l
  | o :: l, true :: k => o :: mask l k
  | _ :: l, false :: k => none :: mask l k
theorem mask_at : ∀ (l : List (Option Value)) (k : List Bool) (i : Nat) (v : Value), (mask l k)[i]? = some (some v) → l[i]? = some (some v)
  | [], _, i, v, h => by simp [mask] at h
  | o :: l, [], i, v, h => by simpa [mask] using h
  | o :: l, true :: k, 0, v, h => by simpa [mask] using h
  | o :: l, true :: k, i + 1, v, h => by
    have h' : (mask l k)[i]? = some (some v) := by simpa [mask] using h
    simpa using mask_at l k i v h'
  | o :: l, false :: k, 0, v, h => by simp [mask] at h
  | o :: l, false :: k, i + 1, v, h => by
    have h' : (mask l k)[i]? = some (some v) := by simpa [mask] using h
    simpa using mask_at l k i v h'
theorem LV.fg {n : Nat} {lsa : Array Slot} {ls : List (Option Value)} (h : LV n lsa ls) (k : List Bool) : LV n lsa (mask ls k) := by
  refine ⟨h.1, h.2.1, fun q hq => h.2.2 q ?_⟩
  obtain ⟨j, w⟩ := q
  have h1 := ((la_mem _ 0 j w).mp hq).2
  exact (la_mem ls 0 j w).mpr ⟨Nat.zero_le _, mask_at ls k j w h1⟩
section AWM
variable {Γ : GT} {M : MD} {R : Room} {Φ : PH} {kn : Nat × Nat} {pc : Nat} {ls : List (Option Value)} {st : List Value} {h : Nat → AC} {nx : Nat}
theorem aw_fg (ks : List Bool) {ls' : List (Option Value)} (e : mask ls ks = ls') (k : AW Γ M R Φ kn pc ls' st h nx) : AW Γ M R Φ kn pc ls st h nx := fun p e' s m args below meth c H locs lsa C hS hH hL => k p e' s m args below meth c H locs lsa C hS hH (e ▸ hL.fg ks)
theorem aw_nmI {a : Int} (k : ∀ x, x = a → AW Γ M R Φ kn pc ls (vi x :: st) h nx) : AW Γ M R Φ kn pc ls (vi a :: st) h nx := k a rfl
theorem aw_nmL {a : Int} (k : ∀ x, x = a → AW Γ M R Φ kn pc ls (vl x :: st) h nx) : AW Γ M R Φ kn pc ls (vl a :: st) h nx := k a rfl
theorem aw_nmD {a : UInt64} (k : ∀ x, x = a → AW Γ M R Φ kn pc ls (.double x :: st) h nx) : AW Γ M R Φ kn pc ls (.double a :: st) h nx := k a rfl
theorem aw_nmi {a : Int32} (k : ∀ x : Int, inI x → x = a.toInt → AW Γ M R Φ kn pc ls (vi x :: st) h nx) : AW Γ M R Φ kn pc ls (.int a :: st) h nx := by
  have e : vi a.toInt = Value.int a := congrArg Value.int (I_of a)
  exact e ▸ k a.toInt (inI_of a) rfl
theorem aw_ialdr {n o : Nat} {a : Int → Int} {i : Int} (hd : decode M.2.1 pc = .ok (.iaload, 1)) (he : hat h nx o (ai n a)) (hi : 0 ≤ i ∧ i < (n : Int)) (hn : n < 2147483648) (hr : ∀ i, inI (a i)) (kk : inI (a i) → AW Γ M R Φ kn (pc + 1) ls (vi (a i) :: st) h nx) : AW Γ M R Φ kn pc ls (vi i :: rf Γ o :: st) h nx := aw_iald hd he hi hn (kk (hr i))
theorem aw_laldr {n o : Nat} {a : Int → Int} {i : Int} (hd : decode M.2.1 pc = .ok (.laload, 1)) (he : hat h nx o (al n a)) (hi : 0 ≤ i ∧ i < (n : Int)) (hn : n < 2147483648) (hr : ∀ i, inL (a i)) (kk : inL (a i) → AW Γ M R Φ kn (pc + 1) ls (vl (a i) :: st) h nx) : AW Γ M R Φ kn pc ls (vi i :: rf Γ o :: st) h nx := aw_lald hd he hi hn (kk (hr i))
theorem aw_zreturn {Q : QT} {ρ : RM} {kn : Nat × Nat} {a : Int} (hd : decode M.2.1 pc = .ok (.ireturn, 1)) (ht : M.2.2.2 = some .boolean) (ha : a = 0 ∨ a = 1) (hk : kn.1 ≤ ρ.2.1 ∧ kn.2 ≤ ρ.2.2) (hq : Q (some (vi a)) h nx) : AW Γ M R (MF Γ Q ρ) kn pc ls [vi a] h nx :=
  aw_ireturn hd ht (by rcases ha with rfl | rfl <;> rfl) hk hq
theorem aw_sT {i : Nat} {j : Nat} {v : Value} (hz : ∀ s, GG Γ s → va_Z "QuotaLicences" (["TOLD_LEAST", "TOLD_MOST", "LOGGED"].getD i "") "[I" v (gF Γ) s s.heap) (hl : Cond.fieldLink M.1.cls j "QuotaLicences" (["TOLD_LEAST", "TOLD_MOST", "LOGGED"].getD i "") "[I" ∈ WL ∨ Cond.fieldLinkNest M.1.cls j "QuotaLicences" (["TOLD_LEAST", "TOLD_MOST", "LOGGED"].getD i "") "[I" "QuotaLicences" ∈ NW) (hd : decode M.2.1 pc = .ok (.getstatic j, 3)) (k : AW Γ M R Φ kn (pc + 3) ls (v :: st) h nx) : AW Γ M R Φ kn pc ls st h nx :=
  aw_gets0 (i := 0) (fun _ => hz) hl hd k
end AWM
theorem gz0 {Γ : GT} (s : State) (h : GG Γ s) : va_Z "QuotaLicences" "TOLD_LEAST" "[I" (.ref (gS Γ 0)) (gF Γ) s s.heap := h.2.2.1.2.2.2.1.1
theorem gz1 {Γ : GT} (s : State) (h : GG Γ s) : va_Z "QuotaLicences" "TOLD_MOST" "[I" (.ref (gS Γ 1)) (gF Γ) s s.heap := h.2.2.1.2.2.2.2.1.1
theorem gz2 {Γ : GT} (s : State) (h : GG Γ s) : va_Z "QuotaLicences" "LOGGED" "[I" (.ref (gS Γ 2)) (gF Γ) s s.heap := h.2.2.1.2.2.2.2.2.1.1
theorem gt0 {Γ : GT} (s : State) (h : GG Γ s) : va_T .int (gS Γ 0) 6 (fun j => vi (([0, 1, 1, 0, 0, 1] : List Int).getD j 0)) (gF Γ) s s.heap := h.2.2.1.2.2.2.1.2
theorem gt1 {Γ : GT} (s : State) (h : GG Γ s) : va_T .int (gS Γ 1) 6 (fun j => vi (([100, 99999, 90, 100, 2000, 3] : List Int).getD j 0)) (gF Γ) s s.heap := h.2.2.1.2.2.2.2.1.2
theorem gt2 {Γ : GT} (s : State) (h : GG Γ s) : va_T .int (gS Γ 2) 5 (fun j => vi (([1, 2, 4, 5, 6] : List Int).getD j 0)) (gF Γ) s s.heap := h.2.2.1.2.2.2.2.2.1.2
def Rg (S : St) : Prop := ∀ f : Nat, f ≠ 23 → ∀ i : Int, inI (S f i)

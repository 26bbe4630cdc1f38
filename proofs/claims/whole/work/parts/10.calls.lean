/-- the stack behind a call -/
def ret' (r : Option Value) (st : List Value) : List Value := match r with
  | none => st
  | some v => v :: st
theorem ret_eq (r : Option Value) (st : List Value) : ret' r st = r.toList ++ st := by cases r <;> rfl
theorem rmR (d c s : Nat) : d + 1 ≤ (rmm (d + 1, c, s)).frames ∧ 48 * d + 48 ≤ (rmm (d + 1, c, s)).locals := ⟨Nat.le_refl _, by show 48 * d + 48 ≤ 48 * (d + 1); omega⟩
section AWC
variable {Γ : GT} {M M' : MD} {R : Room} {Φ : PH} {kn kn' : Nat × Nat} {pc : Nat} {ls : List (Option Value)} {st : List Value} {h : Nat → AC} {nx : Nat}
theorem gCB {s : State} {args : Array Value} {ρ : RM} {own : String} {j n : Nat} (B : CB M' n) (hts : ∀ w ∈ WL, w.before args s = true) (hR : ρ.1 + 1 ≤ R.frames ∧ 48 * ρ.1 + 48 ≤ R.locals) (hl : Cond.methodLink own j M'.1 ∈ WL) : CallB R s args own j M'.1 M'.2.1 M'.2.2.1 M'.2.2.2 (wsM M') (rmm ρ) ρ.2.1 ρ.2.2 n := by
  obtain ⟨b1, b2, b3, b4, b5⟩ := B
  refine callB_of n hts (fun w hw => ?_) rfl rfl rfl (hts _ b1) (hts _ hl) ⟨b3.1, b3.2, b4⟩ ⟨hR.1, ?_⟩
  · rcases List.mem_cons.mp hw with rfl | hw
    · exact ⟨b2, wl_ok _ b2⟩
    · exact ⟨hw, wl_ok _ hw⟩
  · show 8 + (M'.2.2.1 + 11) + 48 * ρ.1 ≤ R.locals
    omega
theorem gCN {s : State} {args : Array Value} {ρ : RM} {own host : String} {j n : Nat} (B : CB M' n) (hts : ∀ w ∈ WL, w.before args s = true) (hR : ρ.1 + 1 ≤ R.frames ∧ 48 * ρ.1 + 48 ≤ R.locals) (hl : va_Nw (.methodLinkNest own j M'.1 host) s) : va_CN R s args own j M'.1 host M'.2.1 M'.2.2.1 M'.2.2.2 (wsM M') (rmm ρ) ρ.2.1 ρ.2.2 n := by
  obtain ⟨b1, b2, b3, b4, b5⟩ := B
  refine va_cnB n hts (fun w hw => ?_) rfl rfl rfl hl (hts _ b1) ⟨b3.1, b3.2, b4⟩ ⟨hR.1, ?_⟩
  · rcases List.mem_cons.mp hw with rfl | hw
    · exact ⟨b2, wl_ok _ b2⟩
    · exact ⟨hw, wl_ok _ hw⟩
  · show 8 + (M'.2.2.1 + 11) + 48 * ρ.1 ≤ R.locals
    omega
/-- behind a call -/
theorem gRun {p : Program} {e : Env} {s : State} {m : MethodId} {args a : Array Value} {below : List Frame} {meth : Method} {c : Code} {H : Heap} {locs : List Loc} {lsa : Array Slot} {st0 : List Value} {mc ms : Nat} (C : CX Γ M p s m args meth c) (hS : va_S (gF Γ) s.heap H locs) (hL : LV M.2.2.1 lsa ls)
    (hr : va_Run p (gL Γ) e R s m args below meth c H locs kn.1 kn.2 mc ms (F0 m pc lsa st0) st (Qcx Γ (fun r h' nx' => AW Γ M R Φ (kn.1 + mc, kn.2 + ms) (pc + 3) ls (ret' r st) h' nx') a) (gF Γ)) : W p (gL Γ) e R s m args below meth c H locs kn.1 kn.2 (Φ s args below) (F0 m pc lsa st0) := by
  intro T hT X
  obtain ⟨v, st₀, t, T', L, h0, X', hLo, e1, e2, ⟨r, h', nx', hv, hQ, hH', hz, hk⟩, go⟩ := hr T hT X
  cases hv
  rw [ret_eq] at hQ
  obtain ⟨t2, a1, b1⟩ := hQ p e s m args below meth c t.heap (locs ++ L) lsa C ⟨Nat.le_trans hS.1 (by rw [← h0]; exact hz), fun q h1 h2 => by rw [hk q (Nat.not_le.mp h2), h0]; exact hS.2.1 q h1 h2, fun q hq => (List.mem_append.mp hq).elim (hS.2.2 q) (hLo q)⟩ hH' hL T' e1 X'
  exact ⟨t2, go t2 a1, b1⟩
theorem aw_callV {j n o ci : Nat} {As st0 fs : List Value} {ρ : RM} {q : vw_C} (B : CV M.1.cls j M' n) (hd : decode M.2.1 pc = .ok (.invokevirtual j, 3)) (hs : st0 = As.reverse ++ rf Γ o :: st) (hn : As.length = n) (hr : hat h nx o (ob ci fs)) (hc : vwCl[ci]? = some q) (hq : q.1 = M'.1.cls) (hW : (st.map fun v => v.category).sum ≤ 8) (hR : ρ.1 + 1 ≤ R.frames ∧ 48 * ρ.1 + 48 ≤ R.locals) (hf : kn.1 + ρ.2.1 ≤ R.cells ∧ kn.2 + ρ.2.2 ≤ R.slots) (hk : kn' = (kn.1 + ρ.2.1, kn.2 + ρ.2.2))
    (k : AM Γ M' ρ (rf Γ o :: As) h nx (fun r h' nx' => AW Γ M R Φ kn' (pc + 3) ls (ret' r st) h' nx')) : AW Γ M R Φ kn pc ls st0 h nx := by
  intro p e s m args below meth c H locs lsa C hS hH hL
  subst hs; subst hk
  have hts := C.2.2.2.2.2.2.2.1
  have hG := C.2.2.2.2.2.2.2.2
  refine gRun C hS hL (va_runV (nL := M.2.2.1) (Ts := WL) (own := M.1.cls) (C := M'.1.cls) ⟨C.1, C.2.1, C.2.2.2.2.1, C.2.2.2.2.2.1, hts⟩ k ⟨gCB B.1 hts hR B.2.2.2, hts _ B.2.1, hts _ B.2.2.1⟩ ⟨gdP, ?_, fun U hU hW => gdU hG hS hH hU hW⟩ rfl hn hL.1 rfl (by show 2 * 0 + _ ≤ 8; omega) hd hf)
  have := va_recv hG.1 (hH.P hr.1 hr.2) hc (q0 := 0) (ci := ci) rfl
  rw [← hq]
  exact this
theorem aw_callS {j n : Nat} {As st0 : List Value} {ρ : RM} (B : CS M.1.cls j M' n) (hd : decode M.2.1 pc = .ok (.invokestatic j, 3)) (hs : st0 = As.reverse ++ st) (hn : As.length = n) (hW : (st.map fun v => v.category).sum ≤ 8) (hR : ρ.1 + 1 ≤ R.frames ∧ 48 * ρ.1 + 48 ≤ R.locals) (hf : kn.1 + ρ.2.1 ≤ R.cells ∧ kn.2 + ρ.2.2 ≤ R.slots) (hk : kn' = (kn.1 + ρ.2.1, kn.2 + ρ.2.2))
    (k : AM Γ M' ρ As h nx (fun r h' nx' => AW Γ M R Φ kn' (pc + 3) ls (ret' r st) h' nx')) : AW Γ M R Φ kn pc ls st0 h nx := by
  intro p e s m args below meth c H locs lsa C hS hH hL
  subst hs; subst hk
  have hts := C.2.2.2.2.2.2.2.1
  have hG := C.2.2.2.2.2.2.2.2
  exact gRun C hS hL (va_runS (nL := M.2.2.1) (Ts := WL) (own := M.1.cls) ⟨C.1, C.2.1, C.2.2.2.2.1, C.2.2.2.2.2.1, hts⟩ k ⟨gCB B.1 hts hR B.2.2, hts _ B.2.1⟩ ⟨gdP, fun U hU hW => gdU hG hS hH hU hW⟩ rfl hn hL.1 rfl (by show 2 * 0 + _ ≤ 8; omega) hd hf)
theorem aw_callSN {j n : Nat} {As st0 : List Value} {ρ : RM} (B : CSN M.1.cls j M' n) (hd : decode M.2.1 pc = .ok (.invokestatic j, 3)) (hs : st0 = As.reverse ++ st) (hn : As.length = n) (hW : (st.map fun v => v.category).sum ≤ 8) (hR : ρ.1 + 1 ≤ R.frames ∧ 48 * ρ.1 + 48 ≤ R.locals) (hf : kn.1 + ρ.2.1 ≤ R.cells ∧ kn.2 + ρ.2.2 ≤ R.slots) (hk : kn' = (kn.1 + ρ.2.1, kn.2 + ρ.2.2))
    (k : AM Γ M' ρ As h nx (fun r h' nx' => AW Γ M R Φ kn' (pc + 3) ls (ret' r st) h' nx')) : AW Γ M R Φ kn pc ls st0 h nx := by
  intro p e s m args below meth c H locs lsa C hS hH hL
  subst hs; subst hk
  have hts := C.2.2.2.2.2.2.2.1
  have hG := C.2.2.2.2.2.2.2.2
  obtain ⟨host, hh⟩ := B.2.2
  exact gRun C hS hL (va_runSN (nL := M.2.2.1) (Ts := WL) (own := M.1.cls) ⟨C.1, C.2.1, C.2.2.2.2.1, C.2.2.2.2.2.1, hts⟩ k ⟨gCN B.1 hts hR (hG.2.1 _ hh), hts _ B.2.1, trivial⟩ ⟨gdP, fun U hU hW => gdU hG hS hH hU hW⟩ rfl hn hL.1 rfl (by show 2 * 0 + _ ≤ 8; omega) hd hf)
theorem aw_callI {j n o : Nat} {As st0 : List Value} {ρ : RM} (B : CI M.1.cls j M' n) (hd : decode M.2.1 pc = .ok (.invokespecial j, 3)) (hs : st0 = As.reverse ++ rf Γ o :: st) (hn : As.length = n) (hW : (st.map fun v => v.category).sum ≤ 8) (hR : ρ.1 + 1 ≤ R.frames ∧ 48 * ρ.1 + 48 ≤ R.locals) (hf : kn.1 + ρ.2.1 ≤ R.cells ∧ kn.2 + ρ.2.2 ≤ R.slots) (hk : kn' = (kn.1 + ρ.2.1, kn.2 + ρ.2.2))
    (k : AM Γ M' ρ (rf Γ o :: As) h nx (fun r h' nx' => AW Γ M R Φ kn' (pc + 3) ls (ret' r st) h' nx')) : AW Γ M R Φ kn pc ls st0 h nx := by
  intro p e s m args below meth c H locs lsa C hS hH hL
  subst hs; subst hk
  have hts := C.2.2.2.2.2.2.2.1
  have hG := C.2.2.2.2.2.2.2.2
  have hcb := gCB (R := R) (own := M.1.cls) (j := j) B.1 hts hR B.2.2.2.1
  rw [B.2.2.2.2] at hcb
  exact gRun C hS hL (va_runI (nL := M.2.2.1) (Ts := WL) (own := M.1.cls) ⟨C.1, C.2.1, C.2.2.2.2.1, C.2.2.2.2.2.1, hts⟩ k ⟨hcb, B.2.2.1, hts _ B.2.1⟩ ⟨gdP, fun U hU hW => gdU hG hS hH hU hW⟩ rfl hn hL.1 rfl (by show 2 * 0 + _ ≤ 8; omega) hd hf)
theorem aw_callIN {j n o : Nat} {As st0 : List Value} {ρ : RM} (B : CIN M.1.cls j M' n) (hd : decode M.2.1 pc = .ok (.invokespecial j, 3)) (hs : st0 = As.reverse ++ rf Γ o :: st) (hn : As.length = n) (hW : (st.map fun v => v.category).sum ≤ 8) (hR : ρ.1 + 1 ≤ R.frames ∧ 48 * ρ.1 + 48 ≤ R.locals) (hf : kn.1 + ρ.2.1 ≤ R.cells ∧ kn.2 + ρ.2.2 ≤ R.slots) (hk : kn' = (kn.1 + ρ.2.1, kn.2 + ρ.2.2))
    (k : AM Γ M' ρ (rf Γ o :: As) h nx (fun r h' nx' => AW Γ M R Φ kn' (pc + 3) ls (ret' r st) h' nx')) : AW Γ M R Φ kn pc ls st0 h nx := by
  intro p e s m args below meth c H locs lsa C hS hH hL
  subst hs; subst hk
  have hts := C.2.2.2.2.2.2.2.1
  have hG := C.2.2.2.2.2.2.2.2
  obtain ⟨host, hh⟩ := B.2.2.2.2
  have hcb := gCN (R := R) (own := M.1.cls) (host := host) (j := j) B.1 hts hR (hG.2.1 _ hh)
  rw [B.2.2.2.1] at hcb
  exact gRun C hS hL (va_runIN (nL := M.2.2.1) (Ts := WL) (own := M.1.cls) ⟨C.1, C.2.1, C.2.2.2.2.1, C.2.2.2.2.2.1, hts⟩ k ⟨hcb, B.2.2.1, hts _ B.2.1⟩ ⟨gdP, fun U hU hW => gdU hG hS hH hU hW⟩ rfl hn hL.1 rfl (by show 2 * 0 + _ ≤ 8; omega) hd hf)
theorem aw_objInit {j o : Nat} (hl : Cond.methodLink M.1.cls j objectInit ∈ WL) (hi : Cond.instanceMethod objectInit ∈ WL) (hc : Cond.code objectInit ⟨#[0xb1]⟩ 1 none ∈ WL) (hd : decode M.2.1 pc = .ok (.invokespecial j, 3)) (hR : 1 ≤ R.frames ∧ (st.map fun v => v.category).sum + 12 ≤ R.locals) (k : AW Γ M R Φ kn (pc + 3) ls st h nx) : AW Γ M R Φ kn pc ls (rf Γ o :: st) h nx := by
  intro p e s m args below meth c H locs lsa C hS hH hL
  have hts := C.2.2.2.2.2.2.2.1
  exact W.objInit C.1 C.2.1 C.2.2.2.2.2.1 (hts _ hl) (hts _ hi) (hts _ hc) rfl (by rw [C.2.2.2.2.1]; exact hL.1) rfl hd hR.1 (by show 2 * 0 + _ + 12 ≤ _; omega) (k p e s m args below meth c H locs lsa C hS hH hL)
/-! static arrays, String constants -/
theorem aw_gets0 {i j : Nat} {nm : String} {v : Value} (hz : GG Γ = GG Γ → ∀ s, GG Γ s → va_Z "QuotaLicences" nm "[I" v (gF Γ) s s.heap) (hl : Cond.fieldLink M.1.cls j "QuotaLicences" nm "[I" ∈ WL ∨ Cond.fieldLinkNest M.1.cls j "QuotaLicences" nm "[I" "QuotaLicences" ∈ NW) (hd : decode M.2.1 pc = .ok (.getstatic j, 3)) (k : AW Γ M R Φ kn (pc + 3) ls (v :: st) h nx) : AW Γ M R Φ kn pc ls st h nx := by
  intro p e s m args below meth c H locs lsa C hS hH hL
  have hts := C.2.2.2.2.2.2.2.1
  have hG := C.2.2.2.2.2.2.2.2
  rcases hl with hl | hl
  · exact va_gets C.1 C.2.1 (hz rfl s hG) hS C.2.2.2.2.2.1 (hts _ hl) (fun _ q => q) hd (k p e s m args below meth c H locs lsa C hS hH hL)
  · exact va_getsN C.1 C.2.1 (hz rfl s hG) hS C.2.2.2.2.2.1 (va_Nw.use rfl (hG.2.1 _ hl)) (fun _ q => q) hd (k p e s m args below meth c H locs lsa C hS hH hL)
theorem aw_tald0 {t n : Nat} {f : Nat → Value} {i : Int} {v : Value} (hz : ∀ s, GG Γ s → va_T .int t n f (gF Γ) s s.heap) (hi : 0 ≤ i ∧ i < (n : Int)) (hn : n < 2147483648) (hv : f i.toNat = v) (hd : decode M.2.1 pc = .ok (.iaload, 1)) (k : AW Γ M R Φ kn (pc + 1) ls (v :: st) h nx) : AW Γ M R Φ kn pc ls (vi i :: .ref t :: st) h nx := by
  intro p e s m args below meth c H locs lsa C hS hH hL
  have hG := C.2.2.2.2.2.2.2.2
  exact va_ti C.1 C.2.1 (hz s hG) hS (I_in hi.1 hi.2 hn) (by rw [I_clamp hi.1 ⟨by omega, by omega⟩]; exact hv) hd (k p e s m args below meth c H locs lsa C hS hH hL)
end AWC

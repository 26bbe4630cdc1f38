/-! THE CLAIM OUT OF ONE WALK OF THE LAW'S BODY. Your part is whole_start (and what it stands on); all else here is the same for every law, but numbers. -/
def R_law : String := "QuotaLicencesLaw"
def lw_P (b : Addr) (xs : List Int32) (args : Array Value) (s : State) : Prop := args = #[.ref b] ∧ s.IntsAt b xs ∧ xs.length ≤ 3072 ∧ (Jvm.Cond.and given_1 narrow_1).before args s = true
/-- what a walk over the start with the record d0 says of its end, said of the start itself -/
theorem lw_closed {s t : State} {o : Outcome} {d0 : Drawn} {L : List Loc} {k n : Nat} (hd0 : s.drawn.sameBut d0 lw_cs) (hv : ∃ v, o = .returned v) (hW : (s.setDrawn d0).WarmedH t.vm) (hs : (s.setDrawn d0).sameButNew ({ t with vm := s.vm } : State) L k n) : State.butDraws s t lw_cs (fun t1 => Framed s o t1 L k n) := by
  have h2 : t.drawn = d0 := congrArg State.drawn hs.1
  refine ⟨⟨hv, hW, State.sameButNew.setDrawn hs s.drawn⟩, ?_, by decide⟩
  rw [h2]
  exact hd0
def lw_Q (_ : Array Value) (s : State) (o : Outcome) (t : State) : Prop := o = .returned (some (.int 1)) ∧ State.butDraws s t lw_cs (fun t1 => Framed s o t1 [] 600000 7302250)
def lw_Z (below : List Frame) (a : Array Value) (s : State) : State → Prop := fun t => ∃ o, t.status = .running ∧ Ended t below o ∧ lw_Q a s o t
/-- the law's own end, with 1 on the stack, nothing written that was there before, its room as the claim has it; d0: the record of draws at this point (at the entry s.drawn: begin with 'refine W.base ?_' and 'have hd0 := Drawn.sameBut.refl s.drawn lw_cs') -/
theorem lw_ret {p : Program} {l : Launch} {e : Env} {s : State} {m : MethodId} {below : List Frame} {meth : Method} {c : Code} {b : Nat} {d0 : Drawn} (hd0 : s.drawn.sameBut d0 lw_cs) (hx : p.tables.exec = Jvm.exec) (hb : c.code = code) (hr : meth.sig.returnType = ret) (hlocks : meth.locks = false) {pc : Nat} {H : Heap} {ls : Array Slot} (hdg : decode code pc = .ok (.ireturn, 1)) : W p l e room_1 (s.setDrawn d0) m #[Value.ref b] below meth c H [] 600000 7302250 (lw_Z below #[Value.ref b] s) (F0 m pc ls [.int 1]) := by
  intro T hT X
  obtain ⟨fs, hret, hrun, hended, hW, hframe⟩ := X.leave (v := some (.int 1)) (hlocks := hlocks) (fun h => by rw [hr] at h; cases h)
  have hmeth' : T.vm.method? m = some meth := X.method'
  refine ⟨T.setFrames fs, ?_, .returned (some (.int 1)), hrun, hended, rfl, lw_closed hd0 ⟨_, rfl⟩ hW hframe⟩
  jvm_step X.here [X.here.top, hx, hb, hdg, hmeth', hr, ret, narrow_b1]
  (try refine ⟨rfl, ?_⟩); (try refine ⟨rfl, ?_⟩)
  first | (intro acts; rw [hret _ acts rfl rfl rfl]) | rw [hret _ _ rfl rfl rfl]
  exact Steps.refl _
/-- what holds at the law's entry: the machine, the code, the tables' words (any of lw_tbl by 'hts w (by decide +kernel)'), the script of L ints xs at the cell b, what the Statement gives of the start (any of its parts by flat_of_before) -/
def lw_At (p : Program) (s : State) (m : MethodId) (meth : Method) (c : Code) (b L : Nat) (xs : Nat → Int32) : Prop :=
  p.tables.exec = Jvm.exec ∧ c.code = code ∧ meth.sig.returnType = ret ∧ c.maxLocals = 4 ∧ s.vm.findClass R_law = some m.cls ∧ (∀ w ∈ lw_tbl, w.before #[Value.ref b] s = true) ∧ va_X b L xs s s.heap ∧ b < s.heap.size ∧ meth.locks = false ∧ (Jvm.Cond.and given_1 narrow_1).before #[Value.ref b] s = true
/-! the law's walk -/
abbrev MLw (nm : String) : MD := ((⟨RL, nm, "([I)Z"⟩ : MethodName), cL_law, 4, ret)
/-- the script lies below all that is written -/
def SXp (Γ : GT) (b L : Nat) (xs : Nat → Int) (s : State) : Prop := b < gB Γ ∧ gB Γ = s.heap.size ∧ va_X b L (fun j => I (xs j)) s s.heap
/-- what the end of the law says, of a start with any record of draws -/
def PL (Γ : GT) (b L : Nat) (xs : Nat → Int) : PH := fun s args below t => SXp Γ b L xs s → args = #[Value.ref b] → ∃ o, t.status = .running ∧ Ended t below o ∧ ∀ (s0 : State) (d0 : Drawn), s = s0.setDrawn d0 → s0.drawn.sameBut d0 lw_cs → lw_Q args s0 o t
section LAW
variable {Γ : GT} {M : MD} {R : Room} {kn : Nat × Nat} {pc : Nat} {ls : List (Option Value)} {st : List Value} {h : Nat → AC} {nx b L : Nat} {xs : Nat → Int} {Φ : PH}
theorem aw_sx (k : ∀ (p : Program) (e : Env) (s : State) (m : MethodId) (args : Array Value) (below : List Frame) (meth : Method) (c : Code) (H : Heap) (locs : List Loc) (lsa : Array Slot), SXp Γ b L xs s → args = #[Value.ref b] → CX Γ M p s m args meth c → va_S (gF Γ) s.heap H locs → Hp Γ h nx H → LV M.2.2.1 lsa ls → W p (gL Γ) e R s m args below meth c H locs kn.1 kn.2 (PL Γ b L xs s args below) (F0 m pc lsa st)) : AW Γ M R (PL Γ b L xs) kn pc ls st h nx := by
  intro p e s m args below meth c H locs lsa C hS hH hL
  by_cases q : SXp Γ b L xs s ∧ args = #[Value.ref b]
  · exact k p e s m args below meth c H locs lsa q.1 q.2 C hS hH hL
  · intro T hT X
    exact ⟨T.setTop (F0 m pc lsa st), Steps.refl _, fun h1 h2 => absurd ⟨h1, h2⟩ q⟩
theorem aw_slen (hd : decode M.2.1 pc = .ok (.arraylength, 1)) (k : AW Γ M R (PL Γ b L xs) kn (pc + 1) ls (vi (L : Int) :: st) h nx) : AW Γ M R (PL Γ b L xs) kn pc ls (.ref b :: st) h nx := by
  refine aw_sx (fun p e s m args below meth c H locs lsa hx ha C hS hH hL => ?_)
  refine va_slen C.1 C.2.1 hx.2.2 (by rw [← hx.2.1]; exact hx.1) (Nat.not_le.mpr hx.1) hS hd ?_
  rw [show Int32.ofNat L = I (L : Int) from (Int32.ofInt_eq_ofNat).symm]
  exact k p e s m args below meth c H locs lsa C hS hH hL
theorem aw_sld {i : Int} (hd : decode M.2.1 pc = .ok (.iaload, 1)) (hi : 0 ≤ i ∧ i < (L : Int)) (hn : L < 2147483648) (k : AW Γ M R (PL Γ b L xs) kn (pc + 1) ls (vi (xs i.toNat) :: st) h nx) : AW Γ M R (PL Γ b L xs) kn pc ls (vi i :: .ref b :: st) h nx := by
  refine aw_sx (fun p e s m args below meth c H locs lsa hx ha C hS hH hL => ?_)
  refine va_sld C.1 C.2.1 hx.2.2 (by rw [← hx.2.1]; exact hx.1) (Nat.not_le.mpr hx.1) hS (I_in hi.1 hi.2 hn) hd ?_
  rw [I_clamp hi.1 ⟨by omega, by omega⟩]
  exact k p e s m args below meth c H locs lsa C hS hH hL
theorem aw_same_i {x : Int32} {off : Int} {tgt : Nat} (hd : decode M.2.1 pc = .ok (.if_icmp .eq off, 3)) (ht : (pc : Int) + off = (tgt : Int)) (k : AW Γ M R Φ kn tgt ls st h nx) : AW Γ M R Φ kn pc ls (.int x :: .int x :: st) h nx := by
  have e : x = I x.toInt := (I_of x).symm
  rw [e]
  exact aw_icmp_eq hd ht ⟨inI_of x, inI_of x⟩ (fun _ => k) (fun z => absurd rfl z)
theorem aw_same_l {x : Int64} {off : Int} {tgt : Nat} (hd0 : decode M.2.1 pc = .ok (.lcmp, 1)) (hd : decode M.2.1 (pc + 1) = .ok (.ifCond .eq off, 3)) (ht : ((pc + 1 : Nat) : Int) + off = (tgt : Int)) (k : AW Γ M R Φ kn tgt ls st h nx) : AW Γ M R Φ kn pc ls (.long x :: .long x :: st) h nx := by
  have e : x = Jvm.Pilot.@@N@@.L x.toInt := (L_of x).symm
  rw [e]
  exact aw_lif_eq hd0 hd ht ⟨inL_of x, inL_of x⟩ (fun _ => k) (fun z => absurd rfl z)
theorem aw_wd {kn' : Nat × Nat} (h1 : kn.1 ≤ kn'.1 ∧ kn.2 ≤ kn'.2) (k : AW Γ M R Φ kn' pc ls st h nx) : AW Γ M R Φ kn pc ls st h nx := by
  intro p e s m args below meth c H locs lsa C hS hH hL
  exact W.widen h1.1 h1.2 (k p e s m args below meth c H locs lsa C hS hH hL)
end LAW
theorem lw_ret2 {p : Program} {l : Launch} {e : Env} {s : State} {m : MethodId} {below : List Frame} {meth : Method} {c : Code} {b : Nat} (hx : p.tables.exec = Jvm.exec) (hb : c.code = code) (hr : meth.sig.returnType = ret) (hlocks : meth.locks = false) {pc : Nat} {H : Heap} {ls : Array Slot} (hdg : decode code pc = .ok (.ireturn, 1)) : W p l e room_1 s m #[Value.ref b] below meth c H [] 600000 7302250 (fun t => ∃ o, t.status = .running ∧ Ended t below o ∧ ∀ (s0 : State) (d0 : Drawn), s = s0.setDrawn d0 → s0.drawn.sameBut d0 lw_cs → lw_Q #[Value.ref b] s0 o t) (F0 m pc ls [.int 1]) := by
  intro T hT X
  obtain ⟨fs, hret, hrun, hended, hW, hframe⟩ := X.leave (v := some (.int 1)) (hlocks := hlocks) (fun h => by rw [hr] at h; cases h)
  have hmeth' : T.vm.method? m = some meth := X.method'
  refine ⟨T.setFrames fs, ?_, .returned (some (.int 1)), hrun, hended, fun s0 d0 hs hd0 => ⟨rfl, by subst hs; exact lw_closed hd0 ⟨_, rfl⟩ hW hframe⟩⟩
  jvm_step X.here [X.here.top, hx, hb, hdg, hmeth', hr, ret, narrow_b1]
  (try refine ⟨rfl, ?_⟩); (try refine ⟨rfl, ?_⟩)
  first | (intro acts; rw [hret _ acts rfl rfl rfl]) | rw [hret _ _ rfl rfl rfl]
  exact Steps.refl _
theorem aw_lret {Γ : GT} {nm : String} {kn : Nat × Nat} {pc : Nat} {ls : List (Option Value)} {h : Nat → AC} {nx b L : Nat} {xs : Nat → Int} (hd : decode cL_law pc = .ok (.ireturn, 1)) (hk : kn.1 ≤ 600000 ∧ kn.2 ≤ 7302250) : AW Γ (MLw nm) room_1 (PL Γ b L xs) kn pc ls [vi 1] h nx := by
  refine aw_sx (fun p e s m args below meth c H locs lsa hx ha C hS hH hL => ?_)
  subst ha
  refine va_forget (fun q hq => by have := hS.2.2 q hq; rw [← hx.2.1]; exact this) (W.widen hk.1 hk.2 ?_)
  intro T hT X
  obtain ⟨t, a1, b1⟩ := lw_ret2 (b := b) C.1 C.2.1 C.2.2.1 C.2.2.2.1 hd T hT X
  exact ⟨t, a1, fun _ _ => b1⟩
/-! a draw on the way -/
theorem PL.drew {Γ : GT} {b L : Nat} {xs : Nat → Int} {s : State} {args : Array Value} {below : List Frame} {d1 : Drawn} {t : State} (hd : s.drawn.sameBut d1 lw_cs) (h : PL Γ b L xs (s.setDrawn d1) args below t) : PL Γ b L xs s args below t := by
  intro hx ha
  obtain ⟨q, h1, h2, h3⟩ := h hx ha
  refine ⟨q, h1, h2, fun s0 d0 hs hd0 => ?_⟩
  subst hs
  exact h3 s0 d1 rfl (hd0.trans hd)
theorem GG.drew {Γ : GT} {U : State} (h : GG Γ U) (d : Drawn) : GG Γ (U.setDrawn d) := by
  obtain ⟨h1, h2, h3, h4, h5⟩ := h
  exact ⟨va_K.moved (u := U) (U := U.setDrawn d) (Vm.Alike.refl U.vm) h1, fun w hw => nw_same (s := U) (U := U.setDrawn d) hw rfl (h2 w hw), h3.go (s := U) (U := U.setDrawn d) (Vm.Alike.refl U.vm) (fun i q e hr => hr.same rfl) (fun _ _ _ => rfl), h4, va_AO.moved (u := U) (U := U.setDrawn d) (Vm.Alike.refl U.vm) h5⟩
theorem CX.drew {Γ : GT} {M : MD} {p : Program} {s : State} {m : MethodId} {args : Array Value} {meth : Method} {c : Code} (C : CX Γ M p s m args meth c) (d : Drawn) : CX Γ M p (s.setDrawn d) m args meth c :=
  ⟨C.1, C.2.1, C.2.2.1, C.2.2.2.1, C.2.2.2.2.1, C.2.2.2.2.2.1, C.2.2.2.2.2.2.1, dr_words C.2.2.2.2.2.2.2.1 d, C.2.2.2.2.2.2.2.2.drew d⟩


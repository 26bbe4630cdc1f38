/-! what stays below the base: nest mates' links, String constants, static arrays -/
def NW : List Cond := [(Cond.methodLinkNest "QuotaLicences" (9 : Nat) ({ cls := "QuotaLicences$Reader", name := "<init>", desc := "()V" } : MethodName) "QuotaLicences"), (Cond.methodLinkNest "QuotaLicences$Reader" (11 : Nat) ({ cls := "QuotaLicences$Tape", name := "<init>", desc := "()V" } : MethodName) "QuotaLicences"), (Cond.methodLinkNest "QuotaLicences$Reader" (20 : Nat) ({ cls := "QuotaLicences$Scheme", name := "<init>", desc := "()V" } : MethodName) "QuotaLicences"), (Cond.methodLinkNest "QuotaLicences" (18 : Nat) ({ cls := "QuotaLicences$Spelling", name := "<init>", desc := "()V" } : MethodName) "QuotaLicences"), (Cond.methodLinkNest "QuotaLicences" (25 : Nat) ({ cls := "QuotaLicences$State", name := "<init>", desc := "()V" } : MethodName) "QuotaLicences"), (Cond.methodLinkNest "QuotaLicences$State" (11 : Nat) ({ cls := "QuotaLicences$Scheme", name := "<init>", desc := "()V" } : MethodName) "QuotaLicences"), (Cond.methodLinkNest "QuotaLicences$State" (20 : Nat) ({ cls := "QuotaLicences$Book", name := "<init>", desc := "()V" } : MethodName) "QuotaLicences"), (Cond.methodLinkNest "QuotaLicences$State" (27 : Nat) ({ cls := "QuotaLicences$Period", name := "<init>", desc := "()V" } : MethodName) "QuotaLicences"), (Cond.methodLinkNest "QuotaLicences$State" (34 : Nat) ({ cls := "QuotaLicences$Year", name := "<init>", desc := "()V" } : MethodName) "QuotaLicences"), (Cond.methodLinkNest "QuotaLicences" (32 : Nat) ({ cls := "QuotaLicences$Acts", name := "<init>", desc := "()V" } : MethodName) "QuotaLicences"), (Cond.methodLinkNest "QuotaLicences" (43 : Nat) ({ cls := "QuotaLicences$Notes", name := "<init>", desc := "()V" } : MethodName) "QuotaLicences"), (Cond.fieldLinkNest "QuotaLicences$Reader" (73 : Nat) "QuotaLicences" "TOLD_LEAST" "[I" "QuotaLicences"), (Cond.fieldLinkNest "QuotaLicences$Reader" (76 : Nat) "QuotaLicences" "TOLD_MOST" "[I" "QuotaLicences"), (Cond.methodLinkNest "QuotaLicences$Reader" (110 : Nat) ({ cls := "QuotaLicences", name := "pairOf", desc := "(II)I" } : MethodName) "QuotaLicences"), (Cond.methodLinkNest "QuotaLicences$State" (123 : Nat) ({ cls := "QuotaLicences", name := "pairOf", desc := "(II)I" } : MethodName) "QuotaLicences"), (Cond.methodLinkNest "QuotaLicences$State" (154 : Nat) ({ cls := "QuotaLicences", name := "partOfAll", desc := "(IIJ)I" } : MethodName) "QuotaLicences"), (Cond.methodLinkNest "QuotaLicences$Acts" (21 : Nat) ({ cls := "QuotaLicences$State", name := "<init>", desc := "()V" } : MethodName) "QuotaLicences"), (Cond.methodLinkNest "QuotaLicences$Period" (40 : Nat) ({ cls := "QuotaLicences", name := "logPlace", desc := "(III)I" } : MethodName) "QuotaLicences"), (Cond.fieldLinkNest "QuotaLicences$Period" (44 : Nat) "QuotaLicences" "LOGGED" "[I" "QuotaLicences"), (Cond.methodLinkNest "QuotaLicences$Spelling" (54 : Nat) ({ cls := "QuotaLicences", name := "pairOf", desc := "(II)I" } : MethodName) "QuotaLicences")]
theorem nw_warm {w : Cond} (hw : w ∈ NW) {s U : State} (hW : s.WarmedH U.vm) (h : va_Nw w s) : va_Nw w U := by
  simp only [NW, List.mem_cons, List.not_mem_nil, or_false] at hw
  rcases hw with rfl | rfl | rfl | rfl | rfl | rfl | rfl | rfl | rfl | rfl | rfl | rfl | rfl | rfl | rfl | rfl | rfl | rfl | rfl | rfl
  all_goals first | exact va_Nw.warmM hW h | exact va_Nw.warmF hW h
theorem nw_same {w : Cond} (hw : w ∈ NW) {s U : State} (e : s.vm = U.vm) (h : va_Nw w s) : va_Nw w U := by
  simp only [NW, List.mem_cons, List.not_mem_nil, or_false] at hw
  rcases hw with rfl | rfl | rfl | rfl | rfl | rfl | rfl | rfl | rfl | rfl | rfl | rfl | rfl | rfl | rfl | rfl | rfl | rfl | rfl | rfl
  all_goals exact va_Nw.same rfl e h
def SR : List (String × Nat × String) := [("QuotaLicences$Reader", 64, "scheme"), ("QuotaLicences$Reader", 87, "origin"), ("QuotaLicences$Reader", 93, "importer"), ("QuotaLicences$Reader", 98, "past"), ("QuotaLicences$Spelling", 26, "scheme"), ("QuotaLicences$Spelling", 40, ";origin"), ("QuotaLicences$Spelling", 48, ";importer"), ("QuotaLicences$Spelling", 62, ";past"), ("QuotaLicencesModel", 142, "scheme"), ("QuotaLicencesModel", 127, "origin"), ("QuotaLicencesModel", 131, "importer"), ("QuotaLicencesModel", 141, "past"), ("QuotaLicencesModel", 390, ";origin"), ("QuotaLicencesModel", 392, ";importer"), ("QuotaLicencesModel", 394, ";past")]
def sB (i : Nat) : List Int := ((SR.getD i ("", 0, "")).2.2.toList.map (fun c => (c.toNat : Int)))
def GS (Γ : GT) (U : State) : Prop :=
  (∀ i q, SR[i]? = some q → vk_R q.1 q.2.1 q.2.2 (gK Γ i) U) ∧
  (∀ i, i < SR.length → vk_S 1 [(sB i).length] [(sB i).map I] (fun _ => gK Γ i) (fun _ => gV Γ i) (gF Γ) U U.heap) ∧
  va_Z "java/lang/String" "COMPACT_STRINGS" "Z" (.int 1) (gF Γ) U U.heap ∧
  (va_Z "QuotaLicences" "TOLD_LEAST" "[I" (.ref (gS Γ 0)) (gF Γ) U U.heap ∧ va_T .int (gS Γ 0) 6 (fun j => vi (([0, 1, 1, 0, 0, 1] : List Int).getD j 0)) (gF Γ) U U.heap) ∧
  (va_Z "QuotaLicences" "TOLD_MOST" "[I" (.ref (gS Γ 1)) (gF Γ) U U.heap ∧ va_T .int (gS Γ 1) 6 (fun j => vi (([100, 99999, 90, 100, 2000, 3] : List Int).getD j 0)) (gF Γ) U U.heap) ∧
  (va_Z "QuotaLicences" "LOGGED" "[I" (.ref (gS Γ 2)) (gF Γ) U U.heap ∧ va_T .int (gS Γ 2) 5 (fun j => vi (([1, 2, 4, 5, 6] : List Int).getD j 0)) (gF Γ) U U.heap) ∧
  va_Zq "jdk/internal/util/Preconditions" "SIOOBE_FORMATTER" "Ljava/util/function/BiFunction;" (gF Γ) U U.heap
def GG (Γ : GT) (U : State) : Prop := va_K (gD Γ) vwCl (gty Γ) U ∧ (∀ w ∈ NW, va_Nw w U) ∧ GS Γ U ∧ gB Γ ≤ U.heap.size ∧ va_AO "QuotaLicences$State" U
theorem GS.go {Γ : GT} {s U : State} (h : GS Γ s) (hv : s.vm.Alike U.vm) (hr : ∀ i q, SR[i]? = some q → vk_R q.1 q.2.1 q.2.2 (gK Γ i) s → vk_R q.1 q.2.1 q.2.2 (gK Γ i) U) (hh : ∀ a : Nat, a < s.heap.size → ¬ gF Γ a → U.heap[a]? = s.heap[a]?) : GS Γ U := by
  obtain ⟨h1, h2, h3, ⟨h4, h5⟩, ⟨h6, h7⟩, ⟨h8, h9⟩, h10⟩ := h
  exact ⟨fun i q e => hr i q e (h1 i q e), fun i hi => ((h2 i hi).kept hh).moved hv, (h3.kept hh).moved hv, ⟨(h4.kept hh).moved hv, (h5.kept hh).moved hv⟩, ⟨(h6.kept hh).moved hv, (h7.kept hh).moved hv⟩, ⟨(h8.kept hh).moved hv, (h9.kept hh).moved hv⟩, (h10.kept hh).moved hv⟩
theorem GG.warm {Γ : GT} {s U : State} (h : GG Γ s) (hW : s.WarmedH U.vm) (hz : gB Γ ≤ U.heap.size) (hh : ∀ a : Nat, a < s.heap.size → ¬ gF Γ a → U.heap[a]? = s.heap[a]?) : GG Γ U := by
  obtain ⟨h1, h2, h3, -, h5⟩ := h
  exact ⟨va_K.moved hW.alike h1, fun w hw => nw_warm hw hW (h2 w hw), h3.go hW.alike (fun i q e hr => hr.warm hW) hh, hz, va_AO.moved hW.alike h5⟩
theorem GG.calling {Γ : GT} {U : State} {g : JFrame} {mk : MethodId} {a : Array Value} (h : GG Γ U) : GG Γ (U.calling g mk a) := by
  obtain ⟨h1, h2, h3, h4, h5⟩ := h
  refine ⟨va_K.moved (u := U) (U := U.calling g mk a) (Vm.Alike.refl U.vm) h1, fun w hw => nw_same (s := U) (U := U.calling g mk a) hw rfl (h2 w hw), h3.go (s := U) (U := U.calling g mk a) (Vm.Alike.refl U.vm) (fun i q e hr => hr.same rfl) (fun _ _ _ => rfl), h4, va_AO.moved (u := U) (U := U.calling g mk a) (Vm.Alike.refl U.vm) h5⟩
/-! the judgement -/
def CX (Γ : GT) (M : MD) (p : Program) (s : State) (m : MethodId) (args : Array Value) (meth : Method) (c : Code) : Prop :=
  p.tables.exec = Jvm.exec ∧ c.code = M.2.1 ∧ meth.sig.returnType = M.2.2.2 ∧ meth.locks = false ∧ c.maxLocals = M.2.2.1 ∧ s.vm.findClass M.1.cls = some m.cls ∧ meth.name = M.1.name ∧ (∀ w ∈ WL, w.before args s = true) ∧ GG Γ s
abbrev PH : Type := State → Array Value → List Frame → State → Prop
abbrev RM : Type := Nat × Nat × Nat
def rmm (ρ : RM) : Room := { frames := ρ.1, cells := ρ.2.1, slots := ρ.2.2, locals := 48 * ρ.1 }
def AW (Γ : GT) (M : MD) (R : Room) (Φ : PH) (kn : Nat × Nat) (pc : Nat) (ls : List (Option Value)) (st : List Value) (h : Nat → AC) (nx : Nat) : Prop :=
  ∀ (p : Program) (e : Env) (s : State) (m : MethodId) (args : Array Value) (below : List Frame) (meth : Method) (c : Code) (H : Heap) (locs : List Loc) (lsa : Array Slot),
    CX Γ M p s m args meth c → va_S (gF Γ) s.heap H locs → Hp Γ h nx H → LV M.2.2.1 lsa ls → W p (gL Γ) e R s m args below meth c H locs kn.1 kn.2 (Φ s args below) (F0 m pc lsa st)
abbrev QT : Type := Option Value → (Nat → AC) → Nat → Prop
def wsM (M : MD) : List Cond := Cond.code M.1 M.2.1 M.2.2.1 M.2.2.2 :: WL
def Qcx (Γ : GT) (Q : QT) : Array Value → State → Outcome → State → Prop := fun _ st o t => ∃ (r : Option Value) (h' : Nat → AC) (nx' : Nat), o = .returned r ∧ Q r h' nx' ∧ Hp Γ h' nx' t.heap ∧ st.heap.size ≤ t.heap.size ∧ ∀ q : Nat, q < gB Γ → t.heap[q]? = st.heap[q]?
def Pcx (Γ : GT) (as : List Value) (h : Nat → AC) (nx : Nat) : Array Value → State → Prop := va_Pc as (fun U => GG Γ U ∧ Hp Γ h nx U.heap)
def AM (Γ : GT) (M : MD) (ρ : RM) (as : List Value) (h : Nat → AC) (nx : Nat) (Q : QT) : Prop := Met (gL Γ) M.1 (wsM M) (rmm ρ) (Pcx Γ as h nx) (Qcx Γ Q) ρ.2.1 ρ.2.2 (gF Γ)
def MF (Γ : GT) (Q : QT) (ρ : RM) : PH := fun s args below => MQ below (Qcx Γ Q) args s ρ.2.1 ρ.2.2 (gF Γ)
theorem am_of {Γ : GT} {M : MD} {ρ : RM} {as : List Value} {h : Nat → AC} {nx : Nat} {Q : QT} {ls : List (Option Value)} (hy : plainName M.1.cls = true) (hn : (lg_sl as).length ≤ M.2.2.1) (hl : en as M.2.2.1 = ls) (k : AW Γ M (rmm ρ) (MF Γ Q ρ) (0, 0) 0 ls [] h nx) : AM Γ M ρ as h nx Q := by
  refine Met.ofW (cc := M.2.1) (maxL := M.2.2.1) (ret := M.2.2.2) hy rfl ?_
  intro p e s m args below meth c s₁ B hml hv
  obtain ⟨rfl, hG, hH⟩ := hv
  rw [lg_entry_eq]
  have hts := atoms_spec (ws := wsM M) B.pre
  exact k p e s m _ below meth c s.heap [] _ ⟨B.exec, B.bytes, B.returns, B.notSynchronized, hml, findClass_of_methodNamed B.named, (name_of_methodNamed B.named B.method).1, fun w hw => hts w (List.mem_cons_of_mem _ hw), hG⟩ va_S.rf hH (hl ▸ LV.en hn)
theorem am_mono {Γ : GT} {M : MD} {ρ : RM} {as : List Value} {h : Nat → AC} {nx : Nat} {Q Q' : QT} (hq : ∀ r h nx, Q r h nx → Q' r h nx) (k : AM Γ M ρ as h nx Q) : AM Γ M ρ as h nx Q' := by
  intro p e ha hc hk s m args below hf happ hP hK
  obtain ⟨t, o, h1, h2, h3, ⟨⟨r, h', nx', e1, e2, e3⟩, e4⟩⟩ := k p e ha hc hk s m args below hf happ hP hK
  exact ⟨t, o, h1, h2, h3, ⟨⟨r, h', nx', e1, hq _ _ _ e2, e3⟩, e4⟩⟩
section AWR
variable {Γ : GT} {M : MD} {R : Room} {Φ : PH} {kn : Nat × Nat} {pc : Nat} {ls : List (Option Value)} {st : List Value} {h : Nat → AC} {nx : Nat}
theorem aw_cg {h' : Nat → AC} (e : ∀ k, k < nx → h' k = h k) (k : AW Γ M R Φ kn pc ls st h' nx) : AW Γ M R Φ kn pc ls st h nx := fun p e' s m args below meth c H locs lsa C hS hH hL => k p e' s m args below meth c H locs lsa C hS (hH.cg e) hL
theorem aw_st {st' : List Value} (e : st' = st) (k : AW Γ M R Φ kn pc ls st' h nx) : AW Γ M R Φ kn pc ls st h nx := e ▸ k
theorem aw_iconst {n : Int} (hd : decode M.2.1 pc = .ok (.iconst n, 1)) (k : AW Γ M R Φ kn (pc + 1) ls (vi n :: st) h nx) : AW Γ M R Φ kn pc ls (st) h nx := by
  intro p e s m args below meth c H locs lsa C hS hH hL
  refine lv_iconst (v := I n) C.1 C.2.1 hd rfl ?_
  exact k p e s m args below meth c H locs lsa C hS hH hL
theorem aw_bipush {n : Int} (hd : decode M.2.1 pc = .ok (.bipush n, 2)) (hn : (Int8.ofInt n).toInt32 = I n) (k : AW Γ M R Φ kn (pc + 2) ls (vi n :: st) h nx) : AW Γ M R Φ kn pc ls (st) h nx := by
  intro p e s m args below meth c H locs lsa C hS hH hL
  refine lv_bipush (v := I n) C.1 C.2.1 hd hn ?_
  exact k p e s m args below meth c H locs lsa C hS hH hL
theorem aw_sipush {n : Int} (hd : decode M.2.1 pc = .ok (.sipush n, 3)) (hn : (Int16.ofInt n).toInt32 = I n) (k : AW Γ M R Φ kn (pc + 3) ls (vi n :: st) h nx) : AW Γ M R Φ kn pc ls (st) h nx := by
  intro p e s m args below meth c H locs lsa C hS hH hL
  refine lv_sipush (v := I n) C.1 C.2.1 hd hn ?_
  exact k p e s m args below meth c H locs lsa C hS hH hL
theorem aw_lconst0 (hd : decode M.2.1 pc = .ok (.lconst 0, 1)) (k : AW Γ M R Φ kn (pc + 1) ls (vl 0 :: st) h nx) : AW Γ M R Φ kn pc ls (st) h nx := by
  intro p e s m args below meth c H locs lsa C hS hH hL
  refine lv_lconst (v := L 0) C.1 C.2.1 hd rfl ?_
  exact k p e s m args below meth c H locs lsa C hS hH hL
theorem aw_lconst1 (hd : decode M.2.1 pc = .ok (.lconst 1, 1)) (k : AW Γ M R Φ kn (pc + 1) ls (vl 1 :: st) h nx) : AW Γ M R Φ kn pc ls (st) h nx := by
  intro p e s m args below meth c H locs lsa C hS hH hL
  refine lv_lconst (v := L 1) C.1 C.2.1 hd rfl ?_
  exact k p e s m args below meth c H locs lsa C hS hH hL
theorem aw_dconst0 (hd : decode M.2.1 pc = .ok (.dconst 0, 1)) (k : AW Γ M R Φ kn (pc + 1) ls (Value.double FP.dconst0 :: st) h nx) : AW Γ M R Φ kn pc ls (st) h nx := by
  intro p e s m args below meth c H locs lsa C hS hH hL
  refine lv_dconst0 C.1 C.2.1 hd ?_
  exact k p e s m args below meth c H locs lsa C hS hH hL
theorem aw_dconst1 (hd : decode M.2.1 pc = .ok (.dconst 1, 1)) (k : AW Γ M R Φ kn (pc + 1) ls (Value.double FP.dconst1 :: st) h nx) : AW Γ M R Φ kn pc ls (st) h nx := by
  intro p e s m args below meth c H locs lsa C hS hH hL
  refine lv_dconst1 C.1 C.2.1 hd ?_
  exact k p e s m args below meth c H locs lsa C hS hH hL
theorem aw_iload_n {j : Fin 4} {x : Int32} (hd : decode M.2.1 pc = .ok (.iload_n j, 1)) (hl : ls[(j : Nat)]? = some (some (.int x))) (k : AW Γ M R Φ kn (pc + 1) ls (.int x :: st) h nx) : AW Γ M R Φ kn pc ls (st) h nx := by
  intro p e s m args below meth c H locs lsa C hS hH hL
  refine lv_iload_n C.1 C.2.1 hd rfl (hL.at hl) ?_
  exact k p e s m args below meth c H locs lsa C hS hH hL
theorem aw_iload {j : Nat} {x : Int32} (hd : decode M.2.1 pc = .ok (.iload j, 2)) (hl : ls[j]? = some (some (.int x))) (k : AW Γ M R Φ kn (pc + 2) ls (.int x :: st) h nx) : AW Γ M R Φ kn pc ls (st) h nx := by
  intro p e s m args below meth c H locs lsa C hS hH hL
  refine lv_iload C.1 C.2.1 hd (hL.at hl) ?_
  exact k p e s m args below meth c H locs lsa C hS hH hL
theorem aw_lload_n {j : Fin 4} {x : Int64} (hd : decode M.2.1 pc = .ok (.lload_n j, 1)) (hl : ls[(j : Nat)]? = some (some (.long x))) (k : AW Γ M R Φ kn (pc + 1) ls (.long x :: st) h nx) : AW Γ M R Φ kn pc ls (st) h nx := by
  intro p e s m args below meth c H locs lsa C hS hH hL
  refine lv_lload_n C.1 C.2.1 hd rfl (hL.at hl) ?_
  exact k p e s m args below meth c H locs lsa C hS hH hL
theorem aw_lload {j : Nat} {x : Int64} (hd : decode M.2.1 pc = .ok (.lload j, 2)) (hl : ls[j]? = some (some (.long x))) (k : AW Γ M R Φ kn (pc + 2) ls (.long x :: st) h nx) : AW Γ M R Φ kn pc ls (st) h nx := by
  intro p e s m args below meth c H locs lsa C hS hH hL
  refine lv_lload C.1 C.2.1 hd (hL.at hl) ?_
  exact k p e s m args below meth c H locs lsa C hS hH hL
theorem aw_dload_n {j : Fin 4} {x : UInt64} (hd : decode M.2.1 pc = .ok (.dload_n j, 1)) (hl : ls[(j : Nat)]? = some (some (.double x))) (k : AW Γ M R Φ kn (pc + 1) ls (.double x :: st) h nx) : AW Γ M R Φ kn pc ls (st) h nx := by
  intro p e s m args below meth c H locs lsa C hS hH hL
  refine lv_dload_n C.1 C.2.1 hd rfl (hL.at hl) ?_
  exact k p e s m args below meth c H locs lsa C hS hH hL
theorem aw_dload {j : Nat} {x : UInt64} (hd : decode M.2.1 pc = .ok (.dload j, 2)) (hl : ls[j]? = some (some (.double x))) (k : AW Γ M R Φ kn (pc + 2) ls (.double x :: st) h nx) : AW Γ M R Φ kn pc ls (st) h nx := by
  intro p e s m args below meth c H locs lsa C hS hH hL
  refine lv_dload C.1 C.2.1 hd (hL.at hl) ?_
  exact k p e s m args below meth c H locs lsa C hS hH hL
theorem aw_fload_n {j : Fin 4} {x : UInt32} (hd : decode M.2.1 pc = .ok (.fload_n j, 1)) (hl : ls[(j : Nat)]? = some (some (.float x))) (k : AW Γ M R Φ kn (pc + 1) ls (.float x :: st) h nx) : AW Γ M R Φ kn pc ls (st) h nx := by
  intro p e s m args below meth c H locs lsa C hS hH hL
  refine lv_fload_n C.1 C.2.1 hd rfl (hL.at hl) ?_
  exact k p e s m args below meth c H locs lsa C hS hH hL
theorem aw_fload {j : Nat} {x : UInt32} (hd : decode M.2.1 pc = .ok (.fload j, 2)) (hl : ls[j]? = some (some (.float x))) (k : AW Γ M R Φ kn (pc + 2) ls (.float x :: st) h nx) : AW Γ M R Φ kn pc ls (st) h nx := by
  intro p e s m args below meth c H locs lsa C hS hH hL
  refine lv_fload C.1 C.2.1 hd (hL.at hl) ?_
  exact k p e s m args below meth c H locs lsa C hS hH hL
theorem aw_aload_n {j : Fin 4} {x : Nat} (hd : decode M.2.1 pc = .ok (.aload_n j, 1)) (hl : ls[(j : Nat)]? = some (some (.ref x))) (k : AW Γ M R Φ kn (pc + 1) ls (.ref x :: st) h nx) : AW Γ M R Φ kn pc ls (st) h nx := by
  intro p e s m args below meth c H locs lsa C hS hH hL
  refine lv_aload_n C.1 C.2.1 hd rfl (hL.at hl) ?_
  exact k p e s m args below meth c H locs lsa C hS hH hL
theorem aw_aload {j : Nat} {x : Nat} (hd : decode M.2.1 pc = .ok (.aload j, 2)) (hl : ls[j]? = some (some (.ref x))) (k : AW Γ M R Φ kn (pc + 2) ls (.ref x :: st) h nx) : AW Γ M R Φ kn pc ls (st) h nx := by
  intro p e s m args below meth c H locs lsa C hS hH hL
  refine lv_aload C.1 C.2.1 hd (hL.at hl) ?_
  exact k p e s m args below meth c H locs lsa C hS hH hL
theorem aw_aload_nN {j : Fin 4} (hd : decode M.2.1 pc = .ok (.aload_n j, 1)) (hl : ls[(j : Nat)]? = some (some .null)) (k : AW Γ M R Φ kn (pc + 1) ls (.null :: st) h nx) : AW Γ M R Φ kn pc ls (st) h nx := by
  intro p e s m args below meth c H locs lsa C hS hH hL
  refine lv_aload_nN C.1 C.2.1 hd rfl (hL.at hl) ?_
  exact k p e s m args below meth c H locs lsa C hS hH hL
theorem aw_istore_n {j : Fin 4} {x : Int32} {ls' : List (Option Value)} (hd : decode M.2.1 pc = .ok (.istore_n j, 1)) (hn : (j : Nat) < M.2.2.1) (hl : st1 ls (j : Nat) (.int x) = ls') (k : AW Γ M R Φ kn (pc + 1) ls' st h nx) : AW Γ M R Φ kn pc ls (.int x :: st) h nx := by
  intro p e s m args below meth c H locs lsa C hS hH hL
  refine lv_istore_n C.1 C.2.1 hd rfl hL hn rfl (fun lsb hb => ?_)
  exact k p e s m args below meth c H locs lsb C hS hH (LV.st1 (lsa := lsa) hb hl)
theorem aw_istore {j : Nat} {x : Int32} {ls' : List (Option Value)} (hd : decode M.2.1 pc = .ok (.istore j, 2)) (hn : j < M.2.2.1) (hl : st1 ls j (.int x) = ls') (k : AW Γ M R Φ kn (pc + 2) ls' st h nx) : AW Γ M R Φ kn pc ls (.int x :: st) h nx := by
  intro p e s m args below meth c H locs lsa C hS hH hL
  refine lv_istore C.1 C.2.1 hd hL hn rfl (fun lsb hb => ?_)
  exact k p e s m args below meth c H locs lsb C hS hH (LV.st1 (lsa := lsa) hb hl)
theorem aw_lstore_n {j : Fin 4} {x : Int64} {ls' : List (Option Value)} (hd : decode M.2.1 pc = .ok (.lstore_n j, 1)) (hn : (j : Nat) + 1 < M.2.2.1) (hl : st2 ls (j : Nat) (.long x) = ls') (k : AW Γ M R Φ kn (pc + 1) ls' st h nx) : AW Γ M R Φ kn pc ls (.long x :: st) h nx := by
  intro p e s m args below meth c H locs lsa C hS hH hL
  refine lv_lstore_n C.1 C.2.1 hd rfl hL hn rfl (fun lsb hb => ?_)
  exact k p e s m args below meth c H locs lsb C hS hH (LV.st2 (lsa := lsa) hb hl)
theorem aw_lstore {j : Nat} {x : Int64} {ls' : List (Option Value)} (hd : decode M.2.1 pc = .ok (.lstore j, 2)) (hn : j + 1 < M.2.2.1) (hl : st2 ls j (.long x) = ls') (k : AW Γ M R Φ kn (pc + 2) ls' st h nx) : AW Γ M R Φ kn pc ls (.long x :: st) h nx := by
  intro p e s m args below meth c H locs lsa C hS hH hL
  refine lv_lstore C.1 C.2.1 hd hL hn rfl (fun lsb hb => ?_)
  exact k p e s m args below meth c H locs lsb C hS hH (LV.st2 (lsa := lsa) hb hl)
theorem aw_dstore_n {j : Fin 4} {x : UInt64} {ls' : List (Option Value)} (hd : decode M.2.1 pc = .ok (.dstore_n j, 1)) (hn : (j : Nat) + 1 < M.2.2.1) (hl : st2 ls (j : Nat) (.double x) = ls') (k : AW Γ M R Φ kn (pc + 1) ls' st h nx) : AW Γ M R Φ kn pc ls (.double x :: st) h nx := by
  intro p e s m args below meth c H locs lsa C hS hH hL
  refine lv_dstore_n C.1 C.2.1 hd rfl hL hn rfl (fun lsb hb => ?_)
  exact k p e s m args below meth c H locs lsb C hS hH (LV.st2 (lsa := lsa) hb hl)
theorem aw_dstore {j : Nat} {x : UInt64} {ls' : List (Option Value)} (hd : decode M.2.1 pc = .ok (.dstore j, 2)) (hn : j + 1 < M.2.2.1) (hl : st2 ls j (.double x) = ls') (k : AW Γ M R Φ kn (pc + 2) ls' st h nx) : AW Γ M R Φ kn pc ls (.double x :: st) h nx := by
  intro p e s m args below meth c H locs lsa C hS hH hL
  refine lv_dstore C.1 C.2.1 hd hL hn rfl (fun lsb hb => ?_)
  exact k p e s m args below meth c H locs lsb C hS hH (LV.st2 (lsa := lsa) hb hl)
theorem aw_astore_n {j : Fin 4} {x : Nat} {ls' : List (Option Value)} (hd : decode M.2.1 pc = .ok (.astore_n j, 1)) (hn : (j : Nat) < M.2.2.1) (hl : st1 ls (j : Nat) (.ref x) = ls') (k : AW Γ M R Φ kn (pc + 1) ls' st h nx) : AW Γ M R Φ kn pc ls (.ref x :: st) h nx := by
  intro p e s m args below meth c H locs lsa C hS hH hL
  refine lv_astore_n C.1 C.2.1 hd rfl hL hn rfl (fun lsb hb => ?_)
  exact k p e s m args below meth c H locs lsb C hS hH (LV.st1 (lsa := lsa) hb hl)
theorem aw_astore {j : Nat} {x : Nat} {ls' : List (Option Value)} (hd : decode M.2.1 pc = .ok (.astore j, 2)) (hn : j < M.2.2.1) (hl : st1 ls j (.ref x) = ls') (k : AW Γ M R Φ kn (pc + 2) ls' st h nx) : AW Γ M R Φ kn pc ls (.ref x :: st) h nx := by
  intro p e s m args below meth c H locs lsa C hS hH hL
  refine lv_astore C.1 C.2.1 hd hL hn rfl (fun lsb hb => ?_)
  exact k p e s m args below meth c H locs lsb C hS hH (LV.st1 (lsa := lsa) hb hl)
theorem aw_astore_nN {j : Fin 4} {ls' : List (Option Value)} (hd : decode M.2.1 pc = .ok (.astore_n j, 1)) (hn : (j : Nat) < M.2.2.1) (hl : st1 ls (j : Nat) (.null) = ls') (k : AW Γ M R Φ kn (pc + 1) ls' st h nx) : AW Γ M R Φ kn pc ls (.null :: st) h nx := by
  intro p e s m args below meth c H locs lsa C hS hH hL
  refine lv_astore_nN C.1 C.2.1 hd rfl hL hn rfl (fun lsb hb => ?_)
  exact k p e s m args below meth c H locs lsb C hS hH (LV.st1 (lsa := lsa) hb hl)
theorem aw_astoreN {j : Nat} {ls' : List (Option Value)} (hd : decode M.2.1 pc = .ok (.astore j, 2)) (hn : j < M.2.2.1) (hl : st1 ls j (.null) = ls') (k : AW Γ M R Φ kn (pc + 2) ls' st h nx) : AW Γ M R Φ kn pc ls (.null :: st) h nx := by
  intro p e s m args below meth c H locs lsa C hS hH hL
  refine lv_astoreN C.1 C.2.1 hd hL hn rfl (fun lsb hb => ?_)
  exact k p e s m args below meth c H locs lsb C hS hH (LV.st1 (lsa := lsa) hb hl)
theorem aw_iinc {j : Nat} {n a : Int} {ls' : List (Option Value)} (hd : decode M.2.1 pc = .ok (.iinc j n, 3)) (hx : ls[j]? = some (some (vi a))) (hn : j < M.2.2.1) (hl : st1 ls j (vi (a + n)) = ls') (k : AW Γ M R Φ kn (pc + 3) ls' st h nx) : AW Γ M R Φ kn pc ls st h nx := by
  intro p e s m args below meth c H locs lsa C hS hH hL
  obtain ⟨q, hq⟩ := List.getElem?_of_mem ((la_mem ls 0 j (vi a)).mpr ⟨Nat.zero_le _, hx⟩)
  refine lv_iinc (v := I (a + n)) C.1 C.2.1 hd hL hq (I_add a n) hn rfl (fun lsb hb => ?_)
  exact k p e s m args below meth c H locs lsb C hS hH (LV.st1 (lsa := lsa) hb hl)
theorem aw_iadd {a b : Int} (hd : decode M.2.1 pc = .ok (.iadd, 1)) (k : AW Γ M R Φ kn (pc + 1) ls (vi (a + b) :: st) h nx) : AW Γ M R Φ kn pc ls (vi b :: vi a :: st) h nx := by
  intro p e s m args below meth c H locs lsa C hS hH hL
  refine lv_iadd C.1 C.2.1 hd ?_
  rw [I_add]
  exact k p e s m args below meth c H locs lsa C hS hH hL
theorem aw_isub {a b : Int} (hd : decode M.2.1 pc = .ok (.isub, 1)) (k : AW Γ M R Φ kn (pc + 1) ls (vi (a - b) :: st) h nx) : AW Γ M R Φ kn pc ls (vi b :: vi a :: st) h nx := by
  intro p e s m args below meth c H locs lsa C hS hH hL
  refine lv_isub C.1 C.2.1 hd ?_
  rw [I_sub]
  exact k p e s m args below meth c H locs lsa C hS hH hL
theorem aw_imul {a b : Int} (hd : decode M.2.1 pc = .ok (.imul, 1)) (k : AW Γ M R Φ kn (pc + 1) ls (vi (a * b) :: st) h nx) : AW Γ M R Φ kn pc ls (vi b :: vi a :: st) h nx := by
  intro p e s m args below meth c H locs lsa C hS hH hL
  refine lv_imul C.1 C.2.1 hd ?_
  rw [I_mul]
  exact k p e s m args below meth c H locs lsa C hS hH hL
theorem aw_ladd {a b : Int} (hd : decode M.2.1 pc = .ok (.ladd, 1)) (k : AW Γ M R Φ kn (pc + 1) ls (vl (a + b) :: st) h nx) : AW Γ M R Φ kn pc ls (vl b :: vl a :: st) h nx := by
  intro p e s m args below meth c H locs lsa C hS hH hL
  refine lv_ladd C.1 C.2.1 hd ?_
  rw [L_add]
  exact k p e s m args below meth c H locs lsa C hS hH hL
theorem aw_lsub {a b : Int} (hd : decode M.2.1 pc = .ok (.lsub, 1)) (k : AW Γ M R Φ kn (pc + 1) ls (vl (a - b) :: st) h nx) : AW Γ M R Φ kn pc ls (vl b :: vl a :: st) h nx := by
  intro p e s m args below meth c H locs lsa C hS hH hL
  refine lv_lsub C.1 C.2.1 hd ?_
  rw [L_sub]
  exact k p e s m args below meth c H locs lsa C hS hH hL
theorem aw_lmul {a b : Int} (hd : decode M.2.1 pc = .ok (.lmul, 1)) (k : AW Γ M R Φ kn (pc + 1) ls (vl (a * b) :: st) h nx) : AW Γ M R Φ kn pc ls (vl b :: vl a :: st) h nx := by
  intro p e s m args below meth c H locs lsa C hS hH hL
  refine lv_lmul C.1 C.2.1 hd ?_
  rw [L_mul]
  exact k p e s m args below meth c H locs lsa C hS hH hL
theorem aw_ineg {a : Int} (hd : decode M.2.1 pc = .ok (.ineg, 1)) (k : AW Γ M R Φ kn (pc + 1) ls (vi (-a) :: st) h nx) : AW Γ M R Φ kn pc ls (vi a :: st) h nx := by
  intro p e s m args below meth c H locs lsa C hS hH hL
  refine lv_ineg C.1 C.2.1 hd ?_
  rw [I_neg]
  exact k p e s m args below meth c H locs lsa C hS hH hL
theorem aw_idiv {a b : Int} (hd : decode M.2.1 pc = .ok (.idiv, 1)) (ha : inI a ∧ 0 ≤ a) (hb : inI b ∧ 0 < b) (k : AW Γ M R Φ kn (pc + 1) ls (vi (a / b) :: st) h nx) : AW Γ M R Φ kn pc ls (vi b :: vi a :: st) h nx := by
  intro p e s m args below meth c H locs lsa C hS hH hL
  refine lv_idiv C.1 C.2.1 hd (I_ne0 hb.2 hb.1) ?_
  rw [I_div ha.1 ha.2 hb.2 hb.1]
  exact k p e s m args below meth c H locs lsa C hS hH hL
theorem aw_irem {a b : Int} (hd : decode M.2.1 pc = .ok (.irem, 1)) (ha : inI a ∧ 0 ≤ a) (hb : inI b ∧ 0 < b) (k : AW Γ M R Φ kn (pc + 1) ls (vi (a % b) :: st) h nx) : AW Γ M R Φ kn pc ls (vi b :: vi a :: st) h nx := by
  intro p e s m args below meth c H locs lsa C hS hH hL
  refine lv_irem C.1 C.2.1 hd (I_ne0 hb.2 hb.1) ?_
  rw [I_rem ha.1 ha.2 hb.2 hb.1]
  exact k p e s m args below meth c H locs lsa C hS hH hL
theorem aw_ldiv {a b : Int} (hd : decode M.2.1 pc = .ok (.ldiv, 1)) (ha : inL a ∧ 0 ≤ a) (hb : inL b ∧ 0 < b) (k : AW Γ M R Φ kn (pc + 1) ls (vl (a / b) :: st) h nx) : AW Γ M R Φ kn pc ls (vl b :: vl a :: st) h nx := by
  intro p e s m args below meth c H locs lsa C hS hH hL
  refine lv_ldiv C.1 C.2.1 hd (L_ne0 hb.2 hb.1) ?_
  rw [L_div ha.1 ha.2 hb.2 hb.1]
  exact k p e s m args below meth c H locs lsa C hS hH hL
theorem aw_lrem {a b : Int} (hd : decode M.2.1 pc = .ok (.lrem, 1)) (ha : inL a ∧ 0 ≤ a) (hb : inL b ∧ 0 < b) (k : AW Γ M R Φ kn (pc + 1) ls (vl (a % b) :: st) h nx) : AW Γ M R Φ kn pc ls (vl b :: vl a :: st) h nx := by
  intro p e s m args below meth c H locs lsa C hS hH hL
  refine lv_lrem C.1 C.2.1 hd (L_ne0 hb.2 hb.1) ?_
  rw [L_rem ha.1 ha.2 hb.2 hb.1]
  exact k p e s m args below meth c H locs lsa C hS hH hL
theorem aw_i2l {a : Int} (hd : decode M.2.1 pc = .ok (.i2l, 1)) (ha : inI a) (k : AW Γ M R Φ kn (pc + 1) ls (vl a :: st) h nx) : AW Γ M R Φ kn pc ls (vi a :: st) h nx := by
  intro p e s m args below meth c H locs lsa C hS hH hL
  refine lv_i2l C.1 C.2.1 hd (I_l ha) ?_
  exact k p e s m args below meth c H locs lsa C hS hH hL
theorem aw_l2i {a : Int} (hd : decode M.2.1 pc = .ok (.l2i, 1)) (k : AW Γ M R Φ kn (pc + 1) ls (vi a :: st) h nx) : AW Γ M R Φ kn pc ls (vl a :: st) h nx := by
  intro p e s m args below meth c H locs lsa C hS hH hL
  refine lv_l2i C.1 C.2.1 hd (L_i a) ?_
  exact k p e s m args below meth c H locs lsa C hS hH hL
theorem aw_iand {x y v : Int32} (hd : decode M.2.1 pc = .ok (.iand, 1)) (hv : x &&& y = v) (k : AW Γ M R Φ kn (pc + 1) ls (.int v :: st) h nx) : AW Γ M R Φ kn pc ls (.int y :: .int x :: st) h nx := by
  intro p e s m args below meth c H locs lsa C hS hH hL
  refine lv_iand C.1 C.2.1 hd ?_
  rw [hv]
  exact k p e s m args below meth c H locs lsa C hS hH hL
theorem aw_ior {x y v : Int32} (hd : decode M.2.1 pc = .ok (.ior, 1)) (hv : x ||| y = v) (k : AW Γ M R Φ kn (pc + 1) ls (.int v :: st) h nx) : AW Γ M R Φ kn pc ls (.int y :: .int x :: st) h nx := by
  intro p e s m args below meth c H locs lsa C hS hH hL
  refine lv_ior C.1 C.2.1 hd ?_
  rw [hv]
  exact k p e s m args below meth c H locs lsa C hS hH hL
theorem aw_ishl {x y v : Int32} (hd : decode M.2.1 pc = .ok (.ishl, 1)) (hv : x <<< (y &&& 31) = v) (k : AW Γ M R Φ kn (pc + 1) ls (.int v :: st) h nx) : AW Γ M R Φ kn pc ls (.int y :: .int x :: st) h nx := by
  intro p e s m args below meth c H locs lsa C hS hH hL
  refine lv_ishl C.1 C.2.1 hd ?_
  rw [hv]
  exact k p e s m args below meth c H locs lsa C hS hH hL
theorem aw_ishr {x y v : Int32} (hd : decode M.2.1 pc = .ok (.ishr, 1)) (hv : x >>> (y &&& 31) = v) (k : AW Γ M R Φ kn (pc + 1) ls (.int v :: st) h nx) : AW Γ M R Φ kn pc ls (.int y :: .int x :: st) h nx := by
  intro p e s m args below meth c H locs lsa C hS hH hL
  refine lv_ishr C.1 C.2.1 hd ?_
  rw [hv]
  exact k p e s m args below meth c H locs lsa C hS hH hL
theorem aw_land {x y v : Int64} (hd : decode M.2.1 pc = .ok (.land, 1)) (hv : x &&& y = v) (k : AW Γ M R Φ kn (pc + 1) ls (.long v :: st) h nx) : AW Γ M R Φ kn pc ls (.long y :: .long x :: st) h nx := by
  intro p e s m args below meth c H locs lsa C hS hH hL
  refine lv_land C.1 C.2.1 hd ?_
  rw [hv]
  exact k p e s m args below meth c H locs lsa C hS hH hL
theorem aw_lor {x y v : Int64} (hd : decode M.2.1 pc = .ok (.lor, 1)) (hv : x ||| y = v) (k : AW Γ M R Φ kn (pc + 1) ls (.long v :: st) h nx) : AW Γ M R Φ kn pc ls (.long y :: .long x :: st) h nx := by
  intro p e s m args below meth c H locs lsa C hS hH hL
  refine lv_lor C.1 C.2.1 hd ?_
  rw [hv]
  exact k p e s m args below meth c H locs lsa C hS hH hL
theorem aw_lshl {x v : Int64} {y : Int32} (hd : decode M.2.1 pc = .ok (.lshl, 1)) (hv : x <<< (y.toInt64 &&& 63) = v) (k : AW Γ M R Φ kn (pc + 1) ls (.long v :: st) h nx) : AW Γ M R Φ kn pc ls (.int y :: .long x :: st) h nx := by
  intro p e s m args below meth c H locs lsa C hS hH hL
  refine lv_lshl C.1 C.2.1 hd hv ?_
  exact k p e s m args below meth c H locs lsa C hS hH hL
theorem aw_lshr {x v : Int64} {y : Int32} (hd : decode M.2.1 pc = .ok (.lshr, 1)) (hv : x >>> (y.toInt64 &&& 63) = v) (k : AW Γ M R Φ kn (pc + 1) ls (.long v :: st) h nx) : AW Γ M R Φ kn pc ls (.int y :: .long x :: st) h nx := by
  intro p e s m args below meth c H locs lsa C hS hH hL
  refine lv_lshr C.1 C.2.1 hd hv ?_
  exact k p e s m args below meth c H locs lsa C hS hH hL
theorem aw_i2b {x v : Int32} (hd : decode M.2.1 pc = .ok (.i2b, 1)) (hv : x.toInt8.toInt32 = v) (k : AW Γ M R Φ kn (pc + 1) ls (.int v :: st) h nx) : AW Γ M R Φ kn pc ls (.int x :: st) h nx := by
  intro p e s m args below meth c H locs lsa C hS hH hL
  refine lv_i2b C.1 C.2.1 hd hv ?_
  exact k p e s m args below meth c H locs lsa C hS hH hL
theorem aw_i2s {x v : Int32} (hd : decode M.2.1 pc = .ok (.i2s, 1)) (hv : x.toInt16.toInt32 = v) (k : AW Γ M R Φ kn (pc + 1) ls (.int v :: st) h nx) : AW Γ M R Φ kn pc ls (.int x :: st) h nx := by
  intro p e s m args below meth c H locs lsa C hS hH hL
  refine lv_i2s C.1 C.2.1 hd hv ?_
  exact k p e s m args below meth c H locs lsa C hS hH hL
theorem aw_i2c {x v : Int32} (hd : decode M.2.1 pc = .ok (.i2c, 1)) (hv : (x.toUInt32 % 65536).toInt32 = v) (k : AW Γ M R Φ kn (pc + 1) ls (.int v :: st) h nx) : AW Γ M R Φ kn pc ls (.int x :: st) h nx := by
  intro p e s m args below meth c H locs lsa C hS hH hL
  refine lv_i2c C.1 C.2.1 hd hv ?_
  exact k p e s m args below meth c H locs lsa C hS hH hL
theorem aw_dup {v : Value} (hd : decode M.2.1 pc = .ok (.dup, 1)) (hv : v.category = 1) (k : AW Γ M R Φ kn (pc + 1) ls (v :: v :: st) h nx) : AW Γ M R Φ kn pc ls (v :: st) h nx := by
  intro p e s m args below meth c H locs lsa C hS hH hL
  refine lv_dup C.1 C.2.1 hd hv ?_
  exact k p e s m args below meth c H locs lsa C hS hH hL
theorem aw_pop {v : Value} (hd : decode M.2.1 pc = .ok (.pop, 1)) (hv : v.category = 1) (k : AW Γ M R Φ kn (pc + 1) ls (st) h nx) : AW Γ M R Φ kn pc ls (v :: st) h nx := by
  intro p e s m args below meth c H locs lsa C hS hH hL
  refine lv_pop C.1 C.2.1 hd hv ?_
  exact k p e s m args below meth c H locs lsa C hS hH hL
theorem aw_dup2_11 {v v2 : Value} (hd : decode M.2.1 pc = .ok (.dup2, 1)) (hv : v.category = 1) (hv2 : v2.category = 1) (k : AW Γ M R Φ kn (pc + 1) ls (v :: v2 :: v :: v2 :: st) h nx) : AW Γ M R Φ kn pc ls (v :: v2 :: st) h nx := by
  intro p e s m args below meth c H locs lsa C hS hH hL
  refine lv_dup2_11 C.1 C.2.1 hd hv hv2 ?_
  exact k p e s m args below meth c H locs lsa C hS hH hL
theorem aw_dadd {x y : UInt64} (hd : decode M.2.1 pc = .ok (.dadd, 1)) (hv : vf_n64 (FP.dadd x y)) (k : AW Γ M R Φ kn (pc + 1) ls (.double (FP.dadd x y) :: st) h nx) : AW Γ M R Φ kn pc ls (.double y :: .double x :: st) h nx := by
  intro p e s m args below meth c H locs lsa C hS hH hL
  refine lv_dadd C.1 C.2.1 hd hv ?_
  exact k p e s m args below meth c H locs lsa C hS hH hL
theorem aw_dsub {x y : UInt64} (hd : decode M.2.1 pc = .ok (.dsub, 1)) (hv : vf_n64 (FP.dsub x y)) (k : AW Γ M R Φ kn (pc + 1) ls (.double (FP.dsub x y) :: st) h nx) : AW Γ M R Φ kn pc ls (.double y :: .double x :: st) h nx := by
  intro p e s m args below meth c H locs lsa C hS hH hL
  refine lv_dsub C.1 C.2.1 hd hv ?_
  exact k p e s m args below meth c H locs lsa C hS hH hL
theorem aw_dmul {x y : UInt64} (hd : decode M.2.1 pc = .ok (.dmul, 1)) (hv : vf_n64 (FP.dmul x y)) (k : AW Γ M R Φ kn (pc + 1) ls (.double (FP.dmul x y) :: st) h nx) : AW Γ M R Φ kn pc ls (.double y :: .double x :: st) h nx := by
  intro p e s m args below meth c H locs lsa C hS hH hL
  refine lv_dmul C.1 C.2.1 hd hv ?_
  exact k p e s m args below meth c H locs lsa C hS hH hL
theorem aw_ddiv {x y : UInt64} (hd : decode M.2.1 pc = .ok (.ddiv, 1)) (hv : vf_n64 (FP.ddiv x y)) (k : AW Γ M R Φ kn (pc + 1) ls (.double (FP.ddiv x y) :: st) h nx) : AW Γ M R Φ kn pc ls (.double y :: .double x :: st) h nx := by
  intro p e s m args below meth c H locs lsa C hS hH hL
  refine lv_ddiv C.1 C.2.1 hd hv ?_
  exact k p e s m args below meth c H locs lsa C hS hH hL
theorem aw_fdiv {x y : UInt32} (hd : decode M.2.1 pc = .ok (.fdiv, 1)) (hv : vf_n32 (FP.fdiv x y)) (k : AW Γ M R Φ kn (pc + 1) ls (.float (FP.fdiv x y) :: st) h nx) : AW Γ M R Φ kn pc ls (.float y :: .float x :: st) h nx := by
  intro p e s m args below meth c H locs lsa C hS hH hL
  refine lv_fdiv C.1 C.2.1 hd hv ?_
  exact k p e s m args below meth c H locs lsa C hS hH hL
theorem aw_dneg {x : UInt64} (hd : decode M.2.1 pc = .ok (.dneg, 1)) (k : AW Γ M R Φ kn (pc + 1) ls (.double (FP.dneg x) :: st) h nx) : AW Γ M R Φ kn pc ls (.double x :: st) h nx := by
  intro p e s m args below meth c H locs lsa C hS hH hL
  refine lv_dneg C.1 C.2.1 hd ?_
  exact k p e s m args below meth c H locs lsa C hS hH hL
theorem aw_dcmp {x y : UInt64} {op : CmpOp} (hd : decode M.2.1 pc = .ok (.dcmp op, 1)) (k : AW Γ M R Φ kn (pc + 1) ls (.int (Op.cmpValue (FP.dcmp x y) op) :: st) h nx) : AW Γ M R Φ kn pc ls (.double y :: .double x :: st) h nx := by
  intro p e s m args below meth c H locs lsa C hS hH hL
  refine lv_dcmp C.1 C.2.1 hd ?_
  exact k p e s m args below meth c H locs lsa C hS hH hL
theorem aw_fcmp {x y : UInt32} {op : CmpOp} (hd : decode M.2.1 pc = .ok (.fcmp op, 1)) (k : AW Γ M R Φ kn (pc + 1) ls (.int (Op.cmpValue (FP.fcmp x y) op) :: st) h nx) : AW Γ M R Φ kn pc ls (.float y :: .float x :: st) h nx := by
  intro p e s m args below meth c H locs lsa C hS hH hL
  refine lv_fcmp C.1 C.2.1 hd ?_
  exact k p e s m args below meth c H locs lsa C hS hH hL
theorem aw_i2d {x : Int32} (hd : decode M.2.1 pc = .ok (.i2d, 1)) (k : AW Γ M R Φ kn (pc + 1) ls (.double (FP.i2d x) :: st) h nx) : AW Γ M R Φ kn pc ls (.int x :: st) h nx := by
  intro p e s m args below meth c H locs lsa C hS hH hL
  refine lv_i2d C.1 C.2.1 hd ?_
  exact k p e s m args below meth c H locs lsa C hS hH hL
theorem aw_l2d {x : Int64} (hd : decode M.2.1 pc = .ok (.l2d, 1)) (k : AW Γ M R Φ kn (pc + 1) ls (.double (FP.l2d x) :: st) h nx) : AW Γ M R Φ kn pc ls (.long x :: st) h nx := by
  intro p e s m args below meth c H locs lsa C hS hH hL
  refine lv_l2d C.1 C.2.1 hd ?_
  exact k p e s m args below meth c H locs lsa C hS hH hL
theorem aw_i2f {x : Int32} (hd : decode M.2.1 pc = .ok (.i2f, 1)) (k : AW Γ M R Φ kn (pc + 1) ls (.float (FP.i2f x) :: st) h nx) : AW Γ M R Φ kn pc ls (.int x :: st) h nx := by
  intro p e s m args below meth c H locs lsa C hS hH hL
  refine lv_i2f C.1 C.2.1 hd ?_
  exact k p e s m args below meth c H locs lsa C hS hH hL
theorem aw_l2f {x : Int64} (hd : decode M.2.1 pc = .ok (.l2f, 1)) (k : AW Γ M R Φ kn (pc + 1) ls (.float (FP.l2f x) :: st) h nx) : AW Γ M R Φ kn pc ls (.long x :: st) h nx := by
  intro p e s m args below meth c H locs lsa C hS hH hL
  refine lv_l2f C.1 C.2.1 hd ?_
  exact k p e s m args below meth c H locs lsa C hS hH hL
theorem aw_d2l {x : UInt64} (hd : decode M.2.1 pc = .ok (.d2l, 1)) (k : AW Γ M R Φ kn (pc + 1) ls (.long (FP.d2l x) :: st) h nx) : AW Γ M R Φ kn pc ls (.double x :: st) h nx := by
  intro p e s m args below meth c H locs lsa C hS hH hL
  refine lv_d2l C.1 C.2.1 hd ?_
  exact k p e s m args below meth c H locs lsa C hS hH hL
theorem aw_f2d {x : UInt32} (hd : decode M.2.1 pc = .ok (.f2d, 1)) (hv : vf_n64 (FP.f2d x)) (k : AW Γ M R Φ kn (pc + 1) ls (.double (FP.f2d x) :: st) h nx) : AW Γ M R Φ kn pc ls (.float x :: st) h nx := by
  intro p e s m args below meth c H locs lsa C hS hH hL
  refine lv_f2d C.1 C.2.1 hd hv ?_
  exact k p e s m args below meth c H locs lsa C hS hH hL
theorem aw_ldc {j : Nat} {n : Int32} (hd : decode M.2.1 pc = .ok (.ldc j, 2)) (hk : Cond.constant M.1.cls j n ∈ WL) (k : AW Γ M R Φ kn (pc + 2) ls (.int n :: st) h nx) : AW Γ M R Φ kn pc ls (st) h nx := by
  intro p e s m args below meth c H locs lsa C hS hH hL
  refine lv_ldc C.1 C.2.1 C.2.2.2.2.2.1 (C.2.2.2.2.2.2.2.1 _ hk) hd ?_
  exact k p e s m args below meth c H locs lsa C hS hH hL
theorem aw_ldcw {j : Nat} {n : Int32} (hd : decode M.2.1 pc = .ok (.ldc_w j, 3)) (hk : Cond.constant M.1.cls j n ∈ WL) (k : AW Γ M R Φ kn (pc + 3) ls (.int n :: st) h nx) : AW Γ M R Φ kn pc ls (st) h nx := by
  intro p e s m args below meth c H locs lsa C hS hH hL
  refine lv_ldcw C.1 C.2.1 C.2.2.2.2.2.1 (C.2.2.2.2.2.2.2.1 _ hk) hd ?_
  exact k p e s m args below meth c H locs lsa C hS hH hL
theorem aw_ldc2 {j : Nat} {n : Int64} (hd : decode M.2.1 pc = .ok (.ldc2_w j, 3)) (hk : Cond.constantLong M.1.cls j n ∈ WL) (k : AW Γ M R Φ kn (pc + 3) ls (.long n :: st) h nx) : AW Γ M R Φ kn pc ls (st) h nx := by
  intro p e s m args below meth c H locs lsa C hS hH hL
  refine lv_ldc2 C.1 C.2.1 C.2.2.2.2.2.1 (C.2.2.2.2.2.2.2.1 _ hk) hd ?_
  exact k p e s m args below meth c H locs lsa C hS hH hL
theorem aw_ldc2d {j : Nat} {n : UInt64} (hd : decode M.2.1 pc = .ok (.ldc2_w j, 3)) (hk : Cond.constantDouble M.1.cls j n ∈ WL) (k : AW Γ M R Φ kn (pc + 3) ls (.double n :: st) h nx) : AW Γ M R Φ kn pc ls (st) h nx := by
  intro p e s m args below meth c H locs lsa C hS hH hL
  refine lv_ldc2d C.1 C.2.1 C.2.2.2.2.2.1 (C.2.2.2.2.2.2.2.1 _ hk) hd ?_
  exact k p e s m args below meth c H locs lsa C hS hH hL
theorem aw_ldcS {j : Nat} (hd : decode M.2.1 pc = .ok (.ldc j, 2)) (i : Nat) {q : String × Nat × String} (hq : SR[i]? = some q) (h1 : q.1 = M.1.cls) (h2 : q.2.1 = j) (k : AW Γ M R Φ kn (pc + 2) ls (.ref (gK Γ i) :: st) h nx) : AW Γ M R Φ kn pc ls (st) h nx := by
  intro p e s m args below meth c H locs lsa C hS hH hL
  refine va_ldcS (tx := q.2.2) C.1 C.2.1 C.2.2.2.2.2.1 (h1 ▸ h2 ▸ C.2.2.2.2.2.2.2.2.2.2.1.1 i q hq) hd ?_
  exact k p e s m args below meth c H locs lsa C hS hH hL
theorem aw_icmp_eq {a b off : Int} {tgt : Nat} (hd : decode M.2.1 pc = .ok (.if_icmp .eq off, 3)) (ht : (pc : Int) + off = (tgt : Int)) (hab : inI a ∧ inI b) (kt : a = b → AW Γ M R Φ kn tgt ls st h nx) (kf : ¬ a = b → AW Γ M R Φ kn (pc + 3) ls st h nx) : AW Γ M R Φ kn pc ls (vi b :: vi a :: st) h nx := by
  intro p e s m args below meth c H locs lsa C hS hH hL
  obtain ⟨ha, hb⟩ := hab
  refine lv_icmp_eq C.1 C.2.1 hd ht (fun q => ?_) (fun q => ?_)
  · exact kt ((I_eq ha hb).mp q) p e s m args below meth c H locs lsa C hS hH hL
  · exact kf (fun z => q ((I_eq ha hb).mpr z)) p e s m args below meth c H locs lsa C hS hH hL
theorem aw_if_eq {a off : Int} {tgt : Nat} (hd : decode M.2.1 pc = .ok (.ifCond .eq off, 3)) (ht : (pc : Int) + off = (tgt : Int)) (ha : inI a) (kt : a = 0 → AW Γ M R Φ kn tgt ls st h nx) (kf : ¬ a = 0 → AW Γ M R Φ kn (pc + 3) ls st h nx) : AW Γ M R Φ kn pc ls (vi a :: st) h nx := by
  intro p e s m args below meth c H locs lsa C hS hH hL
  refine lv_if_eq C.1 C.2.1 hd ht (fun q => ?_) (fun q => ?_)
  · exact kt ((I_eq ha (show inI 0 from ⟨by omega, by omega⟩)).mp q) p e s m args below meth c H locs lsa C hS hH hL
  · exact kf (fun z => q ((I_eq ha (show inI 0 from ⟨by omega, by omega⟩)).mpr z)) p e s m args below meth c H locs lsa C hS hH hL
theorem aw_icmp_ne {a b off : Int} {tgt : Nat} (hd : decode M.2.1 pc = .ok (.if_icmp .ne off, 3)) (ht : (pc : Int) + off = (tgt : Int)) (hab : inI a ∧ inI b) (kt : ¬ a = b → AW Γ M R Φ kn tgt ls st h nx) (kf : a = b → AW Γ M R Φ kn (pc + 3) ls st h nx) : AW Γ M R Φ kn pc ls (vi b :: vi a :: st) h nx := by
  intro p e s m args below meth c H locs lsa C hS hH hL
  obtain ⟨ha, hb⟩ := hab
  refine lv_icmp_ne C.1 C.2.1 hd ht (fun q => ?_) (fun q => ?_)
  · exact kt (fun z => q ((I_eq ha hb).mpr z)) p e s m args below meth c H locs lsa C hS hH hL
  · exact kf ((I_eq ha hb).mp q) p e s m args below meth c H locs lsa C hS hH hL
theorem aw_if_ne {a off : Int} {tgt : Nat} (hd : decode M.2.1 pc = .ok (.ifCond .ne off, 3)) (ht : (pc : Int) + off = (tgt : Int)) (ha : inI a) (kt : ¬ a = 0 → AW Γ M R Φ kn tgt ls st h nx) (kf : a = 0 → AW Γ M R Φ kn (pc + 3) ls st h nx) : AW Γ M R Φ kn pc ls (vi a :: st) h nx := by
  intro p e s m args below meth c H locs lsa C hS hH hL
  refine lv_if_ne C.1 C.2.1 hd ht (fun q => ?_) (fun q => ?_)
  · exact kt (fun z => q ((I_eq ha (show inI 0 from ⟨by omega, by omega⟩)).mpr z)) p e s m args below meth c H locs lsa C hS hH hL
  · exact kf ((I_eq ha (show inI 0 from ⟨by omega, by omega⟩)).mp q) p e s m args below meth c H locs lsa C hS hH hL
theorem aw_icmp_lt {a b off : Int} {tgt : Nat} (hd : decode M.2.1 pc = .ok (.if_icmp .lt off, 3)) (ht : (pc : Int) + off = (tgt : Int)) (hab : inI a ∧ inI b) (kt : a < b → AW Γ M R Φ kn tgt ls st h nx) (kf : b ≤ a → AW Γ M R Φ kn (pc + 3) ls st h nx) : AW Γ M R Φ kn pc ls (vi b :: vi a :: st) h nx := by
  intro p e s m args below meth c H locs lsa C hS hH hL
  obtain ⟨ha, hb⟩ := hab
  refine lv_icmp_lt C.1 C.2.1 hd ht (fun q => ?_) (fun q => ?_)
  · exact kt ((I_lt ha hb).mp q) p e s m args below meth c H locs lsa C hS hH hL
  · exact kf (Int.not_lt.mp (fun z => q ((I_lt ha hb).mpr z))) p e s m args below meth c H locs lsa C hS hH hL
theorem aw_if_lt {a off : Int} {tgt : Nat} (hd : decode M.2.1 pc = .ok (.ifCond .lt off, 3)) (ht : (pc : Int) + off = (tgt : Int)) (ha : inI a) (kt : a < 0 → AW Γ M R Φ kn tgt ls st h nx) (kf : 0 ≤ a → AW Γ M R Φ kn (pc + 3) ls st h nx) : AW Γ M R Φ kn pc ls (vi a :: st) h nx := by
  intro p e s m args below meth c H locs lsa C hS hH hL
  refine lv_if_lt C.1 C.2.1 hd ht (fun q => ?_) (fun q => ?_)
  · exact kt ((I_lt ha (show inI 0 from ⟨by omega, by omega⟩)).mp q) p e s m args below meth c H locs lsa C hS hH hL
  · exact kf (Int.not_lt.mp (fun z => q ((I_lt ha (show inI 0 from ⟨by omega, by omega⟩)).mpr z))) p e s m args below meth c H locs lsa C hS hH hL
theorem aw_icmp_ge {a b off : Int} {tgt : Nat} (hd : decode M.2.1 pc = .ok (.if_icmp .ge off, 3)) (ht : (pc : Int) + off = (tgt : Int)) (hab : inI a ∧ inI b) (kt : b ≤ a → AW Γ M R Φ kn tgt ls st h nx) (kf : a < b → AW Γ M R Φ kn (pc + 3) ls st h nx) : AW Γ M R Φ kn pc ls (vi b :: vi a :: st) h nx := by
  intro p e s m args below meth c H locs lsa C hS hH hL
  obtain ⟨ha, hb⟩ := hab
  refine lv_icmp_ge C.1 C.2.1 hd ht (fun q => ?_) (fun q => ?_)
  · exact kt ((I_le hb ha).mp q) p e s m args below meth c H locs lsa C hS hH hL
  · exact kf (Int.not_le.mp (fun z => q ((I_le hb ha).mpr z))) p e s m args below meth c H locs lsa C hS hH hL
theorem aw_if_ge {a off : Int} {tgt : Nat} (hd : decode M.2.1 pc = .ok (.ifCond .ge off, 3)) (ht : (pc : Int) + off = (tgt : Int)) (ha : inI a) (kt : 0 ≤ a → AW Γ M R Φ kn tgt ls st h nx) (kf : a < 0 → AW Γ M R Φ kn (pc + 3) ls st h nx) : AW Γ M R Φ kn pc ls (vi a :: st) h nx := by
  intro p e s m args below meth c H locs lsa C hS hH hL
  refine lv_if_ge C.1 C.2.1 hd ht (fun q => ?_) (fun q => ?_)
  · exact kt ((I_le (show inI 0 from ⟨by omega, by omega⟩) ha).mp q) p e s m args below meth c H locs lsa C hS hH hL
  · exact kf (Int.not_le.mp (fun z => q ((I_le (show inI 0 from ⟨by omega, by omega⟩) ha).mpr z))) p e s m args below meth c H locs lsa C hS hH hL
theorem aw_icmp_gt {a b off : Int} {tgt : Nat} (hd : decode M.2.1 pc = .ok (.if_icmp .gt off, 3)) (ht : (pc : Int) + off = (tgt : Int)) (hab : inI a ∧ inI b) (kt : b < a → AW Γ M R Φ kn tgt ls st h nx) (kf : a ≤ b → AW Γ M R Φ kn (pc + 3) ls st h nx) : AW Γ M R Φ kn pc ls (vi b :: vi a :: st) h nx := by
  intro p e s m args below meth c H locs lsa C hS hH hL
  obtain ⟨ha, hb⟩ := hab
  refine lv_icmp_gt C.1 C.2.1 hd ht (fun q => ?_) (fun q => ?_)
  · exact kt ((I_lt hb ha).mp q) p e s m args below meth c H locs lsa C hS hH hL
  · exact kf (Int.not_lt.mp (fun z => q ((I_lt hb ha).mpr z))) p e s m args below meth c H locs lsa C hS hH hL
theorem aw_if_gt {a off : Int} {tgt : Nat} (hd : decode M.2.1 pc = .ok (.ifCond .gt off, 3)) (ht : (pc : Int) + off = (tgt : Int)) (ha : inI a) (kt : 0 < a → AW Γ M R Φ kn tgt ls st h nx) (kf : a ≤ 0 → AW Γ M R Φ kn (pc + 3) ls st h nx) : AW Γ M R Φ kn pc ls (vi a :: st) h nx := by
  intro p e s m args below meth c H locs lsa C hS hH hL
  refine lv_if_gt C.1 C.2.1 hd ht (fun q => ?_) (fun q => ?_)
  · exact kt ((I_lt (show inI 0 from ⟨by omega, by omega⟩) ha).mp q) p e s m args below meth c H locs lsa C hS hH hL
  · exact kf (Int.not_lt.mp (fun z => q ((I_lt (show inI 0 from ⟨by omega, by omega⟩) ha).mpr z))) p e s m args below meth c H locs lsa C hS hH hL
theorem aw_icmp_le {a b off : Int} {tgt : Nat} (hd : decode M.2.1 pc = .ok (.if_icmp .le off, 3)) (ht : (pc : Int) + off = (tgt : Int)) (hab : inI a ∧ inI b) (kt : a ≤ b → AW Γ M R Φ kn tgt ls st h nx) (kf : b < a → AW Γ M R Φ kn (pc + 3) ls st h nx) : AW Γ M R Φ kn pc ls (vi b :: vi a :: st) h nx := by
  intro p e s m args below meth c H locs lsa C hS hH hL
  obtain ⟨ha, hb⟩ := hab
  refine lv_icmp_le C.1 C.2.1 hd ht (fun q => ?_) (fun q => ?_)
  · exact kt ((I_le ha hb).mp q) p e s m args below meth c H locs lsa C hS hH hL
  · exact kf (Int.not_le.mp (fun z => q ((I_le ha hb).mpr z))) p e s m args below meth c H locs lsa C hS hH hL
theorem aw_if_le {a off : Int} {tgt : Nat} (hd : decode M.2.1 pc = .ok (.ifCond .le off, 3)) (ht : (pc : Int) + off = (tgt : Int)) (ha : inI a) (kt : a ≤ 0 → AW Γ M R Φ kn tgt ls st h nx) (kf : 0 < a → AW Γ M R Φ kn (pc + 3) ls st h nx) : AW Γ M R Φ kn pc ls (vi a :: st) h nx := by
  intro p e s m args below meth c H locs lsa C hS hH hL
  refine lv_if_le C.1 C.2.1 hd ht (fun q => ?_) (fun q => ?_)
  · exact kt ((I_le ha (show inI 0 from ⟨by omega, by omega⟩)).mp q) p e s m args below meth c H locs lsa C hS hH hL
  · exact kf (Int.not_le.mp (fun z => q ((I_le ha (show inI 0 from ⟨by omega, by omega⟩)).mpr z))) p e s m args below meth c H locs lsa C hS hH hL
/-- lcmp and the branch behind it, as one -/
theorem lg_cmp_I (a b : Int) (ha : inL a) (hb : inL b) : lg_cmp (L a) (L b) = I (if a < b then -1 else if b < a then 1 else 0) := by
  unfold lg_cmp
  by_cases h1 : a < b
  · rw [if_neg (fun q => by have := (L_lt hb ha).mp q; omega), if_neg (fun q => by have := (L_eq ha hb).mp q; omega), if_pos h1]; rfl
  · by_cases h2 : b < a
    · rw [if_pos ((L_lt hb ha).mpr h2), if_neg h1, if_pos h2]; rfl
    · rw [if_neg (fun q => h2 ((L_lt hb ha).mp q)), if_pos ((L_eq ha hb).mpr (by omega)), if_neg h1, if_neg h2]; rfl
theorem aw_lcmp {a b : Int} (hd : decode M.2.1 pc = .ok (.lcmp, 1)) (hab : inL a ∧ inL b) (k : AW Γ M R Φ kn (pc + 1) ls (vi (if a < b then -1 else if b < a then 1 else 0) :: st) h nx) : AW Γ M R Φ kn pc ls (vl b :: vl a :: st) h nx := by
  intro p e s m args below meth c H locs lsa C hS hH hL
  refine W.lcmp C.1 C.2.1 hd ?_
  rw [lg_cmp_I a b hab.1 hab.2]
  exact k p e s m args below meth c H locs lsa C hS hH hL
theorem aw_lif_eq {a b off : Int} {tgt : Nat} (hd0 : decode M.2.1 pc = .ok (.lcmp, 1)) (hd : decode M.2.1 (pc + 1) = .ok (.ifCond .eq off, 3)) (ht : ((pc + 1 : Nat) : Int) + off = (tgt : Int)) (hab : inL a ∧ inL b) (kt : a = b → AW Γ M R Φ kn tgt ls st h nx) (kf : ¬ a = b → AW Γ M R Φ kn (pc + 1 + 3) ls st h nx) : AW Γ M R Φ kn pc ls (vl b :: vl a :: st) h nx := by
  refine aw_lcmp hd0 hab (aw_if_eq hd ht ?_ (fun q => kt ?_) (fun q => kf ?_))
  · split
    · exact ⟨by omega, by omega⟩
    · split <;> exact ⟨by omega, by omega⟩
  all_goals (revert q; split <;> (try split) <;> intro q <;> omega)
theorem aw_lif_ne {a b off : Int} {tgt : Nat} (hd0 : decode M.2.1 pc = .ok (.lcmp, 1)) (hd : decode M.2.1 (pc + 1) = .ok (.ifCond .ne off, 3)) (ht : ((pc + 1 : Nat) : Int) + off = (tgt : Int)) (hab : inL a ∧ inL b) (kt : ¬ a = b → AW Γ M R Φ kn tgt ls st h nx) (kf : a = b → AW Γ M R Φ kn (pc + 1 + 3) ls st h nx) : AW Γ M R Φ kn pc ls (vl b :: vl a :: st) h nx := by
  refine aw_lcmp hd0 hab (aw_if_ne hd ht ?_ (fun q => kt ?_) (fun q => kf ?_))
  · split
    · exact ⟨by omega, by omega⟩
    · split <;> exact ⟨by omega, by omega⟩
  all_goals (revert q; split <;> (try split) <;> intro q <;> omega)
theorem aw_lif_lt {a b off : Int} {tgt : Nat} (hd0 : decode M.2.1 pc = .ok (.lcmp, 1)) (hd : decode M.2.1 (pc + 1) = .ok (.ifCond .lt off, 3)) (ht : ((pc + 1 : Nat) : Int) + off = (tgt : Int)) (hab : inL a ∧ inL b) (kt : a < b → AW Γ M R Φ kn tgt ls st h nx) (kf : b ≤ a → AW Γ M R Φ kn (pc + 1 + 3) ls st h nx) : AW Γ M R Φ kn pc ls (vl b :: vl a :: st) h nx := by
  refine aw_lcmp hd0 hab (aw_if_lt hd ht ?_ (fun q => kt ?_) (fun q => kf ?_))
  · split
    · exact ⟨by omega, by omega⟩
    · split <;> exact ⟨by omega, by omega⟩
  all_goals (revert q; split <;> (try split) <;> intro q <;> omega)
theorem aw_lif_ge {a b off : Int} {tgt : Nat} (hd0 : decode M.2.1 pc = .ok (.lcmp, 1)) (hd : decode M.2.1 (pc + 1) = .ok (.ifCond .ge off, 3)) (ht : ((pc + 1 : Nat) : Int) + off = (tgt : Int)) (hab : inL a ∧ inL b) (kt : b ≤ a → AW Γ M R Φ kn tgt ls st h nx) (kf : a < b → AW Γ M R Φ kn (pc + 1 + 3) ls st h nx) : AW Γ M R Φ kn pc ls (vl b :: vl a :: st) h nx := by
  refine aw_lcmp hd0 hab (aw_if_ge hd ht ?_ (fun q => kt ?_) (fun q => kf ?_))
  · split
    · exact ⟨by omega, by omega⟩
    · split <;> exact ⟨by omega, by omega⟩
  all_goals (revert q; split <;> (try split) <;> intro q <;> omega)
theorem aw_lif_gt {a b off : Int} {tgt : Nat} (hd0 : decode M.2.1 pc = .ok (.lcmp, 1)) (hd : decode M.2.1 (pc + 1) = .ok (.ifCond .gt off, 3)) (ht : ((pc + 1 : Nat) : Int) + off = (tgt : Int)) (hab : inL a ∧ inL b) (kt : b < a → AW Γ M R Φ kn tgt ls st h nx) (kf : a ≤ b → AW Γ M R Φ kn (pc + 1 + 3) ls st h nx) : AW Γ M R Φ kn pc ls (vl b :: vl a :: st) h nx := by
  refine aw_lcmp hd0 hab (aw_if_gt hd ht ?_ (fun q => kt ?_) (fun q => kf ?_))
  · split
    · exact ⟨by omega, by omega⟩
    · split <;> exact ⟨by omega, by omega⟩
  all_goals (revert q; split <;> (try split) <;> intro q <;> omega)
theorem aw_lif_le {a b off : Int} {tgt : Nat} (hd0 : decode M.2.1 pc = .ok (.lcmp, 1)) (hd : decode M.2.1 (pc + 1) = .ok (.ifCond .le off, 3)) (ht : ((pc + 1 : Nat) : Int) + off = (tgt : Int)) (hab : inL a ∧ inL b) (kt : a ≤ b → AW Γ M R Φ kn tgt ls st h nx) (kf : b < a → AW Γ M R Φ kn (pc + 1 + 3) ls st h nx) : AW Γ M R Φ kn pc ls (vl b :: vl a :: st) h nx := by
  refine aw_lcmp hd0 hab (aw_if_le hd ht ?_ (fun q => kt ?_) (fun q => kf ?_))
  · split
    · exact ⟨by omega, by omega⟩
    · split <;> exact ⟨by omega, by omega⟩
  all_goals (revert q; split <;> (try split) <;> intro q <;> omega)
theorem aw_goto {off : Int} {tgt : Nat} (hd : decode M.2.1 pc = .ok (.goto off, 3)) (ht : (pc : Int) + off = (tgt : Int)) (k : AW Γ M R Φ kn tgt ls st h nx) : AW Γ M R Φ kn pc ls st h nx := by
  intro p e s m args below meth c H locs lsa C hS hH hL
  exact lv_goto C.1 C.2.1 hd ht (k p e s m args below meth c H locs lsa C hS hH hL)
theorem aw_ifnonnull {x : Nat} {off : Int} {tgt : Nat} (hd : decode M.2.1 pc = .ok (.ifnonnull off, 3)) (ht : (pc : Int) + off = (tgt : Int)) (k : AW Γ M R Φ kn tgt ls st h nx) : AW Γ M R Φ kn pc ls (.ref x :: st) h nx := by
  intro p e s m args below meth c H locs lsa C hS hH hL
  exact lv_ifnonnull C.1 C.2.1 hd ht (k p e s m args below meth c H locs lsa C hS hH hL)
theorem aw_ifnonnullN {off : Int} (hd : decode M.2.1 pc = .ok (.ifnonnull off, 3)) (k : AW Γ M R Φ kn (pc + 3) ls st h nx) : AW Γ M R Φ kn pc ls (.null :: st) h nx := by
  intro p e s m args below meth c H locs lsa C hS hH hL
  exact lv_ifnonnullN C.1 C.2.1 hd (k p e s m args below meth c H locs lsa C hS hH hL)
theorem aw_tableIn {dflt lo hi : Int} {offs : Array Int} {len : Nat} {a off : Int} {tgt : Nat} (hd : decode M.2.1 pc = .ok (.tableswitch dflt lo hi offs, len)) (ha : inI a) (h1 : lo ≤ a) (h2 : a ≤ hi) (ho : offs[(a - lo).toNat]? = some off) (ht : (pc : Int) + off = (tgt : Int)) (k : AW Γ M R Φ kn tgt ls st h nx) : AW Γ M R Φ kn pc ls (vi a :: st) h nx := by
  intro p e s m args below meth c H locs lsa C hS hH hL
  exact lv_tableIn C.1 C.2.1 hd (by rw [I_toInt ha]; omega) (by rw [I_toInt ha]; omega) (by rw [I_toInt ha]; exact ho) ht (k p e s m args below meth c H locs lsa C hS hH hL)
theorem aw_tableOut {dflt lo hi : Int} {offs : Array Int} {len : Nat} {a : Int} {tgt : Nat} (hd : decode M.2.1 pc = .ok (.tableswitch dflt lo hi offs, len)) (ha : inI a) (h1 : a < lo ∨ hi < a) (ht : (pc : Int) + dflt = (tgt : Int)) (k : AW Γ M R Φ kn tgt ls st h nx) : AW Γ M R Φ kn pc ls (vi a :: st) h nx := by
  intro p e s m args below meth c H locs lsa C hS hH hL
  exact lv_tableOut C.1 C.2.1 hd (by rw [I_toInt ha]; exact h1) ht (k p e s m args below meth c H locs lsa C hS hH hL)
theorem aw_kn {kn' : Nat × Nat} (hk : kn.1 ≤ kn'.1 ∧ kn.2 ≤ kn'.2) (k : AW Γ M R Φ kn' pc ls st h nx) : AW Γ M R Φ kn pc ls st h nx := fun p e s m args below meth c H locs lsa C hS hH hL => W.widen hk.1 hk.2 (k p e s m args below meth c H locs lsa C hS hH hL)
end AWR

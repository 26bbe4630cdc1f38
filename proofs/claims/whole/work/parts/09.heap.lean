/-- the cell at a place -/
def hat (h : Nat → AC) (nx o : Nat) (c : AC) : Prop := o < nx ∧ h o = c
def FG (own : String) (j ci k : Nat) : Prop := ∃ (C : String) (T : u_T) (N : Nat), vwCl[ci]? = some (C, T, N) ∧ k < N ∧ (∀ w ∈ u_ws C T N, w ∈ WL) ∧ Cond.fieldLink own j (T k).1 (T k).2.1 (T k).2.2.1 ∈ WL
def FP0 (own : String) (j ci k : Nat) (fin : Bool) (ty : FieldType) : Prop := ∃ (C : String) (T : u_T) (N : Nat) (ty0 : Nat → FieldType), vwCl[ci]? = some (C, T, N) ∧ k < N ∧ (∀ w ∈ u_ws C T N, w ∈ WL) ∧ Cond.fieldLink own j (T k).1 (T k).2.1 (T k).2.2.1 ∈ WL ∧
  (∀ k, k < N → parseFieldDescriptor (T k).2.2.1 = some (ty0 k)) ∧ (∀ a, a < N → ∀ b, b < N → a ≠ b → (T a).2.1 ≠ (T b).2.1) ∧ (T k).2.2.2 = fin ∧ parseFieldDescriptor (T k).2.2.1 = some ty ∧ (fin = true → (T k).1 = own)
def NB (C : String) (ci N : Nat) (own : String) (j : Nat) (fs : List Value) : Prop := ∃ (T : u_T) (ty : Nat → FieldType), vwCl[ci]? = some (C, T, N) ∧ (∀ w ∈ u_ws C T N, w ∈ WL) ∧ (∀ k, k < N → parseFieldDescriptor (T k).2.2.1 = some (ty k)) ∧ Cond.classLink own j C ∈ WL ∧ Cond.instantiable C N ∈ WL ∧ Cond.initialized C ∈ WL ∧ ∀ k, k < N → defaultValue (ty k) = vp_V fs k
/-- what a call needs of the tables -/
def CB (M : MD) (n : Nat) : Prop := Cond.initialized M.1.cls ∈ WL ∧ Cond.code M.1 M.2.1 M.2.2.1 M.2.2.2 ∈ WL ∧ (M.1.cls ≠ "java/lang/invoke/MethodHandle" ∧ M.1.cls ≠ "java/lang/invoke/VarHandle") ∧ (parseMethodDescriptor M.1.desc).map (fun d => d.parameters.length) = some n ∧ M.2.2.1 ≤ 28
def CV (own : String) (j : Nat) (M : MD) (n : Nat) : Prop := CB M n ∧ Cond.instanceMethod M.1 ∈ WL ∧ Cond.selects M.1.cls M.1 M.1 ∈ WL ∧ Cond.methodLink own j M.1 ∈ WL
def CS (own : String) (j : Nat) (M : MD) (n : Nat) : Prop := CB M n ∧ Cond.static M.1 ∈ WL ∧ Cond.methodLink own j M.1 ∈ WL
def CSN (own : String) (j : Nat) (M : MD) (n : Nat) : Prop := CB M n ∧ Cond.static M.1 ∈ WL ∧ ∃ host, Cond.methodLinkNest own j M.1 host ∈ NW
def CI (own : String) (j : Nat) (M : MD) (n : Nat) : Prop := CB M n ∧ Cond.instanceMethod M.1 ∈ WL ∧ M.1.name = "<init>" ∧ Cond.methodLink own j M.1 ∈ WL ∧ M.2.2.2 = none
def CIN (own : String) (j : Nat) (M : MD) (n : Nat) : Prop := CB M n ∧ Cond.instanceMethod M.1 ∈ WL ∧ M.1.name = "<init>" ∧ M.2.2.2 = none ∧ ∃ host, Cond.methodLinkNest own j M.1 host ∈ NW
theorem gdP {Γ : GT} {as : List Value} {h : Nat → AC} {nx : Nat} : FrameBlind (Pcx Γ as h nx) := fun a U g mk q => ⟨q.1, q.2.1.calling, q.2.2⟩
theorem gdU {Γ : GT} {s U : State} {as : List Value} {h : Nat → AC} {nx : Nat} {H : Heap} {locs : List Loc} (hG : GG Γ s) (hS : va_S (gF Γ) s.heap H locs) (hH : Hp Γ h nx H) (hU : U.heap = H) (hW : s.WarmedH U.vm) : Pcx Γ as h nx as.toArray U :=
  ⟨rfl, hG.warm hW (by rw [hU, hH.1]; omega) (fun a h1 h2 => by rw [hU]; exact hS.2.1 a h1 h2), by rw [hU]; exact hH⟩
section AWH
variable {Γ : GT} {M : MD} {R : Room} {Φ : PH} {kn : Nat × Nat} {pc : Nat} {ls : List (Option Value)} {st : List Value} {h : Nat → AC} {nx : Nat}
theorem aw_getf {j ci k o : Nat} {fs : List Value} {v : Value} (F : FG M.1.cls j ci k) (hd : decode M.2.1 pc = .ok (.getfield j, 3)) (he : hat h nx o (ob ci fs)) (hv : fs[k]? = some v) (kk : AW Γ M R Φ kn (pc + 3) ls (v :: st) h nx) : AW Γ M R Φ kn pc ls (rf Γ o :: st) h nx := by
  intro p e s m args below meth c H locs lsa C hS hH hL
  obtain ⟨cn, T, N, h1, h2, h3, h4⟩ := F
  exact va_get (tys := gty Γ) (C := cn) (T := T) (N := N) C.1 C.2.1 C.2.2.2.2.2.2.2.1 h3 C.2.2.2.2.2.1 C.2.2.2.2.2.2.2.2.1 (hH.P he.1 he.2) 0 rfl h1 k h2 (C.2.2.2.2.2.2.2.1 _ h4) (fun _ q => q) hv hd (kk p e s m args below meth c H locs lsa C hS hH hL)
theorem aw_put0 {j ci k o : Nat} {fs : List Value} {v : Value} {ty : FieldType} {fin : Bool} {h' : Nat → AC} (F : FP0 M.1.cls j ci k fin ty) (hin : fin = true → M.1.name = "<init>") (hn : narrow ty v = v) (hfit : fits ty v = true) (hd : decode M.2.1 pc = .ok (.putfield j, 3)) (he : hat h nx o (ob ci fs)) (hl : k < fs.length) (hh : va_up h o (ob ci (fs.set k v)) = h') (kk : AW Γ M R Φ kn (pc + 3) ls st h' nx) : AW Γ M R Φ kn pc ls (v :: rf Γ o :: st) h nx := by
  intro p e s m args below meth c H locs lsa C hS hH hL
  obtain ⟨cn, T, N, ty0, hc, hk, h3, h4, hty, hnm, hfin, hdd, hdecl⟩ := F
  have hts := C.2.2.2.2.2.2.2.1
  have hK := C.2.2.2.2.2.2.2.2.1
  have hown := C.2.2.2.2.2.1
  have hap := va_apart (own := M.1.cls) hts h3 ty0 hty hnm hK hc
  obtain ⟨r, h1, cell, q1, q2, q3, q4⟩ := (hH.P he.1 he.2) 0 _ rfl
  have hr : r = (cn, T, N) := Option.some.inj (h1.symm.trans hc)
  subst hr
  obtain ⟨hSl, hfc, kC, hkC, hkind⟩ := hK.1 ci _ hc
  obtain ⟨cf, kf, fi, f, hi, hsl⟩ := hSl k hk
  have hlay := hts _ (h3 _ (u_in_lay hk))
  have hst := (u_facts hfc hkC (u_lays hts h3 hk) hi).1
  have hlt : f.slot < cell.slots.size := by rw [hsl]; exact k2_hasslot (q4 k hk)
  have fin2 : ∀ H' : Heap, H'[gB Γ + o]? = some (cell.setSlot f.slot v) → H'.size = H.size → (∀ q, q ≠ gB Γ + o → H'[q]? = H[q]?) → W p (gL Γ) e R s m args below meth c H' (locs ++ [⟨gB Γ + o, f.slot⟩]) kn.1 kn.2 (Φ s args below) (F0 m (pc + 3) lsa st) := by
    intro H' e1 e2 e3
    refine kk p e s m args below meth c H' _ lsa C (hS.put e2 e3 (show gB Γ ≤ gB Γ + o by omega)) ?_ hL
    rw [← hh]
    rw [hsl] at e1
    exact hH.up e2 e3 ⟨_, hc, t_OB.to (V := updV (vp_V fs) k v) ⟨_, e1, q2, q3, t_set q4 hap hk v⟩ (fun j _ => vp_updV_set hl v j)⟩
  cases fin with
  | false =>
    unfold u_lay at hlay
    rw [if_neg (by rw [hfin]; decide)] at hlay
    have h6 := u_store hfc hkC hkind hlay hi hdd hn hfit
    exact W.putK C.1 C.2.1 (f := f) ⟨hown, hts _ h4, ⟨_, _, _, hi⟩, hst⟩ (by rw [q2]; exact h6) q1 q3 hlt rfl rfl hd fin2
  | true =>
    unfold u_lay at hlay
    rw [if_pos hfin] at hlay
    have hcf : m.cls = cf := by
      obtain ⟨_, _, c', _, _, _, -, -, hf', -, -, -, hown2, -⟩ := Cond.laysFinal_spec hlay
      have e1 : c' = cf := by have := hi.symm.trans hf'; simp at this; exact this.1.symm
      rw [hdecl rfl] at hown2
      rw [← e1]; exact Option.some.inj (hown.symm.trans hown2)
    have h6 := u_fits hfc hkC hkind (Or.inr hlay) hi hdd hn hfit
    exact W.putFinK C.1 C.2.1 hown (hts _ h4) hi hst hcf (C.2.2.2.2.2.2.1.trans (hin rfl)) (by rw [q2]; exact h6) q1 q3 hlt rfl rfl hd fin2
theorem aw_putf {j ci k o : Nat} {fs : List Value} {x : Int32} {h' : Nat → AC} (F : FP0 M.1.cls j ci k false .int) (hd : decode M.2.1 pc = .ok (.putfield j, 3)) (he : hat h nx o (ob ci fs)) (hl : k < fs.length) (hh : va_up h o (ob ci (fs.set k (.int x))) = h') (kk : AW Γ M R Φ kn (pc + 3) ls st h' nx) : AW Γ M R Φ kn pc ls (.int x :: rf Γ o :: st) h nx :=
  aw_put0 F (fun q => by cases q) rfl rfl hd he hl hh kk
theorem aw_new {C : String} {ci N j : Nat} {fs : List Value} {kn' : Nat × Nat} (B : NB C ci N M.1.cls j fs) (hd : decode M.2.1 pc = .ok (.new j, 3)) (hc : kn.1 + 1 ≤ R.cells) (hs : kn.2 + N ≤ R.slots) (hk : kn' = (kn.1 + 1, kn.2 + N)) (kk : AW Γ M R Φ kn' (pc + 3) ls (rf Γ nx :: st) (va_up h nx (ob ci fs)) (nx + 1)) : AW Γ M R Φ kn pc ls st h nx := by
  intro p e s m args below meth c H locs lsa X hS hH hL
  obtain ⟨T, ty, h1, h2, h3, h4, h5, h6, h7⟩ := B
  subst hk
  have hts := X.2.2.2.2.2.2.2.1
  have hKn := X.2.2.2.2.2.2.2.2.1.1 ci _ h1
  refine W.newcK X.1 X.2.1 X.2.2.2.2.2.1 (hts _ h4) (hts _ h5) (hts _ h6) rfl hd hc hs hKn.2.1 hH.1 fun H1 kC hkC e1 z1 o1 => ?_
  refine kk p e s m args below meth c H1 locs lsa X ⟨Nat.le_trans hS.1 (by rw [z1, hH.1]; omega), fun x g1 g2 => (o1 x (by have := hS.1; rw [hH.1] at this; omega)).trans (hS.2.1 x g1 g2), hS.2.2⟩ ⟨by rw [z1]; omega, fun k hk => ?_⟩ hL
  by_cases hkn : k = nx
  · subst hkn
    simp only [va_up, if_true]
    exact ⟨_, h1, (u_born ty hts h2 hKn hkC e1 h3).to h7⟩
  · simp only [va_up, if_neg hkn]
    exact (hH.2 k (by omega)).kept (o1 _ (by show gB Γ + k < gB Γ + nx; omega))
theorem aw_newx {n : Nat} {at_ : ArrayType} {ty : FieldType} {t : Nat} {a0 : vp_A} {kn' : Nat × Nat} (hty : newarray.typeOf at_ = ty) (ht : (gty Γ)[t]? = some (gA Γ t, ty)) (hw : Cond.arrayClass ty ∈ WL) (hr : ∀ (U : State) (cA : ClassId), va_RA U cA ty → U.vm.findClass ("[" ++ ty.toString) = some cA) (ha : ∀ cA : ClassId, vp_cell cA a0 = arrV cA n (fun _ => defaultValue ty)) (hb : n * componentBytes ty ≤ 536870912) (hn : n < 2147483648) (hd : decode M.2.1 pc = .ok (.newarray at_, 2)) (hc : kn.1 + 1 ≤ R.cells) (hs : kn.2 + n ≤ R.slots) (hk : kn' = (kn.1 + 1, kn.2 + n)) (kk : AW Γ M R Φ kn' (pc + 2) ls (rf Γ nx :: st) (va_up h nx (.inl (t, a0))) (nx + 1)) : AW Γ M R Φ kn pc ls (vi n :: st) h nx := by
  intro p e s m args below meth c H locs lsa X hS hH hL
  subst hty
  subst hk
  have hts := X.2.2.2.2.2.2.2.1
  have hK := X.2.2.2.2.2.2.2.2.1
  have hin : inI (n : Int) := ⟨by omega, by omega⟩
  refine va_newaK X.1 X.2.1 (hts _ hw) rfl hd rfl (by rw [show (0 : Int32) = I 0 from rfl, I_lt hin ⟨by omega, by omega⟩]; omega) (I_clamp (by omega) hin) hb hc hs hH.1 fun H1 cA e1 z1 o1 hAr hNm => ?_
  have hcA : cA = gA Γ t := Option.some.inj (hNm.symm.trans (hr s _ (hK.2 t _ ht).2))
  refine kk p e s m args below meth c H1 locs lsa X ⟨Nat.le_trans hS.1 (by rw [z1, hH.1]; omega), fun x g1 g2 => (o1 x (by have := hS.1; rw [hH.1] at this; omega)).trans (hS.2.1 x g1 g2), hS.2.2⟩ ⟨by rw [z1]; omega, fun k hk => ?_⟩ hL
  by_cases hkn : k = nx
  · subst hkn
    simp only [va_up, if_true]
    show H1[gB Γ + k]? = some (vp_cell (gA Γ t) a0)
    rw [ha, ← hcA]
    exact e1
  · simp only [va_up, if_neg hkn]
    exact (hH.2 k (by omega)).kept (o1 _ (by show gB Γ + k < gB Γ + nx; omega))
theorem aw_newi {n : Nat} {kn' : Nat × Nat} (hb : n * componentBytes .int ≤ 536870912) (hn : n < 2147483648) (hd : decode M.2.1 pc = .ok (.newarray .int, 2)) (hc : kn.1 + 1 ≤ R.cells) (hs : kn.2 + n ≤ R.slots) (hk : kn' = (kn.1 + 1, kn.2 + n)) (kk : AW Γ M R Φ kn' (pc + 2) ls (rf Γ nx :: st) (va_up h nx (ai n (fun _ => 0))) (nx + 1)) : AW Γ M R Φ kn pc ls (vi n :: st) h nx :=
  aw_newx (at_ := .int) (t := 0) rfl rfl qa_int (fun U cA q => q) (fun cA => rfl) hb hn hd hc hs hk kk
theorem aw_newl {n : Nat} {kn' : Nat × Nat} (hb : n * componentBytes .long ≤ 536870912) (hn : n < 2147483648) (hd : decode M.2.1 pc = .ok (.newarray .long, 2)) (hc : kn.1 + 1 ≤ R.cells) (hs : kn.2 + n ≤ R.slots) (hk : kn' = (kn.1 + 1, kn.2 + n)) (kk : AW Γ M R Φ kn' (pc + 2) ls (rf Γ nx :: st) (va_up h nx (al n (fun _ => 0))) (nx + 1)) : AW Γ M R Φ kn pc ls (vi n :: st) h nx :=
  aw_newx (at_ := .long) (t := 1) rfl rfl qa_long (fun U cA q => q) (fun cA => rfl) hb hn hd hc hs hk kk
theorem aw_newb {n : Nat} {kn' : Nat × Nat} (hb : n * componentBytes .byte ≤ 536870912) (hn : n < 2147483648) (hd : decode M.2.1 pc = .ok (.newarray .byte, 2)) (hc : kn.1 + 1 ≤ R.cells) (hs : kn.2 + n ≤ R.slots) (hk : kn' = (kn.1 + 1, kn.2 + n)) (kk : AW Γ M R Φ kn' (pc + 2) ls (rf Γ nx :: st) (va_up h nx (ab n (fun _ => 0))) (nx + 1)) : AW Γ M R Φ kn pc ls (vi n :: st) h nx :=
  aw_newx (at_ := .byte) (t := 2) rfl rfl qa_byte (fun U cA q => q) (fun cA => rfl) hb hn hd hc hs hk kk
theorem aw_newz {n : Nat} {kn' : Nat × Nat} (hb : n * componentBytes .boolean ≤ 536870912) (hn : n < 2147483648) (hd : decode M.2.1 pc = .ok (.newarray .boolean, 2)) (hc : kn.1 + 1 ≤ R.cells) (hs : kn.2 + n ≤ R.slots) (hk : kn' = (kn.1 + 1, kn.2 + n)) (kk : AW Γ M R Φ kn' (pc + 2) ls (rf Γ nx :: st) (va_up h nx (az n (fun _ => 0))) (nx + 1)) : AW Γ M R Φ kn pc ls (vi n :: st) h nx :=
  aw_newx (at_ := .boolean) (t := 3) rfl rfl qa_boolean (fun U cA q => q) (fun cA => rfl) hb hn hd hc hs hk kk
theorem aw_newd {n : Nat} {kn' : Nat × Nat} (hb : n * componentBytes .double ≤ 536870912) (hn : n < 2147483648) (hd : decode M.2.1 pc = .ok (.newarray .double, 2)) (hc : kn.1 + 1 ≤ R.cells) (hs : kn.2 + n ≤ R.slots) (hk : kn' = (kn.1 + 1, kn.2 + n)) (kk : AW Γ M R Φ kn' (pc + 2) ls (rf Γ nx :: st) (va_up h nx (ad n (fun _ => 0))) (nx + 1)) : AW Γ M R Φ kn pc ls (vi n :: st) h nx :=
  aw_newx (at_ := .double) (t := 4) rfl rfl qa_double (fun U cA q => q) (fun cA => rfl) hb hn hd hc hs hk kk
theorem aw_newq {n j : Nat} {kn' : Nat × Nat} (hl : Cond.classLink M.1.cls j "QuotaLicences$State" ∈ WL) (hb : n * 4 ≤ 536870912) (hd : decode M.2.1 pc = .ok (.anewarray j, 3)) (hc : kn.1 + 1 ≤ R.cells) (hs : kn.2 + n ≤ R.slots) (hk : kn' = (kn.1 + 1, kn.2 + n)) (kk : AW Γ M R Φ kn' (pc + 3) ls (rf Γ nx :: st) (va_up h nx (aq Γ n (fun _ => -1))) (nx + 1)) : AW Γ M R Φ kn pc ls (vi n :: st) h nx := by
  intro p e s m args below meth c H locs lsa X hS hH hL
  subst hk
  have hts := X.2.2.2.2.2.2.2.1
  have hK := X.2.2.2.2.2.2.2.2.1
  have hin : inI (n : Int) := ⟨by omega, by omega⟩
  have hcl : (I (n : Int)).toNatClampNeg = n := I_clamp (by omega) hin
  refine W.anew X.1 X.2.1 X.2.2.2.2.2.1 (hts _ hl) (va_AO.use X.2.2.2.2.2.2.2.2.2.2.2.2) rfl hd rfl (by rw [show (0 : Int32) = I 0 from rfl, I_lt hin ⟨by omega, by omega⟩]; omega) (by rw [hcl]; exact hb) hc (by rw [hcl]; exact hs) fun cA kA comp f1 f2 f3 f4 => ?_
  rw [hcl]
  obtain ⟨kA', comp', k1, k2, k3, k4⟩ := (hK.2 5 _ rfl).2
  have hcA : cA = gA Γ 5 := Option.some.inj (f1.symm.trans k4)
  generalize hH1 : H.push ({ cls := cA, slots := Array.replicate n .null, vm := .none } : Cell) = H1
  have z1 : H1.size = H.size + 1 := by rw [← hH1, Array.size_push]
  have e1 : H1[H.size]? = some (arrV cA n (fun _ => .null)) := by rw [← hH1, Array.getElem?_push_size, ← arrV_new]
  have o1 : ∀ q : Nat, q < H.size → H1[q]? = H[q]? := fun q hq => by rw [← hH1, Array.getElem?_push, if_neg (Nat.ne_of_lt hq)]
  rw [hH.1] at e1 z1
  rw [show Value.ref H.size = rf Γ nx by rw [hH.1]]
  refine kk p e s m args below meth c H1 locs lsa X ⟨Nat.le_trans hS.1 (by rw [z1, hH.1]; omega), fun x g1 g2 => (o1 x (by have := hS.1; omega)).trans (hS.2.1 x g1 g2), hS.2.2⟩ ⟨by rw [z1]; omega, fun k hk => ?_⟩ hL
  by_cases hkn : k = nx
  · subst hkn
    simp only [va_up, if_true]
    show H1[gB Γ + k]? = some (vp_cell (gA Γ 5) _)
    rw [e1, hcA]
    rfl
  · simp only [va_up, if_neg hkn]
    exact (hH.2 k (by omega)).kept (o1 _ (by rw [hH.1]; show gB Γ + k < gB Γ + nx; omega))
theorem aw_iald {n o : Nat} {a : Int → Int} {i : Int} (hd : decode M.2.1 pc = .ok (.iaload, 1)) (he : hat h nx o (ai n a)) (hi : 0 ≤ i ∧ i < (n : Int)) (hn : n < 2147483648) (kk : AW Γ M R Φ kn (pc + 1) ls (vi (a i) :: st) h nx) : AW Γ M R Φ kn pc ls (vi i :: rf Γ o :: st) h nx := by
  intro p e s m args below meth c H locs lsa C hS hH hL
  refine va_iald (tys := gty Γ) C.1 C.2.1 C.2.2.2.2.2.2.2.2.1 (hH.P he.1 he.2) 0 0 rfl rfl (I_in hi.1 hi.2 hn) hd ?_
  rw [I_clamp hi.1 ⟨by omega, by omega⟩]
  show W _ _ _ _ _ _ _ _ _ _ _ _ _ _ _ (F0 _ _ _ (_ :: _))
  rw [Int.toNat_of_nonneg hi.1]
  exact kk p e s m args below meth c H locs lsa C hS hH hL
theorem aw_lald {n o : Nat} {a : Int → Int} {i : Int} (hd : decode M.2.1 pc = .ok (.laload, 1)) (he : hat h nx o (al n a)) (hi : 0 ≤ i ∧ i < (n : Int)) (hn : n < 2147483648) (kk : AW Γ M R Φ kn (pc + 1) ls (vl (a i) :: st) h nx) : AW Γ M R Φ kn pc ls (vi i :: rf Γ o :: st) h nx := by
  intro p e s m args below meth c H locs lsa C hS hH hL
  refine va_lald (tys := gty Γ) C.1 C.2.1 C.2.2.2.2.2.2.2.2.1 (hH.P he.1 he.2) 0 1 rfl rfl (I_in hi.1 hi.2 hn) hd ?_
  rw [I_clamp hi.1 ⟨by omega, by omega⟩]
  show W _ _ _ _ _ _ _ _ _ _ _ _ _ _ _ (F0 _ _ _ (_ :: _))
  rw [Int.toNat_of_nonneg hi.1]
  exact kk p e s m args below meth c H locs lsa C hS hH hL
theorem aw_bald {n o : Nat} {a : Int → Int} {i : Int} (hd : decode M.2.1 pc = .ok (.baload, 1)) (he : hat h nx o (ab n a)) (hi : 0 ≤ i ∧ i < (n : Int)) (hn : n < 2147483648) (kk : AW Γ M R Φ kn (pc + 1) ls (vi (a i) :: st) h nx) : AW Γ M R Φ kn pc ls (vi i :: rf Γ o :: st) h nx := by
  intro p e s m args below meth c H locs lsa C hS hH hL
  refine va_bald (tys := gty Γ) C.1 C.2.1 C.2.2.2.2.2.2.2.2.1 (hH.P he.1 he.2) 0 2 rfl rfl (I_in hi.1 hi.2 hn) hd ?_
  rw [I_clamp hi.1 ⟨by omega, by omega⟩]
  show W _ _ _ _ _ _ _ _ _ _ _ _ _ _ _ (F0 _ _ _ (_ :: _))
  rw [Int.toNat_of_nonneg hi.1]
  exact kk p e s m args below meth c H locs lsa C hS hH hL
theorem aw_zald {n o : Nat} {a : Int → Int} {i : Int} (hd : decode M.2.1 pc = .ok (.baload, 1)) (he : hat h nx o (az n a)) (hi : 0 ≤ i ∧ i < (n : Int)) (hn : n < 2147483648) (kk : AW Γ M R Φ kn (pc + 1) ls (vi (a i) :: st) h nx) : AW Γ M R Φ kn pc ls (vi i :: rf Γ o :: st) h nx := by
  intro p e s m args below meth c H locs lsa C hS hH hL
  refine va_zald (tys := gty Γ) C.1 C.2.1 C.2.2.2.2.2.2.2.2.1 (hH.P he.1 he.2) 0 3 rfl rfl (I_in hi.1 hi.2 hn) hd ?_
  rw [I_clamp hi.1 ⟨by omega, by omega⟩]
  show W _ _ _ _ _ _ _ _ _ _ _ _ _ _ _ (F0 _ _ _ (_ :: _))
  rw [Int.toNat_of_nonneg hi.1]
  exact kk p e s m args below meth c H locs lsa C hS hH hL
theorem aw_dald {n o : Nat} {a : Int → Int} {i : Int} (hd : decode M.2.1 pc = .ok (.daload, 1)) (he : hat h nx o (ad n a)) (hi : 0 ≤ i ∧ i < (n : Int)) (hn : n < 2147483648) (kk : AW Γ M R Φ kn (pc + 1) ls (Value.double (L (a i)).toUInt64 :: st) h nx) : AW Γ M R Φ kn pc ls (vi i :: rf Γ o :: st) h nx := by
  intro p e s m args below meth c H locs lsa C hS hH hL
  refine va_dald (tys := gty Γ) C.1 C.2.1 C.2.2.2.2.2.2.2.2.1 (hH.P he.1 he.2) 0 4 rfl rfl (I_in hi.1 hi.2 hn) hd ?_
  rw [I_clamp hi.1 ⟨by omega, by omega⟩]
  show W _ _ _ _ _ _ _ _ _ _ _ _ _ _ _ (F0 _ _ _ (_ :: _))
  rw [Int.toNat_of_nonneg hi.1]
  exact kk p e s m args below meth c H locs lsa C hS hH hL
theorem aw_aaldN {n o : Nat} {a : Int → Int} {i : Int} (hd : decode M.2.1 pc = .ok (.aaload, 1)) (he : hat h nx o (aq Γ n a)) (hi : 0 ≤ i ∧ i < (n : Int)) (hn : n < 2147483648) (hv : a i < 0) (kk : AW Γ M R Φ kn (pc + 1) ls (.null :: st) h nx) : AW Γ M R Φ kn pc ls (vi i :: rf Γ o :: st) h nx := by
  intro p e s m args below meth c H locs lsa C hS hH hL
  refine va_aldq (tys := gty Γ) C.1 C.2.1 C.2.2.2.2.2.2.2.2.1 (hH.P he.1 he.2) 0 5 rfl rfl (I_in hi.1 hi.2 hn) hd ?_
  rw [I_clamp hi.1 ⟨by omega, by omega⟩, Int.toNat_of_nonneg hi.1, if_pos hv]
  exact kk p e s m args below meth c H locs lsa C hS hH hL
theorem aw_aaldR {n o : Nat} {a : Int → Int} {i : Int} (hd : decode M.2.1 pc = .ok (.aaload, 1)) (he : hat h nx o (aq Γ n a)) (hi : 0 ≤ i ∧ i < (n : Int)) (hn : n < 2147483648) (hv : 0 ≤ a i) (kk : AW Γ M R Φ kn (pc + 1) ls (rf Γ (a i).toNat :: st) h nx) : AW Γ M R Φ kn pc ls (vi i :: rf Γ o :: st) h nx := by
  intro p e s m args below meth c H locs lsa C hS hH hL
  refine va_aldq (tys := gty Γ) C.1 C.2.1 C.2.2.2.2.2.2.2.2.1 (hH.P he.1 he.2) 0 5 rfl rfl (I_in hi.1 hi.2 hn) hd ?_
  rw [I_clamp hi.1 ⟨by omega, by omega⟩, Int.toNat_of_nonneg hi.1, if_neg (by omega)]
  exact kk p e s m args below meth c H locs lsa C hS hH hL
theorem aw_alen {o : Nat} {t n : Nat} {a : (Nat → Int32) ⊕ (Nat → Int64) ⊕ (Nat → UInt32) ⊕ (Nat → UInt64) ⊕ (Nat → Option Nat)} {ty : FieldType} (hd : decode M.2.1 pc = .ok (.arraylength, 1)) (he : hat h nx o (.inl (t, n, a))) (ht : (gty Γ)[t]? = some (gA Γ t, ty)) (kk : AW Γ M R Φ kn (pc + 1) ls (vi n :: st) h nx) : AW Γ M R Φ kn pc ls (rf Γ o :: st) h nx := by
  intro p e s m args below meth c H locs lsa C hS hH hL
  refine va_alen (tys := gty Γ) (v := I n) C.1 C.2.1 C.2.2.2.2.2.2.2.2.1 (hH.P he.1 he.2) 0 t rfl ht ?_ hd (kk p e s m args below meth c H locs lsa C hS hH hL)
  show Int32.ofNat n = Int32.ofInt (n : Int)
  exact (Int32.ofInt_eq_ofNat).symm
theorem aw_iast {n o : Nat} {a : Int → Int} {i : Int} {x : Int} {h' : Nat → AC} (hd : decode M.2.1 pc = .ok (.iastore, 1)) (he : hat h nx o (ai n a)) (hi : 0 ≤ i ∧ i < (n : Int)) (hn : n < 2147483648) (hh : va_up h o (ai n (uz a i x)) = h') (kk : AW Γ M R Φ kn (pc + 1) ls st h' nx) : AW Γ M R Φ kn pc ls (vi x :: vi i :: rf Γ o :: st) h nx := by
  intro p e s m args below meth c H locs lsa C hS hH hL
  have hP := (hH.P he.1 he.2) 0 _ rfl
  have hcl : (I i).toNatClampNeg = i.toNat := I_clamp hi.1 ⟨by omega, by omega⟩
  refine W.iast C.1 C.2.1 hP ((C.2.2.2.2.2.2.2.2.1.2 0 _ rfl).1 n (fun j => .int (I (a j)))) (fun q => by cases q) (by show ¬ (I i < 0 ∨ (arrV _ _ _).slots.size ≤ _); rw [arrV_size]; exact I_in hi.1 hi.2 hn) rfl rfl hd fun H1 e1 z oq => ?_
  refine kk p e s m args below meth c H1 _ lsa C (hS.put z oq (show gB Γ ≤ gB Γ + o by omega)) ?_ hL
  rw [← hh]
  refine hH.up z oq ?_
  show H1[gB Γ + o]? = some (vp_cell _ _)
  rw [e1, hcl]
  show some ((arrV (gA Γ 0) n (fun j => .int (I (a j)))).setSlot _ _) = some (arrV (gA Γ 0) n (fun j => .int (I (uz a i x j))))
  rw [arrV_store]
  congr 2
  funext q
  by_cases hq : q = i.toNat
  · subst hq
    simp only [updV, if_true]
    rw [Int.toNat_of_nonneg hi.1, uz_s]
    first | rfl | done
  · simp only [updV, if_neg hq]
    rw [uz_n _ _ (by omega)]
theorem aw_last {n o : Nat} {a : Int → Int} {i : Int} {x : Int} {h' : Nat → AC} (hd : decode M.2.1 pc = .ok (.lastore, 1)) (he : hat h nx o (al n a)) (hi : 0 ≤ i ∧ i < (n : Int)) (hn : n < 2147483648) (hh : va_up h o (al n (uz a i x)) = h') (kk : AW Γ M R Φ kn (pc + 1) ls st h' nx) : AW Γ M R Φ kn pc ls (vl x :: vi i :: rf Γ o :: st) h nx := by
  intro p e s m args below meth c H locs lsa C hS hH hL
  have hP := (hH.P he.1 he.2) 0 _ rfl
  have hcl : (I i).toNatClampNeg = i.toNat := I_clamp hi.1 ⟨by omega, by omega⟩
  refine W.last C.1 C.2.1 hP ((C.2.2.2.2.2.2.2.2.1.2 1 _ rfl).1 n (fun j => .long (L (a j)))) (fun q => by cases q) (by show ¬ (I i < 0 ∨ (arrV _ _ _).slots.size ≤ _); rw [arrV_size]; exact I_in hi.1 hi.2 hn) rfl rfl hd fun H1 e1 z oq => ?_
  refine kk p e s m args below meth c H1 _ lsa C (hS.put z oq (show gB Γ ≤ gB Γ + o by omega)) ?_ hL
  rw [← hh]
  refine hH.up z oq ?_
  show H1[gB Γ + o]? = some (vp_cell _ _)
  rw [e1, hcl]
  show some ((arrV (gA Γ 1) n (fun j => .long (L (a j)))).setSlot _ _) = some (arrV (gA Γ 1) n (fun j => .long (L (uz a i x j))))
  rw [arrV_store]
  congr 2
  funext q
  by_cases hq : q = i.toNat
  · subst hq
    simp only [updV, if_true]
    rw [Int.toNat_of_nonneg hi.1, uz_s]
    first | rfl | done
  · simp only [updV, if_neg hq]
    rw [uz_n _ _ (by omega)]
theorem aw_bast {n o : Nat} {a : Int → Int} {i : Int} {x : Int} {h' : Nat → AC} (hd : decode M.2.1 pc = .ok (.bastore, 1)) (he : hat h nx o (ab n a)) (hi : 0 ≤ i ∧ i < (n : Int)) (hn : n < 2147483648) (hx : narrow .byte (vi x) = vi x) (hh : va_up h o (ab n (uz a i x)) = h') (kk : AW Γ M R Φ kn (pc + 1) ls st h' nx) : AW Γ M R Φ kn pc ls (vi x :: vi i :: rf Γ o :: st) h nx := by
  intro p e s m args below meth c H locs lsa C hS hH hL
  have hP := (hH.P he.1 he.2) 0 _ rfl
  have hcl : (I i).toNatClampNeg = i.toNat := I_clamp hi.1 ⟨by omega, by omega⟩
  refine W.bast C.1 C.2.1 hP ((C.2.2.2.2.2.2.2.2.1.2 2 _ rfl).1 n (fun j => .int (I (a j)))) (fun q => by cases q) (by show ¬ (I i < 0 ∨ (arrV _ _ _).slots.size ≤ _); rw [arrV_size]; exact I_in hi.1 hi.2 hn) rfl rfl hd fun H1 e1 z oq => ?_
  refine kk p e s m args below meth c H1 _ lsa C (hS.put z oq (show gB Γ ≤ gB Γ + o by omega)) ?_ hL
  rw [← hh]
  refine hH.up z oq ?_
  show H1[gB Γ + o]? = some (vp_cell _ _)
  rw [e1, hcl]
  show some ((arrV (gA Γ 2) n (fun j => .int (I (a j)))).setSlot _ _) = some (arrV (gA Γ 2) n (fun j => .int (I (uz a i x j))))
  rw [arrV_store]
  congr 2
  funext q
  by_cases hq : q = i.toNat
  · subst hq
    simp only [updV, if_true]
    rw [Int.toNat_of_nonneg hi.1, uz_s]
    exact hx
  · simp only [updV, if_neg hq]
    rw [uz_n _ _ (by omega)]
theorem aw_zast {n o : Nat} {a : Int → Int} {i : Int} {x : Int} {h' : Nat → AC} (hd : decode M.2.1 pc = .ok (.bastore, 1)) (he : hat h nx o (az n a)) (hi : 0 ≤ i ∧ i < (n : Int)) (hn : n < 2147483648) (hx : narrow .boolean (vi x) = vi x) (hh : va_up h o (az n (uz a i x)) = h') (kk : AW Γ M R Φ kn (pc + 1) ls st h' nx) : AW Γ M R Φ kn pc ls (vi x :: vi i :: rf Γ o :: st) h nx := by
  intro p e s m args below meth c H locs lsa C hS hH hL
  have hP := (hH.P he.1 he.2) 0 _ rfl
  have hcl : (I i).toNatClampNeg = i.toNat := I_clamp hi.1 ⟨by omega, by omega⟩
  refine W.zast C.1 C.2.1 hP ((C.2.2.2.2.2.2.2.2.1.2 3 _ rfl).1 n (fun j => .int (I (a j)))) (fun q => by cases q) (by show ¬ (I i < 0 ∨ (arrV _ _ _).slots.size ≤ _); rw [arrV_size]; exact I_in hi.1 hi.2 hn) rfl rfl hd fun H1 e1 z oq => ?_
  refine kk p e s m args below meth c H1 _ lsa C (hS.put z oq (show gB Γ ≤ gB Γ + o by omega)) ?_ hL
  rw [← hh]
  refine hH.up z oq ?_
  show H1[gB Γ + o]? = some (vp_cell _ _)
  rw [e1, hcl]
  show some ((arrV (gA Γ 3) n (fun j => .int (I (a j)))).setSlot _ _) = some (arrV (gA Γ 3) n (fun j => .int (I (uz a i x j))))
  rw [arrV_store]
  congr 2
  funext q
  by_cases hq : q = i.toNat
  · subst hq
    simp only [updV, if_true]
    rw [Int.toNat_of_nonneg hi.1, uz_s]
    exact hx
  · simp only [updV, if_neg hq]
    rw [uz_n _ _ (by omega)]
theorem aw_dast {n o : Nat} {a : Int → Int} {i : Int} {x : UInt64} {h' : Nat → AC} (hd : decode M.2.1 pc = .ok (.dastore, 1)) (he : hat h nx o (ad n a)) (hi : 0 ≤ i ∧ i < (n : Int)) (hn : n < 2147483648) (hh : va_up h o (ad n (uz a i x.toInt64.toInt)) = h') (kk : AW Γ M R Φ kn (pc + 1) ls st h' nx) : AW Γ M R Φ kn pc ls (.double x :: vi i :: rf Γ o :: st) h nx := by
  intro p e s m args below meth c H locs lsa C hS hH hL
  have hP := (hH.P he.1 he.2) 0 _ rfl
  have hcl : (I i).toNatClampNeg = i.toNat := I_clamp hi.1 ⟨by omega, by omega⟩
  refine W.dast C.1 C.2.1 hP ((C.2.2.2.2.2.2.2.2.1.2 4 _ rfl).1 n (fun j => .double (L (a j)).toUInt64)) (fun q => by cases q) (by show ¬ (I i < 0 ∨ (arrV _ _ _).slots.size ≤ _); rw [arrV_size]; exact I_in hi.1 hi.2 hn) rfl rfl hd fun H1 e1 z oq => ?_
  refine kk p e s m args below meth c H1 _ lsa C (hS.put z oq (show gB Γ ≤ gB Γ + o by omega)) ?_ hL
  rw [← hh]
  refine hH.up z oq ?_
  show H1[gB Γ + o]? = some (vp_cell _ _)
  rw [e1, hcl]
  show some ((arrV (gA Γ 4) n (fun j => .double (L (a j)).toUInt64)).setSlot _ _) = some (arrV (gA Γ 4) n (fun j => .double (L (uz a i (x.toInt64.toInt) j)).toUInt64))
  rw [arrV_store]
  congr 2
  funext q
  by_cases hq : q = i.toNat
  · subst hq
    simp only [updV, if_true]
    rw [Int.toNat_of_nonneg hi.1, uz_s]
    rw [L_of]; simp
  · simp only [updV, if_neg hq]
    rw [uz_n _ _ (by omega)]
/-! returns -/
theorem aw_ireturn {Q : QT} {ρ : RM} {kn : Nat × Nat} {a : Int} {ty : FieldType} (hd : decode M.2.1 pc = .ok (.ireturn, 1)) (ht : M.2.2.2 = some ty) (hn : narrow ty (vi a) = vi a) (hk : kn.1 ≤ ρ.2.1 ∧ kn.2 ≤ ρ.2.2) (hq : Q (some (vi a)) h nx) : AW Γ M R (MF Γ Q ρ) kn pc ls [vi a] h nx := by
  intro p e s m args below meth c H locs lsa C hS hH hL
  refine W.widen hk.1 hk.2 ?_
  exact W.zret C.1 C.2.1 (C.2.2.1.trans ht) hn (fun t e1 hW => ⟨_, h, nx, rfl, hq, by rw [e1]; exact hH, by rw [e1]; exact hS.1, fun q hqq => by rw [e1]; exact hS.2.1 q (Nat.lt_of_lt_of_le hqq C.2.2.2.2.2.2.2.2.2.2.2.1) (Nat.not_le.mpr hqq)⟩) hS.2.2 hd C.2.2.2.1
theorem aw_lreturn {Q : QT} {ρ : RM} {kn : Nat × Nat} {x : Int64} (hd : decode M.2.1 pc = .ok (.lreturn, 1)) (ht : M.2.2.2 = some .long) (hk : kn.1 ≤ ρ.2.1 ∧ kn.2 ≤ ρ.2.2) (hq : Q (some (.long x)) h nx) : AW Γ M R (MF Γ Q ρ) kn pc ls [.long x] h nx := by
  intro p e s m args below meth c H locs lsa C hS hH hL
  refine W.widen hk.1 hk.2 ?_
  exact W.lret C.1 C.2.1 (C.2.2.1.trans ht) (fun t e1 hW => ⟨_, h, nx, rfl, hq, by rw [e1]; exact hH, by rw [e1]; exact hS.1, fun q hqq => by rw [e1]; exact hS.2.1 q (Nat.lt_of_lt_of_le hqq C.2.2.2.2.2.2.2.2.2.2.2.1) (Nat.not_le.mpr hqq)⟩) hS.2.2 hd C.2.2.2.1
theorem aw_dreturn {Q : QT} {ρ : RM} {kn : Nat × Nat} {x : UInt64} (hd : decode M.2.1 pc = .ok (.dreturn, 1)) (ht : M.2.2.2 = some .double) (hk : kn.1 ≤ ρ.2.1 ∧ kn.2 ≤ ρ.2.2) (hq : Q (some (.double x)) h nx) : AW Γ M R (MF Γ Q ρ) kn pc ls [.double x] h nx := by
  intro p e s m args below meth c H locs lsa C hS hH hL
  refine W.widen hk.1 hk.2 ?_
  exact W.dret C.1 C.2.1 (C.2.2.1.trans ht) (fun t e1 hW => ⟨_, h, nx, rfl, hq, by rw [e1]; exact hH, by rw [e1]; exact hS.1, fun q hqq => by rw [e1]; exact hS.2.1 q (Nat.lt_of_lt_of_le hqq C.2.2.2.2.2.2.2.2.2.2.2.1) (Nat.not_le.mpr hqq)⟩) hS.2.2 hd C.2.2.2.1
theorem aw_return {Q : QT} {ρ : RM} {kn : Nat × Nat} (hd : decode M.2.1 pc = .ok (.return_, 1)) (ht : M.2.2.2 = none) (hk : kn.1 ≤ ρ.2.1 ∧ kn.2 ≤ ρ.2.2) (hq : Q none h nx) : AW Γ M R (MF Γ Q ρ) kn pc ls [] h nx := by
  intro p e s m args below meth c H locs lsa C hS hH hL
  refine W.widen hk.1 hk.2 ?_
  exact W.vret C.1 C.2.1 (C.2.2.1.trans ht) (fun t e1 hW => ⟨_, h, nx, rfl, hq, by rw [e1]; exact hH, by rw [e1]; exact hS.1, fun q hqq => by rw [e1]; exact hS.2.1 q (Nat.lt_of_lt_of_le hqq C.2.2.2.2.2.2.2.2.2.2.2.1) (Nat.not_le.mpr hqq)⟩) hS.2.2 hd C.2.2.2.1
end AWH

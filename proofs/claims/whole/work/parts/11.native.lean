def cp0 (a b : Int → Int) (n : Int) : Int → Int := fun j => if j < n then a j else b j
section AWN
variable {Γ : GT} {M : MD} {R : Room} {Φ : PH} {kn : Nat × Nat} {pc : Nat} {ls : List (Option Value)} {st : List Value} {h : Nat → AC} {nx : Nat}
theorem aw_d2lbits {j : Nat} {x : UInt64} (hl : Cond.methodLink M.1.cls j ⟨"java/lang/Double", "doubleToRawLongBits", "(D)J"⟩ ∈ WL) (hv : Cond.native ⟨"java/lang/Double", "doubleToRawLongBits", "(D)J"⟩ ∈ WL) (ht : Cond.static ⟨"java/lang/Double", "doubleToRawLongBits", "(D)J"⟩ ∈ WL) (hn : Cond.initialized "java/lang/Double" ∈ WL) (hR : 1 ≤ R.frames ∧ (st.map fun v => v.category).sum + 15 ≤ R.locals) (hd : decode M.2.1 pc = .ok (.invokestatic j, 3)) (k : AW Γ M R Φ kn (pc + 3) ls (.long x.toInt64 :: st) h nx) : AW Γ M R Φ kn pc ls (.double x :: st) h nx := by
  intro p e s m args below meth c H locs lsa C hS hH hL
  have hts := C.2.2.2.2.2.2.2.1
  exact vn_d2l C.1 C.2.1 (C.2.2.2.2.1.trans hL.1.symm) C.2.2.2.2.2.1 (hts _ hl) (hts _ hv) (hts _ ht) (hts _ hn) hR.1 hR.2 hd (k p e s m args below meth c H locs lsa C hS hH hL)
theorem aw_l2dbits {j : Nat} {x : Int64} (hl : Cond.methodLink M.1.cls j ⟨"java/lang/Double", "longBitsToDouble", "(J)D"⟩ ∈ WL) (hv : Cond.native ⟨"java/lang/Double", "longBitsToDouble", "(J)D"⟩ ∈ WL) (ht : Cond.static ⟨"java/lang/Double", "longBitsToDouble", "(J)D"⟩ ∈ WL) (hn : Cond.initialized "java/lang/Double" ∈ WL) (hx : vn_snl2d x = false) (hR : 1 ≤ R.frames ∧ (st.map fun v => v.category).sum + 15 ≤ R.locals) (hd : decode M.2.1 pc = .ok (.invokestatic j, 3)) (k : AW Γ M R Φ kn (pc + 3) ls (.double x.toUInt64 :: st) h nx) : AW Γ M R Φ kn pc ls (.long x :: st) h nx := by
  intro p e s m args below meth c H locs lsa C hS hH hL
  have hts := C.2.2.2.2.2.2.2.1
  exact vn_l2d C.1 C.2.1 (C.2.2.2.2.1.trans hL.1.symm) C.2.2.2.2.2.1 (hts _ hl) (hts _ hv) (hts _ ht) (hts _ hn) hx hR.1 hR.2 hd (k p e s m args below meth c H locs lsa C hS hH hL)
theorem aw_f2ibits {j : Nat} {x : UInt32} (hl : Cond.methodLink M.1.cls j ⟨"java/lang/Float", "floatToRawIntBits", "(F)I"⟩ ∈ WL) (hv : Cond.native ⟨"java/lang/Float", "floatToRawIntBits", "(F)I"⟩ ∈ WL) (ht : Cond.static ⟨"java/lang/Float", "floatToRawIntBits", "(F)I"⟩ ∈ WL) (hn : Cond.initialized "java/lang/Float" ∈ WL) (hR : 1 ≤ R.frames ∧ (st.map fun v => v.category).sum + 15 ≤ R.locals) (hd : decode M.2.1 pc = .ok (.invokestatic j, 3)) (k : AW Γ M R Φ kn (pc + 3) ls (.int x.toInt32 :: st) h nx) : AW Γ M R Φ kn pc ls (.float x :: st) h nx := by
  intro p e s m args below meth c H locs lsa C hS hH hL
  have hts := C.2.2.2.2.2.2.2.1
  exact vn_f2i C.1 C.2.1 (C.2.2.2.2.1.trans hL.1.symm) C.2.2.2.2.2.1 (hts _ hl) (hts _ hv) (hts _ ht) (hts _ hn) hR.1 hR.2 hd (k p e s m args below meth c H locs lsa C hS hH hL)
/-- arraycopy from the first place on, whole numbers -/
theorem aw_copy {α : Type} {mk : α → Value} {j o1 o2 n1 n2 t : Nat} {n : Int} {f g : Nat → α} {A : Nat → (Nat → α) → vp_A} {ty : FieldType} {h' : Nat → AC} (hA : ∀ (cA : ClassId) (m : Nat) (f : Nat → α), vp_cell cA (A m f) = arrV cA m (fun q => mk (f q))) (htt : (gty Γ)[t]? = some (gA Γ t, ty)) (hprim : refKind ty = false) (hfit : ∀ i, i < n.toNat → fits ty (mk (f i)) = true ∧ ∀ (U : State) (cm : ClassId), U.takes cm (mk (f i)))
    (hl : Cond.methodLink M.1.cls j arraycopyName ∈ WL) (hv : Cond.native arraycopyName ∈ WL) (ht : Cond.static arraycopyName ∈ WL) (hi : Cond.initialized "java/lang/System" ∈ WL)
    (he1 : hat h nx o1 (.inl (t, A n1 f))) (he2 : hat h nx o2 (.inl (t, A n2 g))) (h0 : 0 ≤ n) (h1 : n ≤ n1) (h2 : n ≤ n2) (hb : n < 2147483648) (hR : 1 ≤ R.frames ∧ (st.map fun v => v.category).sum + (nativeFrameWords "java/lang/System" "arraycopy" 5 + 11) ≤ R.locals) (hd : decode M.2.1 pc = .ok (.invokestatic j, 3))
    (hh : va_up h o2 (.inl (t, A n2 (va_cpy f g 0 0 n.toNat))) = h') (k : AW Γ M R Φ kn (pc + 3) ls st h' nx) : AW Γ M R Φ kn pc ls (vi n :: vi 0 :: rf Γ o2 :: vi 0 :: rf Γ o1 :: st) h nx := by
  intro p e s m args below meth c H locs lsa C hS hH hL T hT X
  have hts := C.2.2.2.2.2.2.2.1
  have hK := C.2.2.2.2.2.2.2.2.1
  have hc0 : H[gB Γ + o1]? = some (vp_cell (gA Γ t) (A n1 f)) := (hH.P he1.1 he1.2) 0 _ rfl
  have hc1 : H[gB Γ + o2]? = some (vp_cell (gA Γ t) (A n2 g)) := (hH.P he2.1 he2.2) 0 _ rfl
  rw [hA] at hc0 hc1
  obtain ⟨-, k0, hk0, cm0, hkk0⟩ := (hK.2 t _ htt).1 n1 (fun q => mk (f q))
  obtain ⟨-, k1, hk1, cm1, hkk1⟩ := (hK.2 t _ htt).1 n2 (fun q => mk (g q))
  have hin : inI n := ⟨by omega, by omega⟩
  have hcl : (I n).toNatClampNeg = n.toNat := I_clamp h0 hin
  have hz : (I 0).toNatClampNeg = 0 := rfl
  obtain ⟨vm', X', step⟩ := X.arraycopy C.1 C.2.2.2.2.2.1 (hts _ hl) (hts _ hv) (hts _ ht) (hts _ hi) (src := gB Γ + o1) (dst := gB Γ + o2) (cs := arrV (gA Γ t) n1 (fun q => mk (f q))) (cd := arrV (gA Γ t) n2 (fun q => mk (g q))) (srcPos := I 0) (destPos := I 0) (n := I n) (by rw [hT]; exact hc0) (by rw [hT]; exact hc1)
    (fun _ h => by cases h) (fun _ h => by cases h) (fun h => by cases h) (fun h => by cases h) hk0 hk1 hkk0 hkk1 (by simp [hprim]) (by decide) (by decide) (by rw [show (0 : Int32) = I 0 from rfl, I_lt hin ⟨by omega, by omega⟩]; omega)
    (by rw [I_toInt hin, show (I 0).toInt = 0 from rfl, arrV_size]; omega)
    (by rw [I_toInt hin, show (I 0).toInt = 0 from rfl, arrV_size]; omega)
    (fun vm₁ _ i hi => by
      rw [hcl] at hi
      have e0 : (arrV (gA Γ t) n1 (fun q => mk (f q))).slots.getD ((I 0).toNatClampNeg + i) .null = mk (f i) := by
        rw [hz, Nat.zero_add, Array.getD_eq_getD_getElem?, arrV_read _ _ (by omega)]
        rfl
      rw [e0]
      exact ⟨(hfit i hi).1, (hfit i hi).2 _ _⟩)
    (g := F0 m pc lsa (vi n :: vi 0 :: rf Γ o2 :: vi 0 :: rf Γ o1 :: st)) rfl (by rw [C.2.2.2.2.1]; exact hL.1) (rest := st) rfl (by rw [C.2.1]; exact hd) hR.1 (by show 2 * 0 + _ + _ ≤ _; omega)
  have e1 : copied (arrV (gA Γ t) n1 (fun q => mk (f q))) (arrV (gA Γ t) n2 (fun q => mk (g q))) (I 0) (I 0) (I n) = arrV (gA Γ t) n2 (fun q => mk (va_cpy f g 0 0 n.toNat q)) := by
    have := va_copied mk (gA Γ t) (gA Γ t) (n0 := n1) (n1 := n2) (sp := 0) (dp := 0) (n := n.toNat) f g (by omega)
    rw [← this]
    unfold copied
    rw [hcl, hz]
  rw [e1] at X' step
  have hll : gB Γ + o2 < H.size := (Array.getElem?_eq_some_iff.mp hc1).1
  have hheap : ((T.setVm vm').setCell (gB Γ + o2) (arrV (gA Γ t) n2 (fun q => mk (va_cpy f g 0 0 n.toNat q)))).heap = H.setIfInBounds (gB Γ + o2) (arrV (gA Γ t) n2 (fun q => mk (va_cpy f g 0 0 n.toNat q))) := by rw [← hT]; rfl
  have oq : ∀ q : Nat, q ≠ gB Γ + o2 → (H.setIfInBounds (gB Γ + o2) (arrV (gA Γ t) n2 (fun q => mk (va_cpy f g 0 0 n.toNat q))))[q]? = H[q]? := fun q hq => by simp [Array.getElem?_setIfInBounds, Ne.symm hq]
  obtain ⟨t', a1, b1⟩ := k p e s m args below meth c _ _ lsa C ⟨by simp; exact hS.1, fun q g1 g2 => by
      rw [oq q (fun e => g2 (by rw [e]; show gB Γ ≤ gB Γ + o2; omega))]
      exact hS.2.1 q g1 g2, fun q hq => by
      rcases List.mem_append.mp hq with h | h
      · exact hS.2.2 q h
      · obtain ⟨z, -, hz⟩ := List.mem_map.mp h
        rw [← hz]
        show gB Γ ≤ gB Γ + o2
        omega⟩ (by rw [← hh]; exact hH.up (by simp) oq (by show _ = some (vp_cell _ _); rw [hA]; simp [Array.getElem?_setIfInBounds, hll])) hL _ hheap X'
  exact ⟨t', step t' a1, b1⟩
theorem cpyI {a b : Int → Int} {n : Int} (h0 : 0 ≤ n) : va_cpy (fun j : Nat => I (a j)) (fun j : Nat => I (b j)) 0 0 n.toNat = fun j : Nat => I (cp0 a b n j) := by
  funext j
  simp only [va_cpy, cp0]
  by_cases q : (j : Int) < n
  · rw [if_pos ⟨Nat.zero_le _, by omega⟩, if_pos q]
    simp
  · rw [if_neg (fun z => q (by omega)), if_neg q]
theorem cpyD {a b : Int → Int} {n : Int} (h0 : 0 ≤ n) : va_cpy (fun j : Nat => (L (a j)).toUInt64) (fun j : Nat => (L (b j)).toUInt64) 0 0 n.toNat = fun j : Nat => (L (cp0 a b n j)).toUInt64 := by
  funext j
  simp only [va_cpy, cp0]
  by_cases q : (j : Int) < n
  · rw [if_pos ⟨Nat.zero_le _, by omega⟩, if_pos q]
    simp
  · rw [if_neg (fun z => q (by omega)), if_neg q]
theorem aw_copyi {j o1 o2 n1 n2 : Nat} {n : Int} {a b : Int → Int} {h' : Nat → AC} (hl : Cond.methodLink M.1.cls j arraycopyName ∈ WL) (hv : Cond.native arraycopyName ∈ WL) (ht : Cond.static arraycopyName ∈ WL) (hi : Cond.initialized "java/lang/System" ∈ WL) (hd : decode M.2.1 pc = .ok (.invokestatic j, 3))
    (he1 : hat h nx o1 (ai n1 a)) (he2 : hat h nx o2 (ai n2 b)) (hn : 0 ≤ n ∧ n ≤ n1 ∧ n ≤ n2 ∧ n < 2147483648) (hR : 1 ≤ R.frames ∧ (st.map fun v => v.category).sum + (nativeFrameWords "java/lang/System" "arraycopy" 5 + 11) ≤ R.locals)
    (hh : va_up h o2 (ai n2 (cp0 a b n)) = h') (k : AW Γ M R Φ kn (pc + 3) ls st h' nx) : AW Γ M R Φ kn pc ls (vi n :: vi 0 :: rf Γ o2 :: vi 0 :: rf Γ o1 :: st) h nx := by
  refine aw_copy (mk := fun x : Int32 => .int x) (A := fun m f => (m, .inl f)) (t := 0) (ty := .int) (f := fun j => I (a j)) (g := fun j => I (b j)) (fun _ _ _ => rfl) rfl rfl (fun i hi => ⟨rfl, fun _ _ => trivial⟩) hl hv ht hi he1 he2 hn.1 hn.2.1 hn.2.2.1 hn.2.2.2 hR hd ?_ k
  rw [cpyI hn.1]
  exact hh
theorem aw_copyd {j o1 o2 n1 n2 : Nat} {n : Int} {a b : Int → Int} {h' : Nat → AC} (hl : Cond.methodLink M.1.cls j arraycopyName ∈ WL) (hv : Cond.native arraycopyName ∈ WL) (ht : Cond.static arraycopyName ∈ WL) (hi : Cond.initialized "java/lang/System" ∈ WL) (hd : decode M.2.1 pc = .ok (.invokestatic j, 3))
    (he1 : hat h nx o1 (ad n1 a)) (he2 : hat h nx o2 (ad n2 b)) (hn : 0 ≤ n ∧ n ≤ n1 ∧ n ≤ n2 ∧ n < 2147483648) (hR : 1 ≤ R.frames ∧ (st.map fun v => v.category).sum + (nativeFrameWords "java/lang/System" "arraycopy" 5 + 11) ≤ R.locals)
    (hh : va_up h o2 (ad n2 (cp0 a b n)) = h') (k : AW Γ M R Φ kn (pc + 3) ls st h' nx) : AW Γ M R Φ kn pc ls (vi n :: vi 0 :: rf Γ o2 :: vi 0 :: rf Γ o1 :: st) h nx := by
  refine aw_copy (mk := fun x : UInt64 => .double x) (A := fun m f => (m, .inr (.inr (.inr (.inl f))))) (t := 4) (ty := .double) (f := fun j => (L (a j)).toUInt64) (g := fun j => (L (b j)).toUInt64) (fun _ _ _ => rfl) rfl rfl (fun i hi => ⟨rfl, fun _ _ => trivial⟩) hl hv ht hi he1 he2 hn.1 hn.2.1 hn.2.2.1 hn.2.2.2 hR hd ?_ k
  rw [cpyD hn.1]
  exact hh
end AWN

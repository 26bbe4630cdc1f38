/-! a State put into an array of them -/
section AWA
variable {Γ : GT} {M : MD} {R : Room} {Φ : PH} {kn : Nat × Nat} {pc : Nat} {ls : List (Option Value)} {st : List Value} {h : Nat → AC} {nx : Nat}
theorem aw_aast {n o o2 : Nat} {a : Int → Int} {i : Int} {vs : List Value} {h' : Nat → AC} (hd : decode M.2.1 pc = .ok (.aastore, 1)) (he : hat h nx o (aq Γ n a)) (he2 : hat h nx o2 (ob 7 vs)) (hi : 0 ≤ i ∧ i < (n : Int)) (hn : n < 2147483648) (hh : va_up h o (aq Γ n (uz a i (o2 : Int))) = h') (kk : AW Γ M R Φ kn (pc + 1) ls st h' nx) : AW Γ M R Φ kn pc ls (rf Γ o2 :: vi i :: rf Γ o :: st) h nx := by
  intro p e s m args below meth c H locs lsa C hS hH hL
  have hP := (hH.P he.1 he.2) 0 _ rfl
  have hv := (hH.P he2.1 he2.2) 0 _ rfl
  have hK := C.2.2.2.2.2.2.2.2.1
  have hcl : (I i).toNatClampNeg = i.toNat := I_clamp hi.1 ⟨by omega, by omega⟩
  have hin : vp_in (I i) n := I_in hi.1 hi.2 hn
  have hlt : (I i).toNatClampNeg < n := Nat.not_le.mp fun q => hin (Or.inr q)
  have h0 : ¬ I i < 0 := fun q => hin (Or.inl q)
  obtain ⟨r', hr', cellV, g1, g2, g3, -⟩ := hv
  have hcls := (hK.1 7 _ rfl).2
  obtain ⟨kA, comp, k1, k2, k3, -⟩ := (hK.2 5 _ rfl).2
  have hcomp : comp = (gD Γ).1 7 := Option.some.inj (k3.symm.trans hcls.1)
  subst hcomp
  obtain ⟨kC, hkC, -⟩ := hcls.2
  refine W.aast C.1 C.2.1 hP (fun q h => by cases h) (fun h => by cases h) k1 k2 rfl hkC ⟨h0, by show _ < (arrV _ _ _).slots.size; rw [arrV_size]; exact hlt⟩ g1 (fun q h => by rw [g3] at h; cases h) (by rw [g2]; exact hkC) (by rw [g2]; exact va_assign hcls) rfl rfl hd fun H1 e1 z oq => ?_
  refine kk p e s m args below meth c H1 _ lsa C (hS.put z oq (show gB Γ ≤ gB Γ + o by omega)) ?_ hL
  rw [← hh]
  refine hH.up z oq ?_
  show H1[gB Γ + o]? = some (vp_cell (gA Γ 5) (n, .inr (.inr (.inr (.inr (fun j : Nat => if uz a i (o2 : Int) j < 0 then none else some (gB Γ + (uz a i (o2 : Int) j).toNat)))))))
  rw [e1]
  show some ((vp_cell (gA Γ 5) (n, .inr (.inr (.inr (.inr (fun j : Nat => if a j < 0 then none else some (gB Γ + (a j).toNat))))))).setSlot _ _) = _
  rw [vp_cell_q, vp_cell_q, arrV_store, hcl]
  congr 2
  funext q
  by_cases hq : q = i.toNat
  · subst hq
    simp only [updV, if_true]
    rw [Int.toNat_of_nonneg hi.1, uz_s, if_neg (by omega)]
    rfl
  · simp only [updV, if_neg hq]
    rw [uz_n _ _ (by omega)]
end AWA


/-! what holds between the class and the reference -/
/-- numbers as the machine has them -/
def nrm (X : St) : St := fun f i => if f = 23 then X f i else (I (X f i)).toInt
theorem nrm_R (X : St) : Rg (nrm X) := fun f hf i => by unfold nrm; rw [if_neg hf]; exact inI_of _
theorem nrm_I (X : St) {f : Nat} (hf : f ≠ 23) (i : Int) : I (nrm X f i) = I (X f i) := by unfold nrm; rw [if_neg hf, I_of]
theorem nrm_ai (X : St) (n f : Nat) (hf : f ≠ 23) : ai n (nrm X f) = ai n (X f) := by
  unfold ai; congr 3; congr 1; funext j; exact nrm_I X hf j
theorem nrm_st (Γ : GT) (b : Nat) (X : St) (q : Nat) : stC Γ b (nrm X) q = stC Γ b X q := by
  match q with

  | 0 => show ob 7 [_, _, _, _, _, _, vi (nrm X 25 0)] = ob 7 [_, _, _, _, _, _, vi (X 25 0)]; unfold vi; rw [nrm_I X (by decide)]
  | 1 => show ob 5 [_, _, _, vi (nrm X 26 0), vi (nrm X 27 0)] = ob 5 [_, _, _, vi (X 26 0), vi (X 27 0)]; unfold vi; rw [nrm_I X (by decide), nrm_I X (by decide)]
  | 2 => exact nrm_ai X 6 0 (by decide)
  | 3 => exact nrm_ai X 4 1 (by decide)
  | 4 => exact nrm_ai X 96 2 (by decide)
  | 5 => show ob 1 [_, _, _, _, _, _, _, _, _, _, vi (nrm X 28 0)] = ob 1 [_, _, _, _, _, _, _, _, _, _, vi (X 28 0)]; unfold vi; rw [nrm_I X (by decide)]
  | 6 => exact nrm_ai X 60 4 (by decide)
  | 7 => exact nrm_ai X 60 5 (by decide)
  | 8 => exact nrm_ai X 60 6 (by decide)
  | 9 => exact nrm_ai X 60 7 (by decide)
  | 10 => exact nrm_ai X 60 8 (by decide)
  | 11 => exact nrm_ai X 60 9 (by decide)
  | 12 => exact nrm_ai X 60 10 (by decide)
  | 13 => exact nrm_ai X 60 11 (by decide)
  | 14 => exact nrm_ai X 60 12 (by decide)
  | 15 => exact nrm_ai X 60 13 (by decide)
  | 16 => show ob 3 [_, _, _, _, _, _, vi (nrm X 29 0)] = ob 3 [_, _, _, _, _, _, vi (X 29 0)]; unfold vi; rw [nrm_I X (by decide)]
  | 17 => exact nrm_ai X 32 14 (by decide)
  | 18 => exact nrm_ai X 32 15 (by decide)
  | 19 => exact nrm_ai X 32 16 (by decide)
  | 20 => exact nrm_ai X 32 17 (by decide)
  | 21 => exact nrm_ai X 32 18 (by decide)
  | 22 => exact nrm_ai X 160 19 (by decide)
  | 23 => rfl
  | 24 => exact nrm_ai X 32 20 (by decide)
  | 25 => exact nrm_ai X 96 21 (by decide)
  | 26 => exact nrm_ai X 48 22 (by decide)
  | 27 => rfl
  | n + 28 => exact nrm_ai X 5 24 (by decide)
theorem nrm_hp (Γ : GT) (S T U V : St) (G : Gw) (j : Nat) (X : St) : hp Γ S T U V (gset G j (nrm X)) = hp Γ S T U V (gset G j X) := by
  funext k
  by_cases h : k < 52
  · rw [hp_low _ _ k h]
  · obtain ⟨n, rfl⟩ : ∃ n, k = n + 52 := ⟨k - 52, by omega⟩
    show stC Γ (n / 29 * 29 + 52) (gset G j (nrm X) (n / 29)) (n % 29) = stC Γ (n / 29 * 29 + 52) (gset G j X (n / 29)) (n % 29)
    by_cases e : n / 29 = j
    · rw [e, gset_eq, gset_eq, nrm_st]
    · rw [gset_ne _ _ e, gset_ne _ _ e]
theorem nrm_at {S X : St} (hR : Rg S) (f : Nat) (j : Int) (h : okF S f j) : nrm (cpSt S X) f j = S f j := by
  unfold nrm; rw [cp_at S X f j h]
  split
  · rfl
  · exact I_toInt (hR f (by assumption) j)
theorem Ag.cgo {S R : St} {r : Int → Int} (hA : Ag S r) (b : bd S) (he : ∀ (f : Nat) (j : Int), okF S f j → R f j = S f j) : Ag R r := by
  intro f i hu
  have e26 := he 26 0 (usO_26 b rfl)
  have e27 := he 27 0 (usO_27 b rfl)
  have e28 := he 28 0 (usO_28 b rfl)
  have e29 := he 29 0 (usO_29 b rfl)
  have hu2 : us S f i := by
    unfold us at hu ⊢
    rw [e26, e27, e28, e29] at hu
    by_cases h4 : 4 ≤ f ∧ f ≤ 13
    · rw [if_neg (by omega), if_neg (by omega), if_neg (by omega), if_neg (by omega), if_pos h4.2] at hu ⊢
      refine ⟨hu.1, fun z => ?_⟩
      have h1 := hu.2 z
      rw [he 10 i (usO_10 b hu.1)] at h1
      exact h1
    · by_cases h13 : f ≤ 13
      · have cs : f = 0 ∨ f = 1 ∨ f = 2 ∨ f = 3 := by omega
        rcases cs with e | e | e | e <;> subst e <;> exact hu
      · simp only [if_neg h13] at hu ⊢; exact hu
  rw [he f i (us_ok b f i hu2)]
  exact hA f i hu2
theorem Ag.row {A : St} {r r' : Int → Int} (hA : Ag A r) (b : bd A) (h : ∀ k : Int, 0 ≤ k → k < 1216 → r' k = r k) : Ag A r' := by
  intro f i hu
  have p := (pl_all b f i hu).2.1
  rw [h _ p.1 p.2]; exact hA f i hu
def Held (c : Int) (G : Gw) (nx : Nat) (x : Int) (row : Int → Int) : Prop := ∃ j : Nat, x = ((j * 29 + 52 : Nat) : Int) ∧ j * 29 + 81 ≤ nx ∧ Inv c (G j) ∧ Ag (G j) row
def slotOk (nx : Nat) (x : Int) : Prop := x < 0 ∨ ∃ j : Nat, x = ((j * 29 + 52 : Nat) : Int) ∧ j * 29 + 81 ≤ nx
def TapeI (U V : St) : Prop := U 0 = V 6 ∧ U 10 0 = V 11 0 ∧ (0 ≤ U 10 0 ∧ U 10 0 ≤ 400) ∧ ∀ j : Int, -128 ≤ U 0 j ∧ U 0 j ≤ 127
def NoteI (U V : St) : Prop := U 18 0 = V 15 0 ∧ U 19 0 = V 16 0 ∧ (-1 ≤ U 18 0 ∧ U 18 0 ≤ 3) ∧ (0 ≤ U 19 0 ∧ U 19 0 ≤ 40) ∧ (U 18 0 = -1 → U 19 0 = 0) ∧ (∀ k : Int, 0 ≤ k → k < U 19 0 → V 7 k = cn (U 18 0) (U 2 k)) ∧ ∀ j : Int, inL (U 2 j)
def RefI (U : St) (nx : Nat) : Prop := (∃ g : Nat, nx = g * 29 + 52) ∧ (∀ i : Int, 0 ≤ i → i < 10 → slotOk nx (U 3 i)) ∧ (∀ q : Int, 0 ≤ q → q < 2 → slotOk nx (U 4 q)) ∧ (∀ i i' : Int, 0 ≤ i → i < 10 → 0 ≤ i' → i' < 10 → i ≠ i' → U 3 i = U 3 i' → U 3 i < 0) ∧ (∀ i q : Int, 0 ≤ i → i < 10 → 0 ≤ q → q < 2 → U 3 i = U 4 q → U 3 i < 0) ∧ (∀ q q' : Int, 0 ≤ q → q < 2 → 0 ≤ q' → q' < 2 → q ≠ q' → U 4 q = U 4 q' → U 4 q < 0)
def ActI (c : Int) (U V : St) (G : Gw) (nx : Nat) : Prop := (0 ≤ U 16 0 ∧ U 16 0 < 10) ∧ (0 ≤ U 17 0 ∧ U 17 0 ≤ 10) ∧ V 10 0 = U 17 0 ∧ ∀ t : Int, 0 ≤ t → t < U 17 0 → Held c G nx (U 3 ((U 16 0 + 9 - t) % 10)) (hrow V t)
def ShlI (c : Int) (U V : St) (G : Gw) (nx : Nat) : Prop := (∀ j : Int, V 5 j = 0 ∨ V 5 j = 1) ∧ ∀ q : Int, 0 ≤ q → q < 2 → (U 4 q < 0 ∧ V 5 q = 0) ∨ (V 5 q = 1 ∧ Held c G nx (U 4 q) (fun r => V 4 (1216 * q + r)))
def GI (c : Int) (S T U V : St) (G : Gw) (nx : Nat) : Prop := 52 ≤ nx ∧ Rg T ∧ RgL V ∧ Inv c S ∧ Ag S (V 0) ∧ TapeI U V ∧ NoteI U V ∧ RefI U nx ∧ ActI c U V G nx ∧ ShlI c U V G nx
theorem Held.mono {c c' : Int} {G : Gw} {nx : Nat} {x : Int} {row : Int → Int} (h : Held c G nx x row) (hc : c ≤ c' ∧ c' ≤ 512) : Held c' G nx x row := by
  obtain ⟨j, a, b, d, e⟩ := h
  exact ⟨j, a, b, d.mono hc, e⟩
theorem ActI.mono {c c' : Int} {U V : St} {G : Gw} {nx : Nat} (h : ActI c U V G nx) (hc : c ≤ c' ∧ c' ≤ 512) : ActI c' U V G nx := ⟨h.1, h.2.1, h.2.2.1, fun t a b => (h.2.2.2 t a b).mono hc⟩
theorem ShlI.mono {c c' : Int} {U V : St} {G : Gw} {nx : Nat} (h : ShlI c U V G nx) (hc : c ≤ c' ∧ c' ≤ 512) : ShlI c' U V G nx := ⟨h.1, fun q a b => (h.2 q a b).elim Or.inl (fun z => Or.inr ⟨z.1, z.2.mono hc⟩)⟩
theorem GI.mono {c c' : Int} {S T U V : St} {G : Gw} {nx : Nat} (h : GI c S T U V G nx) (hc : c ≤ c' ∧ c' ≤ 512) : GI c' S T U V G nx := by
  obtain ⟨h1, h2, h3, h4, h5, h6, h7, h8, h9, h10⟩ := h
  exact ⟨h1, h2, h3, h4.mono hc, h5, h6, h7, h8, h9.mono hc, h10.mono hc⟩
theorem GI.rw {c : Int} {S T U V : St} {G : Gw} {nx : Nat} (h : GI c S T U V G nx) : RW U nx := by
  obtain ⟨h1, h2, h3, h4, h5, h6, h7, h8, h9, h10⟩ := h
  refine ⟨h9.1, h9.2.1, ?_⟩
  rcases h8.2.1 (U 16 0) h9.1.1 h9.1.2 with z | z
  · exact Or.inl ⟨z, h8.1⟩
  · exact Or.inr z
theorem Held.frame {c : Int} {G G2 : Gw} {nx nx2 : Nat} {x : Int} {row : Int → Int} (h : Held c G nx x row) (hn : nx ≤ nx2) (hg : ∀ j : Nat, x = ((j * 29 + 52 : Nat) : Int) → j * 29 + 81 ≤ nx → G2 j = G j) : Held c G2 nx2 x row := by
  obtain ⟨j, a, b, d, e⟩ := h
  exact ⟨j, a, by omega, by rw [hg j a b]; exact d, by rw [hg j a b]; exact e⟩
theorem Held.row {c : Int} {G : Gw} {nx : Nat} {x : Int} {row row' : Int → Int} (h : Held c G nx x row) (he : ∀ k : Int, 0 ≤ k → k < 1216 → row' k = row k) : Held c G nx x row' := by
  obtain ⟨j, a, b, d, e⟩ := h
  exact ⟨j, a, b, d, e.row d.bd he⟩
/-- a slot is written: the others stay as they are -/
theorem slot_new {nx nx2 j : Nat} {x0 : Int} (hj : j * 29 + 81 ≤ nx2) (hw : (x0 = ((j * 29 + 52 : Nat) : Int) ∧ nx2 = nx) ∨ (x0 < 0 ∧ nx = j * 29 + 52 ∧ nx2 = nx + 29)) {x : Int} (hs : slotOk nx x) (hd : x = x0 → x < 0) : (slotOk nx2 x ∧ (x = ((j * 29 + 52 : Nat) : Int) → False)) ∧ ∀ j' : Nat, x = ((j' * 29 + 52 : Nat) : Int) → j' * 29 + 81 ≤ nx → j' ≠ j := by
  refine ⟨⟨?_, fun z => ?_⟩, fun j' a b e => ?_⟩
  · rcases hs with h | ⟨w, a, b⟩
    · exact Or.inl h
    · exact Or.inr ⟨w, a, by omega⟩
  · rcases hw with ⟨w1, w2⟩ | ⟨w1, w2, w3⟩
    · have := hd (z.trans w1.symm); omega
    · rcases hs with h | ⟨w, a, b⟩ <;> omega
  · rcases hw with ⟨w1, w2⟩ | ⟨w1, w2, w3⟩
    · have := hd (by rw [a, w1, e]); omega
    · omega
theorem GI.act {c c' : Int} {S T U V S2 U2 V2 : St} {G G2 : Gw} {nx nx2 : Nat} (h : GI c S T U V G nx) (hc : c ≤ c' ∧ c' ≤ 512) (hS : Inv c' S2) (hr : Rem U U2 G G2 S nx nx2) (hk : KP V V2) (hA : Ag S2 (V2 0)) (hn : 52 ≤ nx2) : ∃ G3 : Gw, (∀ Γ : GT, hp Γ S2 T U2 V2 G3 = hp Γ S2 T U2 V2 G2) ∧ GI c' S2 T U2 V2 G3 nx2 := by
  obtain ⟨h1, h2, h3, h4, h5, h6, h7, h8, h9, h10⟩ := h
  obtain ⟨j, X, hj, rfl, rfl, hw⟩ := hr
  obtain ⟨k1, k2, k3, k4, k5⟩ := hk
  refine ⟨gset G j (nrm (cpSt S X)), fun Γ => nrm_hp Γ _ _ _ _ G j _, hn, h2, k2, hS, hA, ?_, ?_, ?_, ?_, ?_⟩
  · obtain ⟨a, b, d, e⟩ := h6
    exact ⟨a.trans (k1 6 (by decide) (by decide) (by decide)).symm, b.trans (congrFun (k1 11 (by decide) (by decide) (by decide)) 0).symm, d, e⟩
  · obtain ⟨a, b, d, e, f, g, i⟩ := h7
    refine ⟨a.trans (congrFun (k1 15 (by decide) (by decide) (by decide)) 0).symm, b.trans (congrFun (k1 16 (by decide) (by decide) (by decide)) 0).symm, d, e, f, fun k z0 z1 => ?_, i⟩
    rw [k1 7 (by decide) (by decide) (by decide)]; exact g k z0 z1
  all_goals obtain ⟨r1, r2, r3, r4, r5, r6⟩ := h8
  all_goals obtain ⟨a1, a2, a3, a4⟩ := h9
  all_goals have hlt : nx ≤ nx2 := by rcases hw with ⟨w1, w2⟩ | ⟨w1, w2, w3⟩ <;> omega
  · have e3 : ∀ i : Int, u0 (u0 (u1 U 3 (U 16 0) ((j * 29 + 52 : Nat) : Int)) 16 ((U 16 0 + 1) % 10)) 17 (min (U 17 0 + 1) 10) 3 i = if i = U 16 0 then ((j * 29 + 52 : Nat) : Int) else U 3 i := fun i => by
      show u1 U 3 (U 16 0) ((j * 29 + 52 : Nat) : Int) 3 i = _
      rw [u1_at]; by_cases z : i = U 16 0 <;> simp [z]
    have s3 : ∀ i : Int, 0 ≤ i → i < 10 → i ≠ U 16 0 → slotOk nx2 (U 3 i) ∧ (U 3 i = ((j * 29 + 52 : Nat) : Int) → False) := fun i i0 i1 ne => (slot_new hj hw (r2 i i0 i1) (fun z => r4 i (U 16 0) i0 i1 a1.1 a1.2 ne z)).1
    have s4 : ∀ q : Int, 0 ≤ q → q < 2 → slotOk nx2 (U 4 q) ∧ (U 4 q = ((j * 29 + 52 : Nat) : Int) → False) := fun q q0 q1 => (slot_new hj hw (r3 q q0 q1) (fun z => by have := r5 (U 16 0) q a1.1 a1.2 q0 q1 z.symm; omega)).1
    refine ⟨?_, fun i i0 i1 => ?_, fun q q0 q1 => (s4 q q0 q1).1, fun i i' i0 i1 j0 j1 ne z => ?_, fun i q i0 i1 q0 q1 z => ?_, r6⟩
    · rcases hw with ⟨w1, w2⟩ | ⟨w1, w2, w3⟩
      · rw [w2]; exact r1
      · exact ⟨j + 1, by omega⟩
    · rw [e3]; split
      · exact Or.inr ⟨j, rfl, hj⟩
      · exact (s3 i i0 i1 (by assumption)).1
    · rw [e3, e3] at z; rw [e3]
      by_cases p1 : i = U 16 0
      · rw [if_pos p1, if_neg (by omega)] at z
        exact absurd z.symm (s3 i' j0 j1 (by omega)).2
      · rw [if_neg p1] at z ⊢
        by_cases p2 : i' = U 16 0
        · rw [if_pos p2] at z; exact absurd z (s3 i i0 i1 p1).2
        · rw [if_neg p2] at z; exact r4 i i' i0 i1 j0 j1 ne z
    · rw [e3] at z ⊢
      by_cases p1 : i = U 16 0
      · rw [if_pos p1] at z; exact absurd z.symm (s4 q q0 q1).2
      · rw [if_neg p1] at z ⊢; exact r5 i q i0 i1 q0 q1 z
  · refine ⟨⟨Int.emod_nonneg _ (by omega), Int.emod_lt_of_pos _ (by omega)⟩, ⟨by show 0 ≤ min (U 17 0 + 1) 10; omega, by show min (U 17 0 + 1) 10 ≤ 10; omega⟩, by rw [k3, a3]; rfl, fun t t0 t1 => ?_⟩
    have t2 : t < min (U 17 0 + 1) 10 := t1
    show Held c' _ nx2 (u1 U 3 (U 16 0) ((j * 29 + 52 : Nat) : Int) 3 (((U 16 0 + 1) % 10 + 9 - t) % 10)) _
    rw [u1_at]
    by_cases z : t = 0
    · subst z
      rw [if_pos ⟨rfl, by omega⟩]
      have hb := h4.bd
      have at1 := fun f i hk => nrm_at (S := S) (X := X) h4.R f i hk
      refine ⟨j, rfl, hj, ?_, ?_⟩
      · rw [gset_eq]; exact (h4.cg (nrm_R _) at1).mono hc
      · rw [gset_eq]; exact (h5.cgo hb at1).row (by have q := (h4.cg (nrm_R (cpSt S X)) at1).bd; exact q) (fun k z0 z1 => k4 k ⟨z0, z1⟩)
    · rw [if_neg (fun q => by have := q.2; omega)]
      have hh := (a4 (t - 1) (by omega) (by omega)).mono hc
      rw [show (U 16 0 + 9 - (t - 1)) % 10 = ((U 16 0 + 1) % 10 + 9 - t) % 10 by omega] at hh
      refine (hh.frame hlt (fun j' b d => gset_ne _ _ ?_)).row (fun k z0 z1 => k5 t k ⟨by omega, by rw [k3, a3]; exact t2⟩ ⟨z0, z1⟩)
      exact (slot_new hj hw (r2 (((U 16 0 + 1) % 10 + 9 - t) % 10) (by omega) (by omega)) (fun q => r4 _ (U 16 0) (by omega) (by omega) a1.1 a1.2 (by omega) q)).2 j' b d
  · refine ⟨by rw [k1 5 (by decide) (by decide) (by decide)]; exact h10.1, fun q q0 q1 => ?_⟩
    rw [k1 5 (by decide) (by decide) (by decide)]
    rcases h10.2 q q0 q1 with z | ⟨z1, z2⟩
    · exact Or.inl z
    · refine Or.inr ⟨z1, ?_⟩
      rw [k1 4 (by decide) (by decide) (by decide)]
      refine (z2.mono hc).frame hlt (fun j' b d => gset_ne _ _ ?_)
      exact (slot_new hj hw (r3 q q0 q1) (fun w => by have := r5 (U 16 0) q a1.1 a1.2 q0 q1 w.symm; omega)).2 j' b d
theorem GI.undo {c : Int} {S T U V V2 : St} {G : Gw} {nx : Nat} (h : GI c S T U V G nx) (hm : 0 < U 17 0) (hV : V2 = mv (u0 V 10 (V 10 0 - 1)) 0 3 0 (V 10 0 - 1)) (hL : RgL V2) {j : Nat} (hj : U 3 ((U 16 0 + 10 - 1) % 10) = ((j * 29 + 52 : Nat) : Int)) (hR : Rg (cpSt (G j) S)) : GI c (cpSt (G j) S) T (u0 (u0 U 16 ((U 16 0 + 10 - 1) % 10)) 17 (U 17 0 - 1)) V2 G nx := by
  obtain ⟨h1, h2, h3, h4, h5, h6, h7, h8, h9, h10⟩ := h
  obtain ⟨a1, a2, a3, a4⟩ := h9
  have hh := a4 0 (by omega) hm
  rw [show (U 16 0 + 9 - 0) % 10 = (U 16 0 + 10 - 1) % 10 by omega, hj] at hh
  obtain ⟨j', b1, b2, b3, b4⟩ := hh
  obtain rfl : j' = j := by omega
  have eV : ∀ f : Nat, f ≠ 0 → f ≠ 10 → V2 f = V f := fun f f0 f10 => by rw [hV, mv_ne _ f0]; unfold u0; rw [sset_ne _ _ f10]
  have e10 : V2 10 0 = V 10 0 - 1 := by rw [hV, mv_ne _ (by decide)]; rfl
  have e0 : ∀ k : Int, 0 ≤ k → k < 1216 → V2 0 k = hrow V 0 k := fun k k0 k1 => by
    rw [hV]
    have q := mv_at (u0 V 10 (V 10 0 - 1)) 0 3 0 (V 10 0 - 1) k ⟨k0, k1⟩
    rw [show 1216 * 0 + k = k by omega] at q
    rw [q]; show V 3 _ = V 3 _; congr 1; omega
  refine ⟨h1, h2, hL, b3.cp hR, (b4.cp b3.bd).row (b3.cp hR).bd e0, ?_, ?_, h8, ?_, ?_⟩
  · obtain ⟨a, b, d, e⟩ := h6
    exact ⟨a.trans (eV 6 (by decide) (by decide)).symm, b.trans (congrFun (eV 11 (by decide) (by decide)) 0).symm, d, e⟩
  · obtain ⟨a, b, d, e, f, g, i⟩ := h7
    refine ⟨a.trans (congrFun (eV 15 (by decide) (by decide)) 0).symm, b.trans (congrFun (eV 16 (by decide) (by decide)) 0).symm, d, e, f, fun k z0 z1 => ?_, i⟩
    rw [eV 7 (by decide) (by decide)]; exact g k z0 z1
  · refine ⟨⟨Int.emod_nonneg _ (by omega), Int.emod_lt_of_pos _ (by omega)⟩, ⟨by show 0 ≤ U 17 0 - 1; omega, by show U 17 0 - 1 ≤ 10; omega⟩, by rw [e10, a3]; rfl, fun t t0 t1 => ?_⟩
    have t2 : t < U 17 0 - 1 := t1
    have hh := a4 (t + 1) (by omega) (by omega)
    show Held c G nx (U 3 (((U 16 0 + 10 - 1) % 10 + 9 - t) % 10)) _
    rw [show ((U 16 0 + 10 - 1) % 10 + 9 - t) % 10 = (U 16 0 + 9 - (t + 1)) % 10 by omega]
    refine hh.row (fun k k0 k1 => ?_)
    unfold hrow; rw [e10, eV 3 (by decide) (by decide)]; congr 1; omega
  · refine ⟨by rw [eV 5 (by decide) (by decide)]; exact h10.1, fun q q0 q1 => ?_⟩
    rw [eV 5 (by decide) (by decide), eV 4 (by decide) (by decide)]
    exact h10.2 q q0 q1
theorem GI.keep {c : Int} {S T U V U2 V2 : St} {G G2 : Gw} {nx nx2 : Nat} {q : Int} (h : GI c S T U V G nx) (hq : 0 ≤ q ∧ q < 2) (hr : Kep U U2 G G2 S q nx nx2) (hV : V2 = u1 (mv V 4 0 q 0) 5 q 1) (hL : RgL V2) (hn : 52 ≤ nx2) : ∃ G3 : Gw, (∀ Γ : GT, hp Γ S T U2 V2 G3 = hp Γ S T U2 V2 G2) ∧ GI c S T U2 V2 G3 nx2 := by
  obtain ⟨h1, h2, h3, h4, h5, h6, h7, h8, h9, h10⟩ := h
  obtain ⟨j, X, hj, rfl, rfl, hw⟩ := hr
  have eV : ∀ f : Nat, f ≠ 4 → f ≠ 5 → V2 f = V f := fun f f0 f10 => by rw [hV]; unfold u1; rw [sset_ne _ _ f10, mv_ne _ f0]
  have e5 : ∀ w : Int, V2 5 w = if w = q then 1 else V 5 w := fun w => by rw [hV, u1_at, mv_ne _ (by decide)]; by_cases z : w = q <;> simp [z]
  have e4 : ∀ k : Int, V2 4 k = mv V 4 0 q 0 4 k := fun k => by rw [hV]; unfold u1; rw [sset_ne _ _ (by decide)]
  have hlt : nx ≤ nx2 := by rcases hw with ⟨w1, w2⟩ | ⟨w1, w2, w3⟩ <;> omega
  obtain ⟨r1, r2, r3, r4, r5, r6⟩ := h8
  have e3 : ∀ i : Int, u1 U 4 q ((j * 29 + 52 : Nat) : Int) 4 i = if i = q then ((j * 29 + 52 : Nat) : Int) else U 4 i := fun i => by rw [u1_at]; by_cases z : i = q <;> simp [z]
  have s3 : ∀ i : Int, 0 ≤ i → i < 10 → (slotOk nx2 (U 3 i) ∧ (U 3 i = ((j * 29 + 52 : Nat) : Int) → False)) ∧ ∀ j' : Nat, U 3 i = ((j' * 29 + 52 : Nat) : Int) → j' * 29 + 81 ≤ nx → j' ≠ j := fun i i0 i1 => slot_new hj hw (r2 i i0 i1) (fun z => r5 i q i0 i1 hq.1 hq.2 z)
  have s4 : ∀ w : Int, 0 ≤ w → w < 2 → w ≠ q → (slotOk nx2 (U 4 w) ∧ (U 4 w = ((j * 29 + 52 : Nat) : Int) → False)) ∧ ∀ j' : Nat, U 4 w = ((j' * 29 + 52 : Nat) : Int) → j' * 29 + 81 ≤ nx → j' ≠ j := fun w w0 w1 ne => slot_new hj hw (r3 w w0 w1) (fun z => r6 w q w0 w1 hq.1 hq.2 ne z)
  refine ⟨gset G j (nrm (cpSt S X)), fun Γ => nrm_hp Γ _ _ _ _ G j _, hn, h2, hL, h4, by rw [eV 0 (by decide) (by decide)]; exact h5, ?_, ?_, ?_, ?_, ?_⟩
  · obtain ⟨a, b, d, e⟩ := h6
    exact ⟨a.trans (eV 6 (by decide) (by decide)).symm, b.trans (congrFun (eV 11 (by decide) (by decide)) 0).symm, d, e⟩
  · obtain ⟨a, b, d, e, f, g, i⟩ := h7
    refine ⟨a.trans (congrFun (eV 15 (by decide) (by decide)) 0).symm, b.trans (congrFun (eV 16 (by decide) (by decide)) 0).symm, d, e, f, fun k z0 z1 => ?_, i⟩
    rw [eV 7 (by decide) (by decide)]; exact g k z0 z1
  · refine ⟨?_, fun i i0 i1 => (s3 i i0 i1).1.1, fun w w0 w1 => ?_, r4, fun i w i0 i1 w0 w1 z => ?_, fun w w' w0 w1 z0 z1 ne z => ?_⟩
    · rcases hw with ⟨w1, w2⟩ | ⟨w1, w2, w3⟩
      · rw [w2]; exact r1
      · exact ⟨j + 1, by omega⟩
    · rw [e3]; split
      · exact Or.inr ⟨j, rfl, hj⟩
      · exact (s4 w w0 w1 (by assumption)).1.1
    · have z' : U 3 i = u1 U 4 q ((j * 29 + 52 : Nat) : Int) 4 w := z
      rw [e3] at z'
      show U 3 i < 0
      by_cases p1 : w = q
      · rw [if_pos p1] at z'; exact absurd z' (s3 i i0 i1).1.2
      · rw [if_neg p1] at z'; exact r5 i w i0 i1 w0 w1 z'
    · rw [e3, e3] at z; rw [e3]
      by_cases p1 : w = q
      · rw [if_pos p1, if_neg (by omega)] at z; exact absurd z.symm (s4 w' z0 z1 (by omega)).1.2
      · rw [if_neg p1] at z ⊢
        by_cases p2 : w' = q
        · rw [if_pos p2] at z; exact absurd z (s4 w w0 w1 p1).1.2
        · rw [if_neg p2] at z; exact r6 w w' w0 w1 z0 z1 ne z
  · obtain ⟨a1, a2, a3, a4⟩ := h9
    refine ⟨a1, a2, by rw [eV 10 (by decide) (by decide)]; exact a3, fun t t0 t1 => ?_⟩
    have hh := a4 t t0 t1
    refine (hh.frame hlt (fun j' b d => gset_ne _ _ ?_)).row (fun k k0 k1 => by unfold hrow; rw [eV 3 (by decide) (by decide), eV 10 (by decide) (by decide)])
    exact (s3 ((U 16 0 + 9 - t) % 10) (by omega) (by omega)).2 j' b d
  · refine ⟨fun w => ?_, fun w w0 w1 => ?_⟩
    · rw [e5]; split
      · exact Or.inr rfl
      · exact h10.1 w
    · rw [e5, e3]
      by_cases p1 : w = q
      · rw [if_pos p1, if_pos p1]
        have at1 := fun f i hk => nrm_at (S := S) (X := X) h4.R f i hk
        refine Or.inr ⟨rfl, j, rfl, hj, ?_, ?_⟩
        · rw [gset_eq]; exact h4.cg (nrm_R _) at1
        · rw [gset_eq, p1]; exact (h5.cgo h4.bd at1).row (h4.cg (nrm_R (cpSt S X)) at1).bd (fun k z0 z1 => by show V2 4 _ = _; rw [e4, mv_at _ _ _ _ _ _ ⟨z0, z1⟩]; congr 1; omega)
      · rw [if_neg p1, if_neg p1]
        rcases h10.2 w w0 w1 with z | ⟨z1, z2⟩
        · exact Or.inl z
        · refine Or.inr ⟨z1, (z2.frame hlt (fun j' b d => gset_ne _ _ ((s4 w w0 w1 p1).2 j' b d))).row (fun k k0 k1 => ?_)⟩
          show V2 4 _ = _
          rw [e4, mv_out _ (by omega)]
theorem GI.back {c : Int} {S T U V V2 : St} {G : Gw} {nx : Nat} {q : Int} (h : GI c S T U V G nx) (hq : 0 ≤ q ∧ q < 2) (hV : V2 = u0 (mv V 0 4 0 q) 10 0) (hL : RgL V2) {j : Nat} (hj : U 4 q = ((j * 29 + 52 : Nat) : Int)) (hR : Rg (cpSt (G j) S)) : GI c (cpSt (G j) S) T (u0 U 17 0) V2 G nx := by
  obtain ⟨h1, h2, h3, h4, h5, h6, h7, h8, h9, h10⟩ := h
  obtain ⟨a1, a2, a3, a4⟩ := h9
  have hh : Held c G nx (U 4 q) (fun r => V 4 (1216 * q + r)) := by
    rcases h10.2 q hq.1 hq.2 with z | z
    · omega
    · exact z.2
  rw [hj] at hh
  obtain ⟨j', b1, b2, b3, b4⟩ := hh
  obtain rfl : j' = j := by omega
  have eV : ∀ f : Nat, f ≠ 0 → f ≠ 10 → V2 f = V f := fun f f0 f10 => by rw [hV]; unfold u0; rw [sset_ne _ _ f10, mv_ne _ f0]
  have e10 : V2 10 0 = 0 := by rw [hV]; rfl
  have e0 : ∀ k : Int, 0 ≤ k → k < 1216 → V2 0 k = V 4 (1216 * q + k) := fun k k0 k1 => by
    rw [hV]
    have p := mv_at V 0 4 0 q k ⟨k0, k1⟩
    rw [show 1216 * 0 + k = k by omega] at p
    exact p
  refine ⟨h1, h2, hL, b3.cp hR, (b4.cp b3.bd).row (b3.cp hR).bd e0, ?_, ?_, h8, ?_, ?_⟩
  · obtain ⟨a, b, d, e⟩ := h6
    exact ⟨a.trans (eV 6 (by decide) (by decide)).symm, b.trans (congrFun (eV 11 (by decide) (by decide)) 0).symm, d, e⟩
  · obtain ⟨a, b, d, e, f, g, i⟩ := h7
    refine ⟨a.trans (congrFun (eV 15 (by decide) (by decide)) 0).symm, b.trans (congrFun (eV 16 (by decide) (by decide)) 0).symm, d, e, f, fun k z0 z1 => ?_, i⟩
    rw [eV 7 (by decide) (by decide)]; exact g k z0 z1
  · exact ⟨a1, ⟨by show (0 : Int) ≤ 0; omega, by show (0 : Int) ≤ 10; omega⟩, e10, fun t t0 t1 => absurd (show t < 0 from t1) (by omega)⟩
  · refine ⟨by rw [eV 5 (by decide) (by decide)]; exact h10.1, fun w w0 w1 => ?_⟩
    rw [eV 5 (by decide) (by decide), eV 4 (by decide) (by decide)]
    exact h10.2 w w0 w1


/-! what each call keeps -/
theorem GI.txt {c : Int} {S T U V T2 U2 V2 : St} {G : Gw} {nx : Nat} (h : GI c S T U V G nx) (hT : Rg T2) (hL : RgL V2) (hu : ∀ f : Nat, f ≠ 0 → f ≠ 10 → f ≠ 11 → f ≠ 12 → f ≠ 13 → f ≠ 14 → f ≠ 15 → U2 f = U f) (hv : ∀ f : Nat, f ≠ 1 → f ≠ 2 → f ≠ 6 → f ≠ 11 → f ≠ 12 → f ≠ 13 → f ≠ 14 → f ≠ 17 → f ≠ 18 → f ≠ 19 → V2 f = V f) (tp : TapeI U2 V2) : GI c S T2 U2 V2 G nx := by
  obtain ⟨h1, h2, h3, h4, h5, h6, h7, h8, h9, h10⟩ := h
  have e2 := hu 2 (by decide) (by decide) (by decide) (by decide) (by decide) (by decide) (by decide)
  have e3 := hu 3 (by decide) (by decide) (by decide) (by decide) (by decide) (by decide) (by decide)
  have e4 := hu 4 (by decide) (by decide) (by decide) (by decide) (by decide) (by decide) (by decide)
  have e16 := hu 16 (by decide) (by decide) (by decide) (by decide) (by decide) (by decide) (by decide)
  have e17 := hu 17 (by decide) (by decide) (by decide) (by decide) (by decide) (by decide) (by decide)
  have e18 := hu 18 (by decide) (by decide) (by decide) (by decide) (by decide) (by decide) (by decide)
  have e19 := hu 19 (by decide) (by decide) (by decide) (by decide) (by decide) (by decide) (by decide)
  have v0 := hv 0 (by decide) (by decide) (by decide) (by decide) (by decide) (by decide) (by decide) (by decide) (by decide) (by decide)
  have v3 := hv 3 (by decide) (by decide) (by decide) (by decide) (by decide) (by decide) (by decide) (by decide) (by decide) (by decide)
  have v4 := hv 4 (by decide) (by decide) (by decide) (by decide) (by decide) (by decide) (by decide) (by decide) (by decide) (by decide)
  have v5 := hv 5 (by decide) (by decide) (by decide) (by decide) (by decide) (by decide) (by decide) (by decide) (by decide) (by decide)
  have v7 := hv 7 (by decide) (by decide) (by decide) (by decide) (by decide) (by decide) (by decide) (by decide) (by decide) (by decide)
  have v10 := hv 10 (by decide) (by decide) (by decide) (by decide) (by decide) (by decide) (by decide) (by decide) (by decide) (by decide)
  have v15 := hv 15 (by decide) (by decide) (by decide) (by decide) (by decide) (by decide) (by decide) (by decide) (by decide) (by decide)
  have v16 := hv 16 (by decide) (by decide) (by decide) (by decide) (by decide) (by decide) (by decide) (by decide) (by decide) (by decide)
  refine ⟨h1, hT, hL, h4, by rw [v0]; exact h5, tp, ?_, ?_, ?_, ?_⟩
  · unfold NoteI; rw [e18, e19, e2, v15, v16, v7]; exact h7
  · unfold RefI; rw [e3, e4]; exact h8
  · unfold ActI hrow; rw [e16, e17, e3, v10, v3]; exact h9
  · unfold ShlI; rw [e4, v5, v4]; exact h10
theorem GI.nte {c : Int} {S T U V U2 V2 : St} {G : Gw} {nx : Nat} (h : GI c S T U V G nx) (hL : RgL V2) (hu : ∀ f : Nat, f ≠ 2 → f ≠ 18 → f ≠ 19 → U2 f = U f) (hv : ∀ f : Nat, f ≠ 7 → f ≠ 15 → f ≠ 16 → V2 f = V f) (tp : NoteI U2 V2) : GI c S T U2 V2 G nx := by
  obtain ⟨h1, h2, h3, h4, h5, h6, h7, h8, h9, h10⟩ := h
  have e0 := hu 0 (by decide) (by decide) (by decide)
  have e10 := hu 10 (by decide) (by decide) (by decide)
  have e3 := hu 3 (by decide) (by decide) (by decide)
  have e4 := hu 4 (by decide) (by decide) (by decide)
  have e16 := hu 16 (by decide) (by decide) (by decide)
  have e17 := hu 17 (by decide) (by decide) (by decide)
  have v0 := hv 0 (by decide) (by decide) (by decide)
  have v3 := hv 3 (by decide) (by decide) (by decide)
  have v4 := hv 4 (by decide) (by decide) (by decide)
  have v5 := hv 5 (by decide) (by decide) (by decide)
  have v6 := hv 6 (by decide) (by decide) (by decide)
  have v10 := hv 10 (by decide) (by decide) (by decide)
  have v11 := hv 11 (by decide) (by decide) (by decide)
  refine ⟨h1, h2, hL, h4, by rw [v0]; exact h5, ?_, tp, ?_, ?_, ?_⟩
  · unfold TapeI; rw [e0, e10, v6, v11]; exact h6
  · unfold RefI; rw [e3, e4]; exact h8
  · unfold ActI hrow; rw [e16, e17, e3, v10, v3]; exact h9
  · unfold ShlI; rw [e4, v5, v4]; exact h10
theorem tk_ne (U : St) (v : Int) {f : Nat} (h0 : f ≠ 0) (h1 : f ≠ 10) : ∀ k : Nat, tkN U v k f = U f
  | 0 => rfl
  | k + 1 => by
    show u0 (u1 (tkN U v k) 0 _ _) 10 _ f = _
    unfold u0 u1; rw [sset_ne _ _ h1, sset_ne _ _ h0]; exact tk_ne U v h0 h1 k
theorem tv_ne (V : St) (v : Int) {f : Nat} (h0 : f ≠ 6) (h1 : f ≠ 11) : ∀ k : Nat, tvN V v k f = V f
  | 0 => rfl
  | k + 1 => by
    show u0 (u1 (tvN V v k) 6 _ _) 11 _ f = _
    unfold u0 u1; rw [sset_ne _ _ h1, sset_ne _ _ h0]; exact tv_ne V v h0 h1 k
def Tp0 (U V : St) : Prop := U 0 = V 6 ∧ U 10 0 = V 11 0 ∧ ∀ j : Int, -128 ≤ U 0 j ∧ U 0 j ≤ 127
theorem tk_tp {U V : St} (h : Tp0 U V) (v : Int) : ∀ k : Nat, Tp0 (tkN U v k) (tvN V v k)
  | 0 => h
  | k + 1 => by
    obtain ⟨a, b, d⟩ := tk_tp h v k
    refine ⟨?_, ?_, fun j => ?_⟩
    · show uz (tkN U v k 0) (tkN U v k 10 0) _ = uz (tvN V v k 6) (tvN V v k 11 0) _
      rw [a, b]
    · show tkN U v k 10 0 + 1 = tvN V v k 11 0 + 1
      rw [b]
    · show -128 ≤ uz (tkN U v k 0) (tkN U v k 10 0) (by8 v (24 - 8 * (k : Int))) j ∧ uz (tkN U v k 0) (tkN U v k 10 0) (by8 v (24 - 8 * (k : Int))) j ≤ 127
      unfold uz; split
      · exact by8_in _ _
      · exact d j
theorem GI.feed {c : Int} {S T U V : St} {G : Gw} {nx : Nat} (h : GI c S T U V G nx) (x1 x2 x3 x4 x5 : Int) (hL : RgL (if 380 < V 11 0 then V else feedV V x1 x2 x3 x4 x5)) : aFeed U = aFeedV V ∧ GI c S T (if 380 < U 10 0 then U else feedU U x1 x2 x3 x4 x5) (if 380 < V 11 0 then V else feedV V x1 x2 x3 x4 x5) G nx := by
  have h6 := h.2.2.2.2.2.1
  refine ⟨by unfold aFeed aFeedV; rw [h6.2.1], ?_⟩
  by_cases q : 380 < U 10 0
  · rw [if_pos q, if_pos (by rw [← h6.2.1]; exact q)]; exact h
  · rw [if_neg (show ¬ 380 < V 11 0 by rw [← h6.2.1]; exact q)] at hL ⊢
    rw [if_neg q]
    refine h.txt h.2.1 hL (fun f f0 f1 _ _ _ _ _ => ?_) (fun f _ _ f0 f1 _ _ _ _ _ _ => ?_) ?_
    · unfold feedU; rw [tk_ne _ _ f0 f1, tk_ne _ _ f0 f1, tk_ne _ _ f0 f1, tk_ne _ _ f0 f1, tk_ne _ _ f0 f1]
    · unfold feedV; rw [tv_ne _ _ f0 f1, tv_ne _ _ f0 f1, tv_ne _ _ f0 f1, tv_ne _ _ f0 f1, tv_ne _ _ f0 f1]
    · have t := tk_tp (tk_tp (tk_tp (tk_tp (tk_tp (show Tp0 U V from ⟨h6.1, h6.2.1, h6.2.2.2⟩) x1 4) x2 4) x3 4) x4 4) x5 4
      refine ⟨t.1, t.2.1, ?_, t.2.2⟩
      have b := h6.2.2.1
      unfold feedU; simp only [tkN_10]; omega
theorem GI.end' {c : Int} {S T U V : St} {G : Gw} {nx : Nat} (h : GI c S T U V G nx) {n : Int} (hL : RgL (if n < 0 ∨ V 11 0 < n then V else u0 V 11 n)) : GI c S T (if n < 0 ∨ U 10 0 < n then U else u0 U 10 n) (if n < 0 ∨ V 11 0 < n then V else u0 V 11 n) G nx := by
  have h6 := h.2.2.2.2.2.1
  by_cases q : n < 0 ∨ U 10 0 < n
  · rw [if_pos q, if_pos (by rw [← h6.2.1]; exact q)]; exact h
  · rw [if_neg (show ¬ (n < 0 ∨ V 11 0 < n) by rw [← h6.2.1]; exact q)] at hL ⊢
    rw [if_neg q]
    refine h.txt h.2.1 hL (fun f f0 f1 _ _ _ _ _ => ?_) (fun f _ _ f0 f1 _ _ _ _ _ _ => ?_) ?_
    · unfold u0; rw [sset_ne _ _ f1]
    · unfold u0; rw [sset_ne _ _ f1]
    · exact ⟨h6.1, rfl, ⟨by show 0 ≤ n; omega, by show n ≤ 400; have := h6.2.2.1; omega⟩, h6.2.2.2⟩
theorem ua_ne (U : St) (a f : Int) {g : Nat} (h1 : g ≠ 11) (h2 : g ≠ 12) : ua U a f g = U g := by unfold ua u0; rw [sset_ne _ _ h2, sset_ne _ _ h1]
theorem GI.tellN {c : Int} {S T U V T2 V2 : St} {G : Gw} {nx : Nat} (h : GI c S T U V G nx) (a f : Int) (hT : Rg T2) (vo : VO V V2) (v0 : V2 0 = V 0) (v10 : V2 10 = V 10) (v11 : V2 11 0 = 0) (hL : RgL V2) : GI c S T2 (u0 (ua U a f) 10 0) V2 G nx := by
  have h6 := h.2.2.2.2.2.1
  refine h.txt hT hL (fun g f0 f1 f2 f3 _ _ _ => ?_) (fun g g1 _ g6 g11 g12 g13 g14 _ _ _ => ?_) ⟨?_, ?_, ⟨by show (0 : Int) ≤ 0; omega, by show (0 : Int) ≤ 400; omega⟩, h6.2.2.2⟩
  · unfold u0; rw [sset_ne _ _ f1]; exact ua_ne U a f f2 f3
  · by_cases z : g = 0
    · rw [z, v0]
    · by_cases z2 : g = 10
      · rw [z2, v10]
      · exact vo g z g1 z2 g11 g12 g13 g14
  · rw [vo 6 (by decide) (by decide) (by decide) (by decide) (by decide) (by decide) (by decide)]; exact h6.1
  · rw [v11]; rfl
theorem GI.tellQ {c c' : Int} {S T U V T2 V2 : St} {G : Gw} {nx : Nat} (h : GI c S T U V G nx) (hc : c ≤ c' ∧ 1 ≤ c' ∧ c' ≤ 512) (a f : Int) (hT : Rg T2) (hv : VT T2) (vo : VO V V2) (v10 : V2 10 0 = 0) (v11 : V2 11 0 = 0) (hL : RgL V2) (hA : Ag (begS T2 S) (V2 0)) : GI c' (begS T2 S) T2 (u0 (u0 (ua U a f) 10 0) 17 0) V2 G nx := by
  obtain ⟨h1, h2, h3, h4, h5, h6, h7, h8, h9, h10⟩ := h.mono ⟨hc.1, hc.2.2⟩
  have v : ∀ f : Nat, f ≠ 0 → f ≠ 1 → f ≠ 10 → f ≠ 11 → f ≠ 12 → f ≠ 13 → f ≠ 14 → V2 f = V f := vo
  have e5 := v 5 (by decide) (by decide) (by decide) (by decide) (by decide) (by decide) (by decide)
  have e4 := v 4 (by decide) (by decide) (by decide) (by decide) (by decide) (by decide) (by decide)
  have e6 := v 6 (by decide) (by decide) (by decide) (by decide) (by decide) (by decide) (by decide)
  have e7 := v 7 (by decide) (by decide) (by decide) (by decide) (by decide) (by decide) (by decide)
  have e15 := v 15 (by decide) (by decide) (by decide) (by decide) (by decide) (by decide) (by decide)
  have e16 := v 16 (by decide) (by decide) (by decide) (by decide) (by decide) (by decide) (by decide)
  refine ⟨h1, hT, hL, (Inv.beg hT h4.R ⟨hc.2.1, hc.2.2⟩ hv).1, hA, ⟨by rw [e6]; exact h6.1, by rw [v11]; rfl, ⟨by show (0 : Int) ≤ 0; omega, by show (0 : Int) ≤ 400; omega⟩, h6.2.2.2⟩, ?_, h8, ⟨h9.1, ⟨by show (0 : Int) ≤ 0; omega, by show (0 : Int) ≤ 10; omega⟩, by rw [v10]; rfl, fun t t0 t1 => absurd (show t < 0 from t1) (by omega)⟩, ?_⟩
  · unfold NoteI; rw [e15, e16, e7]; exact h7
  · unfold ShlI; rw [e5, e4]; exact h10
theorem spw_ne (U : St) (q : Int) (ws : List Int) {f : Nat} (h1 : f ≠ 13) (h2 : f ≠ 14) (h3 : f ≠ 15) : spw U q ws f = U f := by
  unfold spw u0; rw [sset_ne _ _ h1, sset_ne _ _ h2, sset_ne _ _ h3]
theorem spv_ne (V : St) (q : Int) (ws : List Int) {f : Nat} (h1 : f ≠ 17) (h2 : f ≠ 19) (h3 : f ≠ 18) : spv V q ws f = V f := by
  unfold spv u0; rw [sset_ne _ _ h1, sset_ne _ _ h2, sset_ne _ _ h3]
theorem GI.letter {c : Int} {S T U V : St} {G : Gw} {nx : Nat} (h : GI c S T U V G nx) (q : Int) (ws ws2 : List Int) (hL : RgL (spv V q ws2)) : GI c S T (spw U q ws) (spv V q ws2) G nx := by
  have h6 := h.2.2.2.2.2.1
  refine h.txt h.2.1 hL (fun f _ _ _ _ f0 f1 f2 => spw_ne U q ws f0 f1 f2) (fun f _ _ _ _ _ _ _ f0 f1 f2 => spv_ne V q ws2 f0 f2 f1) ?_
  exact h6
theorem GI.row {c : Int} {S T U V : St} {G : Gw} {nx : Nat} (h : GI c S T U V G nx) {s n : Int} (hL : RgL (if 0 ≤ s ∧ s < 4 ∧ 0 ≤ n ∧ n ≤ 40 then rwN V s n 40 else V)) : GI c S T (if 0 ≤ s ∧ s < 4 ∧ 0 ≤ n ∧ n ≤ 40 then rowU U s n else U) (if 0 ≤ s ∧ s < 4 ∧ 0 ≤ n ∧ n ≤ 40 then rwN V s n 40 else V) G nx := by
  by_cases q : 0 ≤ s ∧ s < 4 ∧ 0 ≤ n ∧ n ≤ 40
  · rw [if_pos q] at hL ⊢; rw [if_pos q]
    have h7 := h.2.2.2.2.2.2.1
    refine h.nte hL (fun f f2 f18 f19 => ?_) (fun f f7 f15 f16 => ?_) ⟨rfl, rfl, ⟨by show -1 ≤ s; omega, by show s ≤ 3; omega⟩, ⟨by show 0 ≤ n; omega, by show n ≤ 40; omega⟩, fun z => absurd (show s = -1 from z) (by omega), fun k k0 k1 => ?_, fun j => ?_⟩
    · unfold rowU u0; rw [sset_ne _ _ f2, sset_ne _ _ f19, sset_ne _ _ f18]
    · unfold rwN u0; rw [sset_ne _ _ f7, sset_ne _ _ f16, sset_ne _ _ f15]
    · have k2 : k < n := k1
      show fl (V 7) 40 0 k = cn s (fl (U 2) 40 0 k)
      unfold fl; rw [if_pos (by omega), if_pos (by omega)]
      unfold cn; rw [if_neg (fun z => absurd z.2 (by decide +kernel))]
    · show inL (fl (U 2) 40 0 j)
      unfold fl; split
      · exact ⟨by omega, by omega⟩
      · exact h7.2.2.2.2.2.2 j
  · rw [if_neg q, if_neg q]; exact h
theorem GI.note {c : Int} {S T U V : St} {G : Gw} {nx : Nat} (h : GI c S T U V G nx) {k s v : Int} (hr : rNote U k s v = rNoteV V k s v) (hv : inL v) (hL : RgL (if 0 ≤ rNoteV V k s v then u1 V 7 k (cn s v) else V)) : GI c S T (if 0 ≤ rNote U k s v then u1 U 2 k v else U) (if 0 ≤ rNoteV V k s v then u1 V 7 k (cn s v) else V) G nx := by
  have h7 := h.2.2.2.2.2.2.1
  obtain ⟨a, b, d, e, f, g, i⟩ := h7
  by_cases q : 0 ≤ rNoteV V k s v
  · rw [if_pos q] at hL ⊢; rw [if_pos (by rw [hr]; exact q)]
    have hs : s = U 18 0 := by
      rw [← hr] at q; unfold rNote at q
      (repeat' split at q) <;> first | omega | skip
    refine h.nte hL (fun w f2 f18 f19 => ?_) (fun w f7 f15 f16 => ?_) ⟨a, b, d, e, f, fun j k0 k1 => ?_, fun j => ?_⟩
    · unfold u1; rw [sset_ne _ _ f2]
    · unfold u1; rw [sset_ne _ _ f7]
    · show u1 V 7 k (cn s v) 7 j = cn (U 18 0) (u1 U 2 k v 2 j)
      rw [u1_at, u1_at]
      by_cases z : j = k
      · rw [if_pos ⟨rfl, z⟩, if_pos ⟨rfl, z⟩, hs]
      · rw [if_neg (fun w => z w.2), if_neg (fun w => z w.2)]; exact g j k0 k1
    · show inL (u1 U 2 k v 2 j)
      rw [u1_at]; split
      · exact hv
      · exact i j
  · rw [if_neg q, if_neg (by rw [hr]; exact q)]; exact h
theorem note_r {U V : St} (h : NoteI U V) (k s v : Int) : rNote U k s v = rNoteV V k s v := by
  unfold rNote rNoteV; rw [h.1, h.2.1]
theorem noted_r {U V : St} (h : NoteI U V) (k : Int) : aNoted U k = aNotedV V k := by
  obtain ⟨a, b, d, e, f, g, i⟩ := h
  unfold aNoted aNotedV
  rw [← a, ← b]
  by_cases z : 0 ≤ k ∧ k < U 19 0
  · have e1 : ¬ U 18 0 = -1 ∧ 0 ≤ k ∧ k < U 19 0 := ⟨fun w => by have := f w; omega, z⟩
    rw [if_pos z, if_pos e1, g k z.1 z.2]; rfl
  · rw [if_neg z, if_neg (fun w => z w.2)]
theorem count_r {c : Int} {U V : St} {G : Gw} {nx : Nat} {S T : St} (h : GI c S T U V G nx) (w : Int) : aCount S U w = aCountR S V w := by
  obtain ⟨h1, h2, h3, h4, h5, h6, h7, h8, h9, h10⟩ := h
  have z0 := h10.2 0 (by omega) (by omega)
  have z1 := h10.2 1 (by omega) (by omega)
  have e7 : (if U 4 0 < 0 then 0 else 1) + (if U 4 1 < 0 then 0 else 2) = V 5 0 + 2 * V 5 1 := by
    rcases z0 with ⟨p1, p2⟩ | ⟨p1, j, p2, _⟩ <;> rcases z1 with ⟨r1, r2⟩ | ⟨r1, j', r2, _⟩
    · rw [if_pos p1, if_pos r1]; omega
    · rw [if_pos p1, if_neg (by omega)]; omega
    · rw [if_neg (by omega), if_pos r1]; omega
    · rw [if_neg (by omega), if_neg (by omega)]; omega
  unfold aCount aCountR
  rw [e7, h9.2.2.1, h6.2.1, h7.2.1]
/-! what always holds goes on holding -/
section IV
variable {c : Int} {S : St}
theorem i_use {l n : Int} (h : Inv c S) (hc : c ≤ 511) (z : rUse S l n = 0) : Inv (c + 1) (useS S l n) := by
  unfold rUse at z
  by_cases a : isL S l ∧ isN n
  · rw [if_neg (fun q => q a)] at z
    by_cases b : S 10 l = 0
    · rw [if_neg (fun q => q b)] at z
      by_cases d : rem S l < n
      · rw [if_pos d] at z; omega
      · have e : rem S l = S 6 l - S 9 l := by unfold rem; rw [if_pos b]
        exact h.use hc a.1 b (by omega) (by omega)
    · rw [if_pos b] at z; omega
  · rw [if_pos a] at z; omega
theorem i_give {l : Int} (h : Inv c S) (hc : c ≤ 511) (z : rGive S l = 0) : Inv (c + 1) (giveS S l 2) := by
  unfold rGive at z
  by_cases a : isL S l
  · rw [if_neg (fun q => q a)] at z
    by_cases b : S 10 l = 0
    · exact (h.give a b (Or.inl rfl)).up hc
    · rw [if_pos b] at z; omega
  · rw [if_pos a] at z; omega
theorem i_hand {l i n : Int} (h : Inv c S) (hc : c ≤ 511) (z : rHand S l i n = 0) : Inv (c + 1) (handS S l i n (S 25 0)) := by
  unfold rHand at z
  by_cases a : isL S l ∧ isI S i ∧ isN n ∧ ¬ S 4 l = i
  · rw [if_neg (fun q => q a)] at z
    by_cases a2 : 60 ≤ S 28 0
    · rw [if_pos a2] at z; omega
    · rw [if_neg a2] at z
      by_cases b : S 10 l = 0
      · rw [if_neg (fun q => q b)] at z
        by_cases d : rem S l < n
        · rw [if_pos d] at z; omega
        · have e : rem S l = S 6 l - S 9 l := by unfold rem; rw [if_pos b]
          exact (h.hand a.1 a.2.1 b (by omega) (by omega) (by omega)).up hc
      · rw [if_pos b] at z; omega
  · rw [if_pos a] at z; omega
theorem i_merge {l j : Int} (h : Inv c S) (hc : c ≤ 511) (z : rMerge S l j = 0) : Inv (c + 1) (overS S l j (S 25 0)) := by
  unfold rMerge at z
  by_cases a : isL S l ∧ isL S j ∧ ¬ l = j
  · rw [if_neg (fun q => q a)] at z
    by_cases b : S 10 l = 0 ∧ S 10 j = 0
    · exact (h.over a.1 a.2.1 a.2.2 b.1 b.2).up hc
    · rw [if_pos b] at z; omega
  · rw [if_pos a] at z; omega
theorem i_lend {i m w n : Int} (h : Inv c S) (hc : c ≤ 511) (z : rLend S i m w n = 0) : Inv (c + 1) (lendS S (4 * i + w) (4 * m + w) n) := by
  unfold rLend at z
  by_cases a : (isI S i ∧ isO S w) ∧ isI S m ∧ isN n ∧ ¬ i = m
  · rw [if_neg (fun q => q a)] at z
    by_cases b : S 15 (4 * i + w) = 1 ∧ S 15 (4 * m + w) = 1
    · rw [if_neg (fun q => q b)] at z
      by_cases d : S 17 (4 * i + w) < n
      · rw [if_pos d] at z; omega
      · exact (h.lend a.1.1 a.2.1 a.1.2 a.2.2.2 (by omega)).up hc
    · rw [if_pos b] at z; omega
  · rw [if_pos a] at z; omega
theorem i_exc {i w n v : Int} (h : Inv c S) (hc : c ≤ 511) (z : rExc S i w n v = 0) : Inv (c + 1) (exS S i w n v) := by
  unfold rExc at z
  by_cases a : (isI S i ∧ isO S w) ∧ isN n ∧ 1 ≤ v ∧ v ≤ 9999
  · exact h.exc hc a.1.1 a.1.2 a.2.1 a.2.2
  · rw [if_pos a] at z; omega
theorem i_days {n : Int} (h : Inv c S) (hc : c ≤ 511) (z : rDays S n = 0) : Inv (c + 1) (daysS S n.toNat) := by
  unfold rDays at z
  by_cases a : 0 < S 26 0 ∧ 1 ≤ n ∧ n ≤ 90
  · rw [if_neg (fun q => q a)] at z
    by_cases d : 3600 < S 25 0 + n
    · rw [if_pos d] at z; omega
    · exact (h.days a.1 n.toNat (by omega)).1.up hc
  · rw [if_pos a] at z; omega
theorem i_widen {w q : Int} (h : Inv c S) (hc : c ≤ 511) (z : rWiden S w q = 0) : Inv (c + 1) (u1 S 1 w q) := by
  unfold rWiden at z
  by_cases a : isO S w ∧ 0 ≤ q ∧ q ≤ 99999
  · exact (h.widen a.2).up hc
  · rw [if_pos a] at z; omega
theorem i_set {w n : Int} (h : Inv c S) (hc : c ≤ 511) (z : rSet S w n = 0) : Inv (c + 1) (u1 S 0 w n) := by
  unfold rSet at z
  by_cases a : 0 < S 26 0 ∧ (0 ≤ w ∧ w ≤ 5) ∧ tL w ≤ n ∧ n ≤ tM w
  · exact (h.set a.2.1 a.2.2).up hc
  · rw [if_pos a] at z; omega
theorem i_apply {i w n : Int} (h : Inv c S) (hc : c ≤ 511) (z : rApply S i w n = 0) : Inv (c + 1) (grS S i w (aWould S i w n)) := by
  unfold rApply at z
  by_cases d : aWould S i w n < 0
  · rw [if_pos d] at z; omega
  · unfold aWould at d ⊢
    by_cases a : (isI S i ∧ isO S w) ∧ isN n
    · rw [if_pos a] at d ⊢
      have k := offer_ok (S := S) (i := i) (o := w) (n := n) (q := S 14 (w * 8 + 3)) (w := S 28 0) a.2.1 (by omega)
      have k2 := offer_60 (S := S) (i := i) (o := w) (n := n) (q := S 14 (w * 8 + 3)) (w := S 28 0) (by omega)
      exact (h.grant a.1.1 a.1.2 k2 ⟨k.1, by omega⟩ k.2.2.1 k.2.2.2).up hc
    · rw [if_neg a] at d; omega
end IV


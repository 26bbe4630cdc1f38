/-! the whole text -/
def pc1 (B : Int → Int) (n : Int) (T : St) (s e : Int) : Int × Int × St := if isW B n s 1 then (orgA B n T e, orgF B n T s e, orgT B n T e) else if isW B n s 2 then (e, impF T s, impT T) else if isW B n s 3 then ((ps5 B n T e).1, (ps5 B n T e).2, pstT B n T e) else (e, 8 * s + 1, T)
def pce (B : Int → Int) (n : Int) (p : Int × Int × St) : Int × Int × St := if p.2.1 = 0 then pc1 B n p.2.2 (skb B n p.1) (ltr B n (skb B n p.1)) else p
def trm (B : Int → Int) (n : Int) (p : Int × Int × St) : Nat → Int × Int × St
  | 0 => p
  | k + 1 => (nA B n (trm B n p k).1 (trm B n p k).2.1, nF B n (tL k) (tM k) (trm B n p k).1 (trm B n p k).2.1, u1 (trm B n p k).2.2 0 k (nV B n (tL k) (tM k) (trm B n p k).1 (trm B n p k).2.1))
def tr0 (B : Int → Int) (n : Int) (T : St) (a : Int) : Int × Int × St := (ltr B n (skb B n a), if isW B n (skb B n a) 0 then 0 else 8 * skb B n a + 1, T)
def lop (B : Int → Int) (n : Int) : Nat → Int × Int × St → Int × Int × St
  | 0, p => p
  | f + 1, p => if p.2.1 = 0 then (if n ≤ skb B n p.1 then (skb B n p.1, 0, p.2.2) else lop B n f (pce B n (sepA B n (skb B n p.1) 0, sepF B n (skb B n p.1) 0, p.2.2))) else p
def clrT (T : St) : St := u0 (u0 (clS (clS (clS T 0 6) 1 4) 2 96) 26 0) 27 0
def rtx (B : Int → Int) (n : Int) (T : St) : Int × Int × St := lop B n 401 (trm B n (tr0 B n (clrT T) 0) 6)
def rdF (n : Int) (p : Int × Int × St) : Int := if p.2.1 = 0 ∧ p.2.2 26 0 = 0 then 8 * n + 4 else p.2.1
def PIn (n : Int) (p : Int × Int × St) : Prop := (0 ≤ p.1 ∧ p.1 ≤ n) ∧ (0 ≤ p.2.1 ∧ p.2.1 ≤ 4000) ∧ Rg p.2.2 ∧ (0 ≤ p.2.2 26 0 ∧ p.2.2 26 0 ≤ 4) ∧ (0 ≤ p.2.2 27 0 ∧ p.2.2 27 0 ≤ 8)
theorem trm_in {B : Int → Int} {n : Int} (hn : n ≤ 400) {p : Int × Int × St} (h : PIn n p) : ∀ k : Nat, PIn n (trm B n p k)
  | 0 => h
  | k + 1 => by
    have q := trm_in (B := B) hn h k
    obtain ⟨q1, q2, q3, q4, q5⟩ := q
    have a := nA_in (B := B) (n := n) (a := (trm B n p k).1) (f := (trm B n p k).2.1) q1
    have v := nV_in B n (tL k) (tM k) (trm B n p k).1 (trm B n p k).2.1
    refine ⟨?_, nF_in q1 hn q2, q3.u1 (by omega), q4, q5⟩
    show 0 ≤ nA B n _ _ ∧ nA B n _ _ ≤ n
    omega
theorem tr0_in {B : Int → Int} {n : Int} (hn : n ≤ 400) {T : St} {a : Int} (ha : 0 ≤ a ∧ a ≤ n) (hT : Rg T) (h26 : 0 ≤ T 26 0 ∧ T 26 0 ≤ 4) (h27 : 0 ≤ T 27 0 ∧ T 27 0 ≤ 8) : PIn n (tr0 B n T a) := by
  have sk := skb_in (B := B) (n := n) (a := a) ha.2
  have lt := ltr_in (B := B) (n := n) (a := skb B n a) sk.2
  refine ⟨⟨by show 0 ≤ ltr B n (skb B n a); omega, lt.2⟩, ?_, hT, h26, h27⟩
  show 0 ≤ (if isW B n (skb B n a) 0 then (0 : Int) else 8 * skb B n a + 1) ∧ (if isW B n (skb B n a) 0 then (0 : Int) else 8 * skb B n a + 1) ≤ 4000
  split <;> omega
theorem org_R {B : Int → Int} {n : Int} {T : St} {a : Int} (hT : Rg T) (h26 : 0 ≤ T 26 0 ∧ T 26 0 ≤ 4) : Rg (orgT B n T a) ∧ (0 ≤ orgT B n T a 26 0 ∧ orgT B n T a 26 0 ≤ 4) ∧ orgT B n T a 27 0 = T 27 0 := by
  have v := nV_in B n 0 99999 a 0
  unfold orgT; split
  · exact ⟨hT, h26, rfl⟩
  · exact ⟨(hT.u1 (by omega)).u0 (by omega), by show 0 ≤ T 26 0 + 1 ∧ T 26 0 + 1 ≤ 4; omega, rfl⟩
theorem imp_R {T : St} (hT : Rg T) (h27 : 0 ≤ T 27 0 ∧ T 27 0 ≤ 8) : Rg (impT T) ∧ impT T 26 0 = T 26 0 ∧ (0 ≤ impT T 27 0 ∧ impT T 27 0 ≤ 8) := by
  unfold impT; split
  · exact ⟨hT, rfl, h27⟩
  · exact ⟨hT.u0 (by omega), rfl, by show 0 ≤ T 27 0 + 1 ∧ T 27 0 + 1 ≤ 8; omega⟩
theorem pst_R {B : Int → Int} {n : Int} {T : St} {a : Int} (hT : Rg T) : Rg (pstT B n T a) ∧ pstT B n T a 26 0 = T 26 0 ∧ pstT B n T a 27 0 = T 27 0 := by
  have v3 := nV_in B n 0 99999 (ps2 B n T a).1 (ps2 B n T a).2
  have v4 := nV_in B n 0 99999 (ps3 B n T a).1 (ps3 B n T a).2
  have v5 := nV_in B n 0 99999 (ps4 B n T a).1 (ps4 B n T a).2
  unfold pstT; split
  · exact ⟨((hT.u1 (show inI (pv3 B n T a) by unfold pv3; omega)).u1 (show inI (pv4 B n T a) by unfold pv4; omega)).u1 (show inI (pv5 B n T a) by unfold pv5; omega), rfl, rfl⟩
  · exact ⟨hT, rfl, rfl⟩
theorem pc1_in {B : Int → Int} {n : Int} (hn : n ≤ 400) {T : St} {s e : Int} (hs : 0 ≤ s ∧ s ≤ n) (he : 0 ≤ e ∧ e ≤ n) (hT : Rg T) (h26 : 0 ≤ T 26 0 ∧ T 26 0 ≤ 4) (h27 : 0 ≤ T 27 0 ∧ T 27 0 ≤ 8) : PIn n (pc1 B n T s e) ∧ e ≤ (pc1 B n T s e).1 := by
  unfold pc1
  split
  · have r := org_R (B := B) (n := n) (a := e) hT h26
    have a := nA_in (B := B) (n := n) (a := e) (f := 0) he
    have f := nF_in (B := B) (n := n) (lo := 0) (hi := 99999) (a := e) (f := 0) he hn (by omega)
    have x : e ≤ orgA B n T e ∧ orgA B n T e ≤ n := by unfold orgA; split <;> omega
    exact ⟨⟨⟨by show 0 ≤ orgA B n T e; omega, x.2⟩, by show 0 ≤ orgF B n T s e ∧ orgF B n T s e ≤ 4000; unfold orgF; split <;> omega, r.1, r.2.1, by show 0 ≤ orgT B n T e 27 0 ∧ orgT B n T e 27 0 ≤ 8; rw [r.2.2]; exact h27⟩, x.1⟩
  · split
    · have r := imp_R hT h27
      exact ⟨⟨he, by show 0 ≤ impF T s ∧ impF T s ≤ 4000; unfold impF; split <;> omega, r.1, by show 0 ≤ impT T 26 0 ∧ impT T 26 0 ≤ 4; rw [r.2.1]; exact h26, r.2.2⟩, Int.le_refl _⟩
    · split
      · have r := pst_R (B := B) (n := n) (a := e) hT
        have x := (ps_in (B := B) T he hn).2.2.2.2
        exact ⟨⟨by show 0 ≤ (ps5 B n T e).1 ∧ (ps5 B n T e).1 ≤ n; omega, x.2, r.1, by show 0 ≤ pstT B n T e 26 0 ∧ pstT B n T e 26 0 ≤ 4; rw [r.2.1]; exact h26, by show 0 ≤ pstT B n T e 27 0 ∧ pstT B n T e 27 0 ≤ 8; rw [r.2.2]; exact h27⟩, x.1.1⟩
      · exact ⟨⟨he, by show 0 ≤ 8 * s + 1 ∧ 8 * s + 1 ≤ 4000; omega, hT, h26, h27⟩, Int.le_refl _⟩
theorem pce_in {B : Int → Int} {n : Int} (hn : n ≤ 400) {p : Int × Int × St} (h : PIn n p) : PIn n (pce B n p) ∧ p.1 ≤ (pce B n p).1 := by
  obtain ⟨q1, q2, q3, q4, q5⟩ := h
  unfold pce; split
  · have s := skb_in (B := B) (n := n) (a := p.1) q1.2
    have e := ltr_in (B := B) (n := n) (a := skb B n p.1) s.2
    have r := pc1_in (B := B) hn (T := p.2.2) (s := skb B n p.1) (e := ltr B n (skb B n p.1)) (by omega) (by omega) q3 q4 q5
    exact ⟨r.1, by omega⟩
  · exact ⟨⟨q1, q2, q3, q4, q5⟩, Int.le_refl _⟩
theorem sep_in {B : Int → Int} {n : Int} (hn : n ≤ 400) {T : St} {a : Int} (ha : 0 ≤ a ∧ a ≤ n) (hT : Rg T) (h26 : 0 ≤ T 26 0 ∧ T 26 0 ≤ 4) (h27 : 0 ≤ T 27 0 ∧ T 27 0 ≤ 8) : PIn n (sepA B n a 0, sepF B n a 0, T) := by
  refine ⟨?_, ?_, hT, h26, h27⟩
  · show 0 ≤ sepA B n a 0 ∧ sepA B n a 0 ≤ n
    unfold sepA; split <;> omega
  · show 0 ≤ sepF B n a 0 ∧ sepF B n a 0 ≤ 4000
    unfold sepF; rw [if_pos rfl]; split <;> omega
theorem lop_f {B : Int → Int} {n : Int} {p : Int × Int × St} (h : ¬ p.2.1 = 0) : ∀ f : Nat, lop B n f p = p
  | 0 => rfl
  | f + 1 => by rw [lop, if_neg h]
theorem lop_e {B : Int → Int} {n : Int} {p : Int × Int × St} {f : Nat} (h : p.2.1 = 0) (he : n ≤ skb B n p.1) : lop B n (f + 1) p = (skb B n p.1, 0, p.2.2) := by rw [lop, if_pos h, if_pos he]
theorem lop_s {B : Int → Int} {n : Int} {p : Int × Int × St} {f : Nat} (h : p.2.1 = 0) (he : ¬ n ≤ skb B n p.1) : lop B n (f + 1) p = lop B n f (pce B n (sepA B n (skb B n p.1) 0, sepF B n (skb B n p.1) 0, p.2.2)) := by rw [lop, if_pos h, if_neg he]
theorem clr_in {T : St} (hT : Rg T) : Rg (clrT T) := ((((hT.cl (by decide)).cl (by decide)).cl (by decide)).u0 (by omega)).u0 (by omega)

set_option maxHeartbeats 1000000 in
theorem c_X4_readPiece {Γ : GT} {S T U V : St} {G : Gw} {nx d : Nat} {Q : QT} (hnx : 52 ≤ nx) {a f : Int} (hB : ∀ j : Int, -128 ≤ U 0 j ∧ U 0 j ≤ 127) (hn : 0 ≤ U 10 0 ∧ U 10 0 ≤ 400) (ha : 0 ≤ a ∧ a ≤ U 10 0) (hf : 0 ≤ f ∧ f ≤ 4000) (hT : Rg T) (h26 : 0 ≤ T 26 0 ∧ T 26 0 ≤ 4) (h27 : 0 ≤ T 27 0 ∧ T 27 0 ≤ 8) (hQ : ∀ p : Int × Int × St, p = pce (U 0) (U 10 0) (a, f, T) → Rg p.2.2 → Q none (hp Γ S p.2.2 (ua U p.1 p.2.1) V G) nx) : AM Γ MX4_readPiece (d + 5, 0, 0) [rf Γ 1] (hp Γ S T (ua U a f) V G) nx Q := by
  refine am_of (by decide) (Nat.le_of_ble_eq_true rfl) (ls := [some (rf Γ 1), none]) rfl ?_
  refine aw_aload_n dX4_readPiece_0 rfl ?_
  refine aw_getf fg_X4_29 dX4_readPiece_1 (hc1 hnx) rfl ?_
  refine aw_sv (a := f) (rfl) ?_
  refine aw_if_eq (tgt := 8) dX4_readPiece_4 rfl (by omega) (fun c4 => ?_) (fun c4 => ?_)
  · skip
    subst c4
    refine aw_aload_n dX4_readPiece_8 rfl ?_
    refine aw_callV (As := []) (ρ := (_, 0, 0)) (kn' := (0, 0)) cv_X4_58 dX4_readPiece_9 rfl rfl (hc1 hnx) rfl rfl (Nat.le_of_ble_eq_true rfl) (rmR _ _ _) ⟨Nat.le_refl _, Nat.le_refl _⟩ rfl (c_X4_skipBlanks hnx hB hn (by omega) ?_)
    have sk := skb_in (B := U 0) (n := U 10 0) (a := a) (by omega)
    refine aw_aload_n dX4_readPiece_12 rfl ?_
    refine aw_getf fg_X4_25 dX4_readPiece_13 (hc1 hnx) rfl ?_
    refine aw_sv (a := skb (U 0) (U 10 0) a) (rfl) ?_
    refine aw_nmI (fun x1_16 hx1_16 => ?_)
    refine aw_istore_n (ls' := [some (rf Γ 1), some _]) dX4_readPiece_16 (by decide) rfl ?_
    subst hx1_16
    refine aw_aload_n dX4_readPiece_17 rfl ?_
    refine aw_callV (As := []) (ρ := (_, 0, 0)) (kn' := (0, 0)) cv_X4_61 dX4_readPiece_18 rfl rfl (hc1 hnx) rfl rfl (Nat.le_of_ble_eq_true rfl) (rmR _ _ _) ⟨Nat.le_refl _, Nat.le_refl _⟩ rfl (c_X4_skipLetters hnx hB hn (by omega) ?_)
    have lt := ltr_in (B := U 0) (n := U 10 0) (a := skb (U 0) (U 10 0) a) (by omega)
    refine aw_aload_n dX4_readPiece_21 rfl ?_
    refine aw_iload_n dX4_readPiece_22 rfl ?_
    refine aw_ldcS dX4_readPiece_23 1 rfl rfl rfl ?_
    refine aw_callV (As := [_, _]) (ρ := (_, 0, 0)) (kn' := (0, 0)) cv_X4_65 dX4_readPiece_25 rfl rfl (hc1 hnx) rfl rfl (Nat.le_of_ble_eq_true rfl) (rmR _ _ _) ⟨Nat.le_refl _, Nat.le_refl _⟩ rfl (c_X4_isWord hnx (i := 1) (by decide) hB hn (by omega) (by omega) (fun r25 h25 => ?_))
    rcases h25 with ⟨rfl, h25⟩ | ⟨rfl, h25⟩
    · skip
      refine aw_if_eq (tgt := 39) dX4_readPiece_28 rfl (by decide) (fun c => absurd c (by decide)) (fun _ => ?_)
      refine aw_aload_n dX4_readPiece_31 rfl ?_
      refine aw_iload_n dX4_readPiece_32 rfl ?_
      refine aw_callV (As := [_]) (ρ := (_, 0, 0)) (kn' := (0, 0)) cv_X4_89 dX4_readPiece_33 rfl rfl (hc1 hnx) rfl rfl (Nat.le_of_ble_eq_true rfl) (rmR _ _ _) ⟨Nat.le_refl _, Nat.le_refl _⟩ rfl (c_X4_readOrigin hnx hB hn (by omega) hT h26 h27 (fun hT2 => ?_))
      refine aw_goto (tgt := 80) dX4_readPiece_36 rfl ?_
      exact aw_return dX4_readPiece_80 rfl ⟨Nat.le_refl _, Nat.le_refl _⟩ (by first | exact hQ (orgA (U 0) (U 10 0) T (ltr (U 0) (U 10 0) (skb (U 0) (U 10 0) a)), orgF (U 0) (U 10 0) T (skb (U 0) (U 10 0) a) (ltr (U 0) (U 10 0) (skb (U 0) (U 10 0) a)), orgT (U 0) (U 10 0) T (ltr (U 0) (U 10 0) (skb (U 0) (U 10 0) a))) (by unfold pce pc1; rw [if_pos rfl, if_pos h25]) hT2 | exact hQ ((ltr (U 0) (U 10 0) (skb (U 0) (U 10 0) a)), impF T (skb (U 0) (U 10 0) a), impT T) (by unfold pce pc1; rw [if_pos rfl, if_neg h25, if_pos h43]) hT2 | exact hQ ((ps5 (U 0) (U 10 0) T (ltr (U 0) (U 10 0) (skb (U 0) (U 10 0) a))).1, (ps5 (U 0) (U 10 0) T (ltr (U 0) (U 10 0) (skb (U 0) (U 10 0) a))).2, pstT (U 0) (U 10 0) T (ltr (U 0) (U 10 0) (skb (U 0) (U 10 0) a))) (by unfold pce pc1; rw [if_pos rfl, if_neg h25, if_neg h43, if_pos h61]) hT2 | exact hQ ((ltr (U 0) (U 10 0) (skb (U 0) (U 10 0) a)), (if (0 : Int) = 0 then 8 * (skb (U 0) (U 10 0) a) + 1 else 0), T) (by unfold pce pc1; rw [if_pos rfl, if_neg h25, if_neg h43, if_neg h61]; rfl) hT)
    · skip
      refine aw_if_eq (tgt := 39) dX4_readPiece_28 rfl (by decide) (fun _ => ?_) (fun c => absurd c (by decide))
      refine aw_aload_n dX4_readPiece_39 rfl ?_
      refine aw_iload_n dX4_readPiece_40 rfl ?_
      refine aw_ldcS dX4_readPiece_41 2 rfl rfl rfl ?_
      refine aw_callV (As := [_, _]) (ρ := (_, 0, 0)) (kn' := (0, 0)) cv_X4_65 dX4_readPiece_43 rfl rfl (hc1 hnx) rfl rfl (Nat.le_of_ble_eq_true rfl) (rmR _ _ _) ⟨Nat.le_refl _, Nat.le_refl _⟩ rfl (c_X4_isWord hnx (i := 2) (by decide) hB hn (by omega) (by omega) (fun r43 h43 => ?_))
      rcases h43 with ⟨rfl, h43⟩ | ⟨rfl, h43⟩
      · skip
        refine aw_if_eq (tgt := 57) dX4_readPiece_46 rfl (by decide) (fun c => absurd c (by decide)) (fun _ => ?_)
        refine aw_aload_n dX4_readPiece_49 rfl ?_
        refine aw_iload_n dX4_readPiece_50 rfl ?_
        refine aw_callV (As := [_]) (ρ := (_, 0, 0)) (kn' := (0, 0)) cv_X4_95 dX4_readPiece_51 rfl rfl (hc1 hnx) rfl rfl (Nat.le_of_ble_eq_true rfl) (rmR _ _ _) ⟨Nat.le_refl _, Nat.le_refl _⟩ rfl (c_X4_readImporter hnx hT h26 h27 (fun hT2 => ?_))
        refine aw_goto (tgt := 80) dX4_readPiece_54 rfl ?_
        exact aw_return dX4_readPiece_80 rfl ⟨Nat.le_refl _, Nat.le_refl _⟩ (by first | exact hQ (orgA (U 0) (U 10 0) T (ltr (U 0) (U 10 0) (skb (U 0) (U 10 0) a)), orgF (U 0) (U 10 0) T (skb (U 0) (U 10 0) a) (ltr (U 0) (U 10 0) (skb (U 0) (U 10 0) a)), orgT (U 0) (U 10 0) T (ltr (U 0) (U 10 0) (skb (U 0) (U 10 0) a))) (by unfold pce pc1; rw [if_pos rfl, if_pos h25]) hT2 | exact hQ ((ltr (U 0) (U 10 0) (skb (U 0) (U 10 0) a)), impF T (skb (U 0) (U 10 0) a), impT T) (by unfold pce pc1; rw [if_pos rfl, if_neg h25, if_pos h43]) hT2 | exact hQ ((ps5 (U 0) (U 10 0) T (ltr (U 0) (U 10 0) (skb (U 0) (U 10 0) a))).1, (ps5 (U 0) (U 10 0) T (ltr (U 0) (U 10 0) (skb (U 0) (U 10 0) a))).2, pstT (U 0) (U 10 0) T (ltr (U 0) (U 10 0) (skb (U 0) (U 10 0) a))) (by unfold pce pc1; rw [if_pos rfl, if_neg h25, if_neg h43, if_pos h61]) hT2 | exact hQ ((ltr (U 0) (U 10 0) (skb (U 0) (U 10 0) a)), (if (0 : Int) = 0 then 8 * (skb (U 0) (U 10 0) a) + 1 else 0), T) (by unfold pce pc1; rw [if_pos rfl, if_neg h25, if_neg h43, if_neg h61]; rfl) hT)
      · skip
        refine aw_if_eq (tgt := 57) dX4_readPiece_46 rfl (by decide) (fun _ => ?_) (fun c => absurd c (by decide))
        refine aw_aload_n dX4_readPiece_57 rfl ?_
        refine aw_iload_n dX4_readPiece_58 rfl ?_
        refine aw_ldcS dX4_readPiece_59 3 rfl rfl rfl ?_
        refine aw_callV (As := [_, _]) (ρ := (_, 0, 0)) (kn' := (0, 0)) cv_X4_65 dX4_readPiece_61 rfl rfl (hc1 hnx) rfl rfl (Nat.le_of_ble_eq_true rfl) (rmR _ _ _) ⟨Nat.le_refl _, Nat.le_refl _⟩ rfl (c_X4_isWord hnx (i := 3) (by decide) hB hn (by omega) (by omega) (fun r61 h61 => ?_))
        rcases h61 with ⟨rfl, h61⟩ | ⟨rfl, h61⟩
        · skip
          refine aw_if_eq (tgt := 74) dX4_readPiece_64 rfl (by decide) (fun c => absurd c (by decide)) (fun _ => ?_)
          refine aw_aload_n dX4_readPiece_67 rfl ?_
          refine aw_callV (As := []) (ρ := (_, 0, 0)) (kn' := (0, 0)) cv_X4_100 dX4_readPiece_68 rfl rfl (hc1 hnx) rfl rfl (Nat.le_of_ble_eq_true rfl) (rmR _ _ _) ⟨Nat.le_refl _, Nat.le_refl _⟩ rfl (c_X4_readPast hnx hB hn (by omega) hT h26 h27 (fun hT2 => ?_))
          refine aw_goto (tgt := 80) dX4_readPiece_71 rfl ?_
          exact aw_return dX4_readPiece_80 rfl ⟨Nat.le_refl _, Nat.le_refl _⟩ (by first | exact hQ (orgA (U 0) (U 10 0) T (ltr (U 0) (U 10 0) (skb (U 0) (U 10 0) a)), orgF (U 0) (U 10 0) T (skb (U 0) (U 10 0) a) (ltr (U 0) (U 10 0) (skb (U 0) (U 10 0) a)), orgT (U 0) (U 10 0) T (ltr (U 0) (U 10 0) (skb (U 0) (U 10 0) a))) (by unfold pce pc1; rw [if_pos rfl, if_pos h25]) hT2 | exact hQ ((ltr (U 0) (U 10 0) (skb (U 0) (U 10 0) a)), impF T (skb (U 0) (U 10 0) a), impT T) (by unfold pce pc1; rw [if_pos rfl, if_neg h25, if_pos h43]) hT2 | exact hQ ((ps5 (U 0) (U 10 0) T (ltr (U 0) (U 10 0) (skb (U 0) (U 10 0) a))).1, (ps5 (U 0) (U 10 0) T (ltr (U 0) (U 10 0) (skb (U 0) (U 10 0) a))).2, pstT (U 0) (U 10 0) T (ltr (U 0) (U 10 0) (skb (U 0) (U 10 0) a))) (by unfold pce pc1; rw [if_pos rfl, if_neg h25, if_neg h43, if_pos h61]) hT2 | exact hQ ((ltr (U 0) (U 10 0) (skb (U 0) (U 10 0) a)), (if (0 : Int) = 0 then 8 * (skb (U 0) (U 10 0) a) + 1 else 0), T) (by unfold pce pc1; rw [if_pos rfl, if_neg h25, if_neg h43, if_neg h61]; rfl) hT)
        · skip
          refine aw_if_eq (tgt := 74) dX4_readPiece_64 rfl (by decide) (fun _ => ?_) (fun c => absurd c (by decide))
          refine aw_aload_n dX4_readPiece_74 rfl ?_
          refine aw_iload_n dX4_readPiece_75 rfl ?_
          refine aw_iconst dX4_readPiece_76 ?_
          refine aw_callV (As := [_, _]) (ρ := (_, 0, 0)) (kn' := (0, 0)) cv_X4_54 dX4_readPiece_77 rfl rfl (hc1 hnx) rfl rfl (Nat.le_of_ble_eq_true rfl) (rmR _ _ _) ⟨Nat.le_refl _, Nat.le_refl _⟩ rfl (c_X4_fail hnx (by omega) ?_)
          exact aw_return dX4_readPiece_80 rfl ⟨Nat.le_refl _, Nat.le_refl _⟩ (by first | exact hQ (orgA (U 0) (U 10 0) T (ltr (U 0) (U 10 0) (skb (U 0) (U 10 0) a)), orgF (U 0) (U 10 0) T (skb (U 0) (U 10 0) a) (ltr (U 0) (U 10 0) (skb (U 0) (U 10 0) a)), orgT (U 0) (U 10 0) T (ltr (U 0) (U 10 0) (skb (U 0) (U 10 0) a))) (by unfold pce pc1; rw [if_pos rfl, if_pos h25]) hT2 | exact hQ ((ltr (U 0) (U 10 0) (skb (U 0) (U 10 0) a)), impF T (skb (U 0) (U 10 0) a), impT T) (by unfold pce pc1; rw [if_pos rfl, if_neg h25, if_pos h43]) hT2 | exact hQ ((ps5 (U 0) (U 10 0) T (ltr (U 0) (U 10 0) (skb (U 0) (U 10 0) a))).1, (ps5 (U 0) (U 10 0) T (ltr (U 0) (U 10 0) (skb (U 0) (U 10 0) a))).2, pstT (U 0) (U 10 0) T (ltr (U 0) (U 10 0) (skb (U 0) (U 10 0) a))) (by unfold pce pc1; rw [if_pos rfl, if_neg h25, if_neg h43, if_pos h61]) hT2 | exact hQ ((ltr (U 0) (U 10 0) (skb (U 0) (U 10 0) a)), (if (0 : Int) = 0 then 8 * (skb (U 0) (U 10 0) a) + 1 else 0), T) (by unfold pce pc1; rw [if_pos rfl, if_neg h25, if_neg h43, if_neg h61]; rfl) hT)
  · skip
    exact aw_return dX4_readPiece_7 rfl ⟨Nat.le_refl _, Nat.le_refl _⟩ (hQ (a, f, T) (by unfold pce; rw [if_neg c4]) hT)

set_option maxHeartbeats 1000000 in
theorem c_X4_readTerms {Γ : GT} {S T U V : St} {G : Gw} {nx d : Nat} {Q : QT} (hnx : 52 ≤ nx) {a : Int} (hB : ∀ j : Int, -128 ≤ U 0 j ∧ U 0 j ≤ 127) (hn : 0 ≤ U 10 0 ∧ U 10 0 ≤ 400) (ha : 0 ≤ a ∧ a ≤ U 10 0) (hT : Rg T) (h26 : 0 ≤ T 26 0 ∧ T 26 0 ≤ 4) (h27 : 0 ≤ T 27 0 ∧ T 27 0 ≤ 8) (hQ : ∀ p : Int × Int × St, p = trm (U 0) (U 10 0) (tr0 (U 0) (U 10 0) T a) 6 → Rg p.2.2 → Q none (hp Γ S p.2.2 (ua U p.1 p.2.1) V G) nx) : AM Γ MX4_readTerms (d + 5, 0, 0) [rf Γ 1] (hp Γ S T (ua U a 0) V G) nx Q := by
  refine am_of (by decide) (Nat.le_of_ble_eq_true rfl) (ls := [some (rf Γ 1), none, none]) rfl ?_
  have sk := skb_in (B := U 0) (n := U 10 0) (a := a) (by omega)
  have lt := ltr_in (B := U 0) (n := U 10 0) (a := skb (U 0) (U 10 0) a) (by omega)
  have hP0 := tr0_in (B := U 0) hn.2 ha hT h26 h27
  refine aw_aload_n dX4_readTerms_0 rfl ?_
  refine aw_callV (As := []) (ρ := (_, 0, 0)) (kn' := (0, 0)) cv_X4_58 dX4_readTerms_1 rfl rfl (hc1 hnx) rfl rfl (Nat.le_of_ble_eq_true rfl) (rmR _ _ _) ⟨Nat.le_refl _, Nat.le_refl _⟩ rfl (c_X4_skipBlanks hnx hB hn (by omega) ?_)
  refine aw_aload_n dX4_readTerms_4 rfl ?_
  refine aw_getf fg_X4_25 dX4_readTerms_5 (hc1 hnx) rfl ?_
  refine aw_sv (a := skb (U 0) (U 10 0) a) (rfl) ?_
  refine aw_nmI (fun x1_8 hx1_8 => ?_)
  refine aw_istore_n (ls' := [some (rf Γ 1), some _, none]) dX4_readTerms_8 (by decide) rfl ?_
  subst hx1_8
  refine aw_aload_n dX4_readTerms_9 rfl ?_
  refine aw_callV (As := []) (ρ := (_, 0, 0)) (kn' := (0, 0)) cv_X4_61 dX4_readTerms_10 rfl rfl (hc1 hnx) rfl rfl (Nat.le_of_ble_eq_true rfl) (rmR _ _ _) ⟨Nat.le_refl _, Nat.le_refl _⟩ rfl (c_X4_skipLetters hnx hB hn (by omega) ?_)
  refine aw_aload_n dX4_readTerms_13 rfl ?_
  refine aw_iload_n dX4_readTerms_14 rfl ?_
  refine aw_ldcS dX4_readTerms_15 0 rfl rfl rfl ?_
  refine aw_callV (As := [_, _]) (ρ := (_, 0, 0)) (kn' := (0, 0)) cv_X4_65 dX4_readTerms_17 rfl rfl (hc1 hnx) rfl rfl (Nat.le_of_ble_eq_true rfl) (rmR _ _ _) ⟨Nat.le_refl _, Nat.le_refl _⟩ rfl (c_X4_isWord hnx (i := 0) (by decide) hB hn (by omega) (by omega) (fun r17 h17 => ?_))
  rcases h17 with ⟨rfl, h17⟩ | ⟨rfl, h17⟩
  · skip
    refine aw_if_ne (tgt := 29) dX4_readTerms_20 rfl (by decide) (fun _ => ?_) (fun c => absurd c (by decide))
    first | refine aw_hp (T' := (tr0 (U 0) (U 10 0) T a).2.2) (U' := ua U (tr0 (U 0) (U 10 0) T a).1 (tr0 (U 0) (U 10 0) T a).2.1) rfl rfl (by show ua U _ (if _ then (0 : Int) else _) = _; rw [if_pos h17]; rfl) rfl rfl ?_ | refine aw_hp (T' := (tr0 (U 0) (U 10 0) T a).2.2) (U' := ua U (tr0 (U 0) (U 10 0) T a).1 (tr0 (U 0) (U 10 0) T a).2.1) rfl rfl (by show ua U _ (if _ then (0 : Int) else _) = _; rw [if_neg h17]; rfl) rfl rfl ?_
    refine aw_iconst dX4_readTerms_29 ?_
    refine aw_istore_n (ls' := [some (rf Γ 1), some _, some _]) dX4_readTerms_30 (by decide) rfl ?_
    refine loopN (6) (P := fun k =>  AW Γ MX4_readTerms _ _ (0, 0) 31 [some (rf Γ 1), some (vi (skb (U 0) (U 10 0) a)), some (vi (k : Int))] [] (hp Γ S (trm (U 0) (U 10 0) (tr0 (U 0) (U 10 0) T a) k).2.2 (ua U (trm (U 0) (U 10 0) (tr0 (U 0) (U 10 0) T a) k).1 (trm (U 0) (U 10 0) (tr0 (U 0) (U 10 0) T a) k).2.1) V G) nx) (fun k hk ih => ?_) 0 (Nat.zero_le _) 
    refine aw_iload_n dX4_readTerms_31 rfl ?_
    have hK := trm_in (B := U 0) hn.2 hP0 k
    have hT : Rg (trm (U 0) (U 10 0) (tr0 (U 0) (U 10 0) T a) k).2.2 := hK.2.2.1
    have hk1 := hK.1
    have hk2 := hK.2.1
    refine aw_iconst dX4_readTerms_32 ?_
    refine aw_icmp_gt (tgt := 65) dX4_readTerms_33 rfl (by omega) (fun c33 => ?_) (fun c33 => ?_)
    · skip
      obtain rfl : k = 6 := by omega
      exact aw_return dX4_readTerms_65 rfl ⟨Nat.le_refl _, Nat.le_refl _⟩ (hQ (trm (U 0) (U 10 0) (tr0 (U 0) (U 10 0) T a) 6) rfl hT)
    · skip
      refine aw_aload_n dX4_readTerms_36 rfl ?_
      refine aw_getf fg_X4_21 dX4_readTerms_37 (hc1 hnx) rfl ?_
      refine aw_getf fg_X4_69 dX4_readTerms_40 (hc4 hnx) rfl ?_
      refine aw_iload_n dX4_readTerms_43 rfl ?_
      refine aw_aload_n dX4_readTerms_44 rfl ?_
      have tl := tLM_in (w := (k : Int)) (by omega)
      refine aw_sT (i := 0) gz0 (Or.inr (List.mem_of_getElem? (i := 11) rfl)) dX4_readTerms_45 ?_
      refine aw_iload_n dX4_readTerms_48 rfl ?_
      refine aw_tald0 gt0 (by omega) (by decide) rfl dX4_readTerms_49 ?_
      refine aw_st (st' := vi (tL (k : Int)) :: _) rfl ?_
      refine aw_sT (i := 1) gz1 (Or.inr (List.mem_of_getElem? (i := 12) rfl)) dX4_readTerms_50 ?_
      refine aw_iload_n dX4_readTerms_53 rfl ?_
      refine aw_tald0 gt1 (by omega) (by decide) rfl dX4_readTerms_54 ?_
      refine aw_st (st' := vi (tM (k : Int)) :: _) rfl ?_
      refine aw_callV (As := [_, _]) (ρ := (_, 0, 0)) (kn' := (0, 0)) cv_X4_79 dX4_readTerms_55 rfl rfl (hc1 hnx) rfl rfl (Nat.le_of_ble_eq_true rfl) (rmR _ _ _) ⟨Nat.le_refl _, Nat.le_refl _⟩ rfl (c_X4_readNumber hnx (a := (trm (U 0) (U 10 0) (tr0 (U 0) (U 10 0) T a) k).1) (f := (trm (U 0) (U 10 0) (tr0 (U 0) (U 10 0) T a) k).2.1) (p := tL (k : Int)) (q := tM (k : Int)) hB hn (by omega) (by omega) (by omega) (fun r55 h55 => ?_))
      have nv := nV_in (U 0) (U 10 0) (tL (k : Int)) (tM (k : Int)) (trm (U 0) (U 10 0) (tr0 (U 0) (U 10 0) T a) k).1 (trm (U 0) (U 10 0) (tr0 (U 0) (U 10 0) T a) k).2.1
      subst h55
      refine aw_iastT dX4_readTerms_58 (hc5 hnx) (by omega) (by decide) hT (by omega) (fun _ => hu5) (fun hT => ?_)
      refine aw_hp (T' := (trm (U 0) (U 10 0) (tr0 (U 0) (U 10 0) T a) (k + 1)).2.2) (U' := ua U (trm (U 0) (U 10 0) (tr0 (U 0) (U 10 0) T a) (k + 1)).1 (trm (U 0) (U 10 0) (tr0 (U 0) (U 10 0) T a) (k + 1)).2.1) rfl rfl rfl rfl rfl ?_
      refine aw_iinc (ls' := [some (rf Γ 1), some _, some _]) dX4_readTerms_59 rfl (by decide) rfl ?_
      refine aw_goto (tgt := 31) dX4_readTerms_62 rfl ?_
      exact ih (by omega)   
  · skip
    refine aw_if_ne (tgt := 29) dX4_readTerms_20 rfl (by decide) (fun c => absurd c (by decide)) (fun _ => ?_)
    refine aw_aload_n dX4_readTerms_23 rfl ?_
    refine aw_iload_n dX4_readTerms_24 rfl ?_
    refine aw_iconst dX4_readTerms_25 ?_
    refine aw_callV (As := [_, _]) (ρ := (_, 0, 0)) (kn' := (0, 0)) cv_X4_54 dX4_readTerms_26 rfl rfl (hc1 hnx) rfl rfl (Nat.le_of_ble_eq_true rfl) (rmR _ _ _) ⟨Nat.le_refl _, Nat.le_refl _⟩ rfl (c_X4_fail hnx (by omega) ?_)
    first | refine aw_hp (T' := (tr0 (U 0) (U 10 0) T a).2.2) (U' := ua U (tr0 (U 0) (U 10 0) T a).1 (tr0 (U 0) (U 10 0) T a).2.1) rfl rfl (by show ua U _ (if _ then (0 : Int) else _) = _; rw [if_pos h17]; rfl) rfl rfl ?_ | refine aw_hp (T' := (tr0 (U 0) (U 10 0) T a).2.2) (U' := ua U (tr0 (U 0) (U 10 0) T a).1 (tr0 (U 0) (U 10 0) T a).2.1) rfl rfl (by show ua U _ (if _ then (0 : Int) else _) = _; rw [if_neg h17]; rfl) rfl rfl ?_
    refine aw_iconst dX4_readTerms_29 ?_
    refine aw_istore_n (ls' := [some (rf Γ 1), some _, some _]) dX4_readTerms_30 (by decide) rfl ?_
    refine loopN (6) (P := fun k =>  AW Γ MX4_readTerms _ _ (0, 0) 31 [some (rf Γ 1), some (vi (skb (U 0) (U 10 0) a)), some (vi (k : Int))] [] (hp Γ S (trm (U 0) (U 10 0) (tr0 (U 0) (U 10 0) T a) k).2.2 (ua U (trm (U 0) (U 10 0) (tr0 (U 0) (U 10 0) T a) k).1 (trm (U 0) (U 10 0) (tr0 (U 0) (U 10 0) T a) k).2.1) V G) nx) (fun k hk ih => ?_) 0 (Nat.zero_le _) 
    refine aw_iload_n dX4_readTerms_31 rfl ?_
    have hK := trm_in (B := U 0) hn.2 hP0 k
    have hT : Rg (trm (U 0) (U 10 0) (tr0 (U 0) (U 10 0) T a) k).2.2 := hK.2.2.1
    have hk1 := hK.1
    have hk2 := hK.2.1
    refine aw_iconst dX4_readTerms_32 ?_
    refine aw_icmp_gt (tgt := 65) dX4_readTerms_33 rfl (by omega) (fun c33 => ?_) (fun c33 => ?_)
    · skip
      obtain rfl : k = 6 := by omega
      exact aw_return dX4_readTerms_65 rfl ⟨Nat.le_refl _, Nat.le_refl _⟩ (hQ (trm (U 0) (U 10 0) (tr0 (U 0) (U 10 0) T a) 6) rfl hT)
    · skip
      refine aw_aload_n dX4_readTerms_36 rfl ?_
      refine aw_getf fg_X4_21 dX4_readTerms_37 (hc1 hnx) rfl ?_
      refine aw_getf fg_X4_69 dX4_readTerms_40 (hc4 hnx) rfl ?_
      refine aw_iload_n dX4_readTerms_43 rfl ?_
      refine aw_aload_n dX4_readTerms_44 rfl ?_
      have tl := tLM_in (w := (k : Int)) (by omega)
      refine aw_sT (i := 0) gz0 (Or.inr (List.mem_of_getElem? (i := 11) rfl)) dX4_readTerms_45 ?_
      refine aw_iload_n dX4_readTerms_48 rfl ?_
      refine aw_tald0 gt0 (by omega) (by decide) rfl dX4_readTerms_49 ?_
      refine aw_st (st' := vi (tL (k : Int)) :: _) rfl ?_
      refine aw_sT (i := 1) gz1 (Or.inr (List.mem_of_getElem? (i := 12) rfl)) dX4_readTerms_50 ?_
      refine aw_iload_n dX4_readTerms_53 rfl ?_
      refine aw_tald0 gt1 (by omega) (by decide) rfl dX4_readTerms_54 ?_
      refine aw_st (st' := vi (tM (k : Int)) :: _) rfl ?_
      refine aw_callV (As := [_, _]) (ρ := (_, 0, 0)) (kn' := (0, 0)) cv_X4_79 dX4_readTerms_55 rfl rfl (hc1 hnx) rfl rfl (Nat.le_of_ble_eq_true rfl) (rmR _ _ _) ⟨Nat.le_refl _, Nat.le_refl _⟩ rfl (c_X4_readNumber hnx (a := (trm (U 0) (U 10 0) (tr0 (U 0) (U 10 0) T a) k).1) (f := (trm (U 0) (U 10 0) (tr0 (U 0) (U 10 0) T a) k).2.1) (p := tL (k : Int)) (q := tM (k : Int)) hB hn (by omega) (by omega) (by omega) (fun r55 h55 => ?_))
      have nv := nV_in (U 0) (U 10 0) (tL (k : Int)) (tM (k : Int)) (trm (U 0) (U 10 0) (tr0 (U 0) (U 10 0) T a) k).1 (trm (U 0) (U 10 0) (tr0 (U 0) (U 10 0) T a) k).2.1
      subst h55
      refine aw_iastT dX4_readTerms_58 (hc5 hnx) (by omega) (by decide) hT (by omega) (fun _ => hu5) (fun hT => ?_)
      refine aw_hp (T' := (trm (U 0) (U 10 0) (tr0 (U 0) (U 10 0) T a) (k + 1)).2.2) (U' := ua U (trm (U 0) (U 10 0) (tr0 (U 0) (U 10 0) T a) (k + 1)).1 (trm (U 0) (U 10 0) (tr0 (U 0) (U 10 0) T a) (k + 1)).2.1) rfl rfl rfl rfl rfl ?_
      refine aw_iinc (ls' := [some (rf Γ 1), some _, some _]) dX4_readTerms_59 rfl (by decide) rfl ?_
      refine aw_goto (tgt := 31) dX4_readTerms_62 rfl ?_
      exact ih (by omega)   

set_option maxHeartbeats 1000000 in
theorem c_X5_clear {Γ : GT} {S T U V : St} {G : Gw} {nx d : Nat} {Q : QT} (hnx : 52 ≤ nx) (hT : Rg T) (hQ : Rg (clrT T) → Q none (hp Γ S (clrT T) U V G) nx) : AM Γ MX5_clear (d + 1, 0, 0) [rf Γ 4] (hp Γ S T U V G) nx Q := by
  refine am_of (by decide) (Nat.le_of_ble_eq_true rfl) (ls := [some (rf Γ 4)]) rfl ?_
  refine aw_aload_n dX5_clear_0 rfl ?_
  refine aw_getf fg_X5_9 dX5_clear_1 (hc4 hnx) rfl ?_
  refine aw_iconst dX5_clear_4 ?_
  refine aw_callS (As := [_, _]) (ρ := (_, 0, 0)) (kn' := (0, 0)) cs_X5_21 dX5_clear_5 rfl rfl (Nat.le_of_ble_eq_true rfl) (rmR _ _ _) ⟨Nat.le_refl _, Nat.le_refl _⟩ rfl (c_fill_i (hc5 hnx) (by decide) hu5 ?_)
  refine aw_aload_n dX5_clear_8 rfl ?_
  refine aw_getf fg_X5_15 dX5_clear_9 (hc4 hnx) rfl ?_
  refine aw_iconst dX5_clear_12 ?_
  refine aw_callS (As := [_, _]) (ρ := (_, 0, 0)) (kn' := (0, 0)) cs_X5_21 dX5_clear_13 rfl rfl (Nat.le_of_ble_eq_true rfl) (rmR _ _ _) ⟨Nat.le_refl _, Nat.le_refl _⟩ rfl (c_fill_i (hc6 hnx) (by decide) hu6 ?_)
  refine aw_aload_n dX5_clear_16 rfl ?_
  refine aw_getf fg_X5_18 dX5_clear_17 (hc4 hnx) rfl ?_
  refine aw_iconst dX5_clear_20 ?_
  refine aw_callS (As := [_, _]) (ρ := (_, 0, 0)) (kn' := (0, 0)) cs_X5_21 dX5_clear_21 rfl rfl (Nat.le_of_ble_eq_true rfl) (rmR _ _ _) ⟨Nat.le_refl _, Nat.le_refl _⟩ rfl (c_fill_i (hc7 hnx) (by decide) hu7 ?_)
  replace hT := ((hT.cl (f := 0) (n := 6) (by decide)).cl (f := 1) (n := 4) (by decide)).cl (f := 2) (n := 96) (by decide)
  refine aw_aload_n dX5_clear_24 rfl ?_
  refine aw_iconst dX5_clear_25 ?_
  refine aw_putT fp_X5_27 dX5_clear_26 (hc4 hnx) (Nat.le_of_ble_eq_true rfl) hT (by omega) hu4_26 (fun hT => ?_)
  refine aw_aload_n dX5_clear_29 rfl ?_
  refine aw_iconst dX5_clear_30 ?_
  refine aw_putT fp_X5_31 dX5_clear_31 (hc4 hnx) (Nat.le_of_ble_eq_true rfl) hT (by omega) hu4_27 (fun hT => ?_)
  exact aw_return dX5_clear_34 rfl ⟨Nat.le_refl _, Nat.le_refl _⟩ (hQ hT)


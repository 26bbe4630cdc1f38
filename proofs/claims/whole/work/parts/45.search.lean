/-! answers by a search -/
def fs (P : Int → Prop) [DecidablePred P] : Nat → Int
  | 0 => -5
  | k + 1 => if fs P k = -5 then (if P k then k else -5) else fs P k
def fsA (P : Int → Prop) [DecidablePred P] (e : Int) (n : Nat) : Int := if fs P n = -5 then e else fs P n
theorem fs_s {P : Int → Prop} [DecidablePred P] {k : Nat} (h : fs P k = -5) (hp : ¬ P k) : fs P (k + 1) = -5 := by rw [fs, if_pos h, if_neg hp]
theorem fs_hit {P : Int → Prop} [DecidablePred P] {k : Nat} (h : fs P k = -5) (hp : P k) : ∀ n : Nat, k < n → fs P n = k
  | 0, hk => by omega
  | n + 1, hk => by
    by_cases e : k = n
    · subst e; rw [fs, if_pos h, if_pos hp]
    · rw [fs, fs_hit h hp n (by omega), if_neg (by omega)]
theorem fsA_hit {P : Int → Prop} [DecidablePred P] {e : Int} {k n : Nat} (h : fs P k = -5) (hp : P k) (hk : k < n) : fsA P e n = k := by
  rw [fsA, fs_hit h hp n hk, if_neg (by omega)]
theorem fsA_none {P : Int → Prop} [DecidablePred P] {e : Int} {n : Nat} (h : fs P n = -5) : fsA P e n = e := by rw [fsA, if_pos h]
theorem sm_01 {P : Int → Prop} [DecidablePred P] (n : Nat) : 0 ≤ sm (fun l => if P l then 1 else 0) n ∧ sm (fun l => if P l then 1 else 0) n ≤ n := by
  have h := sm_rg (f := fun l => if P l then 1 else 0) (B := 1) n (fun k hk => by
    show 0 ≤ (if P k then (1 : Int) else 0) ∧ (if P k then (1 : Int) else 0) ≤ 1
    split <;> omega)
  omega
abbrev nxP (S : St) (q l : Int) : Prop := S 10 l = 0 ∧ aheadN S l (nS S) = q
def aNext (S : St) (q : Int) : Int := if q < -1 then -1 else if q = -1 then openN S (nS S) else fsA (nxP S q) (-2) (nS S)
abbrev odP (S : St) (q i : Int) : Prop := iah S i (nIm S) = q
def aOrder (S : St) (q : Int) : Int := fsA (odP S q) (-1) (nIm S)
def rskN (S : St) (n : Nat) : Int := sm (fun l => if S 10 l = 0 ∧ idleP S l then 1 else 0) n
abbrev rkP (S : St) (q l : Int) : Prop := (S 10 l = 0 ∧ idleP S l) ∧ rskN S l.toNat = q
def aRisk (S : St) (q : Int) : Int := if q < -1 then -1 else fsA (rkP S q) (if q = -1 then rskN S (nS S) else -2) (nS S)
abbrev wdP (S : St) (o : Int) : Prop := S 14 (o * 8 + 1) + S 14 (o * 8 + 2) + S 14 (o * 8 + 7) < tkn S o (nS S)
def aWindow (S : St) : Int := if 0 < S 26 0 then (if fs (wdP S) (nOr S) = -5 then 1 else 0) else -1
def mdN (S : St) (o : Int) (n : Nat) : Int := sm (fun i => S 15 (4 * i + o)) n
abbrev mdP (S : St) (o i : Int) : Prop := S 15 (4 * i + o) = 1 ∧ lah S i o (nIm S) = (mdN S o (nIm S) - 1) / 2
def aMedian (S : St) (o : Int) : Int := if isO S o then (if fs (mdP S o) (nIm S) = -5 then -2 else old S (4 * fs (mdP S o) (nIm S) + o)) else -1
def bsM (S : St) (i n : Int) : Nat → Int
  | 0 => 0
  | k + 1 => if bsM S i n k < offer S i k n (S 14 ((k : Int) * 8 + 3)) (S 28 0) then offer S i k n (S 14 ((k : Int) * 8 + 3)) (S 28 0) else bsM S i n k
def bsW (S : St) (i n : Int) : Nat → Int
  | 0 => -2
  | k + 1 => if bsM S i n k < offer S i k n (S 14 ((k : Int) * 8 + 3)) (S 28 0) then k else bsW S i n k
def aBest (S : St) (i n w : Int) : Int := if isI S i ∧ isN n ∧ 0 ≤ w ∧ w ≤ 1 then (if bsW S i n (nOr S) < 0 ∨ w = 0 then bsW S i n (nOr S) else bsM S i n (nOr S)) else -1
def pkM (S : St) (o n : Int) : Nat → Int
  | 0 => -1
  | k + 1 => if pkM S o n k < imO S o k n.toNat then imO S o k n.toNat else pkM S o n k
def pkW (S : St) (o n : Int) : Nat → Int
  | 0 => 0
  | k + 1 => if pkM S o n k < imO S o k n.toNat then k else pkW S o n k
def aPeak (S : St) (o n w : Int) : Int := if isO S o ∧ (1 ≤ n ∧ n ≤ 12) ∧ 0 ≤ w ∧ w ≤ 1 then (if w = 0 then pkW S o n (13 - n).toNat else pkM S o n (13 - n).toNat) else -1
def evN (S : St) (o : Int) (n : Nat) : Int := sm (fun i => if ¬ S 15 (4 * i + o) = 1 then 1 else 0) n
def evA (S : St) (i o : Int) (n : Nat) : Int := sm (fun j => if ¬ S 15 (4 * j + o) = 1 ∧ j < i then 1 else 0) n
def aEven (S : St) (i o : Int) : Int := if (isI S i ∧ isO S o) ∧ ¬ S 15 (4 * i + o) = 1 then min (S 14 (o * 8 + 3) / evN S o (nIm S) + (if evA S i o (nIm S) < S 14 (o * 8 + 3) % evN S o (nIm S) then 1 else 0)) (S 0 1) else -1
def rtW (S : St) (l : Int) : Nat → Int
  | 0 => l
  | k + 1 => if S 12 (rtW S l k) = -1 then rtW S l k else S 12 (rtW S l k)
def rtH (S : St) (l : Int) : Nat → Int
  | 0 => 0
  | k + 1 => if S 12 (rtW S l k) = -1 then rtH S l k else rtH S l k + 1
def aRoot (S : St) (l w : Int) : Int := if isL S l ∧ 0 ≤ w ∧ w ≤ 1 then (if w = 0 then rtW S l 60 else rtH S l 60) else -1
def faW (S : St) (o : Int) : Nat → Int
  | 0 => -2
  | k + 1 => if 0 < ofN S 9 k o (nS S) ∧ (faW S o k < 0 ∨ ofN S 13 k o (nS S) * ofN S 9 (faW S o k) o (nS S) < ofN S 13 (faW S o k) o (nS S) * ofN S 9 k o (nS S)) then k else faW S o k
def aFastest (S : St) (o : Int) : Int := if isO S o then faW S o (nIm S) else -1
def rsh (S : St) (o n : Int) : Nat → Int × Int × Int
  | 0 => (S 14 (o * 8 + 3), S 28 0, 0)
  | k + 1 => (if 0 < max 0 (offer S k o n (rsh S o n k).1 (rsh S o n k).2.1) ∧ ¬ S 15 (4 * (k : Int) + o) = 1 then (rsh S o n k).1 - max 0 (offer S k o n (rsh S o n k).1 (rsh S o n k).2.1) else (rsh S o n k).1, if 0 < max 0 (offer S k o n (rsh S o n k).1 (rsh S o n k).2.1) then (rsh S o n k).2.1 + 1 else (rsh S o n k).2.1, max 0 (offer S k o n (rsh S o n k).1 (rsh S o n k).2.1))
def aRush (S : St) (i o n : Int) : Int := if (isI S i ∧ isO S o) ∧ isN n then (rsh S o n (i.toNat + 1)).2.2 else -1
section INV
variable {c : Int} {S : St}
theorem Inv.tkn (h : Inv c S) (o : Int) : 0 ≤ Jvm.Pilot.@@N@@.tkn S o (nS S) ∧ Jvm.Pilot.@@N@@.tkn S o (nS S) ≤ 5999940 := by
  have hz := h.i1.2.2.1
  have h10 := h.i10; unfold inv10 at h10
  have hl : ∀ k : Nat, k < nS S → 0 ≤ (if S 5 k = o ∧ S 7 k / 90 = S 25 0 / 90 then (if S 10 k = 0 then S 6 k else S 9 k) else 0) ∧ (if S 5 k = o ∧ S 7 k / 90 = S 25 0 / 90 then (if S 10 k = 0 then S 6 k else S 9 k) else 0) ≤ S 6 k := fun k hk => by
    have := (h.li (l := k) (by unfold nS at hk; omega)).2.2.1
    (repeat' split) <;> omega
  exact ⟨sm_nonneg (f := fun k => if S 5 k = o ∧ S 7 k / 90 = S 25 0 / 90 then (if S 10 k = 0 then S 6 k else S 9 k) else 0) _ (fun k hk => (hl k hk).1), by have := sm_le (f := fun k => if S 5 k = o ∧ S 7 k / 90 = S 25 0 / 90 then (if S 10 k = 0 then S 6 k else S 9 k) else 0) (g := S 6) (nS S) (fun k hk => (hl k hk).2); unfold Jvm.Pilot.@@N@@.tkn; omega⟩
theorem Inv.mdN (h : Inv c S) {o : Int} (ho : 0 ≤ o ∧ o < S 26 0) (n : Nat) (hn : n ≤ nIm S) : 0 ≤ Jvm.Pilot.@@N@@.mdN S o n ∧ Jvm.Pilot.@@N@@.mdN S o n ≤ 8 := by
  have i1 := h.i1
  have h1 := sm_rg (f := fun i => S 15 (4 * i + o)) (B := 1) n (fun k hk => (h.pr (i := k) (o := o) (by unfold nIm at hn; omega) ho).1)
  unfold Jvm.Pilot.@@N@@.mdN
  unfold nIm at hn
  omega
theorem Inv.mdN1 (h : Inv c S) {o : Int} (ho : 0 ≤ o ∧ o < S 26 0) {k : Nat} (hk : k < nIm S) (e : S 15 (4 * (k : Int) + o) = 1) : 1 ≤ Jvm.Pilot.@@N@@.mdN S o (nIm S) := by
  have h1 := sm_one (f := fun i => S 15 (4 * i + o)) (nIm S) (fun k hk => (h.pr (i := k) (o := o) (by unfold nIm at hk; omega) ho).1.1) k hk
  unfold Jvm.Pilot.@@N@@.mdN
  have h2 : S 15 (4 * (k : Int) + o) ≤ sm (fun i => S 15 (4 * i + o)) (nIm S) := h1
  omega
theorem iah_in (S : St) (i : Int) (n : Nat) : 0 ≤ iah S i n ∧ iah S i n ≤ n := sm_01 n
theorem lah_in (S : St) (i o : Int) (n : Nat) : 0 ≤ lah S i o n ∧ lah S i o n ≤ n := sm_01 n
theorem aheadN_in (S : St) (l : Int) (n : Nat) : 0 ≤ aheadN S l n ∧ aheadN S l n ≤ n := sm_01 n
theorem openN_in (S : St) (n : Nat) : 0 ≤ openN S n ∧ openN S n ≤ n := sm_01 n
theorem rskN_in (S : St) (n : Nat) : 0 ≤ rskN S n ∧ rskN S n ≤ n := sm_01 n
theorem evN_in (S : St) (o : Int) (n : Nat) : 0 ≤ evN S o n ∧ evN S o n ≤ n := sm_01 n
theorem evA_in (S : St) (i o : Int) (n : Nat) : 0 ≤ evA S i o n ∧ evA S i o n ≤ n := sm_01 n
theorem evN_1 {S : St} {o : Int} {n k : Nat} (hk : k < n) (e : ¬ S 15 (4 * (k : Int) + o) = 1) : 1 ≤ evN S o n := by
  have h1 := sm_one (f := fun i => if ¬ S 15 (4 * i + o) = 1 then 1 else 0) n (fun k hk => by show 0 ≤ (if _ then (1 : Int) else 0); split <;> omega) k hk
  have h2 : (if ¬ S 15 (4 * (k : Int) + o) = 1 then (1 : Int) else 0) ≤ evN S o n := h1
  rw [if_pos e] at h2
  exact h2
theorem offer_in (S : St) (i o n q w : Int) (hn : 0 ≤ n) (h17 : 0 ≤ S 17 (4 * i + o)) : -6 ≤ offer S i o n q w ∧ offer S i o n q w ≤ n := by
  unfold offer; (repeat' split) <;> omega
theorem Inv.bsM (h : Inv c S) {i n : Int} (hi : 0 ≤ i ∧ i < S 27 0) (hn : 0 ≤ n) : ∀ k : Nat, k ≤ nOr S → 0 ≤ bsM S i n k ∧ bsM S i n k ≤ n
  | 0, _ => by rw [Jvm.Pilot.@@N@@.bsM]; omega
  | k + 1, hk => by
    have h1 := Inv.bsM h hi hn k (by omega)
    have h2 := offer_in S i k n (S 14 ((k : Int) * 8 + 3)) (S 28 0) hn (h.pr hi (o := k) (by unfold nOr at hk; omega)).2.2.1
    rw [Jvm.Pilot.@@N@@.bsM]; split <;> omega
theorem bsW_in (S : St) (i n : Int) : ∀ k : Nat, -2 ≤ bsW S i n k ∧ bsW S i n k < k ∧ bsW S i n k ≠ -1
  | 0 => by rw [bsW]; omega
  | k + 1 => by have := bsW_in S i n k; rw [bsW]; split <;> omega
theorem Inv.pkM (h : Inv c S) {o n : Int} (ho : 0 ≤ o ∧ o < S 26 0) (hn : 1 ≤ n ∧ n ≤ 12) : ∀ k : Nat, k ≤ (13 - n).toNat → -1 ≤ pkM S o n k ∧ pkM S o n k ≤ 614393856
  | 0, _ => by rw [Jvm.Pilot.@@N@@.pkM]; omega
  | k + 1, hk => by
    have h1 := Inv.pkM h ho hn k (by omega)
    have i1 := h.i1
    have h2 := h.imO (o := o) (a := k) (by omega) n.toNat (by omega)
    rw [Jvm.Pilot.@@N@@.pkM]; split <;> omega
theorem pkW_1 (S : St) (o n : Int) : pkW S o n 1 = 0 := by
  show (if _ then ((0 : Nat) : Int) else 0) = 0
  simp
theorem pkM_1 (S : St) (o n : Int) (z : 0 ≤ imO S o 0 n.toNat) : Jvm.Pilot.@@N@@.pkM S o n 1 = imO S o 0 n.toNat := by
  show (if (-1 : Int) < imO S o 0 n.toNat then imO S o 0 n.toNat else -1) = _
  rw [if_pos (by omega)]
theorem pkW_in (S : St) (o n : Int) : ∀ k : Nat, 0 ≤ pkW S o n k ∧ pkW S o n k ≤ k
  | 0 => by rw [pkW]; omega
  | k + 1 => by have := pkW_in S o n k; rw [pkW]; split <;> omega
theorem Inv.rtW (h : Inv c S) {l : Int} (hl : 0 ≤ l ∧ l < S 28 0) : ∀ k : Nat, (0 ≤ rtW S l k ∧ rtW S l k ≤ l) ∧ (rtW S l k + k ≤ l ∨ S 12 (rtW S l k) = -1)
  | 0 => by rw [Jvm.Pilot.@@N@@.rtW]; omega
  | k + 1 => by
    have h1 := Inv.rtW h hl k
    have h2 := (h.li (l := Jvm.Pilot.@@N@@.rtW S l k) (by omega)).2.2.2.2.2.2.2
    rw [Jvm.Pilot.@@N@@.rtW]
    split
    · exact ⟨h1.1, Or.inr (by assumption)⟩
    · refine ⟨by omega, ?_⟩
      left; omega
theorem rtH_in (S : St) (l : Int) : ∀ k : Nat, 0 ≤ rtH S l k ∧ rtH S l k ≤ k
  | 0 => by rw [rtH]; omega
  | k + 1 => by have := rtH_in S l k; rw [rtH]; split <;> omega
theorem rt_stay {l : Int} {k : Nat} (e : S 12 (Jvm.Pilot.@@N@@.rtW S l k) = -1) : ∀ m : Nat, Jvm.Pilot.@@N@@.rtW S l (k + m) = Jvm.Pilot.@@N@@.rtW S l k ∧ rtH S l (k + m) = rtH S l k
  | 0 => ⟨rfl, rfl⟩
  | m + 1 => by
    have h := rt_stay e m
    rw [show k + (m + 1) = (k + m) + 1 by omega, Jvm.Pilot.@@N@@.rtW, rtH, h.1, if_pos e, if_pos e]
    exact ⟨rfl, h.2⟩
theorem Inv.ofN (h : Inv c S) (i o : Int) : (0 ≤ ofN S 9 i o (nS S) ∧ ofN S 9 i o (nS S) ≤ 5999940) ∧ (0 ≤ ofN S 13 i o (nS S) ∧ ofN S 13 i o (nS S) ≤ 533994660) := by
  have hz := h.i1.2.2.1
  have h10 := h.i10; unfold inv10 at h10
  have a1 : ∀ k : Nat, k < nS S → 0 ≤ (if S 4 k = i ∧ S 5 k = o then S 9 k else 0) ∧ (if S 4 k = i ∧ S 5 k = o then S 9 k else 0) ≤ S 6 k := fun k hk => by
    have := (h.li (l := k) (by unfold nS at hk; omega)).2.2.1
    split <;> omega
  have a2 : ∀ k : Nat, k < nS S → 0 ≤ (if S 4 k = i ∧ S 5 k = o then S 13 k else 0) ∧ (if S 4 k = i ∧ S 5 k = o then S 13 k else 0) ≤ 89 * S 6 k := fun k hk => by
    have := h.li (l := k) (by unfold nS at hk; omega)
    split <;> omega
  have e89 : ∀ n : Nat, sm (fun k => 89 * S 6 k) n = 89 * sm (S 6) n := fun n => by
    induction n with
    | zero => rfl
    | succ n ih => rw [sm, sm, ih]; omega
  have b1 := sm_le (f := fun k => if S 4 k = i ∧ S 5 k = o then S 9 k else 0) (g := S 6) (nS S) (fun k hk => (a1 k hk).2)
  have b2 := sm_le (f := fun k => if S 4 k = i ∧ S 5 k = o then S 13 k else 0) (g := fun k => 89 * S 6 k) (nS S) (fun k hk => (a2 k hk).2)
  rw [e89] at b2
  have c1 := sm_nonneg (f := fun k => if S 4 k = i ∧ S 5 k = o then S 9 k else 0) (nS S) (fun k hk => (a1 k hk).1)
  have c2 := sm_nonneg (f := fun k => if S 4 k = i ∧ S 5 k = o then S 13 k else 0) (nS S) (fun k hk => (a2 k hk).1)
  unfold Jvm.Pilot.@@N@@.ofN
  exact ⟨⟨c1, by omega⟩, c2, by omega⟩
theorem faW_in (S : St) (o : Int) : ∀ k : Nat, -2 ≤ faW S o k ∧ faW S o k < k ∧ faW S o k ≠ -1
  | 0 => by rw [faW]; omega
  | k + 1 => by have := faW_in S o k; rw [faW]; split <;> omega
theorem Inv.rsh (h : Inv c S) {o n : Int} (ho : 0 ≤ o ∧ o < S 26 0) (hn : 0 ≤ n) : ∀ k : Nat, k ≤ nIm S → (0 ≤ (rsh S o n k).1 ∧ (rsh S o n k).1 ≤ S 14 (o * 8 + 3)) ∧ (S 28 0 ≤ (rsh S o n k).2.1 ∧ (rsh S o n k).2.1 ≤ S 28 0 + k) ∧ 0 ≤ (rsh S o n k).2.2 ∧ (rsh S o n k).2.2 ≤ n
  | 0, _ => by
    have := (h.fg ho).2.2.1
    rw [Jvm.Pilot.@@N@@.rsh]; simp only []; omega
  | k + 1, hk => by
    have h1 := Inv.rsh h ho hn k (by omega)
    have h2 := offer_in S k o n (Jvm.Pilot.@@N@@.rsh S o n k).1 (Jvm.Pilot.@@N@@.rsh S o n k).2.1 hn (h.pr (i := k) (o := o) (by unfold nIm at hk; omega) ho).2.2.1
    have h3 : ¬ S 15 (4 * (k : Int) + o) = 1 → offer S k o n (Jvm.Pilot.@@N@@.rsh S o n k).1 (Jvm.Pilot.@@N@@.rsh S o n k).2.1 ≤ (Jvm.Pilot.@@N@@.rsh S o n k).1 ∨ offer S k o n (Jvm.Pilot.@@N@@.rsh S o n k).1 (Jvm.Pilot.@@N@@.rsh S o n k).2.1 < 0 := fun e => by
      unfold offer; rw [if_neg e]; (repeat' split) <;> omega
    rw [Jvm.Pilot.@@N@@.rsh]
    simp only []
    refine ⟨?_, ?_, ?_⟩
    · split
      · rename_i hq; have := h3 hq.2; omega
      · omega
    · split <;> omega
    · omega
end INV

set_option maxHeartbeats 1000000 in
theorem c_X10_next {Γ : GT} {S T U V : St} {G : Gw} {nx d : Nat} {Q : QT} (hnx : 52 ≤ nx) {q : Int} {c : Int} (hI : Inv c S) (hq : inI q) (hQ : ∀ r, r = aNext S q → Q (some (vi r)) (hp Γ S T U V G) nx) : AM Γ MX10_next (d + 3, 0, 0) [rf Γ 0, vi q] (hp Γ S T U V G) nx Q := by
  refine am_of (by decide) (Nat.le_of_ble_eq_true rfl) (ls := [some (rf Γ 0), some _, none, none]) rfl ?_
  have hR := hI.R
  have i1 := hI.i1
  have hz : 0 ≤ S 28 0 ∧ S 28 0 ≤ 60 := i1.2.2.1
  have hkS : nS S = (S 28 0).toNat := rfl
  have hkI : nIm S = (S 27 0).toNat := rfl
  have hkO : nOr S = (S 26 0).toNat := rfl
  refine aw_iload_n dX10_next_0 rfl ?_
  refine aw_iconst dX10_next_1 ?_
  refine aw_icmp_ge (tgt := 7) dX10_next_2 rfl (by omega) (fun c2 => ?_) (fun c2 => ?_)
  · skip
    refine aw_aload_n dX10_next_7 rfl ?_
    refine aw_getf fg_X10_26 dX10_next_8 (hc0 hnx) rfl ?_
    refine aw_getf fg_X10_106 dX10_next_11 (hc9 hnx) rfl ?_
    refine aw_astore_n (ls' := [some (rf Γ 0), some _, some (rf Γ 14), none]) dX10_next_14 (by decide) rfl ?_
    refine aw_iload_n dX10_next_15 rfl ?_
    refine aw_iconst dX10_next_16 ?_
    refine aw_icmp_ne (tgt := 25) dX10_next_17 rfl (by omega) (fun c17 => ?_) (fun c17 => ?_)
    · skip
      refine aw_iconst dX10_next_25 ?_
      refine aw_istore_n (ls' := [some (rf Γ 0), some _, some (rf Γ 14), some _]) dX10_next_26 (by decide) rfl ?_
      refine loopN (nS S) (P := fun k => fs (nxP S q) k = -5 →  AW Γ MX10_next _ _ (0, 0) 27 [some (rf Γ 0), some (vi q), some (rf Γ 14), some (vi (k : Int))] [] (hp Γ S T U V G) nx) (fun k hk ih => ?_) 0 (Nat.zero_le _) rfl
      intro  i27_0
      refine aw_iload_n dX10_next_27 rfl ?_
      refine aw_aload_n dX10_next_28 rfl ?_
      refine aw_getf fg_X10_139 dX10_next_29 (hc14 hnx) rfl ?_
      refine aw_icmp_ge (tgt := 60) dX10_next_32 rfl (by omega) (fun c32 => ?_) (fun c32 => ?_)
      · skip
        obtain rfl : k = nS S := by omega
        refine aw_bipush dX10_next_60 rfl ?_
        exact aw_ireturn dX10_next_62 rfl rfl ⟨Nat.le_refl _, Nat.le_refl _⟩ (hQ _ (by unfold aNext; rw [if_neg (by omega), if_neg (by omega)]; exact (fsA_none i27_0).symm))
      · skip
        refine aw_aload_n dX10_next_35 rfl ?_
        refine aw_iload_n dX10_next_36 rfl ?_
        refine aw_callV (As := [_]) (ρ := (_, 0, 0)) (kn' := (0, 0)) cv_X10_115 dX10_next_37 rfl rfl (hc14 hnx) rfl rfl (Nat.le_of_ble_eq_true rfl) (rmR _ _ _) ⟨Nat.le_refl _, Nat.le_refl _⟩ rfl (c_X1_isOpen hnx hR (by omega) (fun r37 h37 => ?_))
        rcases h37 with ⟨rfl, h37⟩ | ⟨rfl, h37⟩
        · skip
          refine aw_if_eq (tgt := 54) dX10_next_40 rfl (by decide) (fun c => absurd c (by decide)) (fun _ => ?_)
          refine aw_aload_n dX10_next_43 rfl ?_
          refine aw_iload_n dX10_next_44 rfl ?_
          refine aw_callV (As := [_]) (ρ := (_, 0, 0)) (kn' := (0, 0)) cv_X10_278 dX10_next_45 rfl rfl (hc14 hnx) rfl rfl (Nat.le_of_ble_eq_true rfl) (rmR _ _ _) ⟨Nat.le_refl _, Nat.le_refl _⟩ rfl (c_X1_openAhead hnx hR (by omega) hz (fun r45 h45 => ?_))
          have ha := aheadN_in S k (nS S)
          refine aw_iload_n dX10_next_48 rfl ?_
          refine aw_icmp_ne (tgt := 54) dX10_next_49 rfl (by omega) (fun c49 => ?_) (fun c49 => ?_)
          · skip
            refine aw_iinc (ls' := [some (rf Γ 0), some _, some (rf Γ 14), some _]) dX10_next_54 rfl (by decide) rfl ?_
            refine aw_goto (tgt := 27) dX10_next_57 rfl ?_
            exact ih (by omega)   (fs_s i27_0 (by unfold nxP; omega))
          · skip
            refine aw_iload_n dX10_next_52 rfl ?_
            exact aw_ireturn dX10_next_53 rfl rfl ⟨Nat.le_refl _, Nat.le_refl _⟩ (hQ _ (by unfold aNext; rw [if_neg (by omega), if_neg (by omega)]; exact (fsA_hit i27_0 (show nxP S q k by unfold nxP; omega) (by omega)).symm))
        · skip
          refine aw_if_eq (tgt := 54) dX10_next_40 rfl (by decide) (fun _ => ?_) (fun c => absurd c (by decide))
          refine aw_iinc (ls' := [some (rf Γ 0), some _, some (rf Γ 14), some _]) dX10_next_54 rfl (by decide) rfl ?_
          refine aw_goto (tgt := 27) dX10_next_57 rfl ?_
          exact ih (by omega)   (fs_s i27_0 (by unfold nxP; omega))
    · skip
      refine aw_aload_n dX10_next_20 rfl ?_
      refine aw_callV (As := []) (ρ := (_, 0, 0)) (kn' := (0, 0)) cv_X10_275 dX10_next_21 rfl rfl (hc14 hnx) rfl rfl (Nat.le_of_ble_eq_true rfl) (rmR _ _ _) ⟨Nat.le_refl _, Nat.le_refl _⟩ rfl (c_X1_openOnes hnx hR hz (fun r21 h21 => ?_))
      exact aw_ireturn dX10_next_24 rfl rfl ⟨Nat.le_refl _, Nat.le_refl _⟩ (hQ _ (by unfold aNext; rw [if_neg (by omega), if_pos (by omega)]; exact h21))
  · skip
    refine aw_iconst dX10_next_5 ?_
    exact aw_ireturn dX10_next_6 rfl rfl ⟨Nat.le_refl _, Nat.le_refl _⟩ (hQ _ (by unfold aNext; rw [if_pos (by omega)]))

set_option maxHeartbeats 1000000 in
theorem c_X10_order {Γ : GT} {S T U V : St} {G : Gw} {nx d : Nat} {Q : QT} (hnx : 52 ≤ nx) {q : Int} {c : Int} (hI : Inv c S) (hq : inI q) (hQ : ∀ r, r = aOrder S q → Q (some (vi r)) (hp Γ S T U V G) nx) : AM Γ MX10_order (d + 3, 0, 0) [rf Γ 0, vi q] (hp Γ S T U V G) nx Q := by
  refine am_of (by decide) (Nat.le_of_ble_eq_true rfl) (ls := [some (rf Γ 0), some _, none]) rfl ?_
  have hR := hI.R
  have i1 := hI.i1
  have hz : 0 ≤ S 28 0 ∧ S 28 0 ≤ 60 := i1.2.2.1
  have hkS : nS S = (S 28 0).toNat := rfl
  have hkI : nIm S = (S 27 0).toNat := rfl
  have hkO : nOr S = (S 26 0).toNat := rfl
  refine aw_iconst dX10_order_0 ?_
  refine aw_istore_n (ls' := [some (rf Γ 0), some _, some _]) dX10_order_1 (by decide) rfl ?_
  refine loopN (nIm S) (P := fun k => fs (odP S q) k = -5 →  AW Γ MX10_order _ _ (0, 0) 2 [some (rf Γ 0), some (vi q), some (vi (k : Int))] [] (hp Γ S T U V G) nx) (fun k hk ih => ?_) 0 (Nat.zero_le _) rfl
  intro  i2_0
  refine aw_iload_n dX10_order_2 rfl ?_
  refine aw_aload_n dX10_order_3 rfl ?_
  refine aw_getf fg_X10_26 dX10_order_4 (hc0 hnx) rfl ?_
  refine aw_getf fg_X10_81 dX10_order_7 (hc9 hnx) rfl ?_
  refine aw_getf fg_X10_281 dX10_order_10 (hc10 hnx) rfl ?_
  refine aw_icmp_ge (tgt := 36) dX10_order_13 rfl (by omega) (fun c13 => ?_) (fun c13 => ?_)
  · skip
    obtain rfl : k = nIm S := by omega
    refine aw_iconst dX10_order_36 ?_
    exact aw_ireturn dX10_order_37 rfl rfl ⟨Nat.le_refl _, Nat.le_refl _⟩ (hQ _ (by unfold aOrder; exact (fsA_none i2_0).symm))
  · skip
    refine aw_aload_n dX10_order_16 rfl ?_
    refine aw_getf fg_X10_26 dX10_order_17 (hc0 hnx) rfl ?_
    refine aw_iload_n dX10_order_20 rfl ?_
    refine aw_callV (As := [_]) (ρ := (_, 0, 0)) (kn' := (0, 0)) cv_X10_284 dX10_order_21 rfl rfl (hc9 hnx) rfl rfl (Nat.le_of_ble_eq_true rfl) (rmR _ _ _) ⟨Nat.le_refl _, Nat.le_refl _⟩ rfl (c_X7_importersAhead hnx hI (by omega) (fun r21 h21 => ?_))
    have ha := iah_in S k (nIm S)
    refine aw_iload_n dX10_order_24 rfl ?_
    refine aw_icmp_ne (tgt := 30) dX10_order_25 rfl (by omega) (fun c25 => ?_) (fun c25 => ?_)
    · skip
      refine aw_iinc (ls' := [some (rf Γ 0), some _, some _]) dX10_order_30 rfl (by decide) rfl ?_
      refine aw_goto (tgt := 2) dX10_order_33 rfl ?_
      exact ih (by omega)   (fs_s i2_0 (by unfold odP; omega))
    · skip
      refine aw_iload_n dX10_order_28 rfl ?_
      exact aw_ireturn dX10_order_29 rfl rfl ⟨Nat.le_refl _, Nat.le_refl _⟩ (hQ _ (by unfold aOrder; exact (fsA_hit i2_0 (show odP S q k by unfold odP; omega) (by omega)).symm))

set_option maxHeartbeats 1000000 in
theorem c_X10_risk {Γ : GT} {S T U V : St} {G : Gw} {nx d : Nat} {Q : QT} (hnx : 52 ≤ nx) {q : Int} {c : Int} (hI : Inv c S) (hq : inI q) (hQ : ∀ r, r = aRisk S q → Q (some (vi r)) (hp Γ S T U V G) nx) : AM Γ MX10_risk (d + 3, 0, 0) [rf Γ 0, vi q] (hp Γ S T U V G) nx Q := by
  refine am_of (by decide) (Nat.le_of_ble_eq_true rfl) (ls := [some (rf Γ 0), some _, none, none]) rfl ?_
  have hR := hI.R
  have i1 := hI.i1
  have hz : 0 ≤ S 28 0 ∧ S 28 0 ≤ 60 := i1.2.2.1
  have hkS : nS S = (S 28 0).toNat := rfl
  have hkI : nIm S = (S 27 0).toNat := rfl
  have hkO : nOr S = (S 26 0).toNat := rfl
  refine aw_iload_n dX10_risk_0 rfl ?_
  refine aw_iconst dX10_risk_1 ?_
  refine aw_icmp_ge (tgt := 7) dX10_risk_2 rfl (by omega) (fun c2 => ?_) (fun c2 => ?_)
  · skip
    refine aw_iconst dX10_risk_7 ?_
    refine aw_istore_n (ls' := [some (rf Γ 0), some _, some _, none]) dX10_risk_8 (by decide) rfl ?_
    refine aw_iconst dX10_risk_9 ?_
    refine aw_istore_n (ls' := [some (rf Γ 0), some _, some _, some _]) dX10_risk_10 (by decide) rfl ?_
    refine loopN (nS S) (P := fun k => ∀ (x : Int) , x = rskN S k → fs (rkP S q) k = -5 →  AW Γ MX10_risk _ _ (0, 0) 11 [some (rf Γ 0), some (vi q), some (vi x), some (vi (k : Int))] [] (hp Γ S T U V G) nx) (fun k hk ih => ?_) 0 (Nat.zero_le _) _ rfl rfl
    intro x i11_0 i11_1
    refine aw_iload_n dX10_risk_11 rfl ?_
    refine aw_aload_n dX10_risk_12 rfl ?_
    refine aw_getf fg_X10_26 dX10_risk_13 (hc0 hnx) rfl ?_
    refine aw_getf fg_X10_106 dX10_risk_16 (hc9 hnx) rfl ?_
    refine aw_getf fg_X10_139 dX10_risk_19 (hc14 hnx) rfl ?_
    refine aw_icmp_ge (tgt := 66) dX10_risk_22 rfl (by omega) (fun c22 => ?_) (fun c22 => ?_)
    · skip
      obtain rfl : k = nS S := by omega
      refine aw_iload_n dX10_risk_66 rfl ?_
      refine aw_iconst dX10_risk_67 ?_
      refine aw_icmp_ne (tgt := 75) dX10_risk_68 rfl (by omega) (fun c68 => ?_) (fun c68 => ?_)
      · skip
        refine aw_bipush dX10_risk_75 rfl ?_
        exact aw_ireturn dX10_risk_77 rfl rfl ⟨Nat.le_refl _, Nat.le_refl _⟩ (hQ _ (by unfold aRisk; rw [if_neg (by omega), fsA_none i11_1]; first | (rw [if_pos (by omega)]; omega) | (rw [if_neg (by omega)])))
      · skip
        refine aw_iload_n dX10_risk_71 rfl ?_
        refine aw_goto (tgt := 77) dX10_risk_72 rfl ?_
        exact aw_ireturn dX10_risk_77 rfl rfl ⟨Nat.le_refl _, Nat.le_refl _⟩ (hQ _ (by unfold aRisk; rw [if_neg (by omega), fsA_none i11_1]; first | (rw [if_pos (by omega)]; omega) | (rw [if_neg (by omega)])))
    · skip
      have ha0 := rskN_in S k
      refine aw_aload_n dX10_risk_25 rfl ?_
      refine aw_getf fg_X10_26 dX10_risk_26 (hc0 hnx) rfl ?_
      refine aw_getf fg_X10_106 dX10_risk_29 (hc9 hnx) rfl ?_
      refine aw_iload_n dX10_risk_32 rfl ?_
      refine aw_callV (As := [_]) (ρ := (_, 0, 0)) (kn' := (0, 0)) cv_X10_115 dX10_risk_33 rfl rfl (hc14 hnx) rfl rfl (Nat.le_of_ble_eq_true rfl) (rmR _ _ _) ⟨Nat.le_refl _, Nat.le_refl _⟩ rfl (c_X1_isOpen hnx hR (by omega) (fun r33 h33 => ?_))
      rcases h33 with ⟨rfl, h33⟩ | ⟨rfl, h33⟩
      · skip
        refine aw_if_eq (tgt := 60) dX10_risk_36 rfl (by decide) (fun c => absurd c (by decide)) (fun _ => ?_)
        refine aw_aload_n dX10_risk_39 rfl ?_
        refine aw_getf fg_X10_26 dX10_risk_40 (hc0 hnx) rfl ?_
        refine aw_iload_n dX10_risk_43 rfl ?_
        refine aw_callV (As := [_]) (ρ := (_, 0, 0)) (kn' := (0, 0)) cv_X10_319 dX10_risk_44 rfl rfl (hc9 hnx) rfl rfl (Nat.le_of_ble_eq_true rfl) (rmR _ _ _) ⟨Nat.le_refl _, Nat.le_refl _⟩ rfl (c_X7_isIdle hnx hI (by omega) (fun r44 h44 => ?_))
        rcases h44 with ⟨rfl, h44⟩ | ⟨rfl, h44⟩
        · skip
          refine aw_if_eq (tgt := 60) dX10_risk_47 rfl (by decide) (fun c => absurd c (by decide)) (fun _ => ?_)
          have ha := rskN_in S k
          refine aw_iload_n dX10_risk_50 rfl ?_
          refine aw_iload_n dX10_risk_51 rfl ?_
          refine aw_icmp_ne (tgt := 57) dX10_risk_52 rfl (by omega) (fun c52 => ?_) (fun c52 => ?_)
          · skip
            refine aw_iinc (ls' := [some (rf Γ 0), some _, some _, some _]) dX10_risk_57 rfl (by decide) rfl ?_
            refine aw_iinc (ls' := [some (rf Γ 0), some _, some _, some _]) dX10_risk_60 rfl (by decide) rfl ?_
            refine aw_goto (tgt := 11) dX10_risk_63 rfl ?_
            exact ih (by omega) _  (by simp only [rskN, sm] at i11_0 ⊢; split <;> omega) (fs_s i11_1 (by unfold rkP; rw [Int.toNat_natCast]; omega))
          · skip
            refine aw_iload_n dX10_risk_55 rfl ?_
            exact aw_ireturn dX10_risk_56 rfl rfl ⟨Nat.le_refl _, Nat.le_refl _⟩ (hQ _ (by unfold aRisk; rw [if_neg (by omega)]; exact (fsA_hit i11_1 (show rkP S q k from ⟨⟨h33, h44⟩, by rw [Int.toNat_natCast]; omega⟩) (by omega)).symm))
        · skip
          refine aw_if_eq (tgt := 60) dX10_risk_47 rfl (by decide) (fun _ => ?_) (fun c => absurd c (by decide))
          refine aw_iinc (ls' := [some (rf Γ 0), some _, some _, some _]) dX10_risk_60 rfl (by decide) rfl ?_
          refine aw_goto (tgt := 11) dX10_risk_63 rfl ?_
          exact ih (by omega) x  (by simp only [rskN, sm] at i11_0 ⊢; split <;> omega) (fs_s i11_1 (by unfold rkP; rw [Int.toNat_natCast]; omega))
      · skip
        refine aw_if_eq (tgt := 60) dX10_risk_36 rfl (by decide) (fun _ => ?_) (fun c => absurd c (by decide))
        refine aw_iinc (ls' := [some (rf Γ 0), some _, some _, some _]) dX10_risk_60 rfl (by decide) rfl ?_
        refine aw_goto (tgt := 11) dX10_risk_63 rfl ?_
        exact ih (by omega) x  (by simp only [rskN, sm] at i11_0 ⊢; split <;> omega) (fs_s i11_1 (by unfold rkP; rw [Int.toNat_natCast]; omega))
  · skip
    refine aw_iconst dX10_risk_5 ?_
    exact aw_ireturn dX10_risk_6 rfl rfl ⟨Nat.le_refl _, Nat.le_refl _⟩ (hQ _ (by unfold aRisk; rw [if_pos (by omega)]))

set_option maxHeartbeats 1000000 in
theorem c_X10_window {Γ : GT} {S T U V : St} {G : Gw} {nx d : Nat} {Q : QT} (hnx : 52 ≤ nx) {c : Int} (hI : Inv c S)  (hQ : ∀ r, r = aWindow S → Q (some (vi r)) (hp Γ S T U V G) nx) : AM Γ MX10_window (d + 2, 0, 0) [rf Γ 0] (hp Γ S T U V G) nx Q := by
  refine am_of (by decide) (Nat.le_of_ble_eq_true rfl) (ls := [some (rf Γ 0), none, none]) rfl ?_
  have hR := hI.R
  have i1 := hI.i1
  have hz : 0 ≤ S 28 0 ∧ S 28 0 ≤ 60 := i1.2.2.1
  have hkS : nS S = (S 28 0).toNat := rfl
  have hkI : nIm S = (S 27 0).toNat := rfl
  have hkO : nOr S = (S 26 0).toNat := rfl
  refine aw_aload_n dX10_window_0 rfl ?_
  refine aw_getf fg_X10_26 dX10_window_1 (hc0 hnx) rfl ?_
  refine aw_callV (As := []) (ρ := (_, 0, 0)) (kn' := (0, 0)) cv_X10_181 dX10_window_4 rfl rfl (hc9 hnx) rfl rfl (Nat.le_of_ble_eq_true rfl) (rmR _ _ _) ⟨Nat.le_refl _, Nat.le_refl _⟩ rfl (c_X7_hasScheme hnx hR (fun r4 h4 => ?_))
  rcases h4 with ⟨rfl, h4⟩ | ⟨rfl, h4⟩
  · skip
    refine aw_if_ne (tgt := 12) dX10_window_7 rfl (by decide) (fun _ => ?_) (fun c => absurd c (by decide))
    refine aw_iconst dX10_window_12 ?_
    refine aw_istore_n (ls' := [some (rf Γ 0), some _, none]) dX10_window_13 (by decide) rfl ?_
    refine loopN (nOr S) (P := fun k => fs (wdP S) k = -5 →  AW Γ MX10_window _ _ (0, 0) 14 [some (rf Γ 0), some (vi (k : Int)), none] [] (hp Γ S T U V G) nx) (fun k hk ih => ?_) 0 (Nat.zero_le _) rfl
    intro  i14_0
    refine aw_iload_n dX10_window_14 rfl ?_
    refine aw_aload_n dX10_window_15 rfl ?_
    refine aw_getf fg_X10_26 dX10_window_16 (hc0 hnx) rfl ?_
    refine aw_getf fg_X10_81 dX10_window_19 (hc9 hnx) rfl ?_
    refine aw_getf fg_X10_82 dX10_window_22 (hc10 hnx) rfl ?_
    refine aw_icmp_ge (tgt := 88) dX10_window_25 rfl (by omega) (fun c25 => ?_) (fun c25 => ?_)
    · skip
      obtain rfl : k = nOr S := by omega
      refine aw_iconst dX10_window_88 ?_
      exact aw_ireturn dX10_window_89 rfl rfl ⟨Nat.le_refl _, Nat.le_refl _⟩ (hQ _ (by unfold aWindow; rw [if_pos (by omega), if_pos i14_0]))
    · skip
      have tk := hI.tkn k
      have rs := hI.rems
      have fg := hI.fg (o := (k : Int)) (by omega)
      refine aw_aload_n dX10_window_28 rfl ?_
      refine aw_getf fg_X10_26 dX10_window_29 (hc0 hnx) rfl ?_
      refine aw_getf fg_X10_156 dX10_window_32 (hc9 hnx) rfl ?_
      refine aw_iload_n dX10_window_35 rfl ?_
      refine aw_iconst dX10_window_36 ?_
      refine aw_callV (As := [_, _]) (ρ := (_, 0, 0)) (kn' := (0, 0)) cv_X10_217 dX10_window_37 rfl rfl (hc25 hnx) rfl rfl (Nat.le_of_ble_eq_true rfl) (rmR _ _ _) ⟨Nat.le_refl _, Nat.le_refl _⟩ rfl (c_X3_figure hnx hR (by omega) (fun r37 h37 => ?_))
      refine aw_aload_n dX10_window_40 rfl ?_
      refine aw_getf fg_X10_26 dX10_window_41 (hc0 hnx) rfl ?_
      refine aw_getf fg_X10_156 dX10_window_44 (hc9 hnx) rfl ?_
      refine aw_iload_n dX10_window_47 rfl ?_
      refine aw_iconst dX10_window_48 ?_
      refine aw_callV (As := [_, _]) (ρ := (_, 0, 0)) (kn' := (0, 0)) cv_X10_217 dX10_window_49 rfl rfl (hc25 hnx) rfl rfl (Nat.le_of_ble_eq_true rfl) (rmR _ _ _) ⟨Nat.le_refl _, Nat.le_refl _⟩ rfl (c_X3_figure hnx hR (by omega) (fun r49 h49 => ?_))
      refine aw_iadd dX10_window_52 ?_
      refine aw_aload_n dX10_window_53 rfl ?_
      refine aw_getf fg_X10_26 dX10_window_54 (hc0 hnx) rfl ?_
      refine aw_getf fg_X10_156 dX10_window_57 (hc9 hnx) rfl ?_
      refine aw_iload_n dX10_window_60 rfl ?_
      refine aw_bipush dX10_window_61 rfl ?_
      refine aw_callV (As := [_, _]) (ρ := (_, 0, 0)) (kn' := (0, 0)) cv_X10_217 dX10_window_63 rfl rfl (hc25 hnx) rfl rfl (Nat.le_of_ble_eq_true rfl) (rmR _ _ _) ⟨Nat.le_refl _, Nat.le_refl _⟩ rfl (c_X3_figure hnx hR (by omega) (fun r63 h63 => ?_))
      refine aw_iadd dX10_window_66 ?_
      refine aw_nmI (fun x2_67 hx2_67 => ?_)
      refine aw_istore_n (ls' := [some (rf Γ 0), some _, some _]) dX10_window_67 (by decide) rfl ?_
      refine aw_aload_n dX10_window_68 rfl ?_
      refine aw_getf fg_X10_26 dX10_window_69 (hc0 hnx) rfl ?_
      refine aw_iload_n dX10_window_72 rfl ?_
      refine aw_callV (As := [_]) (ρ := (_, 0, 0)) (kn' := (0, 0)) cv_X10_293 dX10_window_73 rfl rfl (hc9 hnx) rfl rfl (Nat.le_of_ble_eq_true rfl) (rmR _ _ _) ⟨Nat.le_refl _, Nat.le_refl _⟩ rfl (c_X7_takenIn hnx hI (by omega) (fun r73 h73 => ?_))
      subst h73
      refine aw_iload_n dX10_window_76 rfl ?_
      refine aw_icmp_le (tgt := 82) dX10_window_77 rfl (by omega) (fun c77 => ?_) (fun c77 => ?_)
      · skip
        refine aw_iinc (ls' := [some (rf Γ 0), some _, some _]) dX10_window_82 rfl (by decide) rfl ?_
        refine aw_goto (tgt := 14) dX10_window_85 rfl ?_
        refine aw_fg [true, true, false] (ls' := [some (rf Γ 0), some _, none]) rfl ?_
        exact ih (by omega)   (fs_s i14_0 (by unfold wdP; omega))
      · skip
        refine aw_iconst dX10_window_80 ?_
        exact aw_ireturn dX10_window_81 rfl rfl ⟨Nat.le_refl _, Nat.le_refl _⟩ (hQ _ (by unfold aWindow; rw [if_pos (by omega), fs_hit i14_0 (show wdP S k by unfold wdP; omega) (nOr S) (by omega), if_neg (by omega)]))
  · skip
    refine aw_if_ne (tgt := 12) dX10_window_7 rfl (by decide) (fun c => absurd c (by decide)) (fun _ => ?_)
    refine aw_iconst dX10_window_10 ?_
    exact aw_ireturn dX10_window_11 rfl rfl ⟨Nat.le_refl _, Nat.le_refl _⟩ (hQ _ (by unfold aWindow; rw [if_neg (by omega)]))

set_option maxHeartbeats 1000000 in
theorem c_X10_median {Γ : GT} {S T U V : St} {G : Gw} {nx d : Nat} {Q : QT} (hnx : 52 ≤ nx) {j : Int} {c : Int} (hI : Inv c S) (hj : inI j) (hQ : ∀ r, r = aMedian S j → Q (some (vi r)) (hp Γ S T U V G) nx) : AM Γ MX10_median (d + 4, 0, 0) [rf Γ 0, vi j] (hp Γ S T U V G) nx Q := by
  refine am_of (by decide) (Nat.le_of_ble_eq_true rfl) (ls := [some (rf Γ 0), some _, none, none, none]) rfl ?_
  have hR := hI.R
  have i1 := hI.i1
  have hz : 0 ≤ S 28 0 ∧ S 28 0 ≤ 60 := i1.2.2.1
  have hkS : nS S = (S 28 0).toNat := rfl
  have hkI : nIm S = (S 27 0).toNat := rfl
  have hkO : nOr S = (S 26 0).toNat := rfl
  refine aw_aload_n dX10_median_0 rfl ?_
  refine aw_getf fg_X10_26 dX10_median_1 (hc0 hnx) rfl ?_
  refine aw_iload_n dX10_median_4 rfl ?_
  refine aw_callV (As := [_]) (ρ := (_, 0, 0)) (kn' := (0, 0)) cv_X10_191 dX10_median_5 rfl rfl (hc9 hnx) rfl rfl (Nat.le_of_ble_eq_true rfl) (rmR _ _ _) ⟨Nat.le_refl _, Nat.le_refl _⟩ rfl (c_X7_hasOrigin hnx hR (by omega) (fun r5 h5 => ?_))
  rcases h5 with ⟨rfl, h5⟩ | ⟨rfl, h5⟩
  · skip
    refine aw_if_ne (tgt := 13) dX10_median_8 rfl (by decide) (fun _ => ?_) (fun c => absurd c (by decide))
    refine aw_iconst dX10_median_13 ?_
    refine aw_istore_n (ls' := [some (rf Γ 0), some _, some _, none, none]) dX10_median_14 (by decide) rfl ?_
    refine aw_iconst dX10_median_15 ?_
    refine aw_istore_n (ls' := [some (rf Γ 0), some _, some _, some _, none]) dX10_median_16 (by decide) rfl ?_
    refine loopN (nIm S) (P := fun k => ∀ (x : Int) , x = mdN S j k →  AW Γ MX10_median _ _ (0, 0) 17 [some (rf Γ 0), some (vi j), some (vi x), some (vi (k : Int)), none] [] (hp Γ S T U V G) nx) (fun k hk ih => ?_) 0 (Nat.zero_le _) _ rfl
    intro x i17_0
    refine aw_iload_n dX10_median_17 rfl ?_
    refine aw_aload_n dX10_median_18 rfl ?_
    refine aw_getf fg_X10_26 dX10_median_19 (hc0 hnx) rfl ?_
    refine aw_getf fg_X10_81 dX10_median_22 (hc9 hnx) rfl ?_
    refine aw_getf fg_X10_281 dX10_median_25 (hc10 hnx) rfl ?_
    refine aw_icmp_ge (tgt := 56) dX10_median_28 rfl (by omega) (fun c28 => ?_) (fun c28 => ?_)
    · skip
      obtain rfl : k = nIm S := by omega
      refine aw_iconst dX10_median_56 ?_
      refine aw_istore_n (ls' := [some (rf Γ 0), some _, some _, some _, none]) dX10_median_57 (by decide) rfl ?_
      refine loopN (nIm S) (P := fun k2 => fs (mdP S j) k2 = -5 →  AW Γ MX10_median _ _ (0, 0) 58 [some (rf Γ 0), some (vi j), some (vi x), some (vi (k2 : Int)), none] [] (hp Γ S T U V G) nx) (fun k2 hk2 ihk2 => ?_) 0 (Nat.zero_le _) rfl
      intro  i58_0
      refine aw_iload_n dX10_median_58 rfl ?_
      refine aw_aload_n dX10_median_59 rfl ?_
      refine aw_getf fg_X10_26 dX10_median_60 (hc0 hnx) rfl ?_
      refine aw_getf fg_X10_81 dX10_median_63 (hc9 hnx) rfl ?_
      refine aw_getf fg_X10_281 dX10_median_66 (hc10 hnx) rfl ?_
      refine aw_icmp_ge (tgt := 130) dX10_median_69 rfl (by omega) (fun c69 => ?_) (fun c69 => ?_)
      · skip
        obtain rfl : k2 = nIm S := by omega
        refine aw_bipush dX10_median_130 rfl ?_
        exact aw_ireturn dX10_median_132 rfl rfl ⟨Nat.le_refl _, Nat.le_refl _⟩ (hQ _ (by unfold aMedian; rw [if_pos (by simp only [isO]; omega), if_pos i58_0]))
      · skip
        refine aw_iload_n dX10_median_72 rfl ?_
        refine aw_iload_n dX10_median_73 rfl ?_
        refine aw_callS (As := [_, _]) (ρ := (_, 0, 0)) (kn' := (0, 0)) cs_X10_160 dX10_median_74 rfl rfl (Nat.le_of_ble_eq_true rfl) (rmR _ _ _) ⟨Nat.le_refl _, Nat.le_refl _⟩ rfl (c_X10_pairOf hnx  (fun r74 h74 => ?_))
        refine aw_istore (ls' := [some (rf Γ 0), some _, some _, some _, some _]) dX10_median_77 (by decide) rfl ?_
        have h74b := h74
        subst h74b
        refine aw_aload_n dX10_median_79 rfl ?_
        refine aw_getf fg_X10_26 dX10_median_80 (hc0 hnx) rfl ?_
        refine aw_getf fg_X10_156 dX10_median_83 (hc9 hnx) rfl ?_
        refine aw_iload dX10_median_86 rfl ?_
        refine aw_callV (As := [_]) (ρ := (_, 0, 0)) (kn' := (0, 0)) cv_X10_163 dX10_median_88 rfl rfl (hc25 hnx) rfl rfl (Nat.le_of_ble_eq_true rfl) (rmR _ _ _) ⟨Nat.le_refl _, Nat.le_refl _⟩ rfl (c_X3_isTraditional hnx hR (by omega) (fun r88 h88 => ?_))
        rcases h88 with ⟨rfl, h88⟩ | ⟨rfl, h88⟩
        · skip
          refine aw_if_eq (tgt := 124) dX10_median_91 rfl (by decide) (fun c => absurd c (by decide)) (fun _ => ?_)
          refine aw_aload_n dX10_median_94 rfl ?_
          refine aw_getf fg_X10_26 dX10_median_95 (hc0 hnx) rfl ?_
          refine aw_iload_n dX10_median_98 rfl ?_
          refine aw_iload_n dX10_median_99 rfl ?_
          refine aw_callV (As := [_, _]) (ρ := (_, 0, 0)) (kn' := (0, 0)) cv_X10_350 dX10_median_100 rfl rfl (hc9 hnx) rfl rfl (Nat.le_of_ble_eq_true rfl) (rmR _ _ _) ⟨Nat.le_refl _, Nat.le_refl _⟩ rfl (c_X7_lesserAhead hnx hI (by omega) (by omega) (fun r100 h100 => ?_))
          have ha := lah_in S k2 j (nIm S)
          have m1 := hI.mdN1 (o := j) (by omega) (k := k2) (by omega) h88
          have m2 := hI.mdN (o := j) (by omega) (nIm S) (Nat.le_refl _)
          refine aw_iload_n dX10_median_103 rfl ?_
          refine aw_iconst dX10_median_104 ?_
          refine aw_isub dX10_median_105 ?_
          refine aw_iconst dX10_median_106 ?_
          refine aw_idiv dX10_median_107 (by omega) (by omega) ?_
          refine aw_icmp_ne (tgt := 124) dX10_median_108 rfl (by omega) (fun c108 => ?_) (fun c108 => ?_)
          · skip
            refine aw_iinc (ls' := [some (rf Γ 0), some _, some _, some _, some _]) dX10_median_124 rfl (by decide) rfl ?_
            refine aw_goto (tgt := 58) dX10_median_127 rfl ?_
            refine aw_fg [true, true, true, true, false] (ls' := [some (rf Γ 0), some _, some _, some _, none]) rfl ?_
            exact ihk2 (by omega)   (fs_s i58_0 (by unfold mdP; omega))
          · skip
            refine aw_aload_n dX10_median_111 rfl ?_
            refine aw_getf fg_X10_26 dX10_median_112 (hc0 hnx) rfl ?_
            refine aw_getf fg_X10_81 dX10_median_115 (hc9 hnx) rfl ?_
            refine aw_iload dX10_median_118 rfl ?_
            refine aw_callV (As := [_]) (ρ := (_, 0, 0)) (kn' := (0, 0)) cv_X10_235 dX10_median_120 rfl rfl (hc10 hnx) rfl rfl (Nat.le_of_ble_eq_true rfl) (rmR _ _ _) ⟨Nat.le_refl _, Nat.le_refl _⟩ rfl (c_X5_inOldYears hnx hR (by omega) (fun r120 h120 => ?_))
            exact aw_ireturn dX10_median_123 rfl rfl ⟨Nat.le_refl _, Nat.le_refl _⟩ (hQ _ (by unfold aMedian; rw [if_pos (by simp only [isO]; omega), fs_hit i58_0 (show mdP S j k2 by unfold mdP; omega) (nIm S) (by omega), if_neg (by omega)]; exact h120))
        · skip
          refine aw_if_eq (tgt := 124) dX10_median_91 rfl (by decide) (fun _ => ?_) (fun c => absurd c (by decide))
          refine aw_iinc (ls' := [some (rf Γ 0), some _, some _, some _, some _]) dX10_median_124 rfl (by decide) rfl ?_
          refine aw_goto (tgt := 58) dX10_median_127 rfl ?_
          refine aw_fg [true, true, true, true, false] (ls' := [some (rf Γ 0), some _, some _, some _, none]) rfl ?_
          exact ihk2 (by omega)   (fs_s i58_0 (by unfold mdP; omega))
    · skip
      refine aw_iload_n dX10_median_31 rfl ?_
      refine aw_aload_n dX10_median_32 rfl ?_
      refine aw_getf fg_X10_26 dX10_median_33 (hc0 hnx) rfl ?_
      refine aw_getf fg_X10_156 dX10_median_36 (hc9 hnx) rfl ?_
      refine aw_getf fg_X10_232 dX10_median_39 (hc25 hnx) rfl ?_
      refine aw_iload_n dX10_median_42 rfl ?_
      refine aw_iload_n dX10_median_43 rfl ?_
      refine aw_callS (As := [_, _]) (ρ := (_, 0, 0)) (kn' := (0, 0)) cs_X10_160 dX10_median_44 rfl rfl (Nat.le_of_ble_eq_true rfl) (rmR _ _ _) ⟨Nat.le_refl _, Nat.le_refl _⟩ rfl (c_X10_pairOf hnx  (fun r44 h44 => ?_))
      subst h44
      refine aw_ialdr dX10_median_47 (hc27 hnx) (by omega) (by decide) (hR 15 (by decide)) (fun q47 => ?_)
      refine aw_iadd dX10_median_48 ?_
      refine aw_nmI (fun x2_49 hx2_49 => ?_)
      refine aw_istore_n (ls' := [some (rf Γ 0), some _, some _, some _, none]) dX10_median_49 (by decide) rfl ?_
      refine aw_iinc (ls' := [some (rf Γ 0), some _, some _, some _, none]) dX10_median_50 rfl (by decide) rfl ?_
      refine aw_goto (tgt := 17) dX10_median_53 rfl ?_
      exact ih (by omega) x2_49  (by subst hx2_49; subst i17_0; simp only [mdN, sm])
  · skip
    refine aw_if_ne (tgt := 13) dX10_median_8 rfl (by decide) (fun c => absurd c (by decide)) (fun _ => ?_)
    refine aw_iconst dX10_median_11 ?_
    exact aw_ireturn dX10_median_12 rfl rfl ⟨Nat.le_refl _, Nat.le_refl _⟩ (hQ _ (by unfold aMedian; rw [if_neg (by simp only [isO]; omega)]))

set_option maxHeartbeats 1000000 in
theorem c_X10_best {Γ : GT} {S T U V : St} {G : Gw} {nx d : Nat} {Q : QT} (hnx : 52 ≤ nx) {i n w : Int} {c : Int} (hI : Inv c S) (hi : inI i) (hn : inI n) (hw : inI w) (hQ : ∀ r, r = aBest S i n w → Q (some (vi r)) (hp Γ S T U V G) nx) : AM Γ MX10_best (d + 5, 0, 0) [rf Γ 0, vi i, vi n, vi w] (hp Γ S T U V G) nx Q := by
  refine am_of (by decide) (Nat.le_of_ble_eq_true rfl) (ls := [some (rf Γ 0), some _, some _, some _, none, none, none, none]) rfl ?_
  have hR := hI.R
  have i1 := hI.i1
  have hz : 0 ≤ S 28 0 ∧ S 28 0 ≤ 60 := i1.2.2.1
  have hkS : nS S = (S 28 0).toNat := rfl
  have hkI : nIm S = (S 27 0).toNat := rfl
  have hkO : nOr S = (S 26 0).toNat := rfl
  refine aw_aload_n dX10_best_0 rfl ?_
  refine aw_getf fg_X10_26 dX10_best_1 (hc0 hnx) rfl ?_
  refine aw_iload_n dX10_best_4 rfl ?_
  refine aw_callV (As := [_]) (ρ := (_, 0, 0)) (kn' := (0, 0)) cv_X10_133 dX10_best_5 rfl rfl (hc9 hnx) rfl rfl (Nat.le_of_ble_eq_true rfl) (rmR _ _ _) ⟨Nat.le_refl _, Nat.le_refl _⟩ rfl (c_X7_hasImporter hnx hR (by omega) (fun r5 h5 => ?_))
  rcases h5 with ⟨rfl, h5⟩ | ⟨rfl, h5⟩
  · skip
    refine aw_if_eq (tgt := 27) dX10_best_8 rfl (by decide) (fun c => absurd c (by decide)) (fun _ => ?_)
    refine aw_iload_n dX10_best_11 rfl ?_
    refine aw_callS (As := [_]) (ρ := (_, 0, 0)) (kn' := (0, 0)) cs_X10_91 dX10_best_12 rfl rfl (Nat.le_of_ble_eq_true rfl) (rmR _ _ _) ⟨Nat.le_refl _, Nat.le_refl _⟩ rfl (c_X10_isAmount hnx (by omega) (fun r12 h12 => ?_))
    rcases h12 with ⟨rfl, h12⟩ | ⟨rfl, h12⟩
    · skip
      refine aw_if_eq (tgt := 27) dX10_best_15 rfl (by decide) (fun c => absurd c (by decide)) (fun _ => ?_)
      refine aw_iload_n dX10_best_18 rfl ?_
      refine aw_if_lt (tgt := 27) dX10_best_19 rfl (by omega) (fun c19 => ?_) (fun c19 => ?_)
      · skip
        refine aw_iconst dX10_best_27 ?_
        exact aw_ireturn dX10_best_28 rfl rfl ⟨Nat.le_refl _, Nat.le_refl _⟩ (hQ _ (by unfold aBest; rw [if_neg (by simp only [isI, isN]; omega)]))
      · skip
        refine aw_iload_n dX10_best_22 rfl ?_
        refine aw_iconst dX10_best_23 ?_
        refine aw_icmp_le (tgt := 29) dX10_best_24 rfl (by omega) (fun c24 => ?_) (fun c24 => ?_)
        · skip
          refine aw_bipush dX10_best_29 rfl ?_
          refine aw_istore (ls' := [some (rf Γ 0), some _, some _, some _, some _, none, none, none]) dX10_best_31 (by decide) rfl ?_
          refine aw_iconst dX10_best_33 ?_
          refine aw_istore (ls' := [some (rf Γ 0), some _, some _, some _, some _, some _, none, none]) dX10_best_34 (by decide) rfl ?_
          refine aw_iconst dX10_best_36 ?_
          refine aw_istore (ls' := [some (rf Γ 0), some _, some _, some _, some _, some _, some _, none]) dX10_best_37 (by decide) rfl ?_
          refine loopN (nOr S) (P := fun k => ∀ (x : Int) (y : Int) , x = bsW S i n k → y = bsM S i n k →  AW Γ MX10_best _ _ (0, 0) 39 [some (rf Γ 0), some (vi i), some (vi n), some (vi w), some (vi x), some (vi y), some (vi (k : Int)), none] [] (hp Γ S T U V G) nx) (fun k hk ih => ?_) 0 (Nat.zero_le _) _ _ rfl rfl
          intro x y i39_0 i39_1
          refine aw_iload dX10_best_39 rfl ?_
          refine aw_aload_n dX10_best_41 rfl ?_
          refine aw_getf fg_X10_26 dX10_best_42 (hc0 hnx) rfl ?_
          refine aw_getf fg_X10_81 dX10_best_45 (hc9 hnx) rfl ?_
          refine aw_getf fg_X10_82 dX10_best_48 (hc10 hnx) rfl ?_
          refine aw_icmp_ge (tgt := 88) dX10_best_51 rfl (by omega) (fun c51 => ?_) (fun c51 => ?_)
          · skip
            obtain rfl : k = nOr S := by omega
            have b2 := bsW_in S i n (nOr S)
            refine aw_iload dX10_best_88 rfl ?_
            refine aw_if_lt (tgt := 97) dX10_best_90 rfl (by omega) (fun c90 => ?_) (fun c90 => ?_)
            · skip
              refine aw_iload dX10_best_97 rfl ?_
              refine aw_goto (tgt := 104) dX10_best_99 rfl ?_
              exact aw_ireturn dX10_best_104 rfl rfl ⟨Nat.le_refl _, Nat.le_refl _⟩ (hQ _ (by unfold aBest; rw [if_pos (by simp only [isI, isN]; omega)]; first | (rw [if_pos (by omega)]; omega) | (rw [if_neg (by omega)]; omega)))
            · skip
              refine aw_iload_n dX10_best_93 rfl ?_
              refine aw_if_ne (tgt := 102) dX10_best_94 rfl (by omega) (fun c94 => ?_) (fun c94 => ?_)
              · skip
                refine aw_iload dX10_best_102 rfl ?_
                exact aw_ireturn dX10_best_104 rfl rfl ⟨Nat.le_refl _, Nat.le_refl _⟩ (hQ _ (by unfold aBest; rw [if_pos (by simp only [isI, isN]; omega)]; first | (rw [if_pos (by omega)]; omega) | (rw [if_neg (by omega)]; omega)))
              · skip
                refine aw_iload dX10_best_97 rfl ?_
                refine aw_goto (tgt := 104) dX10_best_99 rfl ?_
                exact aw_ireturn dX10_best_104 rfl rfl ⟨Nat.le_refl _, Nat.le_refl _⟩ (hQ _ (by unfold aBest; rw [if_pos (by simp only [isI, isN]; omega)]; first | (rw [if_pos (by omega)]; omega) | (rw [if_neg (by omega)]; omega)))
          · skip
            have b1 := hI.bsM (i := i) (n := n) (by omega) (by omega) k (by omega)
            have b2 := bsW_in S i n k
            have b3 := offer_in S i k n (S 14 ((k : Int) * 8 + 3)) (S 28 0) (by omega) (hI.pr (i := i) (o := k) (by omega) (by omega)).2.2.1
            refine aw_aload_n dX10_best_54 rfl ?_
            refine aw_getf fg_X10_26 dX10_best_55 (hc0 hnx) rfl ?_
            refine aw_iload_n dX10_best_58 rfl ?_
            refine aw_iload dX10_best_59 rfl ?_
            refine aw_iload_n dX10_best_61 rfl ?_
            refine aw_callV (As := [_, _, _]) (ρ := (_, 0, 0)) (kn' := (0, 0)) cv_X10_95 dX10_best_62 rfl rfl (hc9 hnx) rfl rfl (Nat.le_of_ble_eq_true rfl) (rmR _ _ _) ⟨Nat.le_refl _, Nat.le_refl _⟩ rfl (c_X7_offerNow hnx hI (by omega) (by omega) (by omega) (fun r62 h62 => ?_))
            refine aw_istore (ls' := [some (rf Γ 0), some _, some _, some _, some _, some _, some _, some _]) dX10_best_65 (by decide) rfl ?_
            refine aw_iload dX10_best_67 rfl ?_
            refine aw_iload dX10_best_69 rfl ?_
            refine aw_icmp_le (tgt := 82) dX10_best_71 rfl (by omega) (fun c71 => ?_) (fun c71 => ?_)
            · skip
              refine aw_iinc (ls' := [some (rf Γ 0), some _, some _, some _, some _, some _, some _, some _]) dX10_best_82 rfl (by decide) rfl ?_
              refine aw_goto (tgt := 39) dX10_best_85 rfl ?_
              refine aw_fg [true, true, true, true, true, true, true, false] (ls' := [some (rf Γ 0), some _, some _, some _, some _, some _, some _, none]) rfl ?_
              exact ih (by omega) x y  (by simp only [bsW]; split <;> omega) (by simp only [bsM]; split <;> omega)
            · skip
              refine aw_iload dX10_best_74 rfl ?_
              refine aw_istore (ls' := [some (rf Γ 0), some _, some _, some _, some _, some _, some _, some _]) dX10_best_76 (by decide) rfl ?_
              refine aw_iload dX10_best_78 rfl ?_
              refine aw_istore (ls' := [some (rf Γ 0), some _, some _, some _, some _, some _, some _, some _]) dX10_best_80 (by decide) rfl ?_
              refine aw_iinc (ls' := [some (rf Γ 0), some _, some _, some _, some _, some _, some _, some _]) dX10_best_82 rfl (by decide) rfl ?_
              refine aw_goto (tgt := 39) dX10_best_85 rfl ?_
              refine aw_fg [true, true, true, true, true, true, true, false] (ls' := [some (rf Γ 0), some _, some _, some _, some _, some _, some _, none]) rfl ?_
              exact ih (by omega) (k : Int) r62  (by simp only [bsW]; split <;> omega) (by simp only [bsM]; split <;> omega)
        · skip
          refine aw_iconst dX10_best_27 ?_
          exact aw_ireturn dX10_best_28 rfl rfl ⟨Nat.le_refl _, Nat.le_refl _⟩ (hQ _ (by unfold aBest; rw [if_neg (by simp only [isI, isN]; omega)]))
    · skip
      refine aw_if_eq (tgt := 27) dX10_best_15 rfl (by decide) (fun _ => ?_) (fun c => absurd c (by decide))
      refine aw_iconst dX10_best_27 ?_
      exact aw_ireturn dX10_best_28 rfl rfl ⟨Nat.le_refl _, Nat.le_refl _⟩ (hQ _ (by unfold aBest; rw [if_neg (by simp only [isI, isN]; omega)]))
  · skip
    refine aw_if_eq (tgt := 27) dX10_best_8 rfl (by decide) (fun _ => ?_) (fun c => absurd c (by decide))
    refine aw_iconst dX10_best_27 ?_
    exact aw_ireturn dX10_best_28 rfl rfl ⟨Nat.le_refl _, Nat.le_refl _⟩ (hQ _ (by unfold aBest; rw [if_neg (by simp only [isI, isN]; omega)]))

set_option maxHeartbeats 1000000 in
theorem c_X10_peak {Γ : GT} {S T U V : St} {G : Gw} {nx d : Nat} {Q : QT} (hnx : 52 ≤ nx) {j n w : Int} {c : Int} (hI : Inv c S) (hj : inI j) (hn : inI n) (hw : inI w) (hQ : ∀ r, r = aPeak S j n w → Q (some (vi r)) (hp Γ S T U V G) nx) : AM Γ MX10_peak (d + 2, 0, 0) [rf Γ 0, vi j, vi n, vi w] (hp Γ S T U V G) nx Q := by
  refine am_of (by decide) (Nat.le_of_ble_eq_true rfl) (ls := [some (rf Γ 0), some _, some _, some _, none, none, none, none]) rfl ?_
  have hR := hI.R
  have i1 := hI.i1
  have hz : 0 ≤ S 28 0 ∧ S 28 0 ≤ 60 := i1.2.2.1
  have hkS : nS S = (S 28 0).toNat := rfl
  have hkI : nIm S = (S 27 0).toNat := rfl
  have hkO : nOr S = (S 26 0).toNat := rfl
  refine aw_aload_n dX10_peak_0 rfl ?_
  refine aw_getf fg_X10_26 dX10_peak_1 (hc0 hnx) rfl ?_
  refine aw_iload_n dX10_peak_4 rfl ?_
  refine aw_callV (As := [_]) (ρ := (_, 0, 0)) (kn' := (0, 0)) cv_X10_191 dX10_peak_5 rfl rfl (hc9 hnx) rfl rfl (Nat.le_of_ble_eq_true rfl) (rmR _ _ _) ⟨Nat.le_refl _, Nat.le_refl _⟩ rfl (c_X7_hasOrigin hnx hR (by omega) (fun r5 h5 => ?_))
  rcases h5 with ⟨rfl, h5⟩ | ⟨rfl, h5⟩
  · skip
    refine aw_if_eq (tgt := 31) dX10_peak_8 rfl (by decide) (fun c => absurd c (by decide)) (fun _ => ?_)
    refine aw_iload_n dX10_peak_11 rfl ?_
    refine aw_iconst dX10_peak_12 ?_
    refine aw_icmp_lt (tgt := 31) dX10_peak_13 rfl (by omega) (fun c13 => ?_) (fun c13 => ?_)
    · skip
      refine aw_iconst dX10_peak_31 ?_
      exact aw_ireturn dX10_peak_32 rfl rfl ⟨Nat.le_refl _, Nat.le_refl _⟩ (hQ _ (by unfold aPeak; rw [if_neg (by simp only [isO]; omega)]))
    · skip
      refine aw_iload_n dX10_peak_16 rfl ?_
      refine aw_bipush dX10_peak_17 rfl ?_
      refine aw_icmp_gt (tgt := 31) dX10_peak_19 rfl (by omega) (fun c19 => ?_) (fun c19 => ?_)
      · skip
        refine aw_iconst dX10_peak_31 ?_
        exact aw_ireturn dX10_peak_32 rfl rfl ⟨Nat.le_refl _, Nat.le_refl _⟩ (hQ _ (by unfold aPeak; rw [if_neg (by simp only [isO]; omega)]))
      · skip
        refine aw_iload_n dX10_peak_22 rfl ?_
        refine aw_if_lt (tgt := 31) dX10_peak_23 rfl (by omega) (fun c23 => ?_) (fun c23 => ?_)
        · skip
          refine aw_iconst dX10_peak_31 ?_
          exact aw_ireturn dX10_peak_32 rfl rfl ⟨Nat.le_refl _, Nat.le_refl _⟩ (hQ _ (by unfold aPeak; rw [if_neg (by simp only [isO]; omega)]))
        · skip
          refine aw_iload_n dX10_peak_26 rfl ?_
          refine aw_iconst dX10_peak_27 ?_
          refine aw_icmp_le (tgt := 33) dX10_peak_28 rfl (by omega) (fun c28 => ?_) (fun c28 => ?_)
          · skip
            refine aw_iconst dX10_peak_33 ?_
            refine aw_istore (ls' := [some (rf Γ 0), some _, some _, some _, some _, none, none, none]) dX10_peak_34 (by decide) rfl ?_
            refine aw_aload_n dX10_peak_36 rfl ?_
            refine aw_getf fg_X10_26 dX10_peak_37 (hc0 hnx) rfl ?_
            refine aw_getf fg_X10_220 dX10_peak_40 (hc9 hnx) rfl ?_
            refine aw_iload_n dX10_peak_43 rfl ?_
            refine aw_iconst dX10_peak_44 ?_
            refine aw_iload_n dX10_peak_45 rfl ?_
            refine aw_callV (As := [_, _, _]) (ρ := (_, 0, 0)) (kn' := (0, 0)) cv_X10_338 dX10_peak_46 rfl rfl (hc32 hnx) rfl rfl (Nat.le_of_ble_eq_true rfl) (rmR _ _ _) ⟨Nat.le_refl _, Nat.le_refl _⟩ rfl (c_X9_importedOf hnx hR (by omega) (by omega) (fun r46 h46 => ?_))
            refine aw_istore (ls' := [some (rf Γ 0), some _, some _, some _, some _, some _, none, none]) dX10_peak_49 (by decide) rfl ?_
            have z := hI.imO (o := j) (a := 0) (by omega) n.toNat (by omega)
            refine aw_iconst dX10_peak_51 ?_
            refine aw_istore (ls' := [some (rf Γ 0), some _, some _, some _, some _, some _, some _, none]) dX10_peak_52 (by decide) rfl ?_
            refine loopN ((12 - n).toNat) (P := fun k => ∀ (x : Int) (y : Int) , x = pkW S j n (k + 1) → y = pkM S j n (k + 1) →  AW Γ MX10_peak _ _ (0, 0) 54 [some (rf Γ 0), some (vi j), some (vi n), some (vi w), some (vi x), some (vi y), some (vi ((k : Int) + 1)), none] [] (hp Γ S T U V G) nx) (fun k hk ih => ?_) 0 (Nat.zero_le _) _ _ (pkW_1 S j n).symm (by rw [pkM_1 S j n z.1]; omega)
            intro x y i54_0 i54_1
            refine aw_iload dX10_peak_54 rfl ?_
            refine aw_iload_n dX10_peak_56 rfl ?_
            refine aw_iadd dX10_peak_57 ?_
            refine aw_bipush dX10_peak_58 rfl ?_
            refine aw_icmp_gt (tgt := 100) dX10_peak_60 rfl (by omega) (fun c60 => ?_) (fun c60 => ?_)
            · skip
              obtain rfl : k = (12 - n).toNat := by omega
              refine aw_iload_n dX10_peak_100 rfl ?_
              refine aw_if_ne (tgt := 109) dX10_peak_101 rfl (by omega) (fun c101 => ?_) (fun c101 => ?_)
              · skip
                refine aw_iload dX10_peak_109 rfl ?_
                exact aw_ireturn dX10_peak_111 rfl rfl ⟨Nat.le_refl _, Nat.le_refl _⟩ (hQ _ (by unfold aPeak; rw [if_pos (by simp only [isO]; omega), show (13 - n).toNat = (12 - n).toNat + 1 by omega]; first | (rw [if_pos (by omega)]; omega) | (rw [if_neg (by omega)]; omega)))
              · skip
                refine aw_iload dX10_peak_104 rfl ?_
                refine aw_goto (tgt := 111) dX10_peak_106 rfl ?_
                exact aw_ireturn dX10_peak_111 rfl rfl ⟨Nat.le_refl _, Nat.le_refl _⟩ (hQ _ (by unfold aPeak; rw [if_pos (by simp only [isO]; omega), show (13 - n).toNat = (12 - n).toNat + 1 by omega]; first | (rw [if_pos (by omega)]; omega) | (rw [if_neg (by omega)]; omega)))
            · skip
              have b1 := hI.pkM (o := j) (n := n) (by omega) (by omega) (k + 1) (by omega)
              have b2 := pkW_in S j n (k + 1)
              have b3 := hI.imO (o := j) (a := (k : Int) + 1) (by omega) n.toNat (by omega)
              refine aw_aload_n dX10_peak_63 rfl ?_
              refine aw_getf fg_X10_26 dX10_peak_64 (hc0 hnx) rfl ?_
              refine aw_getf fg_X10_220 dX10_peak_67 (hc9 hnx) rfl ?_
              refine aw_iload_n dX10_peak_70 rfl ?_
              refine aw_iload dX10_peak_71 rfl ?_
              refine aw_iload_n dX10_peak_73 rfl ?_
              refine aw_callV (As := [_, _, _]) (ρ := (_, 0, 0)) (kn' := (0, 0)) cv_X10_338 dX10_peak_74 rfl rfl (hc32 hnx) rfl rfl (Nat.le_of_ble_eq_true rfl) (rmR _ _ _) ⟨Nat.le_refl _, Nat.le_refl _⟩ rfl (c_X9_importedOf hnx hR (by omega) (by omega) (fun r74 h74 => ?_))
              refine aw_istore (ls' := [some (rf Γ 0), some _, some _, some _, some _, some _, some _, some _]) dX10_peak_77 (by decide) rfl ?_
              refine aw_iload dX10_peak_79 rfl ?_
              refine aw_iload dX10_peak_81 rfl ?_
              refine aw_icmp_le (tgt := 94) dX10_peak_83 rfl (by omega) (fun c83 => ?_) (fun c83 => ?_)
              · skip
                refine aw_iinc (ls' := [some (rf Γ 0), some _, some _, some _, some _, some _, some _, some _]) dX10_peak_94 rfl (by decide) rfl ?_
                refine aw_goto (tgt := 54) dX10_peak_97 rfl ?_
                refine aw_fg [true, true, true, true, true, true, true, false] (ls' := [some (rf Γ 0), some _, some _, some _, some _, some _, some _, none]) rfl ?_
                exact ih (by omega) x y  (by rw [pkW]; simp only [Int.natCast_succ]; split <;> omega) (by rw [pkM]; simp only [Int.natCast_succ]; split <;> omega)
              · skip
                refine aw_iload dX10_peak_86 rfl ?_
                refine aw_istore (ls' := [some (rf Γ 0), some _, some _, some _, some _, some _, some _, some _]) dX10_peak_88 (by decide) rfl ?_
                refine aw_iload dX10_peak_90 rfl ?_
                refine aw_istore (ls' := [some (rf Γ 0), some _, some _, some _, some _, some _, some _, some _]) dX10_peak_92 (by decide) rfl ?_
                refine aw_iinc (ls' := [some (rf Γ 0), some _, some _, some _, some _, some _, some _, some _]) dX10_peak_94 rfl (by decide) rfl ?_
                refine aw_goto (tgt := 54) dX10_peak_97 rfl ?_
                refine aw_fg [true, true, true, true, true, true, true, false] (ls' := [some (rf Γ 0), some _, some _, some _, some _, some _, some _, none]) rfl ?_
                exact ih (by omega) ((k : Int) + 1) r74  (by rw [pkW]; simp only [Int.natCast_succ]; split <;> omega) (by rw [pkM]; simp only [Int.natCast_succ]; split <;> omega)
          · skip
            refine aw_iconst dX10_peak_31 ?_
            exact aw_ireturn dX10_peak_32 rfl rfl ⟨Nat.le_refl _, Nat.le_refl _⟩ (hQ _ (by unfold aPeak; rw [if_neg (by simp only [isO]; omega)]))
  · skip
    refine aw_if_eq (tgt := 31) dX10_peak_8 rfl (by decide) (fun _ => ?_) (fun c => absurd c (by decide))
    refine aw_iconst dX10_peak_31 ?_
    exact aw_ireturn dX10_peak_32 rfl rfl ⟨Nat.le_refl _, Nat.le_refl _⟩ (hQ _ (by unfold aPeak; rw [if_neg (by simp only [isO]; omega)]))

set_option maxHeartbeats 1000000 in
theorem c_X10_even {Γ : GT} {S T U V : St} {G : Gw} {nx d : Nat} {Q : QT} (hnx : 52 ≤ nx) {i j : Int} {c : Int} (hI : Inv c S) (hi : inI i) (hj : inI j) (hQ : ∀ r, r = aEven S i j → Q (some (vi r)) (hp Γ S T U V G) nx) : AM Γ MX10_even (d + 2, 0, 0) [rf Γ 0, vi i, vi j] (hp Γ S T U V G) nx Q := by
  refine am_of (by decide) (Nat.le_of_ble_eq_true rfl) (ls := [some (rf Γ 0), some _, some _, none, none, none, none]) rfl ?_
  have hR := hI.R
  have i1 := hI.i1
  have hz : 0 ≤ S 28 0 ∧ S 28 0 ≤ 60 := i1.2.2.1
  have hkS : nS S = (S 28 0).toNat := rfl
  have hkI : nIm S = (S 27 0).toNat := rfl
  have hkO : nOr S = (S 26 0).toNat := rfl
  refine aw_aload_n dX10_even_0 rfl ?_
  refine aw_getf fg_X10_26 dX10_even_1 (hc0 hnx) rfl ?_
  refine aw_iload_n dX10_even_4 rfl ?_
  refine aw_iload_n dX10_even_5 rfl ?_
  refine aw_callV (As := [_, _]) (ρ := (_, 0, 0)) (kn' := (0, 0)) cv_X10_87 dX10_even_6 rfl rfl (hc9 hnx) rfl rfl (Nat.le_of_ble_eq_true rfl) (rmR _ _ _) ⟨Nat.le_refl _, Nat.le_refl _⟩ rfl (c_X7_hasPair hnx hR (by omega) (fun r6 h6 => ?_))
  rcases h6 with ⟨rfl, h6⟩ | ⟨rfl, h6⟩
  · skip
    refine aw_if_eq (tgt := 30) dX10_even_9 rfl (by decide) (fun c => absurd c (by decide)) (fun _ => ?_)
    refine aw_aload_n dX10_even_12 rfl ?_
    refine aw_getf fg_X10_26 dX10_even_13 (hc0 hnx) rfl ?_
    refine aw_getf fg_X10_156 dX10_even_16 (hc9 hnx) rfl ?_
    refine aw_iload_n dX10_even_19 rfl ?_
    refine aw_iload_n dX10_even_20 rfl ?_
    refine aw_callS (As := [_, _]) (ρ := (_, 0, 0)) (kn' := (0, 0)) cs_X10_160 dX10_even_21 rfl rfl (Nat.le_of_ble_eq_true rfl) (rmR _ _ _) ⟨Nat.le_refl _, Nat.le_refl _⟩ rfl (c_X10_pairOf hnx  (fun r21 h21 => ?_))
    subst h21
    refine aw_callV (As := [_]) (ρ := (_, 0, 0)) (kn' := (0, 0)) cv_X10_163 dX10_even_24 rfl rfl (hc25 hnx) rfl rfl (Nat.le_of_ble_eq_true rfl) (rmR _ _ _) ⟨Nat.le_refl _, Nat.le_refl _⟩ rfl (c_X3_isTraditional hnx hR (by omega) (fun r24 h24 => ?_))
    rcases h24 with ⟨rfl, h24⟩ | ⟨rfl, h24⟩
    · skip
      refine aw_if_eq (tgt := 32) dX10_even_27 rfl (by decide) (fun c => absurd c (by decide)) (fun _ => ?_)
      refine aw_iconst dX10_even_30 ?_
      exact aw_ireturn dX10_even_31 rfl rfl ⟨Nat.le_refl _, Nat.le_refl _⟩ (hQ _ (by unfold aEven; rw [if_neg (by simp only [isI, isO]; omega)]))
    · skip
      refine aw_if_eq (tgt := 32) dX10_even_27 rfl (by decide) (fun _ => ?_) (fun c => absurd c (by decide))
      refine aw_iconst dX10_even_32 ?_
      refine aw_istore_n (ls' := [some (rf Γ 0), some _, some _, some _, none, none, none]) dX10_even_33 (by decide) rfl ?_
      refine aw_iconst dX10_even_34 ?_
      refine aw_istore (ls' := [some (rf Γ 0), some _, some _, some _, some _, none, none]) dX10_even_35 (by decide) rfl ?_
      refine aw_iconst dX10_even_37 ?_
      refine aw_istore (ls' := [some (rf Γ 0), some _, some _, some _, some _, some _, none]) dX10_even_38 (by decide) rfl ?_
      refine loopN (nIm S) (P := fun k => ∀ (x : Int) (y : Int) , x = evN S j k → y = evA S i j k →  AW Γ MX10_even _ _ (0, 0) 40 [some (rf Γ 0), some (vi i), some (vi j), some (vi x), some (vi y), some (vi (k : Int)), none] [] (hp Γ S T U V G) nx) (fun k hk ih => ?_) 0 (Nat.zero_le _) _ _ rfl rfl
      intro x y i40_0 i40_1
      refine aw_iload dX10_even_40 rfl ?_
      refine aw_aload_n dX10_even_42 rfl ?_
      refine aw_getf fg_X10_26 dX10_even_43 (hc0 hnx) rfl ?_
      refine aw_getf fg_X10_81 dX10_even_46 (hc9 hnx) rfl ?_
      refine aw_getf fg_X10_281 dX10_even_49 (hc10 hnx) rfl ?_
      refine aw_icmp_ge (tgt := 99) dX10_even_52 rfl (by omega) (fun c52 => ?_) (fun c52 => ?_)
      · skip
        obtain rfl : k = nIm S := by omega
        have b1 := evN_in S j (nIm S)
        have b2 := evA_in S i j (nIm S)
        have b3 := evN_1 (S := S) (o := j) (n := nIm S) (k := i.toNat) (by omega) (by rw [show ((i.toNat : Nat) : Int) = i by omega]; exact h24)
        refine aw_iload_n dX10_even_99 rfl ?_
        refine aw_iconst dX10_even_100 ?_
        refine aw_icmp_ge (tgt := 106) dX10_even_101 rfl (by omega) (fun c101 => ?_) (fun c101 => ?_)
        · skip
          refine aw_aload_n dX10_even_106 rfl ?_
          refine aw_getf fg_X10_26 dX10_even_107 (hc0 hnx) rfl ?_
          refine aw_getf fg_X10_156 dX10_even_110 (hc9 hnx) rfl ?_
          refine aw_iload_n dX10_even_113 rfl ?_
          refine aw_iconst dX10_even_114 ?_
          refine aw_callV (As := [_, _]) (ρ := (_, 0, 0)) (kn' := (0, 0)) cv_X10_217 dX10_even_115 rfl rfl (hc25 hnx) rfl rfl (Nat.le_of_ble_eq_true rfl) (rmR _ _ _) ⟨Nat.le_refl _, Nat.le_refl _⟩ rfl (c_X3_figure hnx hR (by omega) (fun r115 h115 => ?_))
          subst h115
          have fg := hI.fg (o := j) (by omega)
          have f3 := hR 14 (by decide) (j * 8 + 3)
          have tm := hI.tm (by omega)
          have d1 := Int.ediv_le_self (evN S j (nIm S)) fg.2.2.1
          have d2 := Int.ediv_nonneg fg.2.2.1 (show 0 ≤ evN S j (nIm S) by omega)
          have d3 := Int.emod_nonneg (S 14 (j * 8 + 3)) (show evN S j (nIm S) ≠ 0 by omega)
          have d4 := Int.emod_lt_of_pos (S 14 (j * 8 + 3)) (show 0 < evN S j (nIm S) by omega)
          have d5 := hI.lfs (o := j) (by omega) (nIm S) (Nat.le_refl _)
          have d6 := hI.rems
          subst i40_0
          subst i40_1
          refine aw_istore (ls' := [some (rf Γ 0), some _, some _, some _, some _, some _, none]) dX10_even_118 (by decide) rfl ?_
          refine aw_iload dX10_even_120 rfl ?_
          refine aw_iload_n dX10_even_122 rfl ?_
          refine aw_idiv dX10_even_123 (by omega) (by omega) ?_
          refine aw_iload dX10_even_124 rfl ?_
          refine aw_iload dX10_even_126 rfl ?_
          refine aw_iload_n dX10_even_128 rfl ?_
          refine aw_irem dX10_even_129 (by omega) (by omega) ?_
          refine aw_icmp_ge (tgt := 137) dX10_even_130 rfl (by omega) (fun c130 => ?_) (fun c130 => ?_)
          · skip
            refine aw_iconst dX10_even_137 ?_
            refine aw_iadd dX10_even_138 ?_
            refine aw_nmI (fun x6_139 hx6_139 => ?_)
            refine aw_istore (ls' := [some (rf Γ 0), some _, some _, some _, some _, some _, some _]) dX10_even_139 (by decide) rfl ?_
            refine aw_iload dX10_even_141 rfl ?_
            refine aw_aload_n dX10_even_143 rfl ?_
            refine aw_getf fg_X10_26 dX10_even_144 (hc0 hnx) rfl ?_
            refine aw_getf fg_X10_81 dX10_even_147 (hc9 hnx) rfl ?_
            refine aw_getf fg_X10_207 dX10_even_150 (hc10 hnx) rfl ?_
            refine aw_iconst dX10_even_153 ?_
            refine aw_ialdr dX10_even_154 (hc11 hnx) (by omega) (by decide) (hR 0 (by decide)) (fun q154 => ?_)
            refine aw_mmin qm_X10_341 dX10_even_155 (by omega) (rmN13 _ _ _ (Nat.le_of_ble_eq_true rfl)) ⟨Nat.le_refl _, Nat.le_refl _⟩ (fun r155 h155 => ?_)
            exact aw_ireturn dX10_even_158 rfl rfl ⟨Nat.le_refl _, Nat.le_refl _⟩ (hQ _ (by unfold aEven; rw [if_pos ⟨⟨by omega, by omega⟩, h24⟩, h155]; subst hx6_139; first | (rw [if_pos (by omega)]) | (rw [if_neg (by omega)])))
          · skip
            refine aw_iconst dX10_even_133 ?_
            refine aw_goto (tgt := 138) dX10_even_134 rfl ?_
            refine aw_iadd dX10_even_138 ?_
            refine aw_nmI (fun x6_139 hx6_139 => ?_)
            refine aw_istore (ls' := [some (rf Γ 0), some _, some _, some _, some _, some _, some _]) dX10_even_139 (by decide) rfl ?_
            refine aw_iload dX10_even_141 rfl ?_
            refine aw_aload_n dX10_even_143 rfl ?_
            refine aw_getf fg_X10_26 dX10_even_144 (hc0 hnx) rfl ?_
            refine aw_getf fg_X10_81 dX10_even_147 (hc9 hnx) rfl ?_
            refine aw_getf fg_X10_207 dX10_even_150 (hc10 hnx) rfl ?_
            refine aw_iconst dX10_even_153 ?_
            refine aw_ialdr dX10_even_154 (hc11 hnx) (by omega) (by decide) (hR 0 (by decide)) (fun q154 => ?_)
            refine aw_mmin qm_X10_341 dX10_even_155 (by omega) (rmN13 _ _ _ (Nat.le_of_ble_eq_true rfl)) ⟨Nat.le_refl _, Nat.le_refl _⟩ (fun r155 h155 => ?_)
            exact aw_ireturn dX10_even_158 rfl rfl ⟨Nat.le_refl _, Nat.le_refl _⟩ (hQ _ (by unfold aEven; rw [if_pos ⟨⟨by omega, by omega⟩, h24⟩, h155]; subst hx6_139; first | (rw [if_pos (by omega)]) | (rw [if_neg (by omega)])))
        · skip
          refine aw_iconst dX10_even_104 ?_
          exact aw_ireturn dX10_even_105 rfl rfl ⟨Nat.le_refl _, Nat.le_refl _⟩ (hQ _ (absurd c101 (by omega)))
      · skip
        refine aw_aload_n dX10_even_55 rfl ?_
        refine aw_getf fg_X10_26 dX10_even_56 (hc0 hnx) rfl ?_
        refine aw_getf fg_X10_156 dX10_even_59 (hc9 hnx) rfl ?_
        refine aw_iload dX10_even_62 rfl ?_
        refine aw_iload_n dX10_even_64 rfl ?_
        refine aw_callS (As := [_, _]) (ρ := (_, 0, 0)) (kn' := (0, 0)) cs_X10_160 dX10_even_65 rfl rfl (Nat.le_of_ble_eq_true rfl) (rmR _ _ _) ⟨Nat.le_refl _, Nat.le_refl _⟩ rfl (c_X10_pairOf hnx  (fun r65 h65 => ?_))
        subst h65
        refine aw_callV (As := [_]) (ρ := (_, 0, 0)) (kn' := (0, 0)) cv_X10_163 dX10_even_68 rfl rfl (hc25 hnx) rfl rfl (Nat.le_of_ble_eq_true rfl) (rmR _ _ _) ⟨Nat.le_refl _, Nat.le_refl _⟩ rfl (c_X3_isTraditional hnx hR (by omega) (fun r68 h68 => ?_))
        rcases h68 with ⟨rfl, h68⟩ | ⟨rfl, h68⟩
        · skip
          refine aw_if_ne (tgt := 93) dX10_even_71 rfl (by decide) (fun _ => ?_) (fun c => absurd c (by decide))
          refine aw_iinc (ls' := [some (rf Γ 0), some _, some _, some _, some _, some _, none]) dX10_even_93 rfl (by decide) rfl ?_
          refine aw_goto (tgt := 40) dX10_even_96 rfl ?_
          exact ih (by omega) x y  (by simp only [evN, sm] at i40_0 ⊢; split <;> omega) (by simp only [evA, sm] at i40_1 ⊢; split <;> omega)
        · skip
          refine aw_if_ne (tgt := 93) dX10_even_71 rfl (by decide) (fun c => absurd c (by decide)) (fun _ => ?_)
          refine aw_iinc (ls' := [some (rf Γ 0), some _, some _, some _, some _, some _, none]) dX10_even_74 rfl (by decide) rfl ?_
          refine aw_iload dX10_even_77 rfl ?_
          refine aw_iload dX10_even_79 rfl ?_
          refine aw_iload_n dX10_even_81 rfl ?_
          refine aw_icmp_ge (tgt := 89) dX10_even_82 rfl (by omega) (fun c82 => ?_) (fun c82 => ?_)
          · skip
            refine aw_iconst dX10_even_89 ?_
            refine aw_iadd dX10_even_90 ?_
            refine aw_nmI (fun x4_91 hx4_91 => ?_)
            refine aw_istore (ls' := [some (rf Γ 0), some _, some _, some _, some _, some _, none]) dX10_even_91 (by decide) rfl ?_
            refine aw_iinc (ls' := [some (rf Γ 0), some _, some _, some _, some _, some _, none]) dX10_even_93 rfl (by decide) rfl ?_
            refine aw_goto (tgt := 40) dX10_even_96 rfl ?_
            exact ih (by omega) _ x4_91  (by simp only [evN, sm] at i40_0 ⊢; split <;> omega) (by simp only [evA, sm] at i40_1 ⊢; split <;> omega)
          · skip
            refine aw_iconst dX10_even_85 ?_
            refine aw_goto (tgt := 90) dX10_even_86 rfl ?_
            refine aw_iadd dX10_even_90 ?_
            refine aw_nmI (fun x4_91 hx4_91 => ?_)
            refine aw_istore (ls' := [some (rf Γ 0), some _, some _, some _, some _, some _, none]) dX10_even_91 (by decide) rfl ?_
            refine aw_iinc (ls' := [some (rf Γ 0), some _, some _, some _, some _, some _, none]) dX10_even_93 rfl (by decide) rfl ?_
            refine aw_goto (tgt := 40) dX10_even_96 rfl ?_
            exact ih (by omega) _ x4_91  (by simp only [evN, sm] at i40_0 ⊢; split <;> omega) (by simp only [evA, sm] at i40_1 ⊢; split <;> omega)
  · skip
    refine aw_if_eq (tgt := 30) dX10_even_9 rfl (by decide) (fun _ => ?_) (fun c => absurd c (by decide))
    refine aw_iconst dX10_even_30 ?_
    exact aw_ireturn dX10_even_31 rfl rfl ⟨Nat.le_refl _, Nat.le_refl _⟩ (hQ _ (by unfold aEven; rw [if_neg (by simp only [isI, isO]; omega)]))

set_option maxHeartbeats 1000000 in
theorem c_X10_root {Γ : GT} {S T U V : St} {G : Gw} {nx d : Nat} {Q : QT} (hnx : 52 ≤ nx) {l w : Int} {c : Int} (hI : Inv c S) (hl : inI l) (hw : inI w) (hQ : ∀ r, r = aRoot S l w → Q (some (vi r)) (hp Γ S T U V G) nx) : AM Γ MX10_root (d + 2, 0, 0) [rf Γ 0, vi l, vi w] (hp Γ S T U V G) nx Q := by
  refine am_of (by decide) (Nat.le_of_ble_eq_true rfl) (ls := [some (rf Γ 0), some _, some _, none, none, none]) rfl ?_
  have hR := hI.R
  have i1 := hI.i1
  have hz : 0 ≤ S 28 0 ∧ S 28 0 ≤ 60 := i1.2.2.1
  have hkS : nS S = (S 28 0).toNat := rfl
  have hkI : nIm S = (S 27 0).toNat := rfl
  have hkO : nOr S = (S 26 0).toNat := rfl
  refine aw_aload_n dX10_root_0 rfl ?_
  refine aw_getf fg_X10_26 dX10_root_1 (hc0 hnx) rfl ?_
  refine aw_getf fg_X10_106 dX10_root_4 (hc9 hnx) rfl ?_
  refine aw_iload_n dX10_root_7 rfl ?_
  refine aw_callV (As := [_]) (ρ := (_, 0, 0)) (kn' := (0, 0)) cv_X10_110 dX10_root_8 rfl rfl (hc14 hnx) rfl rfl (Nat.le_of_ble_eq_true rfl) (rmR _ _ _) ⟨Nat.le_refl _, Nat.le_refl _⟩ rfl (c_X1_has hnx hR (by omega) (fun r8 h8 => ?_))
  rcases h8 with ⟨rfl, h8⟩ | ⟨rfl, h8⟩
  · skip
    refine aw_if_eq (tgt := 23) dX10_root_11 rfl (by decide) (fun c => absurd c (by decide)) (fun _ => ?_)
    refine aw_iload_n dX10_root_14 rfl ?_
    refine aw_if_lt (tgt := 23) dX10_root_15 rfl (by omega) (fun c15 => ?_) (fun c15 => ?_)
    · skip
      refine aw_iconst dX10_root_23 ?_
      exact aw_ireturn dX10_root_24 rfl rfl ⟨Nat.le_refl _, Nat.le_refl _⟩ (hQ _ (by unfold aRoot; rw [if_neg (by simp only [isL]; omega)]))
    · skip
      refine aw_iload_n dX10_root_18 rfl ?_
      refine aw_iconst dX10_root_19 ?_
      refine aw_icmp_le (tgt := 25) dX10_root_20 rfl (by omega) (fun c20 => ?_) (fun c20 => ?_)
      · skip
        refine aw_iload_n dX10_root_25 rfl ?_
        refine aw_istore_n (ls' := [some (rf Γ 0), some _, some _, some _, none, none]) dX10_root_26 (by decide) rfl ?_
        refine aw_iconst dX10_root_27 ?_
        refine aw_istore (ls' := [some (rf Γ 0), some _, some _, some _, some _, none]) dX10_root_28 (by decide) rfl ?_
        refine aw_iconst dX10_root_30 ?_
        refine aw_istore (ls' := [some (rf Γ 0), some _, some _, some _, some _, some _]) dX10_root_31 (by decide) rfl ?_
        refine loopN (60) (P := fun k => ∀ (x : Int) (y : Int) , x = rtW S l k → y = rtH S l k →  AW Γ MX10_root _ _ (0, 0) 33 [some (rf Γ 0), some (vi l), some (vi w), some (vi x), some (vi y), some (vi (k : Int))] [] (hp Γ S T U V G) nx) (fun k hk ih => ?_) 0 (Nat.zero_le _) _ _ rfl rfl
        intro x y i33_0 i33_1
        refine aw_iload dX10_root_33 rfl ?_
        subst i33_0
        refine aw_bipush dX10_root_35 rfl ?_
        refine aw_icmp_ge (tgt := 87) dX10_root_37 rfl (by omega) (fun c37 => ?_) (fun c37 => ?_)
        · skip
          have eR : rtW S l k = rtW S l 60 ∧ y = rtH S l 60 := by
            by_cases e60 : k = 60
            · subst e60; exact ⟨rfl, i33_1⟩
            · have e := rt_stay (S := S) (l := l) (k := k) (by have := hI.rtW (l := l) (by omega) k; have := (hI.li (l := rtW S l k) (by omega)).2.2.2.2.2.2.2; omega) (60 - k)
              rw [show k + (60 - k) = 60 by omega] at e
              exact ⟨by omega, by omega⟩
          refine aw_iload_n dX10_root_87 rfl ?_
          refine aw_if_ne (tgt := 95) dX10_root_88 rfl (by omega) (fun c88 => ?_) (fun c88 => ?_)
          · skip
            refine aw_iload dX10_root_95 rfl ?_
            exact aw_ireturn dX10_root_97 rfl rfl ⟨Nat.le_refl _, Nat.le_refl _⟩ (hQ _ (by unfold aRoot; rw [if_pos (by simp only [isL]; omega)]; first | (rw [if_pos (by omega)]; omega) | (rw [if_neg (by omega)]; omega)))
          · skip
            refine aw_iload_n dX10_root_91 rfl ?_
            refine aw_goto (tgt := 97) dX10_root_92 rfl ?_
            exact aw_ireturn dX10_root_97 rfl rfl ⟨Nat.le_refl _, Nat.le_refl _⟩ (hQ _ (by unfold aRoot; rw [if_pos (by simp only [isL]; omega)]; first | (rw [if_pos (by omega)]; omega) | (rw [if_neg (by omega)]; omega)))
        · skip
          have b1 := hI.rtW (l := l) (by omega) k
          have b2 := (hI.li (l := rtW S l k) (by omega)).2.2.2.2.2.2.2
          refine aw_aload_n dX10_root_40 rfl ?_
          refine aw_getf fg_X10_26 dX10_root_41 (hc0 hnx) rfl ?_
          refine aw_getf fg_X10_106 dX10_root_44 (hc9 hnx) rfl ?_
          refine aw_aload_n dX10_root_47 rfl ?_
          refine aw_getf fg_X10_26 dX10_root_48 (hc0 hnx) rfl ?_
          refine aw_getf fg_X10_106 dX10_root_51 (hc9 hnx) rfl ?_
          refine aw_getf fg_X10_347 dX10_root_54 (hc14 hnx) rfl ?_
          refine aw_iload_n dX10_root_57 rfl ?_
          refine aw_ialdr dX10_root_58 (hc23 hnx) (by omega) (by decide) (hR 12 (by decide)) (fun q58 => ?_)
          refine aw_callV (As := [_]) (ρ := (_, 0, 0)) (kn' := (0, 0)) cv_X10_110 dX10_root_59 rfl rfl (hc14 hnx) rfl rfl (Nat.le_of_ble_eq_true rfl) (rmR _ _ _) ⟨Nat.le_refl _, Nat.le_refl _⟩ rfl (c_X1_has hnx hR (by omega) (fun r59 h59 => ?_))
          rcases h59 with ⟨rfl, h59⟩ | ⟨rfl, h59⟩
          · skip
            refine aw_if_eq (tgt := 87) dX10_root_62 rfl (by decide) (fun c => absurd c (by decide)) (fun _ => ?_)
            refine aw_aload_n dX10_root_65 rfl ?_
            refine aw_getf fg_X10_26 dX10_root_66 (hc0 hnx) rfl ?_
            refine aw_getf fg_X10_106 dX10_root_69 (hc9 hnx) rfl ?_
            refine aw_getf fg_X10_347 dX10_root_72 (hc14 hnx) rfl ?_
            refine aw_iload_n dX10_root_75 rfl ?_
            refine aw_ialdr dX10_root_76 (hc23 hnx) (by omega) (by decide) (hR 12 (by decide)) (fun q76 => ?_)
            refine aw_nmI (fun x3_77 hx3_77 => ?_)
            refine aw_istore_n (ls' := [some (rf Γ 0), some _, some _, some _, some _, some _]) dX10_root_77 (by decide) rfl ?_
            refine aw_iinc (ls' := [some (rf Γ 0), some _, some _, some _, some _, some _]) dX10_root_78 rfl (by decide) rfl ?_
            refine aw_iinc (ls' := [some (rf Γ 0), some _, some _, some _, some _, some _]) dX10_root_81 rfl (by decide) rfl ?_
            refine aw_goto (tgt := 33) dX10_root_84 rfl ?_
            exact ih (by omega) x3_77 _  (by rw [rtW, if_neg (by omega)]; omega) (by rw [rtH, if_neg (by omega)]; omega)
          · skip
            refine aw_if_eq (tgt := 87) dX10_root_62 rfl (by decide) (fun _ => ?_) (fun c => absurd c (by decide))
            have eR : rtW S l k = rtW S l 60 ∧ y = rtH S l 60 := by
              by_cases e60 : k = 60
              · subst e60; exact ⟨rfl, i33_1⟩
              · have e := rt_stay (S := S) (l := l) (k := k) (by have := hI.rtW (l := l) (by omega) k; have := (hI.li (l := rtW S l k) (by omega)).2.2.2.2.2.2.2; omega) (60 - k)
                rw [show k + (60 - k) = 60 by omega] at e
                exact ⟨by omega, by omega⟩
            refine aw_iload_n dX10_root_87 rfl ?_
            refine aw_if_ne (tgt := 95) dX10_root_88 rfl (by omega) (fun c88 => ?_) (fun c88 => ?_)
            · skip
              refine aw_iload dX10_root_95 rfl ?_
              exact aw_ireturn dX10_root_97 rfl rfl ⟨Nat.le_refl _, Nat.le_refl _⟩ (hQ _ (by unfold aRoot; rw [if_pos (by simp only [isL]; omega)]; first | (rw [if_pos (by omega)]; omega) | (rw [if_neg (by omega)]; omega)))
            · skip
              refine aw_iload_n dX10_root_91 rfl ?_
              refine aw_goto (tgt := 97) dX10_root_92 rfl ?_
              exact aw_ireturn dX10_root_97 rfl rfl ⟨Nat.le_refl _, Nat.le_refl _⟩ (hQ _ (by unfold aRoot; rw [if_pos (by simp only [isL]; omega)]; first | (rw [if_pos (by omega)]; omega) | (rw [if_neg (by omega)]; omega)))
      · skip
        refine aw_iconst dX10_root_23 ?_
        exact aw_ireturn dX10_root_24 rfl rfl ⟨Nat.le_refl _, Nat.le_refl _⟩ (hQ _ (by unfold aRoot; rw [if_neg (by simp only [isL]; omega)]))
  · skip
    refine aw_if_eq (tgt := 23) dX10_root_11 rfl (by decide) (fun _ => ?_) (fun c => absurd c (by decide))
    refine aw_iconst dX10_root_23 ?_
    exact aw_ireturn dX10_root_24 rfl rfl ⟨Nat.le_refl _, Nat.le_refl _⟩ (hQ _ (by unfold aRoot; rw [if_neg (by simp only [isL]; omega)]))

set_option maxHeartbeats 1000000 in
theorem c_X10_fastest {Γ : GT} {S T U V : St} {G : Gw} {nx d : Nat} {Q : QT} (hnx : 52 ≤ nx) {j : Int} {c : Int} (hI : Inv c S) (hj : inI j) (hQ : ∀ r, r = aFastest S j → Q (some (vi r)) (hp Γ S T U V G) nx) : AM Γ MX10_fastest (d + 2, 0, 0) [rf Γ 0, vi j] (hp Γ S T U V G) nx Q := by
  refine am_of (by decide) (Nat.le_of_ble_eq_true rfl) (ls := [some (rf Γ 0), some _, none, none, none, none, none, none, none, none, none, none]) rfl ?_
  have hR := hI.R
  have i1 := hI.i1
  have hz : 0 ≤ S 28 0 ∧ S 28 0 ≤ 60 := i1.2.2.1
  have hkS : nS S = (S 28 0).toNat := rfl
  have hkI : nIm S = (S 27 0).toNat := rfl
  have hkO : nOr S = (S 26 0).toNat := rfl
  refine aw_aload_n dX10_fastest_0 rfl ?_
  refine aw_getf fg_X10_26 dX10_fastest_1 (hc0 hnx) rfl ?_
  refine aw_iload_n dX10_fastest_4 rfl ?_
  refine aw_callV (As := [_]) (ρ := (_, 0, 0)) (kn' := (0, 0)) cv_X10_191 dX10_fastest_5 rfl rfl (hc9 hnx) rfl rfl (Nat.le_of_ble_eq_true rfl) (rmR _ _ _) ⟨Nat.le_refl _, Nat.le_refl _⟩ rfl (c_X7_hasOrigin hnx hR (by omega) (fun r5 h5 => ?_))
  rcases h5 with ⟨rfl, h5⟩ | ⟨rfl, h5⟩
  · skip
    refine aw_if_ne (tgt := 13) dX10_fastest_8 rfl (by decide) (fun _ => ?_) (fun c => absurd c (by decide))
    refine aw_bipush dX10_fastest_13 rfl ?_
    refine aw_istore_n (ls' := [some (rf Γ 0), some _, some _, none, none, none, none, none, none, none, none, none]) dX10_fastest_15 (by decide) rfl ?_
    refine aw_lconst0 dX10_fastest_16 ?_
    refine aw_lstore_n (ls' := [some (rf Γ 0), some _, some _, some _, none, none, none, none, none, none, none, none]) dX10_fastest_17 (by decide) rfl ?_
    refine aw_lconst1 dX10_fastest_18 ?_
    refine aw_lstore (ls' := [some (rf Γ 0), some _, some _, some _, none, some _, none, none, none, none, none, none]) dX10_fastest_19 (by decide) rfl ?_
    refine aw_iconst dX10_fastest_21 ?_
    refine aw_istore (ls' := [some (rf Γ 0), some _, some _, some _, none, some _, none, some _, none, none, none, none]) dX10_fastest_22 (by decide) rfl ?_
    refine loopN (nIm S) (P := fun k => ∀ (x : Int) (y : Int) (z : Int) , x = faW S j k → y = (if faW S j k < 0 then 0 else ofN S 13 (faW S j k) j (nS S)) → z = (if faW S j k < 0 then 1 else ofN S 9 (faW S j k) j (nS S)) →  AW Γ MX10_fastest _ _ (0, 0) 24 [some (rf Γ 0), some (vi j), some (vi x), some (vl y), none, some (vl z), none, some (vi (k : Int)), none, none, none, none] [] (hp Γ S T U V G) nx) (fun k hk ih => ?_) 0 (Nat.zero_le _) _ _ _ rfl rfl rfl
    intro x y z i24_0 i24_1 i24_2
    refine aw_iload dX10_fastest_24 rfl ?_
    refine aw_aload_n dX10_fastest_26 rfl ?_
    refine aw_getf fg_X10_26 dX10_fastest_27 (hc0 hnx) rfl ?_
    refine aw_getf fg_X10_81 dX10_fastest_30 (hc9 hnx) rfl ?_
    refine aw_getf fg_X10_281 dX10_fastest_33 (hc10 hnx) rfl ?_
    refine aw_icmp_ge (tgt := 111) dX10_fastest_36 rfl (by omega) (fun c36 => ?_) (fun c36 => ?_)
    · skip
      obtain rfl : k = nIm S := by omega
      refine aw_iload_n dX10_fastest_111 rfl ?_
      exact aw_ireturn dX10_fastest_112 rfl rfl ⟨Nat.le_refl _, Nat.le_refl _⟩ (hQ _ (by unfold aFastest; rw [if_pos (by simp only [isO]; omega)]; exact i24_0))
    · skip
      refine aw_aload_n dX10_fastest_39 rfl ?_
      refine aw_getf fg_X10_26 dX10_fastest_40 (hc0 hnx) rfl ?_
      refine aw_getf fg_X10_106 dX10_fastest_43 (hc9 hnx) rfl ?_
      refine aw_iload dX10_fastest_46 rfl ?_
      refine aw_iload_n dX10_fastest_48 rfl ?_
      refine aw_callV (As := [_, _]) (ρ := (_, 0, 0)) (kn' := (0, 0)) cv_X10_304 dX10_fastest_49 rfl rfl (hc14 hnx) rfl rfl (Nat.le_of_ble_eq_true rfl) (rmR _ _ _) ⟨Nat.le_refl _, Nat.le_refl _⟩ rfl (c_X1_usedBy hnx hR (by omega) hz (fun r49 h49 => ?_))
      have o1 := hI.ofN k j
      refine aw_i2l dX10_fastest_52 (by omega) ?_
      refine aw_nmL (fun x8_53 hx8_53 => ?_)
      refine aw_lstore (ls' := [some (rf Γ 0), some _, some _, some _, none, some _, none, some _, some _, none, none, none]) dX10_fastest_53 (by decide) rfl ?_
      refine aw_aload_n dX10_fastest_55 rfl ?_
      refine aw_getf fg_X10_26 dX10_fastest_56 (hc0 hnx) rfl ?_
      refine aw_getf fg_X10_106 dX10_fastest_59 (hc9 hnx) rfl ?_
      refine aw_iload dX10_fastest_62 rfl ?_
      refine aw_iload_n dX10_fastest_64 rfl ?_
      refine aw_callV (As := [_, _]) (ρ := (_, 0, 0)) (kn' := (0, 0)) cv_X10_307 dX10_fastest_65 rfl rfl (hc14 hnx) rfl rfl (Nat.le_of_ble_eq_true rfl) (rmR _ _ _) ⟨Nat.le_refl _, Nat.le_refl _⟩ rfl (c_X1_waitedBy hnx hR (by omega) hz (fun r65 h65 => ?_))
      refine aw_i2l dX10_fastest_68 (by omega) ?_
      refine aw_nmL (fun x10_69 hx10_69 => ?_)
      refine aw_lstore (ls' := [some (rf Γ 0), some _, some _, some _, none, some _, none, some _, some _, none, some _, none]) dX10_fastest_69 (by decide) rfl ?_
      have o2 := hI.ofN (faW S j k) j
      have o3 := faW_in S j k
      refine aw_lload dX10_fastest_71 rfl ?_
      refine aw_lconst0 dX10_fastest_73 ?_
      refine aw_lif_le (tgt := 105) dX10_fastest_74 dX10_fastest_75 rfl (by omega) (fun c74 => ?_) (fun c74 => ?_)
      · skip
        refine aw_iinc (ls' := [some (rf Γ 0), some _, some _, some _, none, some _, none, some _, some _, none, some _, none]) dX10_fastest_105 rfl (by decide) rfl ?_
        refine aw_goto (tgt := 24) dX10_fastest_108 rfl ?_
        refine aw_fg [true, true, true, true, true, true, true, true, false, true, false, true] (ls' := [some (rf Γ 0), some _, some _, some _, none, some _, none, some _, none, none, none, none]) rfl ?_
        exact ih (by omega) x y z  (by simp only [faW]; split <;> omega) (by rw [faW]; split <;> first | (rw [if_neg (by omega)]; omega) | exact i24_1 | omega) (by rw [faW]; split <;> first | (rw [if_neg (by omega)]; omega) | exact i24_2 | omega)
      · skip
        refine aw_iload_n dX10_fastest_78 rfl ?_
        refine aw_if_lt (tgt := 95) dX10_fastest_79 rfl (by omega) (fun c79 => ?_) (fun c79 => ?_)
        · skip
          refine aw_iload dX10_fastest_95 rfl ?_
          refine aw_istore_n (ls' := [some (rf Γ 0), some _, some _, some _, none, some _, none, some _, some _, none, some _, none]) dX10_fastest_97 (by decide) rfl ?_
          refine aw_lload dX10_fastest_98 rfl ?_
          refine aw_lstore_n (ls' := [some (rf Γ 0), some _, some _, some _, none, some _, none, some _, some _, none, some _, none]) dX10_fastest_100 (by decide) rfl ?_
          refine aw_lload dX10_fastest_101 rfl ?_
          refine aw_lstore (ls' := [some (rf Γ 0), some _, some _, some _, none, some _, none, some _, some _, none, some _, none]) dX10_fastest_103 (by decide) rfl ?_
          refine aw_iinc (ls' := [some (rf Γ 0), some _, some _, some _, none, some _, none, some _, some _, none, some _, none]) dX10_fastest_105 rfl (by decide) rfl ?_
          refine aw_goto (tgt := 24) dX10_fastest_108 rfl ?_
          refine aw_fg [true, true, true, true, true, true, true, true, false, true, false, true] (ls' := [some (rf Γ 0), some _, some _, some _, none, some _, none, some _, none, none, none, none]) rfl ?_
          exact ih (by omega) (k : Int) x10_69 x8_53  (by simp only [faW]; split <;> omega) (by rw [faW]; split <;> first | (rw [if_neg (by omega)]; omega) | exact i24_1 | omega) (by rw [faW]; split <;> first | (rw [if_neg (by omega)]; omega) | exact i24_2 | omega)
        · skip
          refine aw_lload dX10_fastest_82 rfl ?_
          refine aw_lload dX10_fastest_84 rfl ?_
          refine aw_lmul dX10_fastest_86 ?_
          refine aw_lload_n dX10_fastest_87 rfl ?_
          refine aw_lload dX10_fastest_88 rfl ?_
          refine aw_lmul dX10_fastest_90 ?_
          have e1 : x10_69 * z = ofN S 13 k j (nS S) * ofN S 9 (faW S j k) j (nS S) := by rw [hx10_69, h65, i24_2, if_neg (by omega)]
          have e2 : y * x8_53 = ofN S 13 (faW S j k) j (nS S) * ofN S 9 k j (nS S) := by rw [hx8_53, h49, i24_1, if_neg (by omega)]
          have m1 := mul_rg o1.2 o2.1
          have m2 := mul_rg o2.2 o1.1
          refine aw_lif_ge (tgt := 105) dX10_fastest_91 dX10_fastest_92 rfl (by omega) (fun c91 => ?_) (fun c91 => ?_)
          · skip
            refine aw_iinc (ls' := [some (rf Γ 0), some _, some _, some _, none, some _, none, some _, some _, none, some _, none]) dX10_fastest_105 rfl (by decide) rfl ?_
            refine aw_goto (tgt := 24) dX10_fastest_108 rfl ?_
            refine aw_fg [true, true, true, true, true, true, true, true, false, true, false, true] (ls' := [some (rf Γ 0), some _, some _, some _, none, some _, none, some _, none, none, none, none]) rfl ?_
            exact ih (by omega) x y z  (by simp only [faW]; split <;> omega) (by rw [faW]; split <;> first | (rw [if_neg (by omega)]; omega) | exact i24_1 | omega) (by rw [faW]; split <;> first | (rw [if_neg (by omega)]; omega) | exact i24_2 | omega)
          · skip
            refine aw_iload dX10_fastest_95 rfl ?_
            refine aw_istore_n (ls' := [some (rf Γ 0), some _, some _, some _, none, some _, none, some _, some _, none, some _, none]) dX10_fastest_97 (by decide) rfl ?_
            refine aw_lload dX10_fastest_98 rfl ?_
            refine aw_lstore_n (ls' := [some (rf Γ 0), some _, some _, some _, none, some _, none, some _, some _, none, some _, none]) dX10_fastest_100 (by decide) rfl ?_
            refine aw_lload dX10_fastest_101 rfl ?_
            refine aw_lstore (ls' := [some (rf Γ 0), some _, some _, some _, none, some _, none, some _, some _, none, some _, none]) dX10_fastest_103 (by decide) rfl ?_
            refine aw_iinc (ls' := [some (rf Γ 0), some _, some _, some _, none, some _, none, some _, some _, none, some _, none]) dX10_fastest_105 rfl (by decide) rfl ?_
            refine aw_goto (tgt := 24) dX10_fastest_108 rfl ?_
            refine aw_fg [true, true, true, true, true, true, true, true, false, true, false, true] (ls' := [some (rf Γ 0), some _, some _, some _, none, some _, none, some _, none, none, none, none]) rfl ?_
            exact ih (by omega) (k : Int) x10_69 x8_53  (by simp only [faW]; split <;> omega) (by rw [faW]; split <;> first | (rw [if_neg (by omega)]; omega) | exact i24_1 | omega) (by rw [faW]; split <;> first | (rw [if_neg (by omega)]; omega) | exact i24_2 | omega)
  · skip
    refine aw_if_ne (tgt := 13) dX10_fastest_8 rfl (by decide) (fun c => absurd c (by decide)) (fun _ => ?_)
    refine aw_iconst dX10_fastest_11 ?_
    exact aw_ireturn dX10_fastest_12 rfl rfl ⟨Nat.le_refl _, Nat.le_refl _⟩ (hQ _ (by unfold aFastest; rw [if_neg (by simp only [isO]; omega)]))

set_option maxHeartbeats 1000000 in
theorem c_X10_rush {Γ : GT} {S T U V : St} {G : Gw} {nx d : Nat} {Q : QT} (hnx : 52 ≤ nx) {i j n : Int} {c : Int} (hI : Inv c S) (hi : inI i) (hj : inI j) (hn : inI n) (hQ : ∀ r, r = aRush S i j n → Q (some (vi r)) (hp Γ S T U V G) nx) : AM Γ MX10_rush (d + 4, 0, 0) [rf Γ 0, vi i, vi j, vi n] (hp Γ S T U V G) nx Q := by
  refine am_of (by decide) (Nat.le_of_ble_eq_true rfl) (ls := [some (rf Γ 0), some _, some _, some _, none, none, none, none]) rfl ?_
  have hR := hI.R
  have i1 := hI.i1
  have hz : 0 ≤ S 28 0 ∧ S 28 0 ≤ 60 := i1.2.2.1
  have hkS : nS S = (S 28 0).toNat := rfl
  have hkI : nIm S = (S 27 0).toNat := rfl
  have hkO : nOr S = (S 26 0).toNat := rfl
  refine aw_aload_n dX10_rush_0 rfl ?_
  refine aw_getf fg_X10_26 dX10_rush_1 (hc0 hnx) rfl ?_
  refine aw_iload_n dX10_rush_4 rfl ?_
  refine aw_iload_n dX10_rush_5 rfl ?_
  refine aw_callV (As := [_, _]) (ρ := (_, 0, 0)) (kn' := (0, 0)) cv_X10_87 dX10_rush_6 rfl rfl (hc9 hnx) rfl rfl (Nat.le_of_ble_eq_true rfl) (rmR _ _ _) ⟨Nat.le_refl _, Nat.le_refl _⟩ rfl (c_X7_hasPair hnx hR (by omega) (fun r6 h6 => ?_))
  rcases h6 with ⟨rfl, h6⟩ | ⟨rfl, h6⟩
  · skip
    refine aw_if_eq (tgt := 19) dX10_rush_9 rfl (by decide) (fun c => absurd c (by decide)) (fun _ => ?_)
    refine aw_iload_n dX10_rush_12 rfl ?_
    refine aw_callS (As := [_]) (ρ := (_, 0, 0)) (kn' := (0, 0)) cs_X10_91 dX10_rush_13 rfl rfl (Nat.le_of_ble_eq_true rfl) (rmR _ _ _) ⟨Nat.le_refl _, Nat.le_refl _⟩ rfl (c_X10_isAmount hnx (by omega) (fun r13 h13 => ?_))
    rcases h13 with ⟨rfl, h13⟩ | ⟨rfl, h13⟩
    · skip
      refine aw_if_ne (tgt := 21) dX10_rush_16 rfl (by decide) (fun _ => ?_) (fun c => absurd c (by decide))
      refine aw_aload_n dX10_rush_21 rfl ?_
      refine aw_getf fg_X10_26 dX10_rush_22 (hc0 hnx) rfl ?_
      refine aw_getf fg_X10_156 dX10_rush_25 (hc9 hnx) rfl ?_
      refine aw_iload_n dX10_rush_28 rfl ?_
      refine aw_iconst dX10_rush_29 ?_
      refine aw_callV (As := [_, _]) (ρ := (_, 0, 0)) (kn' := (0, 0)) cv_X10_217 dX10_rush_30 rfl rfl (hc25 hnx) rfl rfl (Nat.le_of_ble_eq_true rfl) (rmR _ _ _) ⟨Nat.le_refl _, Nat.le_refl _⟩ rfl (c_X3_figure hnx hR (by omega) (fun r30 h30 => ?_))
      subst h30
      have f3 := hR 14 (by decide) (j * 8 + 3)
      refine aw_istore (ls' := [some (rf Γ 0), some _, some _, some _, some _, none, none, none]) dX10_rush_33 (by decide) rfl ?_
      refine aw_aload_n dX10_rush_35 rfl ?_
      refine aw_getf fg_X10_26 dX10_rush_36 (hc0 hnx) rfl ?_
      refine aw_getf fg_X10_106 dX10_rush_39 (hc9 hnx) rfl ?_
      refine aw_getf fg_X10_139 dX10_rush_42 (hc14 hnx) rfl ?_
      refine aw_nmI (fun x5_45 hx5_45 => ?_)
      refine aw_istore (ls' := [some (rf Γ 0), some _, some _, some _, some _, some _, none, none]) dX10_rush_45 (by decide) rfl ?_
      subst hx5_45
      refine aw_iconst dX10_rush_47 ?_
      refine aw_istore (ls' := [some (rf Γ 0), some _, some _, some _, some _, some _, some _, none]) dX10_rush_48 (by decide) rfl ?_
      refine aw_iconst dX10_rush_50 ?_
      refine aw_istore (ls' := [some (rf Γ 0), some _, some _, some _, some _, some _, some _, some _]) dX10_rush_51 (by decide) rfl ?_
      refine loopN (i.toNat + 1) (P := fun k => ∀ (x : Int) (y : Int) (g : Int) , x = (rsh S j n k).1 → y = (rsh S j n k).2.1 → g = (rsh S j n k).2.2 →  AW Γ MX10_rush _ _ (0, 0) 53 [some (rf Γ 0), some (vi i), some (vi j), some (vi n), some (vi x), some (vi y), some (vi g), some (vi (k : Int))] [] (hp Γ S T U V G) nx) (fun k hk ih => ?_) 0 (Nat.zero_le _) _ _ _ rfl rfl rfl
      intro x y g i53_0 i53_1 i53_2
      refine aw_iload dX10_rush_53 rfl ?_
      refine aw_iload_n dX10_rush_55 rfl ?_
      refine aw_icmp_gt (tgt := 124) dX10_rush_56 rfl (by omega) (fun c56 => ?_) (fun c56 => ?_)
      · skip
        obtain rfl : k = i.toNat + 1 := by omega
        refine aw_iload dX10_rush_124 rfl ?_
        exact aw_ireturn dX10_rush_126 rfl rfl ⟨Nat.le_refl _, Nat.le_refl _⟩ (hQ _ (by unfold aRush; rw [if_pos (by simp only [isI, isO, isN]; omega)]; exact i53_2))
      · skip
        have b := hI.rsh (o := j) (n := n) (by omega) (by omega) k (by omega)
        have b3 := offer_in S k j n (rsh S j n k).1 (rsh S j n k).2.1 (by omega) (hI.pr (i := (k : Int)) (o := j) (by omega) (by omega)).2.2.1
        refine aw_iconst dX10_rush_59 ?_
        refine aw_aload_n dX10_rush_60 rfl ?_
        refine aw_getf fg_X10_26 dX10_rush_61 (hc0 hnx) rfl ?_
        refine aw_iload dX10_rush_64 rfl ?_
        refine aw_iload_n dX10_rush_66 rfl ?_
        refine aw_iload_n dX10_rush_67 rfl ?_
        refine aw_iload dX10_rush_68 rfl ?_
        refine aw_iload dX10_rush_70 rfl ?_
        refine aw_callV (As := [_, _, _, _, _]) (ρ := (_, 0, 0)) (kn' := (0, 0)) cv_X10_353 dX10_rush_72 rfl rfl (hc9 hnx) rfl rfl (Nat.le_of_ble_eq_true rfl) (rmR _ _ _) ⟨Nat.le_refl _, Nat.le_refl _⟩ rfl (c_X7_offerOf hnx hI (by omega) (by omega) (by omega) (fun r72 h72 => ?_))
        rw [i53_0, i53_1] at h72
        refine aw_mmax qm_X10_326 dX10_rush_75 (by omega) (rmN13 _ _ _ (Nat.le_of_ble_eq_true rfl)) ⟨Nat.le_refl _, Nat.le_refl _⟩ (fun r75 h75 => ?_)
        refine aw_istore (ls' := [some (rf Γ 0), some _, some _, some _, some _, some _, some _, some _]) dX10_rush_78 (by decide) rfl ?_
        refine aw_iload dX10_rush_80 rfl ?_
        refine aw_if_le (tgt := 118) dX10_rush_82 rfl (by omega) (fun c82 => ?_) (fun c82 => ?_)
        · skip
          refine aw_iinc (ls' := [some (rf Γ 0), some _, some _, some _, some _, some _, some _, some _]) dX10_rush_118 rfl (by decide) rfl ?_
          refine aw_goto (tgt := 53) dX10_rush_121 rfl ?_
          exact ih (by omega) x y r75  (by simp only [rsh]; split <;> omega) (by simp only [rsh]; split <;> omega) (by simp only [rsh]; omega)
        · skip
          refine aw_iinc (ls' := [some (rf Γ 0), some _, some _, some _, some _, some _, some _, some _]) dX10_rush_85 rfl (by decide) rfl ?_
          refine aw_iload dX10_rush_88 rfl ?_
          refine aw_aload_n dX10_rush_90 rfl ?_
          refine aw_getf fg_X10_26 dX10_rush_91 (hc0 hnx) rfl ?_
          refine aw_getf fg_X10_156 dX10_rush_94 (hc9 hnx) rfl ?_
          refine aw_iload dX10_rush_97 rfl ?_
          refine aw_iload_n dX10_rush_99 rfl ?_
          refine aw_callS (As := [_, _]) (ρ := (_, 0, 0)) (kn' := (0, 0)) cs_X10_160 dX10_rush_100 rfl rfl (Nat.le_of_ble_eq_true rfl) (rmR _ _ _) ⟨Nat.le_refl _, Nat.le_refl _⟩ rfl (c_X10_pairOf hnx  (fun r100 h100 => ?_))
          subst h100
          refine aw_callV (As := [_]) (ρ := (_, 0, 0)) (kn' := (0, 0)) cv_X10_163 dX10_rush_103 rfl rfl (hc25 hnx) rfl rfl (Nat.le_of_ble_eq_true rfl) (rmR _ _ _) ⟨Nat.le_refl _, Nat.le_refl _⟩ rfl (c_X3_isTraditional hnx hR (by omega) (fun r103 h103 => ?_))
          rcases h103 with ⟨rfl, h103⟩ | ⟨rfl, h103⟩
          · skip
            refine aw_if_eq (tgt := 113) dX10_rush_106 rfl (by decide) (fun c => absurd c (by decide)) (fun _ => ?_)
            refine aw_iconst dX10_rush_109 ?_
            refine aw_goto (tgt := 115) dX10_rush_110 rfl ?_
            refine aw_isub dX10_rush_115 ?_
            refine aw_nmI (fun x4_116 hx4_116 => ?_)
            refine aw_istore (ls' := [some (rf Γ 0), some _, some _, some _, some _, some _, some _, some _]) dX10_rush_116 (by decide) rfl ?_
            refine aw_iinc (ls' := [some (rf Γ 0), some _, some _, some _, some _, some _, some _, some _]) dX10_rush_118 rfl (by decide) rfl ?_
            refine aw_goto (tgt := 53) dX10_rush_121 rfl ?_
            exact ih (by omega) x4_116 _ r75  (by simp only [rsh]; split <;> omega) (by simp only [rsh]; split <;> omega) (by simp only [rsh]; omega)
          · skip
            refine aw_if_eq (tgt := 113) dX10_rush_106 rfl (by decide) (fun _ => ?_) (fun c => absurd c (by decide))
            refine aw_iload dX10_rush_113 rfl ?_
            refine aw_isub dX10_rush_115 ?_
            refine aw_nmI (fun x4_116 hx4_116 => ?_)
            refine aw_istore (ls' := [some (rf Γ 0), some _, some _, some _, some _, some _, some _, some _]) dX10_rush_116 (by decide) rfl ?_
            refine aw_iinc (ls' := [some (rf Γ 0), some _, some _, some _, some _, some _, some _, some _]) dX10_rush_118 rfl (by decide) rfl ?_
            refine aw_goto (tgt := 53) dX10_rush_121 rfl ?_
            exact ih (by omega) x4_116 _ r75  (by simp only [rsh]; split <;> omega) (by simp only [rsh]; split <;> omega) (by simp only [rsh]; omega)
    · skip
      refine aw_if_ne (tgt := 21) dX10_rush_16 rfl (by decide) (fun c => absurd c (by decide)) (fun _ => ?_)
      refine aw_iconst dX10_rush_19 ?_
      exact aw_ireturn dX10_rush_20 rfl rfl ⟨Nat.le_refl _, Nat.le_refl _⟩ (hQ _ (by unfold aRush; rw [if_neg (by simp only [isI, isO, isN]; omega)]))
  · skip
    refine aw_if_eq (tgt := 19) dX10_rush_9 rfl (by decide) (fun _ => ?_) (fun c => absurd c (by decide))
    refine aw_iconst dX10_rush_19 ?_
    exact aw_ireturn dX10_rush_20 rfl rfl ⟨Nat.le_refl _, Nat.le_refl _⟩ (hQ _ (by unfold aRush; rw [if_neg (by simp only [isI, isO, isN]; omega)]))

def aCount (S U : St) (w : Int) : Int := if w = 0 then S 26 0 else if w = 1 then S 27 0 else if w = 2 then S 28 0 else if w = 3 then openN S (nS S) else if w = 4 then S 25 0 else if w = 5 then U 17 0 else if w = 6 then U 10 0 else if w = 7 then (if U 4 0 < 0 then 0 else 1) + (if U 4 1 < 0 then 0 else 2) else if w = 8 then U 19 0 else -1

set_option maxHeartbeats 1000000 in
theorem c_X10_count {Γ : GT} {S T U V : St} {G : Gw} {nx d : Nat} {Q : QT} (hnx : 52 ≤ nx) {w : Int} {c : Int} (hI : Inv c S) (hw : inI w) (hQ : ∀ r, r = aCount S U w → Q (some (vi r)) (hp Γ S T U V G) nx) : AM Γ MX10_count (d + 2, 0, 0) [rf Γ 0, vi w] (hp Γ S T U V G) nx Q := by
  refine am_of (by decide) (Nat.le_of_ble_eq_true rfl) (ls := [some (rf Γ 0), some _]) rfl ?_
  have hR := hI.R
  have i1 := hI.i1
  have hz : 0 ≤ S 28 0 ∧ S 28 0 ≤ 60 := i1.2.2.1
  have hkS : nS S = (S 28 0).toNat := rfl
  have hkI : nIm S = (S 27 0).toNat := rfl
  have hkO : nOr S = (S 26 0).toNat := rfl
  refine aw_iload_n dX10_count_0 rfl ?_
  by_cases cs1 : 0 ≤ w ∧ w ≤ 8
  · obtain cc1 := (show w = 0 ∨ w = 1 ∨ w = 2 ∨ w = 3 ∨ w = 4 ∨ w = 5 ∨ w = 6 ∨ w = 7 ∨ w = 8 by omega)
    rcases cc1 with cc1 | cc1 | cc1 | cc1 | cc1 | cc1 | cc1 | cc1 | cc1
    · refine aw_tableIn (tgt := 52) dX10_count_1 (by omega) (by omega) (by omega) (by rw [cc1]; rfl) rfl ?_
      refine aw_aload_n dX10_count_52 rfl ?_
      refine aw_getf fg_X10_26 dX10_count_53 (hc0 hnx) rfl ?_
      refine aw_getf fg_X10_81 dX10_count_56 (hc9 hnx) rfl ?_
      refine aw_getf fg_X10_82 dX10_count_59 (hc10 hnx) rfl ?_
      exact aw_ireturn dX10_count_62 rfl rfl ⟨Nat.le_refl _, Nat.le_refl _⟩ (hQ _ (by simp only [aCount]; (repeat' split) <;> omega))
    · refine aw_tableIn (tgt := 63) dX10_count_1 (by omega) (by omega) (by omega) (by rw [cc1]; rfl) rfl ?_
      refine aw_aload_n dX10_count_63 rfl ?_
      refine aw_getf fg_X10_26 dX10_count_64 (hc0 hnx) rfl ?_
      refine aw_getf fg_X10_81 dX10_count_67 (hc9 hnx) rfl ?_
      refine aw_getf fg_X10_281 dX10_count_70 (hc10 hnx) rfl ?_
      exact aw_ireturn dX10_count_73 rfl rfl ⟨Nat.le_refl _, Nat.le_refl _⟩ (hQ _ (by simp only [aCount]; (repeat' split) <;> omega))
    · refine aw_tableIn (tgt := 74) dX10_count_1 (by omega) (by omega) (by omega) (by rw [cc1]; rfl) rfl ?_
      refine aw_aload_n dX10_count_74 rfl ?_
      refine aw_getf fg_X10_26 dX10_count_75 (hc0 hnx) rfl ?_
      refine aw_getf fg_X10_106 dX10_count_78 (hc9 hnx) rfl ?_
      refine aw_getf fg_X10_139 dX10_count_81 (hc14 hnx) rfl ?_
      exact aw_ireturn dX10_count_84 rfl rfl ⟨Nat.le_refl _, Nat.le_refl _⟩ (hQ _ (by simp only [aCount]; (repeat' split) <;> omega))
    · refine aw_tableIn (tgt := 85) dX10_count_1 (by omega) (by omega) (by omega) (by rw [cc1]; rfl) rfl ?_
      refine aw_aload_n dX10_count_85 rfl ?_
      refine aw_getf fg_X10_26 dX10_count_86 (hc0 hnx) rfl ?_
      refine aw_getf fg_X10_106 dX10_count_89 (hc9 hnx) rfl ?_
      refine aw_callV (As := []) (ρ := (_, 0, 0)) (kn' := (0, 0)) cv_X10_275 dX10_count_92 rfl rfl (hc14 hnx) rfl rfl (Nat.le_of_ble_eq_true rfl) (rmR _ _ _) ⟨Nat.le_refl _, Nat.le_refl _⟩ rfl (c_X1_openOnes hnx hR hz (fun r92 h92 => ?_))
      exact aw_ireturn dX10_count_95 rfl rfl ⟨Nat.le_refl _, Nat.le_refl _⟩ (hQ _ (by simp only [aCount]; (repeat' split) <;> omega))
    · refine aw_tableIn (tgt := 96) dX10_count_1 (by omega) (by omega) (by omega) (by rw [cc1]; rfl) rfl ?_
      refine aw_aload_n dX10_count_96 rfl ?_
      refine aw_getf fg_X10_26 dX10_count_97 (hc0 hnx) rfl ?_
      refine aw_getf fg_X10_142 dX10_count_100 (hc9 hnx) rfl ?_
      exact aw_ireturn dX10_count_103 rfl rfl ⟨Nat.le_refl _, Nat.le_refl _⟩ (hQ _ (by simp only [aCount]; (repeat' split) <;> omega))
    · refine aw_tableIn (tgt := 104) dX10_count_1 (by omega) (by omega) (by omega) (by rw [cc1]; rfl) rfl ?_
      refine aw_aload_n dX10_count_104 rfl ?_
      refine aw_getf fg_X10_33 dX10_count_105 (hc0 hnx) rfl ?_
      refine aw_getf fg_X10_393 dX10_count_108 (hc38 hnx) rfl ?_
      exact aw_ireturn dX10_count_111 rfl rfl ⟨Nat.le_refl _, Nat.le_refl _⟩ (hQ _ (by simp only [aCount]; (repeat' split) <;> omega))
    · refine aw_tableIn (tgt := 112) dX10_count_1 (by omega) (by omega) (by omega) (by rw [cc1]; rfl) rfl ?_
      refine aw_aload_n dX10_count_112 rfl ?_
      refine aw_getf fg_X10_10 dX10_count_113 (hc0 hnx) rfl ?_
      refine aw_getf fg_X10_48 dX10_count_116 (hc1 hnx) rfl ?_
      refine aw_getf fg_X10_66 dX10_count_119 (hc2 hnx) rfl ?_
      exact aw_ireturn dX10_count_122 rfl rfl ⟨Nat.le_refl _, Nat.le_refl _⟩ (hQ _ (by simp only [aCount]; (repeat' split) <;> omega))
    · refine aw_tableIn (tgt := 123) dX10_count_1 (by omega) (by omega) (by omega) (by rw [cc1]; rfl) rfl ?_
      refine aw_aload_n dX10_count_123 rfl ?_
      refine aw_getf fg_X10_37 dX10_count_124 (hc0 hnx) rfl ?_
      refine aw_iconst dX10_count_127 ?_
      by_cases ca128 : U 4 0 < 0
      · refine aw_aaldN dX10_count_128 (hc40 hnx) (by omega) (by decide) ca128 ?_
        refine aw_ifnonnullN dX10_count_129 ?_
        refine aw_iconst dX10_count_132 ?_
        refine aw_goto (tgt := 137) dX10_count_133 rfl ?_
        refine aw_aload_n dX10_count_137 rfl ?_
        refine aw_getf fg_X10_37 dX10_count_138 (hc0 hnx) rfl ?_
        refine aw_iconst dX10_count_141 ?_
        by_cases ca142 : U 4 1 < 0
        · refine aw_aaldN dX10_count_142 (hc40 hnx) (by omega) (by decide) ca142 ?_
          refine aw_ifnonnullN dX10_count_143 ?_
          refine aw_iconst dX10_count_146 ?_
          refine aw_goto (tgt := 151) dX10_count_147 rfl ?_
          refine aw_iadd dX10_count_151 ?_
          exact aw_ireturn dX10_count_152 rfl rfl ⟨Nat.le_refl _, Nat.le_refl _⟩ (hQ _ (by simp only [aCount]; (repeat' split) <;> omega))
        · refine aw_aaldR dX10_count_142 (hc40 hnx) (by omega) (by decide) (by omega) ?_
          refine aw_ifnonnull (tgt := 150) dX10_count_143 rfl ?_
          refine aw_iconst dX10_count_150 ?_
          refine aw_iadd dX10_count_151 ?_
          exact aw_ireturn dX10_count_152 rfl rfl ⟨Nat.le_refl _, Nat.le_refl _⟩ (hQ _ (by simp only [aCount]; (repeat' split) <;> omega))
      · refine aw_aaldR dX10_count_128 (hc40 hnx) (by omega) (by decide) (by omega) ?_
        refine aw_ifnonnull (tgt := 136) dX10_count_129 rfl ?_
        refine aw_iconst dX10_count_136 ?_
        refine aw_aload_n dX10_count_137 rfl ?_
        refine aw_getf fg_X10_37 dX10_count_138 (hc0 hnx) rfl ?_
        refine aw_iconst dX10_count_141 ?_
        by_cases ca142 : U 4 1 < 0
        · refine aw_aaldN dX10_count_142 (hc40 hnx) (by omega) (by decide) ca142 ?_
          refine aw_ifnonnullN dX10_count_143 ?_
          refine aw_iconst dX10_count_146 ?_
          refine aw_goto (tgt := 151) dX10_count_147 rfl ?_
          refine aw_iadd dX10_count_151 ?_
          exact aw_ireturn dX10_count_152 rfl rfl ⟨Nat.le_refl _, Nat.le_refl _⟩ (hQ _ (by simp only [aCount]; (repeat' split) <;> omega))
        · refine aw_aaldR dX10_count_142 (hc40 hnx) (by omega) (by decide) (by omega) ?_
          refine aw_ifnonnull (tgt := 150) dX10_count_143 rfl ?_
          refine aw_iconst dX10_count_150 ?_
          refine aw_iadd dX10_count_151 ?_
          exact aw_ireturn dX10_count_152 rfl rfl ⟨Nat.le_refl _, Nat.le_refl _⟩ (hQ _ (by simp only [aCount]; (repeat' split) <;> omega))
    · refine aw_tableIn (tgt := 153) dX10_count_1 (by omega) (by omega) (by omega) (by rw [cc1]; rfl) rfl ?_
      refine aw_aload_n dX10_count_153 rfl ?_
      refine aw_getf fg_X10_44 dX10_count_154 (hc0 hnx) rfl ?_
      refine aw_getf fg_X10_396 dX10_count_157 (hc41 hnx) rfl ?_
      exact aw_ireturn dX10_count_160 rfl rfl ⟨Nat.le_refl _, Nat.le_refl _⟩ (hQ _ (by simp only [aCount]; (repeat' split) <;> omega))
  · refine aw_tableOut (tgt := 161) dX10_count_1 (by omega) (by omega) rfl ?_
    refine aw_iconst dX10_count_161 ?_
    exact aw_ireturn dX10_count_162 rfl rfl ⟨Nat.le_refl _, Nat.le_refl _⟩ (hQ _ (by simp only [aCount]; (repeat' split) <;> omega))


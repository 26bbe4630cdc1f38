/-! what the answers are: sums and choices over a state S -/
def sm (f : Int → Int) : Nat → Int
  | 0 => 0
  | n + 1 => sm f n + f n
theorem sm_congr {f g : Int → Int} : ∀ (n : Nat), (∀ k : Nat, k < n → f k = g k) → sm f n = sm g n
  | 0, _ => rfl
  | n + 1, h => by rw [sm, sm, sm_congr n (fun k hk => h k (by omega)), h n (by omega)]
theorem sm_nonneg {f : Int → Int} : ∀ (n : Nat), (∀ k : Nat, k < n → 0 ≤ f k) → 0 ≤ sm f n
  | 0, _ => by simp [sm]
  | n + 1, h => by have h1 := sm_nonneg n (fun k hk => h k (by omega)); have h2 := h n (by omega); rw [sm]; omega
theorem sm_le {f g : Int → Int} : ∀ (n : Nat), (∀ k : Nat, k < n → f k ≤ g k) → sm f n ≤ sm g n
  | 0, _ => by simp [sm]
  | n + 1, h => by have h1 := sm_le n (fun k hk => h k (by omega)); have h2 := h n (by omega); rw [sm, sm]; omega
theorem sm_mono {f : Int → Int} {m : Nat} : ∀ (n : Nat), m ≤ n → (∀ k : Nat, k < n → 0 ≤ f k) → sm f m ≤ sm f n
  | 0, h, _ => by have : m = 0 := by omega
                  subst this; exact Int.le_refl _
  | n + 1, h, hf => by
    by_cases e : m = n + 1
    · subst e; exact Int.le_refl _
    · have h1 := sm_mono (m := m) n (by omega) (fun k hk => hf k (by omega)); have h2 := hf n (by omega); rw [sm]; omega
theorem sm_c {f : Int → Int} {c : Int} : ∀ (n : Nat), (∀ k : Nat, k < n → f k ≤ c) → sm f n ≤ n * c
  | 0, _ => by simp [sm]
  | n + 1, h => by
    have h1 := sm_c n (fun k hk => h k (by omega)); have h2 := h n (by omega)
    have e : ((n + 1 : Nat) : Int) * c = n * c + c := by rw [Int.natCast_add, Int.add_mul]; simp
    rw [sm, e]; omega
theorem sm_add (f g : Int → Int) : ∀ n : Nat, sm (fun l => f l + g l) n = sm f n + sm g n
  | 0 => rfl
  | n + 1 => by rw [sm, sm, sm, sm_add f g n]; omega
/-- what is left of a licence -/
def rem (S : St) (l : Int) : Int := if S 10 l = 0 then S 6 l - S 9 l else 0
def nS (S : St) : Nat := (S 28 0).toNat
def openN (S : St) (n : Nat) : Int := sm (fun l => if S 10 l = 0 then 1 else 0) n
/-- ahead of licence l by last days, then by numbers -/
def aheadN (S : St) (l : Int) (n : Nat) : Int := sm (fun j => if S 10 j = 0 ∧ (S 8 j < S 8 l ∨ S 8 j = S 8 l ∧ j < l) then 1 else 0) n
/-- the one that ended last -/
def endL (S : St) (i o : Int) : Nat → Int
  | 0 => -1
  | n + 1 => if ¬ S 10 n = 0 ∧ (S 4 n = i ∧ S 5 n = o) ∧ (endL S i o n = -1 ∨ S 11 (endL S i o n) ≤ S 11 n) then n else endL S i o n
theorem endL_in (S : St) (i o : Int) : ∀ n : Nat, -1 ≤ endL S i o n ∧ endL S i o n < n
  | 0 => by simp [endL]
  | n + 1 => by have := endL_in S i o n; rw [endL]; split <;> omega
def allN (S : St) (i : Int) (n : Nat) : Int := sm (fun l => if ¬ S 10 l = 0 ∧ S 4 l = i then S 6 l else 0) n
def takN (S : St) (i : Int) (n : Nat) : Int := sm (fun l => if ¬ S 10 l = 0 ∧ S 4 l = i then S 9 l else 0) n
def ofN (S : St) (f : Nat) (i o : Int) (n : Nat) : Int := sm (fun l => if S 4 l = i ∧ S 5 l = o then S f l else 0) n
def openI (S : St) (i : Int) (n : Nat) : Int := sm (fun l => if S 10 l = 0 ∧ S 4 l = i then 1 else 0) n
def remI (S : St) (i : Int) (n : Nat) : Int := sm (fun l => if S 4 l = i then rem S l else 0) n
def earI (S : St) (i : Int) : Nat → Int
  | 0 => -2
  | n + 1 => if (S 10 n = 0 ∧ S 4 n = i) ∧ (earI S i n < 0 ∨ S 8 n < earI S i n) then S 8 n else earI S i n
def lonI (S : St) (i d : Int) : Nat → Int
  | 0 => -2
  | n + 1 => if S 10 n = 0 ∧ S 4 n = i then max (lonI S i d n) (d - S 7 n + 1) else lonI S i d n

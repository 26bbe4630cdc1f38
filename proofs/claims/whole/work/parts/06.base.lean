/-! numbers: an Int32, an Int64 by a whole number -/
def I (a : Int) : Int32 := Int32.ofInt a
def L (a : Int) : Int64 := Int64.ofInt a
abbrev inI (a : Int) : Prop := -2147483648 ≤ a ∧ a < 2147483648
abbrev inL (a : Int) : Prop := -9223372036854775808 ≤ a ∧ a < 9223372036854775808
abbrev vi (a : Int) : Value := .int (I a)
abbrev vl (a : Int) : Value := .long (L a)
theorem I_toInt {a : Int} (h : inI a) : (I a).toInt = a := by
  unfold I inI at *
  rw [Int32.toInt_ofInt, show (Int32.size : Nat) = 4294967296 from rfl]
  exact Int.bmod_eq_of_le (by omega) (by omega)
theorem L_toInt {a : Int} (h : inL a) : (L a).toInt = a := by
  unfold L inL at *
  rw [Int64.toInt_ofInt, show (Int64.size : Nat) = 18446744073709551616 from rfl]
  exact Int.bmod_eq_of_le (by omega) (by omega)
theorem I_of (x : Int32) : I x.toInt = x := by
  unfold I
  exact Int32.ofInt_toInt x
theorem L_of (x : Int64) : L x.toInt = x := by
  unfold L
  exact Int64.ofInt_toInt x
theorem inI_of (x : Int32) : inI x.toInt := ⟨Int32.le_toInt x, Int32.toInt_lt x⟩
theorem inL_of (x : Int64) : inL x.toInt := ⟨Int64.le_toInt x, Int64.toInt_lt x⟩
theorem I_add (a b : Int) : I a + I b = I (a + b) := (Int32.ofInt_add a b).symm
theorem I_sub (a b : Int) : I a - I b = I (a - b) := (Int32.ofInt_sub a b).symm
theorem I_mul (a b : Int) : I a * I b = I (a * b) := (Int32.ofInt_mul a b).symm
theorem I_neg (a : Int) : - I a = I (-a) := (Int32.ofInt_neg a).symm
theorem L_add (a b : Int) : L a + L b = L (a + b) := (Int64.ofInt_add a b).symm
theorem L_sub (a b : Int) : L a - L b = L (a - b) := (Int64.ofInt_sub a b).symm
theorem L_mul (a b : Int) : L a * L b = L (a * b) := (Int64.ofInt_mul a b).symm
theorem L_neg (a : Int) : - L a = L (-a) := (Int64.ofInt_neg a).symm
theorem I_lt {a b : Int} (ha : inI a) (hb : inI b) : I a < I b ↔ a < b := by rw [Int32.lt_iff_toInt_lt, I_toInt ha, I_toInt hb]
theorem I_le {a b : Int} (ha : inI a) (hb : inI b) : I a ≤ I b ↔ a ≤ b := by rw [Int32.le_iff_toInt_le, I_toInt ha, I_toInt hb]
theorem I_eq {a b : Int} (ha : inI a) (hb : inI b) : I a = I b ↔ a = b := ⟨fun h => by rw [← I_toInt ha, ← I_toInt hb, h], fun h => by rw [h]⟩
theorem L_lt {a b : Int} (ha : inL a) (hb : inL b) : L a < L b ↔ a < b := by rw [Int64.lt_iff_toInt_lt, L_toInt ha, L_toInt hb]
theorem L_le {a b : Int} (ha : inL a) (hb : inL b) : L a ≤ L b ↔ a ≤ b := by rw [Int64.le_iff_toInt_le, L_toInt ha, L_toInt hb]
theorem L_eq {a b : Int} (ha : inL a) (hb : inL b) : L a = L b ↔ a = b := ⟨fun h => by rw [← L_toInt ha, ← L_toInt hb, h], fun h => by rw [h]⟩
theorem I_0 : I 0 = 0 := rfl
theorem I_ofi (n : Int) : Int32.ofInt n = I n := rfl
theorem I_l {a : Int} (h : inI a) : (I a).toInt64 = L a := by
  have h1 : ((I a).toInt64).toInt = a := by rw [Int32.toInt_toInt64, I_toInt h]
  rw [← L_of (I a).toInt64, h1]
theorem L_i (a : Int) : (L a).toInt32 = I a := Int64.toInt32_ofInt
theorem I_clamp {a : Int} (h0 : 0 ≤ a) (h : inI a) : (I a).toNatClampNeg = a.toNat := by
  show (I a).toInt.toNat = a.toNat
  rw [I_toInt h]
theorem I_in {a : Int} {n : Nat} (h0 : 0 ≤ a) (h1 : a < n) (hn : n < 2147483648) : vp_in (I a) n := by
  rw [vp_in_iff, I_toInt ⟨by omega, by omega⟩]
  exact ⟨h0, h1⟩
theorem I_div {a b : Int} (ha : inI a) (h0 : 0 ≤ a) (hb0 : 0 < b) (hb : inI b) : I a / I b = I (a / b) := by
  have h1 : 0 ≤ a / b := Int.ediv_nonneg h0 (by omega)
  have h2 : a / b ≤ a := Int.ediv_le_self b h0
  have hr : inI (a / b) := ⟨by omega, by have := ha.2; omega⟩
  have e : (I a / I b).toInt = a / b := by
    rw [Int32.toInt_div, I_toInt ha, I_toInt hb, Int.tdiv_eq_ediv_of_nonneg h0]
    exact Int.bmod_eq_of_le (by have := hr.1; omega) (by have := hr.2; omega)
  rw [← I_of (I a / I b), e]
theorem I_rem {a b : Int} (ha : inI a) (h0 : 0 ≤ a) (hb0 : 0 < b) (hb : inI b) : I a - I a / I b * I b = I (a % b) := by
  rw [I_div ha h0 hb0 hb, I_mul, I_sub, Int.mul_comm, ← Int.emod_def]
theorem L_div {a b : Int} (ha : inL a) (h0 : 0 ≤ a) (hb0 : 0 < b) (hb : inL b) : L a / L b = L (a / b) := by
  have h1 : 0 ≤ a / b := Int.ediv_nonneg h0 (by omega)
  have h2 : a / b ≤ a := Int.ediv_le_self b h0
  have hr : inL (a / b) := ⟨by omega, by have := ha.2; omega⟩
  have e : (L a / L b).toInt = a / b := by
    rw [Int64.toInt_div, L_toInt ha, L_toInt hb, Int.tdiv_eq_ediv_of_nonneg h0]
    exact Int.bmod_eq_of_le (by have := hr.1; omega) (by have := hr.2; omega)
  rw [← L_of (L a / L b), e]
theorem L_rem {a b : Int} (ha : inL a) (h0 : 0 ≤ a) (hb0 : 0 < b) (hb : inL b) : L a - L a / L b * L b = L (a % b) := by
  rw [L_div ha h0 hb0 hb, L_mul, L_sub, Int.mul_comm, ← Int.emod_def]
theorem I_ne0 {b : Int} (hb0 : 0 < b) (hb : inI b) : ¬ I b = 0 := by
  rw [← I_0, I_eq hb ⟨by omega, by omega⟩]; omega
theorem L_ne0 {b : Int} (hb0 : 0 < b) (hb : inL b) : ¬ L b = 0 := by
  rw [show (0 : Int64) = L 0 from rfl, L_eq hb ⟨by omega, by omega⟩]; omega
/-- a row of numbers, at one place -/
def uz (a : Int → Int) (i v : Int) : Int → Int := fun j => if j = i then v else a j
theorem uz_s (a : Int → Int) (i v : Int) : uz a i v i = v := by simp [uz]
theorem uz_n (a : Int → Int) {i j : Int} (v : Int) (h : j ≠ i) : uz a i v j = a j := by simp [uz, h]
/-! cells: arrays (0 int, 1 long, 2 byte, 3 boolean, 4 double, 5 of State) and objects, by places from a base on -/
abbrev AC : Type := (Nat × vp_A) ⊕ (Nat × List Value)
abbrev GT : Type := Launch × Nat × va_G × (Nat → ClassId) × (Nat → Nat) × (Nat → Nat) × (Nat → Nat)
abbrev gL (Γ : GT) : Launch := Γ.1
abbrev gB (Γ : GT) : Nat := Γ.2.1
abbrev gD (Γ : GT) : va_G := Γ.2.2.1
abbrev gA (Γ : GT) : Nat → ClassId := Γ.2.2.2.1
abbrev gK (Γ : GT) : Nat → Nat := Γ.2.2.2.2.1
abbrev gV (Γ : GT) : Nat → Nat := Γ.2.2.2.2.2.1
abbrev gS (Γ : GT) : Nat → Nat := Γ.2.2.2.2.2.2
abbrev rf (Γ : GT) (k : Nat) : Value := .ref (gB Γ + k)
def ai (n : Nat) (a : Int → Int) : AC := .inl (0, n, .inl (fun j => I (a j)))
def al (n : Nat) (a : Int → Int) : AC := .inl (1, n, .inr (.inl (fun j => L (a j))))
def ab (n : Nat) (a : Int → Int) : AC := .inl (2, n, .inl (fun j => I (a j)))
def az (n : Nat) (a : Int → Int) : AC := .inl (3, n, .inl (fun j => I (a j)))
def ad (n : Nat) (a : Int → Int) : AC := .inl (4, n, .inr (.inr (.inr (.inl (fun j => (L (a j)).toUInt64)))))
def aq (Γ : GT) (n : Nat) (a : Int → Int) : AC := .inl (5, n, .inr (.inr (.inr (.inr (fun j => if a j < 0 then none else some (gB Γ + (a j).toNat))))))
def ob (ci : Nat) (fs : List Value) : AC := .inr (ci, fs)
def ce (Γ : GT) (c : AC) : va_E := match c with
  | .inl q => .inl (gA Γ q.1, q.2)
  | .inr o => .inr o
def gty (Γ : GT) : List (ClassId × FieldType) := [(gA Γ 0, .int), (gA Γ 1, .long), (gA Γ 2, .byte), (gA Γ 3, .boolean), (gA Γ 4, .double), (gA Γ 5, .object "QuotaLicences$State")]
def Hp (Γ : GT) (h : Nat → AC) (nx : Nat) (H : Heap) : Prop := H.size = gB Γ + nx ∧ ∀ k, k < nx → va_at (gD Γ) vwCl (gB Γ + k, ce Γ (h k)) H
/-- the addresses that may be written -/
abbrev gF (Γ : GT) : Nat → Prop := fun q => gB Γ ≤ q
theorem Hp.P {Γ : GT} {h : Nat → AC} {nx : Nat} {H : Heap} (hp : Hp Γ h nx H) {k : Nat} (hk : k < nx) {c : AC} (e : h k = c) : va_P (gD Γ) vwCl [(gB Γ + k, ce Γ c)] H := by
  intro i q hq
  have hi : i < 1 := (List.getElem?_eq_some_iff.mp hq).1
  rw [show i = 0 by omega] at hq
  cases hq
  rw [← e]
  exact hp.2 k hk
theorem Hp.up {Γ : GT} {h : Nat → AC} {nx : Nat} {H H1 : Heap} (hp : Hp Γ h nx H) {k : Nat} {c : AC} (z : H1.size = H.size) (o : ∀ q : Nat, q ≠ gB Γ + k → H1[q]? = H[q]?) (hc : va_at (gD Γ) vwCl (gB Γ + k, ce Γ c) H1) : Hp Γ (va_up h k c) nx H1 := by
  refine ⟨by rw [z]; exact hp.1, fun j hj => ?_⟩
  by_cases e : j = k
  · subst e
    simp only [va_up, if_true]
    exact hc
  · simp only [va_up, if_neg e]
    exact (hp.2 j hj).kept (o _ (by show gB Γ + j ≠ gB Γ + k; omega))
theorem Hp.cg {Γ : GT} {h h' : Nat → AC} {nx : Nat} {H : Heap} (hp : Hp Γ h nx H) (e : ∀ k, k < nx → h' k = h k) : Hp Γ h' nx H := ⟨hp.1, fun k hk => by rw [e k hk]; exact hp.2 k hk⟩

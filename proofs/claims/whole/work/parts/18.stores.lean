/-! stores into a slot, with the range of its numbers -/
def u1 (S : St) (f : Nat) (i v : Int) : St := sset S f (uz (S f) i v)
theorem u1_at (S : St) (f : Nat) (i v : Int) (f' : Nat) (i' : Int) : u1 S f i v f' i' = if f' = f ∧ i' = i then v else S f' i' := by
  unfold u1 sset uz
  by_cases h : f' = f
  · subst h; by_cases h2 : i' = i <;> simp [h2]
  · simp [h]
def u0 (S : St) (f : Nat) (v : Int) : St := sset S f (kf v)
theorem u0_at (S : St) (f : Nat) (v : Int) (f' : Nat) (i' : Int) : u0 S f v f' i' = if f' = f then v else S f' i' := by
  unfold u0 sset kf
  by_cases h : f' = f <;> simp [h]
theorem Rg.u1 {S : St} (hR : Rg S) {f : Nat} {i v : Int} (hv : inI v) : Rg (Jvm.Pilot.@@N@@.u1 S f i v) := by
  intro f' hf' i'
  rw [u1_at]
  split
  · exact hv
  · exact hR f' hf' i'
theorem Rg.u0 {S : St} (hR : Rg S) {f : Nat} {v : Int} (hv : inI v) : Rg (Jvm.Pilot.@@N@@.u0 S f v) := by
  intro f' hf' i'
  rw [u0_at]
  split
  · exact hv
  · exact hR f' hf' i'
def RgL (V : St) : Prop := ∀ f : Nat, ∀ i : Int, inL (V f i)
theorem RgL.u1 {S : St} (hR : RgL S) {f : Nat} {i v : Int} (hv : inL v) : RgL (Jvm.Pilot.@@N@@.u1 S f i v) := by
  intro f' i'
  rw [u1_at]
  split
  · exact hv
  · exact hR f' i'
theorem RgL.u0 {S : St} (hR : RgL S) {f : Nat} {v : Int} (hv : inL v) : RgL (Jvm.Pilot.@@N@@.u0 S f v) := by
  intro f' i'
  rw [u0_at]
  split
  · exact hv
  · exact hR f' i'
section AWT
variable {Γ : GT} {M : MD} {R : Room} {Φ : PH} {kn : Nat × Nat} {pc : Nat} {ls : List (Option Value)} {st : List Value} {nx : Nat} {S T U V : St} {G : Gw}
theorem aw_iastS {n o f : Nat} {i x : Int} (hd : decode M.2.1 pc = .ok (.iastore, 1)) (he : hat (hp Γ S T U V G) nx o (ai n (S f))) (hi : 0 ≤ i ∧ i < (n : Int)) (hn : n < 2147483648) (hR : Rg S) (hx : inI x) (hh : ∀ a, va_up (hp Γ S T U V G) o (ai n a) = hp Γ (sset S f a) T U V G) (kk : Rg (u1 S f i x) → AW Γ M R Φ kn (pc + 1) ls st (hp Γ (u1 S f i x) T U V G) nx) : AW Γ M R Φ kn pc ls (vi x :: vi i :: rf Γ o :: st) (hp Γ S T U V G) nx :=
  aw_iast hd he hi hn (hh _) (kk (hR.u1 hx))
theorem aw_iastT {n o f : Nat} {i x : Int} (hd : decode M.2.1 pc = .ok (.iastore, 1)) (he : hat (hp Γ S T U V G) nx o (ai n (T f))) (hi : 0 ≤ i ∧ i < (n : Int)) (hn : n < 2147483648) (hR : Rg T) (hx : inI x) (hh : ∀ a, va_up (hp Γ S T U V G) o (ai n a) = hp Γ S (sset T f a) U V G) (kk : Rg (u1 T f i x) → AW Γ M R Φ kn (pc + 1) ls st (hp Γ S (u1 T f i x) U V G) nx) : AW Γ M R Φ kn pc ls (vi x :: vi i :: rf Γ o :: st) (hp Γ S T U V G) nx :=
  aw_iast hd he hi hn (hh _) (kk (hR.u1 hx))
theorem aw_lastV {n o f : Nat} {i x : Int} (hd : decode M.2.1 pc = .ok (.lastore, 1)) (he : hat (hp Γ S T U V G) nx o (al n (V f))) (hi : 0 ≤ i ∧ i < (n : Int)) (hn : n < 2147483648) (hL : RgL V) (hx : inL x) (hh : ∀ a, va_up (hp Γ S T U V G) o (al n a) = hp Γ S T U (sset V f a) G) (kk : RgL (u1 V f i x) → AW Γ M R Φ kn (pc + 1) ls st (hp Γ S T U (u1 V f i x) G) nx) : AW Γ M R Φ kn pc ls (vl x :: vi i :: rf Γ o :: st) (hp Γ S T U V G) nx :=
  aw_last hd he hi hn (hh _) (kk (hL.u1 hx))
theorem aw_lastU {n o f : Nat} {i x : Int} (hd : decode M.2.1 pc = .ok (.lastore, 1)) (he : hat (hp Γ S T U V G) nx o (al n (U f))) (hi : 0 ≤ i ∧ i < (n : Int)) (hn : n < 2147483648) (hh : ∀ a, va_up (hp Γ S T U V G) o (al n a) = hp Γ S T (sset U f a) V G) (kk : AW Γ M R Φ kn (pc + 1) ls st (hp Γ S T (u1 U f i x) V G) nx) : AW Γ M R Φ kn pc ls (vl x :: vi i :: rf Γ o :: st) (hp Γ S T U V G) nx :=
  aw_last hd he hi hn (hh _) kk
theorem aw_bastU {n o f : Nat} {i x : Int} (hd : decode M.2.1 pc = .ok (.bastore, 1)) (he : hat (hp Γ S T U V G) nx o (ab n (U f))) (hi : 0 ≤ i ∧ i < (n : Int)) (hn : n < 2147483648) (hx : narrow .byte (vi x) = vi x) (hh : ∀ a, va_up (hp Γ S T U V G) o (ab n a) = hp Γ S T (sset U f a) V G) (kk : AW Γ M R Φ kn (pc + 1) ls st (hp Γ S T (u1 U f i x) V G) nx) : AW Γ M R Φ kn pc ls (vi x :: vi i :: rf Γ o :: st) (hp Γ S T U V G) nx :=
  aw_bast hd he hi hn hx (hh _) kk
theorem aw_bastV {n o f : Nat} {i x : Int} (hd : decode M.2.1 pc = .ok (.bastore, 1)) (he : hat (hp Γ S T U V G) nx o (ab n (V f))) (hi : 0 ≤ i ∧ i < (n : Int)) (hn : n < 2147483648) (hL : RgL V) (hl : inL x) (hx : narrow .byte (vi x) = vi x) (hh : ∀ a, va_up (hp Γ S T U V G) o (ab n a) = hp Γ S T U (sset V f a) G) (kk : RgL (u1 V f i x) → AW Γ M R Φ kn (pc + 1) ls st (hp Γ S T U (u1 V f i x) G) nx) : AW Γ M R Φ kn pc ls (vi x :: vi i :: rf Γ o :: st) (hp Γ S T U V G) nx :=
  aw_bast hd he hi hn hx (hh _) (kk (hL.u1 hl))
theorem aw_zastV {n o f : Nat} {i x : Int} (hd : decode M.2.1 pc = .ok (.bastore, 1)) (he : hat (hp Γ S T U V G) nx o (az n (V f))) (hi : 0 ≤ i ∧ i < (n : Int)) (hn : n < 2147483648) (hL : RgL V) (hl : inL x) (hx : narrow .boolean (vi x) = vi x) (hh : ∀ a, va_up (hp Γ S T U V G) o (az n a) = hp Γ S T U (sset V f a) G) (kk : RgL (u1 V f i x) → AW Γ M R Φ kn (pc + 1) ls st (hp Γ S T U (u1 V f i x) G) nx) : AW Γ M R Φ kn pc ls (vi x :: vi i :: rf Γ o :: st) (hp Γ S T U V G) nx :=
  aw_zast hd he hi hn hx (hh _) (kk (hL.u1 hl))
theorem aw_putS {j ci k o f : Nat} {fs : List Value} {x : Int} (F : FP0 M.1.cls j ci k false .int) (hd : decode M.2.1 pc = .ok (.putfield j, 3)) (he : hat (hp Γ S T U V G) nx o (ob ci fs)) (hl : k < fs.length) (hR : Rg S) (hx : inI x) (hh : va_up (hp Γ S T U V G) o (ob ci (fs.set k (vi x))) = hp Γ (sset S f (kf x)) T U V G) (kk : Rg (u0 S f x) → AW Γ M R Φ kn (pc + 3) ls st (hp Γ (u0 S f x) T U V G) nx) : AW Γ M R Φ kn pc ls (vi x :: rf Γ o :: st) (hp Γ S T U V G) nx :=
  aw_putf F hd he hl hh (kk (hR.u0 hx))
theorem aw_putT {j ci k o f : Nat} {fs : List Value} {x : Int} (F : FP0 M.1.cls j ci k false .int) (hd : decode M.2.1 pc = .ok (.putfield j, 3)) (he : hat (hp Γ S T U V G) nx o (ob ci fs)) (hl : k < fs.length) (hR : Rg T) (hx : inI x) (hh : va_up (hp Γ S T U V G) o (ob ci (fs.set k (vi x))) = hp Γ S (sset T f (kf x)) U V G) (kk : Rg (u0 T f x) → AW Γ M R Φ kn (pc + 3) ls st (hp Γ S (u0 T f x) U V G) nx) : AW Γ M R Φ kn pc ls (vi x :: rf Γ o :: st) (hp Γ S T U V G) nx :=
  aw_putf F hd he hl hh (kk (hR.u0 hx))
theorem aw_putU {j ci k o f : Nat} {fs : List Value} {x : Int} (F : FP0 M.1.cls j ci k false .int) (hd : decode M.2.1 pc = .ok (.putfield j, 3)) (he : hat (hp Γ S T U V G) nx o (ob ci fs)) (hl : k < fs.length) (hh : va_up (hp Γ S T U V G) o (ob ci (fs.set k (vi x))) = hp Γ S T (sset U f (kf x)) V G) (kk : AW Γ M R Φ kn (pc + 3) ls st (hp Γ S T (u0 U f x) V G) nx) : AW Γ M R Φ kn pc ls (vi x :: rf Γ o :: st) (hp Γ S T U V G) nx :=
  aw_putf F hd he hl hh kk
theorem aw_putV {j ci k o f : Nat} {fs : List Value} {x : Int} (F : FP0 M.1.cls j ci k false .int) (hd : decode M.2.1 pc = .ok (.putfield j, 3)) (he : hat (hp Γ S T U V G) nx o (ob ci fs)) (hl : k < fs.length) (hL : RgL V) (hx : inL x) (hh : va_up (hp Γ S T U V G) o (ob ci (fs.set k (vi x))) = hp Γ S T U (sset V f (kf x)) G) (kk : RgL (u0 V f x) → AW Γ M R Φ kn (pc + 3) ls st (hp Γ S T U (u0 V f x) G) nx) : AW Γ M R Φ kn pc ls (vi x :: rf Γ o :: st) (hp Γ S T U V G) nx :=
  aw_putf F hd he hl hh (kk (hL.u0 hx))
/-- the numbers written otherwise -/
theorem aw_hp {S' T' U' V' : St} {G' : Gw} (e1 : S' = S) (e2 : T' = T) (e3 : U' = U) (e4 : V' = V) (e5 : G' = G) (k : AW Γ M R Φ kn pc ls st (hp Γ S' T' U' V' G') nx) : AW Γ M R Φ kn pc ls st (hp Γ S T U V G) nx := by
  subst e1; subst e2; subst e3; subst e4; subst e5; exact k
end AWT

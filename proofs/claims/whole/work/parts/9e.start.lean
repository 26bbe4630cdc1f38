/-! the law's start: what the tables and the premises give -/
theorem nar {b : Nat} {s : State} (h : (Jvm.Cond.and given_1 narrow_1).before #[Value.ref b] s = true) {c : Cond} (i : Nat) (e : (flatC (Jvm.Cond.and given_1 narrow_1))[i]? = some c) : c.before #[Value.ref b] s = true := flat_of_before _ h c (List.mem_of_getElem? e)

theorem str_0 {b : Nat} {s : State} {A : Nat → Prop} (hgv : (Jvm.Cond.and given_1 narrow_1).before #[Value.ref b] s = true) (hts : ∀ w ∈ lw_tbl, w.before #[Value.ref b] s = true) (hA : ∀ a : Nat, a < s.heap.size → ¬ A a) : ∃ q : Nat × Nat, vk_R "QuotaLicences$Reader" 64 "scheme" q.1 s ∧ vk_S 1 [(sB 0).length] [(sB 0).map I] (fun _ => q.1) (fun _ => q.2) A s s.heap := by
  have e1 : (sB 0).length = 6 := by decide +kernel
  have e2 : (sB 0).map I = ([115, 99, 104, 101, 109, 101] : List Int32) := by decide +kernel
  rw [e1, e2]
  obtain ⟨adK, adV, h1, h2⟩ := vk_Sof (args := #[Value.ref b]) (s := s) (N := 1) (tm := fun _ => (Term.string "QuotaLicences$Reader" (64 : Nat))) (len := [6]) (byt := [([115, 99, 104, 101, 109, 101] : List Int32)]) (A := A) (fun i hi => by
      obtain rfl : i = 0 := by omega
      decide) (fun i hi => (nar hgv 35 (by decide +kernel))) (fun i hi => (nar hgv 36 (by decide +kernel))) (fun i hi => (nar hgv 37 (by decide +kernel))) (fun i hi => by
      obtain rfl : i = 0 := by omega
      exact (nar hgv 38 (by decide +kernel))) (fun i hi j hj => by
      obtain rfl : i = 0 := by omega
      have hj2 : j < 6 := hj
      match j, hj2 with
      | 0, _ => exact (nar hgv 39 (by decide +kernel))
      | 1, _ => exact (nar hgv 40 (by decide +kernel))
      | 2, _ => exact (nar hgv 41 (by decide +kernel))
      | 3, _ => exact (nar hgv 42 (by decide +kernel))
      | 4, _ => exact (nar hgv 43 (by decide +kernel))
      | 5, _ => exact (nar hgv 44 (by decide +kernel))
      | j + 6, h => exact absurd h (by omega)) (fun i j hi hj h => absurd (by omega) h) hA
  exact ⟨(adK 0, adV 0), vk_R.of (A := #[Value.ref b]) (hts _ (List.mem_append_right _ (in_t2 (List.mem_of_getElem? (i := 145) rfl)))) (h2 0 (by decide)), ⟨fun i hi => by
    obtain rfl : i = 0 := by omega
    exact h1.1 0 hi, fun i j hi hj _ => by omega⟩⟩

theorem str_1 {b : Nat} {s : State} {A : Nat → Prop} (hgv : (Jvm.Cond.and given_1 narrow_1).before #[Value.ref b] s = true) (hts : ∀ w ∈ lw_tbl, w.before #[Value.ref b] s = true) (hA : ∀ a : Nat, a < s.heap.size → ¬ A a) : ∃ q : Nat × Nat, vk_R "QuotaLicences$Reader" 87 "origin" q.1 s ∧ vk_S 1 [(sB 1).length] [(sB 1).map I] (fun _ => q.1) (fun _ => q.2) A s s.heap := by
  have e1 : (sB 1).length = 6 := by decide +kernel
  have e2 : (sB 1).map I = ([111, 114, 105, 103, 105, 110] : List Int32) := by decide +kernel
  rw [e1, e2]
  obtain ⟨adK, adV, h1, h2⟩ := vk_Sof (args := #[Value.ref b]) (s := s) (N := 1) (tm := fun _ => (Term.string "QuotaLicences$Reader" (87 : Nat))) (len := [6]) (byt := [([111, 114, 105, 103, 105, 110] : List Int32)]) (A := A) (fun i hi => by
      obtain rfl : i = 0 := by omega
      decide) (fun i hi => (nar hgv 45 (by decide +kernel))) (fun i hi => (nar hgv 46 (by decide +kernel))) (fun i hi => (nar hgv 47 (by decide +kernel))) (fun i hi => by
      obtain rfl : i = 0 := by omega
      exact (nar hgv 48 (by decide +kernel))) (fun i hi j hj => by
      obtain rfl : i = 0 := by omega
      have hj2 : j < 6 := hj
      match j, hj2 with
      | 0, _ => exact (nar hgv 49 (by decide +kernel))
      | 1, _ => exact (nar hgv 50 (by decide +kernel))
      | 2, _ => exact (nar hgv 51 (by decide +kernel))
      | 3, _ => exact (nar hgv 52 (by decide +kernel))
      | 4, _ => exact (nar hgv 53 (by decide +kernel))
      | 5, _ => exact (nar hgv 54 (by decide +kernel))
      | j + 6, h => exact absurd h (by omega)) (fun i j hi hj h => absurd (by omega) h) hA
  exact ⟨(adK 0, adV 0), vk_R.of (A := #[Value.ref b]) (hts _ (List.mem_append_right _ (in_t2 (List.mem_of_getElem? (i := 226) rfl)))) (h2 0 (by decide)), ⟨fun i hi => by
    obtain rfl : i = 0 := by omega
    exact h1.1 0 hi, fun i j hi hj _ => by omega⟩⟩

theorem str_2 {b : Nat} {s : State} {A : Nat → Prop} (hgv : (Jvm.Cond.and given_1 narrow_1).before #[Value.ref b] s = true) (hts : ∀ w ∈ lw_tbl, w.before #[Value.ref b] s = true) (hA : ∀ a : Nat, a < s.heap.size → ¬ A a) : ∃ q : Nat × Nat, vk_R "QuotaLicences$Reader" 93 "importer" q.1 s ∧ vk_S 1 [(sB 2).length] [(sB 2).map I] (fun _ => q.1) (fun _ => q.2) A s s.heap := by
  have e1 : (sB 2).length = 8 := by decide +kernel
  have e2 : (sB 2).map I = ([105, 109, 112, 111, 114, 116, 101, 114] : List Int32) := by decide +kernel
  rw [e1, e2]
  obtain ⟨adK, adV, h1, h2⟩ := vk_Sof (args := #[Value.ref b]) (s := s) (N := 1) (tm := fun _ => (Term.string "QuotaLicences$Reader" (93 : Nat))) (len := [8]) (byt := [([105, 109, 112, 111, 114, 116, 101, 114] : List Int32)]) (A := A) (fun i hi => by
      obtain rfl : i = 0 := by omega
      decide) (fun i hi => (nar hgv 56 (by decide +kernel))) (fun i hi => (nar hgv 57 (by decide +kernel))) (fun i hi => (nar hgv 58 (by decide +kernel))) (fun i hi => by
      obtain rfl : i = 0 := by omega
      exact (nar hgv 59 (by decide +kernel))) (fun i hi j hj => by
      obtain rfl : i = 0 := by omega
      have hj2 : j < 8 := hj
      match j, hj2 with
      | 0, _ => exact (nar hgv 60 (by decide +kernel))
      | 1, _ => exact (nar hgv 61 (by decide +kernel))
      | 2, _ => exact (nar hgv 62 (by decide +kernel))
      | 3, _ => exact (nar hgv 63 (by decide +kernel))
      | 4, _ => exact (nar hgv 64 (by decide +kernel))
      | 5, _ => exact (nar hgv 65 (by decide +kernel))
      | 6, _ => exact (nar hgv 66 (by decide +kernel))
      | 7, _ => exact (nar hgv 67 (by decide +kernel))
      | j + 8, h => exact absurd h (by omega)) (fun i j hi hj h => absurd (by omega) h) hA
  exact ⟨(adK 0, adV 0), vk_R.of (A := #[Value.ref b]) (hts _ (List.mem_append_right _ (in_t2 (List.mem_of_getElem? (i := 232) rfl)))) (h2 0 (by decide)), ⟨fun i hi => by
    obtain rfl : i = 0 := by omega
    exact h1.1 0 hi, fun i j hi hj _ => by omega⟩⟩

theorem str_3 {b : Nat} {s : State} {A : Nat → Prop} (hgv : (Jvm.Cond.and given_1 narrow_1).before #[Value.ref b] s = true) (hts : ∀ w ∈ lw_tbl, w.before #[Value.ref b] s = true) (hA : ∀ a : Nat, a < s.heap.size → ¬ A a) : ∃ q : Nat × Nat, vk_R "QuotaLicences$Reader" 98 "past" q.1 s ∧ vk_S 1 [(sB 3).length] [(sB 3).map I] (fun _ => q.1) (fun _ => q.2) A s s.heap := by
  have e1 : (sB 3).length = 4 := by decide +kernel
  have e2 : (sB 3).map I = ([112, 97, 115, 116] : List Int32) := by decide +kernel
  rw [e1, e2]
  obtain ⟨adK, adV, h1, h2⟩ := vk_Sof (args := #[Value.ref b]) (s := s) (N := 1) (tm := fun _ => (Term.string "QuotaLicences$Reader" (98 : Nat))) (len := [4]) (byt := [([112, 97, 115, 116] : List Int32)]) (A := A) (fun i hi => by
      obtain rfl : i = 0 := by omega
      decide) (fun i hi => (nar hgv 70 (by decide +kernel))) (fun i hi => (nar hgv 71 (by decide +kernel))) (fun i hi => (nar hgv 72 (by decide +kernel))) (fun i hi => by
      obtain rfl : i = 0 := by omega
      exact (nar hgv 73 (by decide +kernel))) (fun i hi j hj => by
      obtain rfl : i = 0 := by omega
      have hj2 : j < 4 := hj
      match j, hj2 with
      | 0, _ => exact (nar hgv 74 (by decide +kernel))
      | 1, _ => exact (nar hgv 75 (by decide +kernel))
      | 2, _ => exact (nar hgv 76 (by decide +kernel))
      | 3, _ => exact (nar hgv 77 (by decide +kernel))
      | j + 4, h => exact absurd h (by omega)) (fun i j hi hj h => absurd (by omega) h) hA
  exact ⟨(adK 0, adV 0), vk_R.of (A := #[Value.ref b]) (hts _ (List.mem_append_right _ (in_t2 (List.mem_of_getElem? (i := 237) rfl)))) (h2 0 (by decide)), ⟨fun i hi => by
    obtain rfl : i = 0 := by omega
    exact h1.1 0 hi, fun i j hi hj _ => by omega⟩⟩

theorem str_4 {b : Nat} {s : State} {A : Nat → Prop} (hgv : (Jvm.Cond.and given_1 narrow_1).before #[Value.ref b] s = true) (hts : ∀ w ∈ lw_tbl, w.before #[Value.ref b] s = true) (hA : ∀ a : Nat, a < s.heap.size → ¬ A a) : ∃ q : Nat × Nat, vk_R "QuotaLicences$Spelling" 26 "scheme" q.1 s ∧ vk_S 1 [(sB 4).length] [(sB 4).map I] (fun _ => q.1) (fun _ => q.2) A s s.heap := by
  have e1 : (sB 4).length = 6 := by decide +kernel
  have e2 : (sB 4).map I = ([115, 99, 104, 101, 109, 101] : List Int32) := by decide +kernel
  rw [e1, e2]
  obtain ⟨adK, adV, h1, h2⟩ := vk_Sof (args := #[Value.ref b]) (s := s) (N := 1) (tm := fun _ => (Term.string "QuotaLicences$Spelling" (26 : Nat))) (len := [6]) (byt := [([115, 99, 104, 101, 109, 101] : List Int32)]) (A := A) (fun i hi => by
      obtain rfl : i = 0 := by omega
      decide) (fun i hi => (nar hgv 81 (by decide +kernel))) (fun i hi => (nar hgv 82 (by decide +kernel))) (fun i hi => (nar hgv 83 (by decide +kernel))) (fun i hi => by
      obtain rfl : i = 0 := by omega
      exact (nar hgv 84 (by decide +kernel))) (fun i hi j hj => by
      obtain rfl : i = 0 := by omega
      have hj2 : j < 6 := hj
      match j, hj2 with
      | 0, _ => exact (nar hgv 85 (by decide +kernel))
      | 1, _ => exact (nar hgv 86 (by decide +kernel))
      | 2, _ => exact (nar hgv 87 (by decide +kernel))
      | 3, _ => exact (nar hgv 88 (by decide +kernel))
      | 4, _ => exact (nar hgv 89 (by decide +kernel))
      | 5, _ => exact (nar hgv 90 (by decide +kernel))
      | j + 6, h => exact absurd h (by omega)) (fun i j hi hj h => absurd (by omega) h) hA
  exact ⟨(adK 0, adV 0), vk_R.of (A := #[Value.ref b]) (hts _ (List.mem_append_right _ (in_t5 (List.mem_of_getElem? (i := 122) rfl)))) (h2 0 (by decide)), ⟨fun i hi => by
    obtain rfl : i = 0 := by omega
    exact h1.1 0 hi, fun i j hi hj _ => by omega⟩⟩

theorem str_5 {b : Nat} {s : State} {A : Nat → Prop} (hgv : (Jvm.Cond.and given_1 narrow_1).before #[Value.ref b] s = true) (hts : ∀ w ∈ lw_tbl, w.before #[Value.ref b] s = true) (hA : ∀ a : Nat, a < s.heap.size → ¬ A a) : ∃ q : Nat × Nat, vk_R "QuotaLicences$Spelling" 40 ";origin" q.1 s ∧ vk_S 1 [(sB 5).length] [(sB 5).map I] (fun _ => q.1) (fun _ => q.2) A s s.heap := by
  have e1 : (sB 5).length = 7 := by decide +kernel
  have e2 : (sB 5).map I = ([59, 111, 114, 105, 103, 105, 110] : List Int32) := by decide +kernel
  rw [e1, e2]
  obtain ⟨adK, adV, h1, h2⟩ := vk_Sof (args := #[Value.ref b]) (s := s) (N := 1) (tm := fun _ => (Term.string "QuotaLicences$Spelling" (40 : Nat))) (len := [7]) (byt := [([59, 111, 114, 105, 103, 105, 110] : List Int32)]) (A := A) (fun i hi => by
      obtain rfl : i = 0 := by omega
      decide) (fun i hi => (nar hgv 95 (by decide +kernel))) (fun i hi => (nar hgv 96 (by decide +kernel))) (fun i hi => (nar hgv 97 (by decide +kernel))) (fun i hi => by
      obtain rfl : i = 0 := by omega
      exact (nar hgv 98 (by decide +kernel))) (fun i hi j hj => by
      obtain rfl : i = 0 := by omega
      have hj2 : j < 7 := hj
      match j, hj2 with
      | 0, _ => exact (nar hgv 99 (by decide +kernel))
      | 1, _ => exact (nar hgv 100 (by decide +kernel))
      | 2, _ => exact (nar hgv 101 (by decide +kernel))
      | 3, _ => exact (nar hgv 102 (by decide +kernel))
      | 4, _ => exact (nar hgv 103 (by decide +kernel))
      | 5, _ => exact (nar hgv 104 (by decide +kernel))
      | 6, _ => exact (nar hgv 105 (by decide +kernel))
      | j + 7, h => exact absurd h (by omega)) (fun i j hi hj h => absurd (by omega) h) hA
  exact ⟨(adK 0, adV 0), vk_R.of (A := #[Value.ref b]) (hts _ (List.mem_append_right _ (in_t5 (List.mem_of_getElem? (i := 137) rfl)))) (h2 0 (by decide)), ⟨fun i hi => by
    obtain rfl : i = 0 := by omega
    exact h1.1 0 hi, fun i j hi hj _ => by omega⟩⟩

theorem str_6 {b : Nat} {s : State} {A : Nat → Prop} (hgv : (Jvm.Cond.and given_1 narrow_1).before #[Value.ref b] s = true) (hts : ∀ w ∈ lw_tbl, w.before #[Value.ref b] s = true) (hA : ∀ a : Nat, a < s.heap.size → ¬ A a) : ∃ q : Nat × Nat, vk_R "QuotaLicences$Spelling" 48 ";importer" q.1 s ∧ vk_S 1 [(sB 6).length] [(sB 6).map I] (fun _ => q.1) (fun _ => q.2) A s s.heap := by
  have e1 : (sB 6).length = 9 := by decide +kernel
  have e2 : (sB 6).map I = ([59, 105, 109, 112, 111, 114, 116, 101, 114] : List Int32) := by decide +kernel
  rw [e1, e2]
  obtain ⟨adK, adV, h1, h2⟩ := vk_Sof (args := #[Value.ref b]) (s := s) (N := 1) (tm := fun _ => (Term.string "QuotaLicences$Spelling" (48 : Nat))) (len := [9]) (byt := [([59, 105, 109, 112, 111, 114, 116, 101, 114] : List Int32)]) (A := A) (fun i hi => by
      obtain rfl : i = 0 := by omega
      decide) (fun i hi => (nar hgv 111 (by decide +kernel))) (fun i hi => (nar hgv 112 (by decide +kernel))) (fun i hi => (nar hgv 113 (by decide +kernel))) (fun i hi => by
      obtain rfl : i = 0 := by omega
      exact (nar hgv 114 (by decide +kernel))) (fun i hi j hj => by
      obtain rfl : i = 0 := by omega
      have hj2 : j < 9 := hj
      match j, hj2 with
      | 0, _ => exact (nar hgv 115 (by decide +kernel))
      | 1, _ => exact (nar hgv 116 (by decide +kernel))
      | 2, _ => exact (nar hgv 117 (by decide +kernel))
      | 3, _ => exact (nar hgv 118 (by decide +kernel))
      | 4, _ => exact (nar hgv 119 (by decide +kernel))
      | 5, _ => exact (nar hgv 120 (by decide +kernel))
      | 6, _ => exact (nar hgv 121 (by decide +kernel))
      | 7, _ => exact (nar hgv 122 (by decide +kernel))
      | 8, _ => exact (nar hgv 123 (by decide +kernel))
      | j + 9, h => exact absurd h (by omega)) (fun i j hi hj h => absurd (by omega) h) hA
  exact ⟨(adK 0, adV 0), vk_R.of (A := #[Value.ref b]) (hts _ (List.mem_append_right _ (in_t5 (List.mem_of_getElem? (i := 138) rfl)))) (h2 0 (by decide)), ⟨fun i hi => by
    obtain rfl : i = 0 := by omega
    exact h1.1 0 hi, fun i j hi hj _ => by omega⟩⟩

theorem str_7 {b : Nat} {s : State} {A : Nat → Prop} (hgv : (Jvm.Cond.and given_1 narrow_1).before #[Value.ref b] s = true) (hts : ∀ w ∈ lw_tbl, w.before #[Value.ref b] s = true) (hA : ∀ a : Nat, a < s.heap.size → ¬ A a) : ∃ q : Nat × Nat, vk_R "QuotaLicences$Spelling" 62 ";past" q.1 s ∧ vk_S 1 [(sB 7).length] [(sB 7).map I] (fun _ => q.1) (fun _ => q.2) A s s.heap := by
  have e1 : (sB 7).length = 5 := by decide +kernel
  have e2 : (sB 7).map I = ([59, 112, 97, 115, 116] : List Int32) := by decide +kernel
  rw [e1, e2]
  obtain ⟨adK, adV, h1, h2⟩ := vk_Sof (args := #[Value.ref b]) (s := s) (N := 1) (tm := fun _ => (Term.string "QuotaLicences$Spelling" (62 : Nat))) (len := [5]) (byt := [([59, 112, 97, 115, 116] : List Int32)]) (A := A) (fun i hi => by
      obtain rfl : i = 0 := by omega
      decide) (fun i hi => (nar hgv 130 (by decide +kernel))) (fun i hi => (nar hgv 131 (by decide +kernel))) (fun i hi => (nar hgv 132 (by decide +kernel))) (fun i hi => by
      obtain rfl : i = 0 := by omega
      exact (nar hgv 133 (by decide +kernel))) (fun i hi j hj => by
      obtain rfl : i = 0 := by omega
      have hj2 : j < 5 := hj
      match j, hj2 with
      | 0, _ => exact (nar hgv 134 (by decide +kernel))
      | 1, _ => exact (nar hgv 135 (by decide +kernel))
      | 2, _ => exact (nar hgv 136 (by decide +kernel))
      | 3, _ => exact (nar hgv 137 (by decide +kernel))
      | 4, _ => exact (nar hgv 138 (by decide +kernel))
      | j + 5, h => exact absurd h (by omega)) (fun i j hi hj h => absurd (by omega) h) hA
  exact ⟨(adK 0, adV 0), vk_R.of (A := #[Value.ref b]) (hts _ (List.mem_append_right _ (in_t5 (List.mem_of_getElem? (i := 145) rfl)))) (h2 0 (by decide)), ⟨fun i hi => by
    obtain rfl : i = 0 := by omega
    exact h1.1 0 hi, fun i j hi hj _ => by omega⟩⟩

theorem str_8 {b : Nat} {s : State} {A : Nat → Prop} (hgv : (Jvm.Cond.and given_1 narrow_1).before #[Value.ref b] s = true) (hts : ∀ w ∈ lw_tbl, w.before #[Value.ref b] s = true) (hA : ∀ a : Nat, a < s.heap.size → ¬ A a) : ∃ q : Nat × Nat, vk_R "QuotaLicencesModel" 142 "scheme" q.1 s ∧ vk_S 1 [(sB 8).length] [(sB 8).map I] (fun _ => q.1) (fun _ => q.2) A s s.heap := by
  have e1 : (sB 8).length = 6 := by decide +kernel
  have e2 : (sB 8).map I = ([115, 99, 104, 101, 109, 101] : List Int32) := by decide +kernel
  rw [e1, e2]
  obtain ⟨adK, adV, h1, h2⟩ := vk_Sof (args := #[Value.ref b]) (s := s) (N := 1) (tm := fun _ => (Term.string "QuotaLicencesModel" (142 : Nat))) (len := [6]) (byt := [([115, 99, 104, 101, 109, 101] : List Int32)]) (A := A) (fun i hi => by
      obtain rfl : i = 0 := by omega
      decide) (fun i hi => (nar hgv 146 (by decide +kernel))) (fun i hi => (nar hgv 147 (by decide +kernel))) (fun i hi => (nar hgv 148 (by decide +kernel))) (fun i hi => by
      obtain rfl : i = 0 := by omega
      exact (nar hgv 149 (by decide +kernel))) (fun i hi j hj => by
      obtain rfl : i = 0 := by omega
      have hj2 : j < 6 := hj
      match j, hj2 with
      | 0, _ => exact (nar hgv 150 (by decide +kernel))
      | 1, _ => exact (nar hgv 151 (by decide +kernel))
      | 2, _ => exact (nar hgv 152 (by decide +kernel))
      | 3, _ => exact (nar hgv 153 (by decide +kernel))
      | 4, _ => exact (nar hgv 154 (by decide +kernel))
      | 5, _ => exact (nar hgv 155 (by decide +kernel))
      | j + 6, h => exact absurd h (by omega)) (fun i j hi hj h => absurd (by omega) h) hA
  exact ⟨(adK 0, adV 0), vk_R.of (A := #[Value.ref b]) (hts _ (List.mem_append_right _ (in_t5 (List.mem_of_getElem? (i := 229) rfl)))) (h2 0 (by decide)), ⟨fun i hi => by
    obtain rfl : i = 0 := by omega
    exact h1.1 0 hi, fun i j hi hj _ => by omega⟩⟩

theorem str_9 {b : Nat} {s : State} {A : Nat → Prop} (hgv : (Jvm.Cond.and given_1 narrow_1).before #[Value.ref b] s = true) (hts : ∀ w ∈ lw_tbl, w.before #[Value.ref b] s = true) (hA : ∀ a : Nat, a < s.heap.size → ¬ A a) : ∃ q : Nat × Nat, vk_R "QuotaLicencesModel" 127 "origin" q.1 s ∧ vk_S 1 [(sB 9).length] [(sB 9).map I] (fun _ => q.1) (fun _ => q.2) A s s.heap := by
  have e1 : (sB 9).length = 6 := by decide +kernel
  have e2 : (sB 9).map I = ([111, 114, 105, 103, 105, 110] : List Int32) := by decide +kernel
  rw [e1, e2]
  obtain ⟨adK, adV, h1, h2⟩ := vk_Sof (args := #[Value.ref b]) (s := s) (N := 1) (tm := fun _ => (Term.string "QuotaLicencesModel" (127 : Nat))) (len := [6]) (byt := [([111, 114, 105, 103, 105, 110] : List Int32)]) (A := A) (fun i hi => by
      obtain rfl : i = 0 := by omega
      decide) (fun i hi => (nar hgv 164 (by decide +kernel))) (fun i hi => (nar hgv 165 (by decide +kernel))) (fun i hi => (nar hgv 166 (by decide +kernel))) (fun i hi => by
      obtain rfl : i = 0 := by omega
      exact (nar hgv 167 (by decide +kernel))) (fun i hi j hj => by
      obtain rfl : i = 0 := by omega
      have hj2 : j < 6 := hj
      match j, hj2 with
      | 0, _ => exact (nar hgv 168 (by decide +kernel))
      | 1, _ => exact (nar hgv 169 (by decide +kernel))
      | 2, _ => exact (nar hgv 170 (by decide +kernel))
      | 3, _ => exact (nar hgv 171 (by decide +kernel))
      | 4, _ => exact (nar hgv 172 (by decide +kernel))
      | 5, _ => exact (nar hgv 173 (by decide +kernel))
      | j + 6, h => exact absurd h (by omega)) (fun i j hi hj h => absurd (by omega) h) hA
  exact ⟨(adK 0, adV 0), vk_R.of (A := #[Value.ref b]) (hts _ (List.mem_append_right _ (in_t6 (List.mem_of_getElem? (i := 43) rfl)))) (h2 0 (by decide)), ⟨fun i hi => by
    obtain rfl : i = 0 := by omega
    exact h1.1 0 hi, fun i j hi hj _ => by omega⟩⟩

theorem str_10 {b : Nat} {s : State} {A : Nat → Prop} (hgv : (Jvm.Cond.and given_1 narrow_1).before #[Value.ref b] s = true) (hts : ∀ w ∈ lw_tbl, w.before #[Value.ref b] s = true) (hA : ∀ a : Nat, a < s.heap.size → ¬ A a) : ∃ q : Nat × Nat, vk_R "QuotaLicencesModel" 131 "importer" q.1 s ∧ vk_S 1 [(sB 10).length] [(sB 10).map I] (fun _ => q.1) (fun _ => q.2) A s s.heap := by
  have e1 : (sB 10).length = 8 := by decide +kernel
  have e2 : (sB 10).map I = ([105, 109, 112, 111, 114, 116, 101, 114] : List Int32) := by decide +kernel
  rw [e1, e2]
  obtain ⟨adK, adV, h1, h2⟩ := vk_Sof (args := #[Value.ref b]) (s := s) (N := 1) (tm := fun _ => (Term.string "QuotaLicencesModel" (131 : Nat))) (len := [8]) (byt := [([105, 109, 112, 111, 114, 116, 101, 114] : List Int32)]) (A := A) (fun i hi => by
      obtain rfl : i = 0 := by omega
      decide) (fun i hi => (nar hgv 183 (by decide +kernel))) (fun i hi => (nar hgv 184 (by decide +kernel))) (fun i hi => (nar hgv 185 (by decide +kernel))) (fun i hi => by
      obtain rfl : i = 0 := by omega
      exact (nar hgv 186 (by decide +kernel))) (fun i hi j hj => by
      obtain rfl : i = 0 := by omega
      have hj2 : j < 8 := hj
      match j, hj2 with
      | 0, _ => exact (nar hgv 187 (by decide +kernel))
      | 1, _ => exact (nar hgv 188 (by decide +kernel))
      | 2, _ => exact (nar hgv 189 (by decide +kernel))
      | 3, _ => exact (nar hgv 190 (by decide +kernel))
      | 4, _ => exact (nar hgv 191 (by decide +kernel))
      | 5, _ => exact (nar hgv 192 (by decide +kernel))
      | 6, _ => exact (nar hgv 193 (by decide +kernel))
      | 7, _ => exact (nar hgv 194 (by decide +kernel))
      | j + 8, h => exact absurd h (by omega)) (fun i j hi hj h => absurd (by omega) h) hA
  exact ⟨(adK 0, adV 0), vk_R.of (A := #[Value.ref b]) (hts _ (List.mem_append_right _ (in_t6 (List.mem_of_getElem? (i := 45) rfl)))) (h2 0 (by decide)), ⟨fun i hi => by
    obtain rfl : i = 0 := by omega
    exact h1.1 0 hi, fun i j hi hj _ => by omega⟩⟩

theorem str_11 {b : Nat} {s : State} {A : Nat → Prop} (hgv : (Jvm.Cond.and given_1 narrow_1).before #[Value.ref b] s = true) (hts : ∀ w ∈ lw_tbl, w.before #[Value.ref b] s = true) (hA : ∀ a : Nat, a < s.heap.size → ¬ A a) : ∃ q : Nat × Nat, vk_R "QuotaLicencesModel" 141 "past" q.1 s ∧ vk_S 1 [(sB 11).length] [(sB 11).map I] (fun _ => q.1) (fun _ => q.2) A s s.heap := by
  have e1 : (sB 11).length = 4 := by decide +kernel
  have e2 : (sB 11).map I = ([112, 97, 115, 116] : List Int32) := by decide +kernel
  rw [e1, e2]
  obtain ⟨adK, adV, h1, h2⟩ := vk_Sof (args := #[Value.ref b]) (s := s) (N := 1) (tm := fun _ => (Term.string "QuotaLicencesModel" (141 : Nat))) (len := [4]) (byt := [([112, 97, 115, 116] : List Int32)]) (A := A) (fun i hi => by
      obtain rfl : i = 0 := by omega
      decide) (fun i hi => (nar hgv 205 (by decide +kernel))) (fun i hi => (nar hgv 206 (by decide +kernel))) (fun i hi => (nar hgv 207 (by decide +kernel))) (fun i hi => by
      obtain rfl : i = 0 := by omega
      exact (nar hgv 208 (by decide +kernel))) (fun i hi j hj => by
      obtain rfl : i = 0 := by omega
      have hj2 : j < 4 := hj
      match j, hj2 with
      | 0, _ => exact (nar hgv 209 (by decide +kernel))
      | 1, _ => exact (nar hgv 210 (by decide +kernel))
      | 2, _ => exact (nar hgv 211 (by decide +kernel))
      | 3, _ => exact (nar hgv 212 (by decide +kernel))
      | j + 4, h => exact absurd h (by omega)) (fun i j hi hj h => absurd (by omega) h) hA
  exact ⟨(adK 0, adV 0), vk_R.of (A := #[Value.ref b]) (hts _ (List.mem_append_right _ (in_t6 (List.mem_of_getElem? (i := 50) rfl)))) (h2 0 (by decide)), ⟨fun i hi => by
    obtain rfl : i = 0 := by omega
    exact h1.1 0 hi, fun i j hi hj _ => by omega⟩⟩

theorem str_12 {b : Nat} {s : State} {A : Nat → Prop} (hgv : (Jvm.Cond.and given_1 narrow_1).before #[Value.ref b] s = true) (hts : ∀ w ∈ lw_tbl, w.before #[Value.ref b] s = true) (hA : ∀ a : Nat, a < s.heap.size → ¬ A a) : ∃ q : Nat × Nat, vk_R "QuotaLicencesModel" 390 ";origin" q.1 s ∧ vk_S 1 [(sB 12).length] [(sB 12).map I] (fun _ => q.1) (fun _ => q.2) A s s.heap := by
  have e1 : (sB 12).length = 7 := by decide +kernel
  have e2 : (sB 12).map I = ([59, 111, 114, 105, 103, 105, 110] : List Int32) := by decide +kernel
  rw [e1, e2]
  obtain ⟨adK, adV, h1, h2⟩ := vk_Sof (args := #[Value.ref b]) (s := s) (N := 1) (tm := fun _ => (Term.string "QuotaLicencesModel" (390 : Nat))) (len := [7]) (byt := [([59, 111, 114, 105, 103, 105, 110] : List Int32)]) (A := A) (fun i hi => by
      obtain rfl : i = 0 := by omega
      decide) (fun i hi => (nar hgv 224 (by decide +kernel))) (fun i hi => (nar hgv 225 (by decide +kernel))) (fun i hi => (nar hgv 226 (by decide +kernel))) (fun i hi => by
      obtain rfl : i = 0 := by omega
      exact (nar hgv 227 (by decide +kernel))) (fun i hi j hj => by
      obtain rfl : i = 0 := by omega
      have hj2 : j < 7 := hj
      match j, hj2 with
      | 0, _ => exact (nar hgv 228 (by decide +kernel))
      | 1, _ => exact (nar hgv 229 (by decide +kernel))
      | 2, _ => exact (nar hgv 230 (by decide +kernel))
      | 3, _ => exact (nar hgv 231 (by decide +kernel))
      | 4, _ => exact (nar hgv 232 (by decide +kernel))
      | 5, _ => exact (nar hgv 233 (by decide +kernel))
      | 6, _ => exact (nar hgv 234 (by decide +kernel))
      | j + 7, h => exact absurd h (by omega)) (fun i j hi hj h => absurd (by omega) h) hA
  exact ⟨(adK 0, adV 0), vk_R.of (A := #[Value.ref b]) (hts _ (List.mem_append_right _ (in_t8 (List.mem_of_getElem? (i := 41) rfl)))) (h2 0 (by decide)), ⟨fun i hi => by
    obtain rfl : i = 0 := by omega
    exact h1.1 0 hi, fun i j hi hj _ => by omega⟩⟩

theorem str_13 {b : Nat} {s : State} {A : Nat → Prop} (hgv : (Jvm.Cond.and given_1 narrow_1).before #[Value.ref b] s = true) (hts : ∀ w ∈ lw_tbl, w.before #[Value.ref b] s = true) (hA : ∀ a : Nat, a < s.heap.size → ¬ A a) : ∃ q : Nat × Nat, vk_R "QuotaLicencesModel" 392 ";importer" q.1 s ∧ vk_S 1 [(sB 13).length] [(sB 13).map I] (fun _ => q.1) (fun _ => q.2) A s s.heap := by
  have e1 : (sB 13).length = 9 := by decide +kernel
  have e2 : (sB 13).map I = ([59, 105, 109, 112, 111, 114, 116, 101, 114] : List Int32) := by decide +kernel
  rw [e1, e2]
  obtain ⟨adK, adV, h1, h2⟩ := vk_Sof (args := #[Value.ref b]) (s := s) (N := 1) (tm := fun _ => (Term.string "QuotaLicencesModel" (392 : Nat))) (len := [9]) (byt := [([59, 105, 109, 112, 111, 114, 116, 101, 114] : List Int32)]) (A := A) (fun i hi => by
      obtain rfl : i = 0 := by omega
      decide) (fun i hi => (nar hgv 247 (by decide +kernel))) (fun i hi => (nar hgv 248 (by decide +kernel))) (fun i hi => (nar hgv 249 (by decide +kernel))) (fun i hi => by
      obtain rfl : i = 0 := by omega
      exact (nar hgv 250 (by decide +kernel))) (fun i hi j hj => by
      obtain rfl : i = 0 := by omega
      have hj2 : j < 9 := hj
      match j, hj2 with
      | 0, _ => exact (nar hgv 251 (by decide +kernel))
      | 1, _ => exact (nar hgv 252 (by decide +kernel))
      | 2, _ => exact (nar hgv 253 (by decide +kernel))
      | 3, _ => exact (nar hgv 254 (by decide +kernel))
      | 4, _ => exact (nar hgv 255 (by decide +kernel))
      | 5, _ => exact (nar hgv 256 (by decide +kernel))
      | 6, _ => exact (nar hgv 257 (by decide +kernel))
      | 7, _ => exact (nar hgv 258 (by decide +kernel))
      | 8, _ => exact (nar hgv 259 (by decide +kernel))
      | j + 9, h => exact absurd h (by omega)) (fun i j hi hj h => absurd (by omega) h) hA
  exact ⟨(adK 0, adV 0), vk_R.of (A := #[Value.ref b]) (hts _ (List.mem_append_right _ (in_t8 (List.mem_of_getElem? (i := 42) rfl)))) (h2 0 (by decide)), ⟨fun i hi => by
    obtain rfl : i = 0 := by omega
    exact h1.1 0 hi, fun i j hi hj _ => by omega⟩⟩

theorem str_14 {b : Nat} {s : State} {A : Nat → Prop} (hgv : (Jvm.Cond.and given_1 narrow_1).before #[Value.ref b] s = true) (hts : ∀ w ∈ lw_tbl, w.before #[Value.ref b] s = true) (hA : ∀ a : Nat, a < s.heap.size → ¬ A a) : ∃ q : Nat × Nat, vk_R "QuotaLicencesModel" 394 ";past" q.1 s ∧ vk_S 1 [(sB 14).length] [(sB 14).map I] (fun _ => q.1) (fun _ => q.2) A s s.heap := by
  have e1 : (sB 14).length = 5 := by decide +kernel
  have e2 : (sB 14).map I = ([59, 112, 97, 115, 116] : List Int32) := by decide +kernel
  rw [e1, e2]
  obtain ⟨adK, adV, h1, h2⟩ := vk_Sof (args := #[Value.ref b]) (s := s) (N := 1) (tm := fun _ => (Term.string "QuotaLicencesModel" (394 : Nat))) (len := [5]) (byt := [([59, 112, 97, 115, 116] : List Int32)]) (A := A) (fun i hi => by
      obtain rfl : i = 0 := by omega
      decide) (fun i hi => (nar hgv 273 (by decide +kernel))) (fun i hi => (nar hgv 274 (by decide +kernel))) (fun i hi => (nar hgv 275 (by decide +kernel))) (fun i hi => by
      obtain rfl : i = 0 := by omega
      exact (nar hgv 276 (by decide +kernel))) (fun i hi j hj => by
      obtain rfl : i = 0 := by omega
      have hj2 : j < 5 := hj
      match j, hj2 with
      | 0, _ => exact (nar hgv 277 (by decide +kernel))
      | 1, _ => exact (nar hgv 278 (by decide +kernel))
      | 2, _ => exact (nar hgv 279 (by decide +kernel))
      | 3, _ => exact (nar hgv 280 (by decide +kernel))
      | 4, _ => exact (nar hgv 281 (by decide +kernel))
      | j + 5, h => exact absurd h (by omega)) (fun i j hi hj h => absurd (by omega) h) hA
  exact ⟨(adK 0, adV 0), vk_R.of (A := #[Value.ref b]) (hts _ (List.mem_append_right _ (in_t8 (List.mem_of_getElem? (i := 43) rfl)))) (h2 0 (by decide)), ⟨fun i hi => by
    obtain rfl : i = 0 := by omega
    exact h1.1 0 hi, fun i j hi hj _ => by omega⟩⟩

theorem str_all {b : Nat} {s : State} {A : Nat → Prop} (hgv : (Jvm.Cond.and given_1 narrow_1).before #[Value.ref b] s = true) (hts : ∀ w ∈ lw_tbl, w.before #[Value.ref b] s = true) (hA : ∀ a : Nat, a < s.heap.size → ¬ A a) (i : Nat) : ∃ q : Nat × Nat, ∀ r : String × Nat × String, SR[i]? = some r → vk_R r.1 r.2.1 r.2.2 q.1 s ∧ vk_S 1 [(sB i).length] [(sB i).map I] (fun _ => q.1) (fun _ => q.2) A s s.heap := by
  match i with
  | 0 => obtain ⟨q, h⟩ := str_0 hgv hts hA; exact ⟨q, fun r e => by cases e; exact h⟩
  | 1 => obtain ⟨q, h⟩ := str_1 hgv hts hA; exact ⟨q, fun r e => by cases e; exact h⟩
  | 2 => obtain ⟨q, h⟩ := str_2 hgv hts hA; exact ⟨q, fun r e => by cases e; exact h⟩
  | 3 => obtain ⟨q, h⟩ := str_3 hgv hts hA; exact ⟨q, fun r e => by cases e; exact h⟩
  | 4 => obtain ⟨q, h⟩ := str_4 hgv hts hA; exact ⟨q, fun r e => by cases e; exact h⟩
  | 5 => obtain ⟨q, h⟩ := str_5 hgv hts hA; exact ⟨q, fun r e => by cases e; exact h⟩
  | 6 => obtain ⟨q, h⟩ := str_6 hgv hts hA; exact ⟨q, fun r e => by cases e; exact h⟩
  | 7 => obtain ⟨q, h⟩ := str_7 hgv hts hA; exact ⟨q, fun r e => by cases e; exact h⟩
  | 8 => obtain ⟨q, h⟩ := str_8 hgv hts hA; exact ⟨q, fun r e => by cases e; exact h⟩
  | 9 => obtain ⟨q, h⟩ := str_9 hgv hts hA; exact ⟨q, fun r e => by cases e; exact h⟩
  | 10 => obtain ⟨q, h⟩ := str_10 hgv hts hA; exact ⟨q, fun r e => by cases e; exact h⟩
  | 11 => obtain ⟨q, h⟩ := str_11 hgv hts hA; exact ⟨q, fun r e => by cases e; exact h⟩
  | 12 => obtain ⟨q, h⟩ := str_12 hgv hts hA; exact ⟨q, fun r e => by cases e; exact h⟩
  | 13 => obtain ⟨q, h⟩ := str_13 hgv hts hA; exact ⟨q, fun r e => by cases e; exact h⟩
  | 14 => obtain ⟨q, h⟩ := str_14 hgv hts hA; exact ⟨q, fun r e => by cases e; exact h⟩
  | n + 15 => exact ⟨(0, 0), fun r e => absurd (show (none : Option (String × Nat × String)) = some r from e) (fun z => by cases z)⟩

theorem sta_TOLD_LEAST {b : Nat} {s : State} {A : Nat → Prop} (hgv : (Jvm.Cond.and given_1 narrow_1).before #[Value.ref b] s = true) (hts : ∀ w ∈ lw_tbl, w.before #[Value.ref b] s = true) (hA : ∀ a : Nat, a < s.heap.size → ¬ A a) : ∃ t : Nat, va_Z "QuotaLicences" "TOLD_LEAST" "[I" (.ref t) A s s.heap ∧ va_T .int t 6 (fun j => vi (([0, 1, 1, 0, 0, 1] : List Int).getD j 0)) A s s.heap := by
  obtain ⟨t, h1, h2⟩ := va_Tof (args := #[Value.ref b]) (s := s) (tm := (Term.static "QuotaLicences" "TOLD_LEAST" "[I")) (ty := .int) (N := 6) (f := fun j => vi (([0, 1, 1, 0, 0, 1] : List Int).getD j 0)) (A := A) (by decide) (nar hgv 10 (by decide +kernel)) (va_eqt (z := (6 : Int32)) (nar hgv 11 (by decide +kernel))) (fun j hj => by
      match j, hj with
      | 0, _ => exact va_eqt (z := (0 : Int32)) (nar hgv 12 (by decide +kernel))
      | 1, _ => exact va_eqt (z := (1 : Int32)) (nar hgv 13 (by decide +kernel))
      | 2, _ => exact va_eqt (z := (1 : Int32)) (nar hgv 14 (by decide +kernel))
      | 3, _ => exact va_eqt (z := (0 : Int32)) (nar hgv 15 (by decide +kernel))
      | 4, _ => exact va_eqt (z := (0 : Int32)) (nar hgv 16 (by decide +kernel))
      | 5, _ => exact va_eqt (z := (1 : Int32)) (nar hgv 17 (by decide +kernel))
      | j + 6, h => exact absurd h (by omega)) hA
  exact ⟨t, va_Zref (hts _ (List.mem_append_right _ (in_t2 (List.mem_of_getElem? (i := 203) rfl)))) (hts _ (wl_tbl _ qn_X10)) h1 hA, h2⟩

theorem sta_TOLD_MOST {b : Nat} {s : State} {A : Nat → Prop} (hgv : (Jvm.Cond.and given_1 narrow_1).before #[Value.ref b] s = true) (hts : ∀ w ∈ lw_tbl, w.before #[Value.ref b] s = true) (hA : ∀ a : Nat, a < s.heap.size → ¬ A a) : ∃ t : Nat, va_Z "QuotaLicences" "TOLD_MOST" "[I" (.ref t) A s s.heap ∧ va_T .int t 6 (fun j => vi (([100, 99999, 90, 100, 2000, 3] : List Int).getD j 0)) A s s.heap := by
  obtain ⟨t, h1, h2⟩ := va_Tof (args := #[Value.ref b]) (s := s) (tm := (Term.static "QuotaLicences" "TOLD_MOST" "[I")) (ty := .int) (N := 6) (f := fun j => vi (([100, 99999, 90, 100, 2000, 3] : List Int).getD j 0)) (A := A) (by decide) (nar hgv 19 (by decide +kernel)) (va_eqt (z := (6 : Int32)) (nar hgv 20 (by decide +kernel))) (fun j hj => by
      match j, hj with
      | 0, _ => exact va_eqt (z := (100 : Int32)) (nar hgv 21 (by decide +kernel))
      | 1, _ => exact va_eqt (z := (99999 : Int32)) (nar hgv 22 (by decide +kernel))
      | 2, _ => exact va_eqt (z := (90 : Int32)) (nar hgv 23 (by decide +kernel))
      | 3, _ => exact va_eqt (z := (100 : Int32)) (nar hgv 24 (by decide +kernel))
      | 4, _ => exact va_eqt (z := (2000 : Int32)) (nar hgv 25 (by decide +kernel))
      | 5, _ => exact va_eqt (z := (3 : Int32)) (nar hgv 26 (by decide +kernel))
      | j + 6, h => exact absurd h (by omega)) hA
  exact ⟨t, va_Zref (hts _ (List.mem_append_right _ (in_t2 (List.mem_of_getElem? (i := 205) rfl)))) (hts _ (wl_tbl _ qn_X10)) h1 hA, h2⟩

theorem sta_LOGGED {b : Nat} {s : State} {A : Nat → Prop} (hgv : (Jvm.Cond.and given_1 narrow_1).before #[Value.ref b] s = true) (hts : ∀ w ∈ lw_tbl, w.before #[Value.ref b] s = true) (hA : ∀ a : Nat, a < s.heap.size → ¬ A a) : ∃ t : Nat, va_Z "QuotaLicences" "LOGGED" "[I" (.ref t) A s s.heap ∧ va_T .int t 5 (fun j => vi (([1, 2, 4, 5, 6] : List Int).getD j 0)) A s s.heap := by
  obtain ⟨t, h1, h2⟩ := va_Tof (args := #[Value.ref b]) (s := s) (tm := (Term.static "QuotaLicences" "LOGGED" "[I")) (ty := .int) (N := 5) (f := fun j => vi (([1, 2, 4, 5, 6] : List Int).getD j 0)) (A := A) (by decide) (nar hgv 28 (by decide +kernel)) (va_eqt (z := (5 : Int32)) (nar hgv 29 (by decide +kernel))) (fun j hj => by
      match j, hj with
      | 0, _ => exact va_eqt (z := (1 : Int32)) (nar hgv 30 (by decide +kernel))
      | 1, _ => exact va_eqt (z := (2 : Int32)) (nar hgv 31 (by decide +kernel))
      | 2, _ => exact va_eqt (z := (4 : Int32)) (nar hgv 32 (by decide +kernel))
      | 3, _ => exact va_eqt (z := (5 : Int32)) (nar hgv 33 (by decide +kernel))
      | 4, _ => exact va_eqt (z := (6 : Int32)) (nar hgv 34 (by decide +kernel))
      | j + 5, h => exact absurd h (by omega)) hA
  exact ⟨t, va_Zref (hts _ (List.mem_append_right _ (in_t4 (List.mem_of_getElem? (i := 48) rfl)))) (hts _ (wl_tbl _ qn_X10)) h1 hA, h2⟩

theorem sta_CS {b : Nat} {s : State} {A : Nat → Prop} (hgv : (Jvm.Cond.and given_1 narrow_1).before #[Value.ref b] s = true) (hts : ∀ w ∈ lw_tbl, w.before #[Value.ref b] s = true) (hA : ∀ a : Nat, a < s.heap.size → ¬ A a) : va_Z "java/lang/String" "COMPACT_STRINGS" "Z" (.int 1) A s s.heap := va_Zof (hts _ (List.mem_append_right _ (in_t2 (List.mem_of_getElem? (i := 159) rfl)))) (hts _ (wl_tbl _ qn_J0)) (va_eqi (nar hgv 4 (by decide +kernel))) hA
theorem sta_SI {b : Nat} {s : State} {A : Nat → Prop} (hgv : (Jvm.Cond.and given_1 narrow_1).before #[Value.ref b] s = true) (hts : ∀ w ∈ lw_tbl, w.before #[Value.ref b] s = true) (hA : ∀ a : Nat, a < s.heap.size → ¬ A a) : va_Zq "jdk/internal/util/Preconditions" "SIOOBE_FORMATTER" "Ljava/util/function/BiFunction;" A s s.heap := va_Zqof (hts _ (List.mem_append_right _ (in_t2 (List.mem_of_getElem? (i := 175) rfl)))) (hts _ (wl_tbl _ qn_J3)) (nar hgv 5 (by decide +kernel)) hA

theorem arr_int {b : Nat} {s : State} (hts : ∀ w ∈ lw_tbl, w.before #[Value.ref b] s = true) : ∃ cA : ClassId, ArrOfT s cA .int ∧ va_RA s cA .int := by
  obtain ⟨c, k, comp, h1, h2, h3⟩ := Cond.arrayClass_spec (hts (Cond.arrayClass .int) (List.mem_append_right _ (in_t1 (List.mem_of_getElem? (i := 92) rfl))))
  exact ⟨c, fun n z => ⟨fun k h => (by cases h), k, h2, comp, h3⟩, h1⟩

theorem arr_long {b : Nat} {s : State} (hts : ∀ w ∈ lw_tbl, w.before #[Value.ref b] s = true) : ∃ cA : ClassId, ArrOfT s cA .long ∧ va_RA s cA .long := by
  obtain ⟨c, k, comp, h1, h2, h3⟩ := Cond.arrayClass_spec (hts (Cond.arrayClass .long) (List.mem_append_right _ (in_t2 (List.mem_of_getElem? (i := 78) rfl))))
  exact ⟨c, fun n z => ⟨fun k h => (by cases h), k, h2, comp, h3⟩, h1⟩

theorem arr_byte {b : Nat} {s : State} (hts : ∀ w ∈ lw_tbl, w.before #[Value.ref b] s = true) : ∃ cA : ClassId, ArrOfT s cA .byte ∧ va_RA s cA .byte := by
  obtain ⟨c, k, comp, h1, h2, h3⟩ := Cond.arrayClass_spec (hts (Cond.arrayClass .byte) (List.mem_append_right _ (in_t1 (List.mem_of_getElem? (i := 53) rfl))))
  exact ⟨c, fun n z => ⟨fun k h => (by cases h), k, h2, comp, h3⟩, h1⟩

theorem arr_boolean {b : Nat} {s : State} (hts : ∀ w ∈ lw_tbl, w.before #[Value.ref b] s = true) : ∃ cA : ClassId, ArrOfT s cA .boolean ∧ va_RA s cA .boolean := by
  obtain ⟨c, k, comp, h1, h2, h3⟩ := Cond.arrayClass_spec (hts (Cond.arrayClass .boolean) (List.mem_append_right _ (in_t5 (List.mem_of_getElem? (i := 212) rfl))))
  exact ⟨c, fun n z => ⟨fun k h => (by cases h), k, h2, comp, h3⟩, h1⟩

theorem arr_double {b : Nat} {s : State} (hts : ∀ w ∈ lw_tbl, w.before #[Value.ref b] s = true) : ∃ cA : ClassId, ArrOfT s cA .double ∧ va_RA s cA .double := by
  obtain ⟨c, k, comp, h1, h2, h3⟩ := Cond.arrayClass_spec (hts (Cond.arrayClass .double) (List.mem_append_right _ (in_t2 (List.mem_of_getElem? (i := 41) rfl))))
  exact ⟨c, fun n z => ⟨fun k h => (by cases h), k, h2, comp, h3⟩, h1⟩

theorem arr_St {b : Nat} {s : State} (hts : ∀ w ∈ lw_tbl, w.before #[Value.ref b] s = true) : (∃ cA : ClassId, ArrOfT s cA (.object "QuotaLicences$State") ∧ va_RA s cA (.object "QuotaLicences$State")) ∧ va_AO "QuotaLicences$State" s := by
  have h := hts (Cond.arrayOver (.object "QuotaLicences$State")) (List.mem_append_right _ (in_t2 (List.mem_of_getElem? (i := 49) rfl)))
  obtain ⟨comp, c, k, h1, h2, h3, h4, h5⟩ := Cond.arrayOver_spec h
  exact ⟨⟨c, fun n z => ⟨fun k h => (by cases h), k, h3, comp, h4⟩, ⟨k, comp, h3, h4, h1, h5⟩⟩, va_AO.of h⟩

theorem nw_all {b : Nat} {s : State} (hts : ∀ w ∈ lw_tbl, w.before #[Value.ref b] s = true) : ∀ w ∈ NW, va_Nw w s := by
  intro w hw
  simp only [NW, List.mem_cons, List.not_mem_nil, or_false] at hw
  rcases hw with rfl | rfl | rfl | rfl | rfl | rfl | rfl | rfl | rfl | rfl | rfl | rfl | rfl | rfl | rfl | rfl | rfl | rfl | rfl | rfl
  · exact va_Nw.of rfl (hts _ (List.mem_append_right _ (in_t1 (List.mem_of_getElem? (i := 33) rfl))))
  · exact va_Nw.of rfl (hts _ (List.mem_append_right _ (in_t1 (List.mem_of_getElem? (i := 39) rfl))))
  · exact va_Nw.of rfl (hts _ (List.mem_append_right _ (in_t1 (List.mem_of_getElem? (i := 56) rfl))))
  · exact va_Nw.of rfl (hts _ (List.mem_append_right _ (in_t1 (List.mem_of_getElem? (i := 110) rfl))))
  · exact va_Nw.of rfl (hts _ (List.mem_append_right _ (in_t1 (List.mem_of_getElem? (i := 128) rfl))))
  · exact va_Nw.of rfl (hts _ (List.mem_append_right _ (in_t1 (List.mem_of_getElem? (i := 133) rfl))))
  · exact va_Nw.of rfl (hts _ (List.mem_append_right _ (in_t1 (List.mem_of_getElem? (i := 136) rfl))))
  · exact va_Nw.of rfl (hts _ (List.mem_append_right _ (in_t1 (List.mem_of_getElem? (i := 194) rfl))))
  · exact va_Nw.of rfl (hts _ (List.mem_append_right _ (in_t1 (List.mem_of_getElem? (i := 233) rfl))))
  · exact va_Nw.of rfl (hts _ (List.mem_append_right _ (in_t2 (List.mem_of_getElem? (i := 44) rfl))))
  · exact va_Nw.of rfl (hts _ (List.mem_append_right _ (in_t2 (List.mem_of_getElem? (i := 63) rfl))))
  · exact va_Nw.of rfl (hts _ (List.mem_append_right _ (in_t2 (List.mem_of_getElem? (i := 202) rfl))))
  · exact va_Nw.of rfl (hts _ (List.mem_append_right _ (in_t2 (List.mem_of_getElem? (i := 204) rfl))))
  · exact va_Nw.of rfl (hts _ (List.mem_append_right _ (in_t3 (List.mem_of_getElem? (i := 2) rfl))))
  · exact va_Nw.of rfl (hts _ (List.mem_append_right _ (in_t3 (List.mem_of_getElem? (i := 41) rfl))))
  · exact va_Nw.of rfl (hts _ (List.mem_append_right _ (in_t3 (List.mem_of_getElem? (i := 74) rfl))))
  · exact va_Nw.of rfl (hts _ (List.mem_append_right _ (in_t3 (List.mem_of_getElem? (i := 138) rfl))))
  · exact va_Nw.of rfl (hts _ (List.mem_append_right _ (in_t4 (List.mem_of_getElem? (i := 44) rfl))))
  · exact va_Nw.of rfl (hts _ (List.mem_append_right _ (in_t4 (List.mem_of_getElem? (i := 47) rfl))))
  · exact va_Nw.of rfl (hts _ (List.mem_append_right _ (in_t5 (List.mem_of_getElem? (i := 143) rfl))))

theorem cls_all {b : Nat} {s : State} (hts : ∀ w ∈ lw_tbl, w.before #[Value.ref b] s = true) : ∃ D : va_G, ∀ (k : Nat) (q : vw_C), vwCl[k]? = some q → u_Kn s q.1 q.2.1 q.2.2 (D.1 k) (D.2 k) := by
  have ht2 : ∀ w ∈ WL, w.before #[Value.ref b] s = true := fun w hw => hts w (wl_tbl w hw)
  have h0 : ∀ k : Nat, ∃ d : ClassId × (Nat → Nat), ∀ q : vw_C, vwCl[k]? = some q → u_Kn s q.1 q.2.1 q.2.2 d.1 d.2 := by
    intro k
    match k with
    | 0 => obtain ⟨c, i, h⟩ := u_known (C := RX0) (T := TX0) (N := 3) (n := 3) ht2 iw_X0 (ht2 _ qb_X0); exact ⟨(c, i), fun q e => by cases e; exact h⟩
    | 1 => obtain ⟨c, i, h⟩ := u_known (C := RX1) (T := TX1) (N := 11) (n := 11) ht2 iw_X1 (ht2 _ qb_X1); exact ⟨(c, i), fun q e => by cases e; exact h⟩
    | 2 => obtain ⟨c, i, h⟩ := u_known (C := RX2) (T := TX2) (N := 3) (n := 3) ht2 iw_X2 (ht2 _ qb_X2); exact ⟨(c, i), fun q e => by cases e; exact h⟩
    | 3 => obtain ⟨c, i, h⟩ := u_known (C := RX3) (T := TX3) (N := 7) (n := 7) ht2 iw_X3 (ht2 _ qb_X3); exact ⟨(c, i), fun q e => by cases e; exact h⟩
    | 4 => obtain ⟨c, i, h⟩ := u_known (C := RX4) (T := TX4) (N := 4) (n := 4) ht2 iw_X4 (ht2 _ qb_X4); exact ⟨(c, i), fun q e => by cases e; exact h⟩
    | 5 => obtain ⟨c, i, h⟩ := u_known (C := RX5) (T := TX5) (N := 5) (n := 5) ht2 iw_X5 (ht2 _ qb_X5); exact ⟨(c, i), fun q e => by cases e; exact h⟩
    | 6 => obtain ⟨c, i, h⟩ := u_known (C := RX6) (T := TX6) (N := 3) (n := 3) ht2 iw_X6 (ht2 _ qb_X6); exact ⟨(c, i), fun q e => by cases e; exact h⟩
    | 7 => obtain ⟨c, i, h⟩ := u_known (C := RX7) (T := TX7) (N := 7) (n := 7) ht2 iw_X7 (ht2 _ qb_X7); exact ⟨(c, i), fun q e => by cases e; exact h⟩
    | 8 => obtain ⟨c, i, h⟩ := u_known (C := RX8) (T := TX8) (N := 2) (n := 2) ht2 iw_X8 (ht2 _ qb_X8); exact ⟨(c, i), fun q e => by cases e; exact h⟩
    | 9 => obtain ⟨c, i, h⟩ := u_known (C := RX9) (T := TX9) (N := 3) (n := 3) ht2 iw_X9 (ht2 _ qb_X9); exact ⟨(c, i), fun q e => by cases e; exact h⟩
    | 10 => obtain ⟨c, i, h⟩ := u_known (C := RX10) (T := TX10) (N := 6) (n := 6) ht2 iw_X10 (ht2 _ qb_X10); exact ⟨(c, i), fun q e => by cases e; exact h⟩
    | 11 => obtain ⟨c, i, h⟩ := u_known (C := RX11) (T := TX11) (N := 18) (n := 18) ht2 iw_X11 (ht2 _ qb_X11); exact ⟨(c, i), fun q e => by cases e; exact h⟩
    | n + 12 => exact ⟨(s.heap.size, fun _ => 0), fun q e => absurd (show (none : Option vw_C) = some q from e) (fun z => by cases z)⟩
  obtain ⟨D, hD⟩ := Classical.axiomOfChoice h0
  exact ⟨(fun k => (D k).1, fun k => (D k).2), fun k q e => hD k q e⟩


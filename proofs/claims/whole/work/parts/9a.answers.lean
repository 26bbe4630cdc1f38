/-! the law, call by call: answers -/
def KN (k : Nat) : Nat × Nat := (29 * k + 52, 1248 * k + 20532)

set_option maxHeartbeats 1000000 in
theorem law_told {Γ : GT} {nm : String} {b L : Nat} {xs : Nat → Int} {S T U V : St} {G : Gw} {nx k : Nat} (hG : GI k S T U V G nx) (hk : 6 * k + 6 ≤ L) (hL : L ≤ 3072) (hX : ∀ j, inI (xs j)) (hK : ∀ S2 T2 U2 V2 G2 nx2, GI ((k : Int) + 1) S2 T2 U2 V2 G2 nx2 → AW Γ (MLw nm) room_1 (PL Γ b L xs) (KN (k + 1)) 2122 [some (.ref b), some (rf Γ 0), some (rf Γ 43), some (vi (6 * (k : Int)))] [] (hp Γ S2 T2 U2 V2 G2) nx2) : AW Γ (MLw nm) room_1 (PL Γ b L xs) (KN k) 809 [some (.ref b), some (rf Γ 0), some (rf Γ 43), some (vi (6 * (k : Int)))] [] (hp Γ S T U V G) nx := by
  have hnx := hG.1
  have hLv := hG.2.2.1
  have hI := hG.2.2.2.1
  have hA := hG.2.2.2.2.1
  have hM : 0 ≤ V 10 0 ∧ V 10 0 ≤ 10 := by have q := hG.2.2.2.2.2.2.2.2.1; have := q.2.1; have := q.2.2.1; omega
  refine aw_aload_n dL_law_809 rfl ?_
  refine aw_aload_n dL_law_810 rfl ?_
  refine aw_iload_n dL_law_811 rfl ?_
  refine aw_iconst dL_law_812 ?_
  refine aw_iadd dL_law_813 ?_
  refine aw_sld dL_law_814 (by omega) (by omega) ?_
  refine aw_callV (As := [_]) (ρ := (21, 0, 0)) (kn' := ((KN k).1 + 0, (KN k).2 + 0)) cv_L_84 dL_law_815 rfl rfl (hc0 hnx) rfl rfl (Nat.le_of_ble_eq_true rfl) ⟨(Nat.le_of_ble_eq_true rfl), (Nat.le_of_ble_eq_true rfl)⟩ ⟨by show 29 * k + 52 + 0 ≤ 600000; omega, by show 1248 * k + 20532 + 0 ≤ 7302250; omega⟩ rfl (c_X10_told (d := 20) hnx hI (hX _) (fun r1 h1 => ?_))
  refine aw_aload_n dL_law_818 rfl ?_
  refine aw_aload_n dL_law_819 rfl ?_
  refine aw_iload_n dL_law_820 rfl ?_
  refine aw_iconst dL_law_821 ?_
  refine aw_iadd dL_law_822 ?_
  refine aw_sld dL_law_823 (by omega) (by omega) ?_
  refine aw_callV (As := [_]) (ρ := (21, 0, 0)) (kn' := ((KN k).1 + 0, (KN k).2 + 0)) cv_L_87 dL_law_824 rfl rfl (hc43 hnx) rfl rfl (Nat.le_of_ble_eq_true rfl) ⟨(Nat.le_of_ble_eq_true rfl), (Nat.le_of_ble_eq_true rfl)⟩ ⟨by show 29 * k + 52 + 0 ≤ 600000; omega, by show 1248 * k + 20532 + 0 ≤ 7302250; omega⟩ rfl (c_X11_told (d := 20) hnx hI hA hLv (hX _) (fun r2 h2 => ?_))
  obtain rfl : r2 = r1 := h2.trans h1.symm
  refine aw_same_i (tgt := 2122) dL_law_827 rfl ?_
  exact aw_wd ⟨by show 29 * k + 52 + 0 ≤ 29 * (k + 1) + 52; omega, by show 1248 * k + 20532 + 0 ≤ 1248 * (k + 1) + 20532; omega⟩ (hK _ _ _ _ _ _ (hG.mono ⟨by omega, by omega⟩))

set_option maxHeartbeats 1000000 in
theorem law_origin {Γ : GT} {nm : String} {b L : Nat} {xs : Nat → Int} {S T U V : St} {G : Gw} {nx k : Nat} (hG : GI k S T U V G nx) (hk : 6 * k + 6 ≤ L) (hL : L ≤ 3072) (hX : ∀ j, inI (xs j)) (hK : ∀ S2 T2 U2 V2 G2 nx2, GI ((k : Int) + 1) S2 T2 U2 V2 G2 nx2 → AW Γ (MLw nm) room_1 (PL Γ b L xs) (KN (k + 1)) 2122 [some (.ref b), some (rf Γ 0), some (rf Γ 43), some (vi (6 * (k : Int)))] [] (hp Γ S2 T2 U2 V2 G2) nx2) : AW Γ (MLw nm) room_1 (PL Γ b L xs) (KN k) 832 [some (.ref b), some (rf Γ 0), some (rf Γ 43), some (vi (6 * (k : Int)))] [] (hp Γ S T U V G) nx := by
  have hnx := hG.1
  have hLv := hG.2.2.1
  have hI := hG.2.2.2.1
  have hA := hG.2.2.2.2.1
  have hM : 0 ≤ V 10 0 ∧ V 10 0 ≤ 10 := by have q := hG.2.2.2.2.2.2.2.2.1; have := q.2.1; have := q.2.2.1; omega
  refine aw_aload_n dL_law_832 rfl ?_
  refine aw_aload_n dL_law_833 rfl ?_
  refine aw_iload_n dL_law_834 rfl ?_
  refine aw_iconst dL_law_835 ?_
  refine aw_iadd dL_law_836 ?_
  refine aw_sld dL_law_837 (by omega) (by omega) ?_
  refine aw_aload_n dL_law_838 rfl ?_
  refine aw_iload_n dL_law_839 rfl ?_
  refine aw_iconst dL_law_840 ?_
  refine aw_iadd dL_law_841 ?_
  refine aw_sld dL_law_842 (by omega) (by omega) ?_
  refine aw_callV (As := [_, _]) (ρ := (21, 0, 0)) (kn' := ((KN k).1 + 0, (KN k).2 + 0)) cv_L_88 dL_law_843 rfl rfl (hc0 hnx) rfl rfl (Nat.le_of_ble_eq_true rfl) ⟨(Nat.le_of_ble_eq_true rfl), (Nat.le_of_ble_eq_true rfl)⟩ ⟨by show 29 * k + 52 + 0 ≤ 600000; omega, by show 1248 * k + 20532 + 0 ≤ 7302250; omega⟩ rfl (c_X10_origin (d := 20) hnx hI (hX _) (hX _) (fun r1 h1 => ?_))
  refine aw_aload_n dL_law_846 rfl ?_
  refine aw_aload_n dL_law_847 rfl ?_
  refine aw_iload_n dL_law_848 rfl ?_
  refine aw_iconst dL_law_849 ?_
  refine aw_iadd dL_law_850 ?_
  refine aw_sld dL_law_851 (by omega) (by omega) ?_
  refine aw_aload_n dL_law_852 rfl ?_
  refine aw_iload_n dL_law_853 rfl ?_
  refine aw_iconst dL_law_854 ?_
  refine aw_iadd dL_law_855 ?_
  refine aw_sld dL_law_856 (by omega) (by omega) ?_
  refine aw_callV (As := [_, _]) (ρ := (22, 0, 0)) (kn' := ((KN k).1 + 0, (KN k).2 + 0)) cv_L_91 dL_law_857 rfl rfl (hc43 hnx) rfl rfl (Nat.le_of_ble_eq_true rfl) ⟨(Nat.le_of_ble_eq_true rfl), (Nat.le_of_ble_eq_true rfl)⟩ ⟨by show 29 * k + 52 + 0 ≤ 600000; omega, by show 1248 * k + 20532 + 0 ≤ 7302250; omega⟩ rfl (c_X11_origin (d := 20) hnx hI hA hLv (hX _) (hX _) (fun r2 h2 => ?_))
  obtain rfl : r2 = r1 := h2.trans h1.symm
  refine aw_same_i (tgt := 2122) dL_law_860 rfl ?_
  exact aw_wd ⟨by show 29 * k + 52 + 0 ≤ 29 * (k + 1) + 52; omega, by show 1248 * k + 20532 + 0 ≤ 1248 * (k + 1) + 20532; omega⟩ (hK _ _ _ _ _ _ (hG.mono ⟨by omega, by omega⟩))

set_option maxHeartbeats 1000000 in
theorem law_past {Γ : GT} {nm : String} {b L : Nat} {xs : Nat → Int} {S T U V : St} {G : Gw} {nx k : Nat} (hG : GI k S T U V G nx) (hk : 6 * k + 6 ≤ L) (hL : L ≤ 3072) (hX : ∀ j, inI (xs j)) (hK : ∀ S2 T2 U2 V2 G2 nx2, GI ((k : Int) + 1) S2 T2 U2 V2 G2 nx2 → AW Γ (MLw nm) room_1 (PL Γ b L xs) (KN (k + 1)) 2122 [some (.ref b), some (rf Γ 0), some (rf Γ 43), some (vi (6 * (k : Int)))] [] (hp Γ S2 T2 U2 V2 G2) nx2) : AW Γ (MLw nm) room_1 (PL Γ b L xs) (KN k) 865 [some (.ref b), some (rf Γ 0), some (rf Γ 43), some (vi (6 * (k : Int)))] [] (hp Γ S T U V G) nx := by
  have hnx := hG.1
  have hLv := hG.2.2.1
  have hI := hG.2.2.2.1
  have hA := hG.2.2.2.2.1
  have hM : 0 ≤ V 10 0 ∧ V 10 0 ≤ 10 := by have q := hG.2.2.2.2.2.2.2.2.1; have := q.2.1; have := q.2.2.1; omega
  refine aw_aload_n dL_law_865 rfl ?_
  refine aw_aload_n dL_law_866 rfl ?_
  refine aw_iload_n dL_law_867 rfl ?_
  refine aw_iconst dL_law_868 ?_
  refine aw_iadd dL_law_869 ?_
  refine aw_sld dL_law_870 (by omega) (by omega) ?_
  refine aw_aload_n dL_law_871 rfl ?_
  refine aw_iload_n dL_law_872 rfl ?_
  refine aw_iconst dL_law_873 ?_
  refine aw_iadd dL_law_874 ?_
  refine aw_sld dL_law_875 (by omega) (by omega) ?_
  refine aw_aload_n dL_law_876 rfl ?_
  refine aw_iload_n dL_law_877 rfl ?_
  refine aw_iconst dL_law_878 ?_
  refine aw_iadd dL_law_879 ?_
  refine aw_sld dL_law_880 (by omega) (by omega) ?_
  refine aw_callV (As := [_, _, _]) (ρ := (22, 0, 0)) (kn' := ((KN k).1 + 0, (KN k).2 + 0)) cv_L_92 dL_law_881 rfl rfl (hc0 hnx) rfl rfl (Nat.le_of_ble_eq_true rfl) ⟨(Nat.le_of_ble_eq_true rfl), (Nat.le_of_ble_eq_true rfl)⟩ ⟨by show 29 * k + 52 + 0 ≤ 600000; omega, by show 1248 * k + 20532 + 0 ≤ 7302250; omega⟩ rfl (c_X10_past (d := 20) hnx hI (hX _) (hX _) (hX _) (fun r1 h1 => ?_))
  refine aw_aload_n dL_law_884 rfl ?_
  refine aw_aload_n dL_law_885 rfl ?_
  refine aw_iload_n dL_law_886 rfl ?_
  refine aw_iconst dL_law_887 ?_
  refine aw_iadd dL_law_888 ?_
  refine aw_sld dL_law_889 (by omega) (by omega) ?_
  refine aw_aload_n dL_law_890 rfl ?_
  refine aw_iload_n dL_law_891 rfl ?_
  refine aw_iconst dL_law_892 ?_
  refine aw_iadd dL_law_893 ?_
  refine aw_sld dL_law_894 (by omega) (by omega) ?_
  refine aw_aload_n dL_law_895 rfl ?_
  refine aw_iload_n dL_law_896 rfl ?_
  refine aw_iconst dL_law_897 ?_
  refine aw_iadd dL_law_898 ?_
  refine aw_sld dL_law_899 (by omega) (by omega) ?_
  refine aw_callV (As := [_, _, _]) (ρ := (23, 0, 0)) (kn' := ((KN k).1 + 0, (KN k).2 + 0)) cv_L_95 dL_law_900 rfl rfl (hc43 hnx) rfl rfl (Nat.le_of_ble_eq_true rfl) ⟨(Nat.le_of_ble_eq_true rfl), (Nat.le_of_ble_eq_true rfl)⟩ ⟨by show 29 * k + 52 + 0 ≤ 600000; omega, by show 1248 * k + 20532 + 0 ≤ 7302250; omega⟩ rfl (c_X11_past (d := 20) hnx hI hA hLv (hX _) (hX _) (hX _) (fun r2 h2 => ?_))
  obtain rfl : r2 = r1 := h2.trans h1.symm
  refine aw_same_i (tgt := 2122) dL_law_903 rfl ?_
  exact aw_wd ⟨by show 29 * k + 52 + 0 ≤ 29 * (k + 1) + 52; omega, by show 1248 * k + 20532 + 0 ≤ 1248 * (k + 1) + 20532; omega⟩ (hK _ _ _ _ _ _ (hG.mono ⟨by omega, by omega⟩))

set_option maxHeartbeats 1000000 in
theorem law_sort {Γ : GT} {nm : String} {b L : Nat} {xs : Nat → Int} {S T U V : St} {G : Gw} {nx k : Nat} (hG : GI k S T U V G nx) (hk : 6 * k + 6 ≤ L) (hL : L ≤ 3072) (hX : ∀ j, inI (xs j)) (hK : ∀ S2 T2 U2 V2 G2 nx2, GI ((k : Int) + 1) S2 T2 U2 V2 G2 nx2 → AW Γ (MLw nm) room_1 (PL Γ b L xs) (KN (k + 1)) 2122 [some (.ref b), some (rf Γ 0), some (rf Γ 43), some (vi (6 * (k : Int)))] [] (hp Γ S2 T2 U2 V2 G2) nx2) : AW Γ (MLw nm) room_1 (PL Γ b L xs) (KN k) 908 [some (.ref b), some (rf Γ 0), some (rf Γ 43), some (vi (6 * (k : Int)))] [] (hp Γ S T U V G) nx := by
  have hnx := hG.1
  have hLv := hG.2.2.1
  have hI := hG.2.2.2.1
  have hA := hG.2.2.2.2.1
  have hM : 0 ≤ V 10 0 ∧ V 10 0 ≤ 10 := by have q := hG.2.2.2.2.2.2.2.2.1; have := q.2.1; have := q.2.2.1; omega
  refine aw_aload_n dL_law_908 rfl ?_
  refine aw_aload_n dL_law_909 rfl ?_
  refine aw_iload_n dL_law_910 rfl ?_
  refine aw_iconst dL_law_911 ?_
  refine aw_iadd dL_law_912 ?_
  refine aw_sld dL_law_913 (by omega) (by omega) ?_
  refine aw_aload_n dL_law_914 rfl ?_
  refine aw_iload_n dL_law_915 rfl ?_
  refine aw_iconst dL_law_916 ?_
  refine aw_iadd dL_law_917 ?_
  refine aw_sld dL_law_918 (by omega) (by omega) ?_
  refine aw_callV (As := [_, _]) (ρ := (22, 0, 0)) (kn' := ((KN k).1 + 0, (KN k).2 + 0)) cv_L_96 dL_law_919 rfl rfl (hc0 hnx) rfl rfl (Nat.le_of_ble_eq_true rfl) ⟨(Nat.le_of_ble_eq_true rfl), (Nat.le_of_ble_eq_true rfl)⟩ ⟨by show 29 * k + 52 + 0 ≤ 600000; omega, by show 1248 * k + 20532 + 0 ≤ 7302250; omega⟩ rfl (c_X10_sort (d := 20) hnx hI (hX _) (hX _) (fun r1 h1 => ?_))
  refine aw_aload_n dL_law_922 rfl ?_
  refine aw_aload_n dL_law_923 rfl ?_
  refine aw_iload_n dL_law_924 rfl ?_
  refine aw_iconst dL_law_925 ?_
  refine aw_iadd dL_law_926 ?_
  refine aw_sld dL_law_927 (by omega) (by omega) ?_
  refine aw_aload_n dL_law_928 rfl ?_
  refine aw_iload_n dL_law_929 rfl ?_
  refine aw_iconst dL_law_930 ?_
  refine aw_iadd dL_law_931 ?_
  refine aw_sld dL_law_932 (by omega) (by omega) ?_
  refine aw_callV (As := [_, _]) (ρ := (23, 0, 0)) (kn' := ((KN k).1 + 0, (KN k).2 + 0)) cv_L_99 dL_law_933 rfl rfl (hc43 hnx) rfl rfl (Nat.le_of_ble_eq_true rfl) ⟨(Nat.le_of_ble_eq_true rfl), (Nat.le_of_ble_eq_true rfl)⟩ ⟨by show 29 * k + 52 + 0 ≤ 600000; omega, by show 1248 * k + 20532 + 0 ≤ 7302250; omega⟩ rfl (c_X11_sort (d := 20) hnx hI hA hLv (hX _) (hX _) (fun r2 h2 => ?_))
  obtain rfl : r2 = r1 := h2.trans h1.symm
  refine aw_same_i (tgt := 2122) dL_law_936 rfl ?_
  exact aw_wd ⟨by show 29 * k + 52 + 0 ≤ 29 * (k + 1) + 52; omega, by show 1248 * k + 20532 + 0 ≤ 1248 * (k + 1) + 20532; omega⟩ (hK _ _ _ _ _ _ (hG.mono ⟨by omega, by omega⟩))

set_option maxHeartbeats 1000000 in
theorem law_mean {Γ : GT} {nm : String} {b L : Nat} {xs : Nat → Int} {S T U V : St} {G : Gw} {nx k : Nat} (hG : GI k S T U V G nx) (hk : 6 * k + 6 ≤ L) (hL : L ≤ 3072) (hX : ∀ j, inI (xs j)) (hK : ∀ S2 T2 U2 V2 G2 nx2, GI ((k : Int) + 1) S2 T2 U2 V2 G2 nx2 → AW Γ (MLw nm) room_1 (PL Γ b L xs) (KN (k + 1)) 2122 [some (.ref b), some (rf Γ 0), some (rf Γ 43), some (vi (6 * (k : Int)))] [] (hp Γ S2 T2 U2 V2 G2) nx2) : AW Γ (MLw nm) room_1 (PL Γ b L xs) (KN k) 941 [some (.ref b), some (rf Γ 0), some (rf Γ 43), some (vi (6 * (k : Int)))] [] (hp Γ S T U V G) nx := by
  have hnx := hG.1
  have hLv := hG.2.2.1
  have hI := hG.2.2.2.1
  have hA := hG.2.2.2.2.1
  have hM : 0 ≤ V 10 0 ∧ V 10 0 ≤ 10 := by have q := hG.2.2.2.2.2.2.2.2.1; have := q.2.1; have := q.2.2.1; omega
  refine aw_aload_n dL_law_941 rfl ?_
  refine aw_aload_n dL_law_942 rfl ?_
  refine aw_iload_n dL_law_943 rfl ?_
  refine aw_iconst dL_law_944 ?_
  refine aw_iadd dL_law_945 ?_
  refine aw_sld dL_law_946 (by omega) (by omega) ?_
  refine aw_aload_n dL_law_947 rfl ?_
  refine aw_iload_n dL_law_948 rfl ?_
  refine aw_iconst dL_law_949 ?_
  refine aw_iadd dL_law_950 ?_
  refine aw_sld dL_law_951 (by omega) (by omega) ?_
  refine aw_callV (As := [_, _]) (ρ := (22, 0, 0)) (kn' := ((KN k).1 + 0, (KN k).2 + 0)) cv_L_100 dL_law_952 rfl rfl (hc0 hnx) rfl rfl (Nat.le_of_ble_eq_true rfl) ⟨(Nat.le_of_ble_eq_true rfl), (Nat.le_of_ble_eq_true rfl)⟩ ⟨by show 29 * k + 52 + 0 ≤ 600000; omega, by show 1248 * k + 20532 + 0 ≤ 7302250; omega⟩ rfl (c_X10_mean (d := 20) hnx hI (hX _) (hX _) (fun r1 h1 => ?_))
  refine aw_aload_n dL_law_955 rfl ?_
  refine aw_aload_n dL_law_956 rfl ?_
  refine aw_iload_n dL_law_957 rfl ?_
  refine aw_iconst dL_law_958 ?_
  refine aw_iadd dL_law_959 ?_
  refine aw_sld dL_law_960 (by omega) (by omega) ?_
  refine aw_aload_n dL_law_961 rfl ?_
  refine aw_iload_n dL_law_962 rfl ?_
  refine aw_iconst dL_law_963 ?_
  refine aw_iadd dL_law_964 ?_
  refine aw_sld dL_law_965 (by omega) (by omega) ?_
  refine aw_callV (As := [_, _]) (ρ := (23, 0, 0)) (kn' := ((KN k).1 + 0, (KN k).2 + 0)) cv_L_104 dL_law_966 rfl rfl (hc43 hnx) rfl rfl (Nat.le_of_ble_eq_true rfl) ⟨(Nat.le_of_ble_eq_true rfl), (Nat.le_of_ble_eq_true rfl)⟩ ⟨by show 29 * k + 52 + 0 ≤ 600000; omega, by show 1248 * k + 20532 + 0 ≤ 7302250; omega⟩ rfl (c_X11_mean (d := 20) hnx hI hA hLv (hX _) (hX _) (fun r2 h2 => ?_))
  obtain rfl : r2 = r1 := h2.trans h1.symm
  refine aw_same_l (tgt := 2122) dL_law_969 dL_law_970 rfl ?_
  exact aw_wd ⟨by show 29 * k + 52 + 0 ≤ 29 * (k + 1) + 52; omega, by show 1248 * k + 20532 + 0 ≤ 1248 * (k + 1) + 20532; omega⟩ (hK _ _ _ _ _ _ (hG.mono ⟨by omega, by omega⟩))

set_option maxHeartbeats 1000000 in
theorem law_share {Γ : GT} {nm : String} {b L : Nat} {xs : Nat → Int} {S T U V : St} {G : Gw} {nx k : Nat} (hG : GI k S T U V G nx) (hk : 6 * k + 6 ≤ L) (hL : L ≤ 3072) (hX : ∀ j, inI (xs j)) (hK : ∀ S2 T2 U2 V2 G2 nx2, GI ((k : Int) + 1) S2 T2 U2 V2 G2 nx2 → AW Γ (MLw nm) room_1 (PL Γ b L xs) (KN (k + 1)) 2122 [some (.ref b), some (rf Γ 0), some (rf Γ 43), some (vi (6 * (k : Int)))] [] (hp Γ S2 T2 U2 V2 G2) nx2) : AW Γ (MLw nm) room_1 (PL Γ b L xs) (KN k) 975 [some (.ref b), some (rf Γ 0), some (rf Γ 43), some (vi (6 * (k : Int)))] [] (hp Γ S T U V G) nx := by
  have hnx := hG.1
  have hLv := hG.2.2.1
  have hI := hG.2.2.2.1
  have hA := hG.2.2.2.2.1
  have hM : 0 ≤ V 10 0 ∧ V 10 0 ≤ 10 := by have q := hG.2.2.2.2.2.2.2.2.1; have := q.2.1; have := q.2.2.1; omega
  refine aw_aload_n dL_law_975 rfl ?_
  refine aw_aload_n dL_law_976 rfl ?_
  refine aw_iload_n dL_law_977 rfl ?_
  refine aw_iconst dL_law_978 ?_
  refine aw_iadd dL_law_979 ?_
  refine aw_sld dL_law_980 (by omega) (by omega) ?_
  refine aw_aload_n dL_law_981 rfl ?_
  refine aw_iload_n dL_law_982 rfl ?_
  refine aw_iconst dL_law_983 ?_
  refine aw_iadd dL_law_984 ?_
  refine aw_sld dL_law_985 (by omega) (by omega) ?_
  refine aw_aload_n dL_law_986 rfl ?_
  refine aw_iload_n dL_law_987 rfl ?_
  refine aw_iconst dL_law_988 ?_
  refine aw_iadd dL_law_989 ?_
  refine aw_sld dL_law_990 (by omega) (by omega) ?_
  refine aw_callV (As := [_, _, _]) (ρ := (22, 0, 0)) (kn' := ((KN k).1 + 0, (KN k).2 + 0)) cv_L_105 dL_law_991 rfl rfl (hc0 hnx) rfl rfl (Nat.le_of_ble_eq_true rfl) ⟨(Nat.le_of_ble_eq_true rfl), (Nat.le_of_ble_eq_true rfl)⟩ ⟨by show 29 * k + 52 + 0 ≤ 600000; omega, by show 1248 * k + 20532 + 0 ≤ 7302250; omega⟩ rfl (c_X10_share (d := 20) hnx hI (hX _) (hX _) (hX _) (fun r1 h1 => ?_))
  refine aw_aload_n dL_law_994 rfl ?_
  refine aw_aload_n dL_law_995 rfl ?_
  refine aw_iload_n dL_law_996 rfl ?_
  refine aw_iconst dL_law_997 ?_
  refine aw_iadd dL_law_998 ?_
  refine aw_sld dL_law_999 (by omega) (by omega) ?_
  refine aw_aload_n dL_law_1000 rfl ?_
  refine aw_iload_n dL_law_1001 rfl ?_
  refine aw_iconst dL_law_1002 ?_
  refine aw_iadd dL_law_1003 ?_
  refine aw_sld dL_law_1004 (by omega) (by omega) ?_
  refine aw_aload_n dL_law_1005 rfl ?_
  refine aw_iload_n dL_law_1006 rfl ?_
  refine aw_iconst dL_law_1007 ?_
  refine aw_iadd dL_law_1008 ?_
  refine aw_sld dL_law_1009 (by omega) (by omega) ?_
  refine aw_callV (As := [_, _, _]) (ρ := (23, 0, 0)) (kn' := ((KN k).1 + 0, (KN k).2 + 0)) cv_L_108 dL_law_1010 rfl rfl (hc43 hnx) rfl rfl (Nat.le_of_ble_eq_true rfl) ⟨(Nat.le_of_ble_eq_true rfl), (Nat.le_of_ble_eq_true rfl)⟩ ⟨by show 29 * k + 52 + 0 ≤ 600000; omega, by show 1248 * k + 20532 + 0 ≤ 7302250; omega⟩ rfl (c_X11_share (d := 20) hnx hI hA hLv (hX _) (hX _) (hX _) (fun r2 h2 => ?_))
  obtain rfl : r2 = r1 := h2.trans h1.symm
  refine aw_same_i (tgt := 2122) dL_law_1013 rfl ?_
  exact aw_wd ⟨by show 29 * k + 52 + 0 ≤ 29 * (k + 1) + 52; omega, by show 1248 * k + 20532 + 0 ≤ 1248 * (k + 1) + 20532; omega⟩ (hK _ _ _ _ _ _ (hG.mono ⟨by omega, by omega⟩))

set_option maxHeartbeats 1000000 in
theorem law_licence {Γ : GT} {nm : String} {b L : Nat} {xs : Nat → Int} {S T U V : St} {G : Gw} {nx k : Nat} (hG : GI k S T U V G nx) (hk : 6 * k + 6 ≤ L) (hL : L ≤ 3072) (hX : ∀ j, inI (xs j)) (hK : ∀ S2 T2 U2 V2 G2 nx2, GI ((k : Int) + 1) S2 T2 U2 V2 G2 nx2 → AW Γ (MLw nm) room_1 (PL Γ b L xs) (KN (k + 1)) 2122 [some (.ref b), some (rf Γ 0), some (rf Γ 43), some (vi (6 * (k : Int)))] [] (hp Γ S2 T2 U2 V2 G2) nx2) : AW Γ (MLw nm) room_1 (PL Γ b L xs) (KN k) 1018 [some (.ref b), some (rf Γ 0), some (rf Γ 43), some (vi (6 * (k : Int)))] [] (hp Γ S T U V G) nx := by
  have hnx := hG.1
  have hLv := hG.2.2.1
  have hI := hG.2.2.2.1
  have hA := hG.2.2.2.2.1
  have hM : 0 ≤ V 10 0 ∧ V 10 0 ≤ 10 := by have q := hG.2.2.2.2.2.2.2.2.1; have := q.2.1; have := q.2.2.1; omega
  refine aw_aload_n dL_law_1018 rfl ?_
  refine aw_aload_n dL_law_1019 rfl ?_
  refine aw_iload_n dL_law_1020 rfl ?_
  refine aw_iconst dL_law_1021 ?_
  refine aw_iadd dL_law_1022 ?_
  refine aw_sld dL_law_1023 (by omega) (by omega) ?_
  refine aw_aload_n dL_law_1024 rfl ?_
  refine aw_iload_n dL_law_1025 rfl ?_
  refine aw_iconst dL_law_1026 ?_
  refine aw_iadd dL_law_1027 ?_
  refine aw_sld dL_law_1028 (by omega) (by omega) ?_
  refine aw_callV (As := [_, _]) (ρ := (22, 0, 0)) (kn' := ((KN k).1 + 0, (KN k).2 + 0)) cv_L_109 dL_law_1029 rfl rfl (hc0 hnx) rfl rfl (Nat.le_of_ble_eq_true rfl) ⟨(Nat.le_of_ble_eq_true rfl), (Nat.le_of_ble_eq_true rfl)⟩ ⟨by show 29 * k + 52 + 0 ≤ 600000; omega, by show 1248 * k + 20532 + 0 ≤ 7302250; omega⟩ rfl (c_X10_licence (d := 20) hnx hI (hX _) (hX _) (fun r1 h1 => ?_))
  refine aw_aload_n dL_law_1032 rfl ?_
  refine aw_aload_n dL_law_1033 rfl ?_
  refine aw_iload_n dL_law_1034 rfl ?_
  refine aw_iconst dL_law_1035 ?_
  refine aw_iadd dL_law_1036 ?_
  refine aw_sld dL_law_1037 (by omega) (by omega) ?_
  refine aw_aload_n dL_law_1038 rfl ?_
  refine aw_iload_n dL_law_1039 rfl ?_
  refine aw_iconst dL_law_1040 ?_
  refine aw_iadd dL_law_1041 ?_
  refine aw_sld dL_law_1042 (by omega) (by omega) ?_
  refine aw_callV (As := [_, _]) (ρ := (24, 0, 0)) (kn' := ((KN k).1 + 0, (KN k).2 + 0)) cv_L_112 dL_law_1043 rfl rfl (hc43 hnx) rfl rfl (Nat.le_of_ble_eq_true rfl) ⟨(Nat.le_of_ble_eq_true rfl), (Nat.le_of_ble_eq_true rfl)⟩ ⟨by show 29 * k + 52 + 0 ≤ 600000; omega, by show 1248 * k + 20532 + 0 ≤ 7302250; omega⟩ rfl (c_X11_licence (d := 20) hnx hI hA hLv (hX _) (hX _) (fun r2 h2 => ?_))
  obtain rfl : r2 = r1 := h2.trans h1.symm
  refine aw_same_i (tgt := 2122) dL_law_1046 rfl ?_
  exact aw_wd ⟨by show 29 * k + 52 + 0 ≤ 29 * (k + 1) + 52; omega, by show 1248 * k + 20532 + 0 ≤ 1248 * (k + 1) + 20532; omega⟩ (hK _ _ _ _ _ _ (hG.mono ⟨by omega, by omega⟩))

set_option maxHeartbeats 1000000 in
theorem law_month {Γ : GT} {nm : String} {b L : Nat} {xs : Nat → Int} {S T U V : St} {G : Gw} {nx k : Nat} (hG : GI k S T U V G nx) (hk : 6 * k + 6 ≤ L) (hL : L ≤ 3072) (hX : ∀ j, inI (xs j)) (hK : ∀ S2 T2 U2 V2 G2 nx2, GI ((k : Int) + 1) S2 T2 U2 V2 G2 nx2 → AW Γ (MLw nm) room_1 (PL Γ b L xs) (KN (k + 1)) 2122 [some (.ref b), some (rf Γ 0), some (rf Γ 43), some (vi (6 * (k : Int)))] [] (hp Γ S2 T2 U2 V2 G2) nx2) : AW Γ (MLw nm) room_1 (PL Γ b L xs) (KN k) 1051 [some (.ref b), some (rf Γ 0), some (rf Γ 43), some (vi (6 * (k : Int)))] [] (hp Γ S T U V G) nx := by
  have hnx := hG.1
  have hLv := hG.2.2.1
  have hI := hG.2.2.2.1
  have hA := hG.2.2.2.2.1
  have hM : 0 ≤ V 10 0 ∧ V 10 0 ≤ 10 := by have q := hG.2.2.2.2.2.2.2.2.1; have := q.2.1; have := q.2.2.1; omega
  refine aw_aload_n dL_law_1051 rfl ?_
  refine aw_aload_n dL_law_1052 rfl ?_
  refine aw_iload_n dL_law_1053 rfl ?_
  refine aw_iconst dL_law_1054 ?_
  refine aw_iadd dL_law_1055 ?_
  refine aw_sld dL_law_1056 (by omega) (by omega) ?_
  refine aw_aload_n dL_law_1057 rfl ?_
  refine aw_iload_n dL_law_1058 rfl ?_
  refine aw_iconst dL_law_1059 ?_
  refine aw_iadd dL_law_1060 ?_
  refine aw_sld dL_law_1061 (by omega) (by omega) ?_
  refine aw_callV (As := [_, _]) (ρ := (21, 0, 0)) (kn' := ((KN k).1 + 0, (KN k).2 + 0)) cv_L_113 dL_law_1062 rfl rfl (hc0 hnx) rfl rfl (Nat.le_of_ble_eq_true rfl) ⟨(Nat.le_of_ble_eq_true rfl), (Nat.le_of_ble_eq_true rfl)⟩ ⟨by show 29 * k + 52 + 0 ≤ 600000; omega, by show 1248 * k + 20532 + 0 ≤ 7302250; omega⟩ rfl (c_X10_month (d := 20) hnx hI (hX _) (hX _) (fun r1 h1 => ?_))
  refine aw_aload_n dL_law_1065 rfl ?_
  refine aw_aload_n dL_law_1066 rfl ?_
  refine aw_iload_n dL_law_1067 rfl ?_
  refine aw_iconst dL_law_1068 ?_
  refine aw_iadd dL_law_1069 ?_
  refine aw_sld dL_law_1070 (by omega) (by omega) ?_
  refine aw_aload_n dL_law_1071 rfl ?_
  refine aw_iload_n dL_law_1072 rfl ?_
  refine aw_iconst dL_law_1073 ?_
  refine aw_iadd dL_law_1074 ?_
  refine aw_sld dL_law_1075 (by omega) (by omega) ?_
  refine aw_callV (As := [_, _]) (ρ := (22, 0, 0)) (kn' := ((KN k).1 + 0, (KN k).2 + 0)) cv_L_116 dL_law_1076 rfl rfl (hc43 hnx) rfl rfl (Nat.le_of_ble_eq_true rfl) ⟨(Nat.le_of_ble_eq_true rfl), (Nat.le_of_ble_eq_true rfl)⟩ ⟨by show 29 * k + 52 + 0 ≤ 600000; omega, by show 1248 * k + 20532 + 0 ≤ 7302250; omega⟩ rfl (c_X11_month (d := 20) hnx hI hA hLv (hX _) (hX _) (fun r2 h2 => ?_))
  obtain rfl : r2 = r1 := h2.trans h1.symm
  refine aw_same_i (tgt := 2122) dL_law_1079 rfl ?_
  exact aw_wd ⟨by show 29 * k + 52 + 0 ≤ 29 * (k + 1) + 52; omega, by show 1248 * k + 20532 + 0 ≤ 1248 * (k + 1) + 20532; omega⟩ (hK _ _ _ _ _ _ (hG.mono ⟨by omega, by omega⟩))

set_option maxHeartbeats 1000000 in
theorem law_rate {Γ : GT} {nm : String} {b L : Nat} {xs : Nat → Int} {S T U V : St} {G : Gw} {nx k : Nat} (hG : GI k S T U V G nx) (hk : 6 * k + 6 ≤ L) (hL : L ≤ 3072) (hX : ∀ j, inI (xs j)) (hK : ∀ S2 T2 U2 V2 G2 nx2, GI ((k : Int) + 1) S2 T2 U2 V2 G2 nx2 → AW Γ (MLw nm) room_1 (PL Γ b L xs) (KN (k + 1)) 2122 [some (.ref b), some (rf Γ 0), some (rf Γ 43), some (vi (6 * (k : Int)))] [] (hp Γ S2 T2 U2 V2 G2) nx2) : AW Γ (MLw nm) room_1 (PL Γ b L xs) (KN k) 1084 [some (.ref b), some (rf Γ 0), some (rf Γ 43), some (vi (6 * (k : Int)))] [] (hp Γ S T U V G) nx := by
  have hnx := hG.1
  have hLv := hG.2.2.1
  have hI := hG.2.2.2.1
  have hA := hG.2.2.2.2.1
  have hM : 0 ≤ V 10 0 ∧ V 10 0 ≤ 10 := by have q := hG.2.2.2.2.2.2.2.2.1; have := q.2.1; have := q.2.2.1; omega
  refine aw_aload_n dL_law_1084 rfl ?_
  refine aw_aload_n dL_law_1085 rfl ?_
  refine aw_iload_n dL_law_1086 rfl ?_
  refine aw_iconst dL_law_1087 ?_
  refine aw_iadd dL_law_1088 ?_
  refine aw_sld dL_law_1089 (by omega) (by omega) ?_
  refine aw_callV (As := [_]) (ρ := (22, 0, 0)) (kn' := ((KN k).1 + 0, (KN k).2 + 0)) cv_L_117 dL_law_1090 rfl rfl (hc0 hnx) rfl rfl (Nat.le_of_ble_eq_true rfl) ⟨(Nat.le_of_ble_eq_true rfl), (Nat.le_of_ble_eq_true rfl)⟩ ⟨by show 29 * k + 52 + 0 ≤ 600000; omega, by show 1248 * k + 20532 + 0 ≤ 7302250; omega⟩ rfl (c_X10_rate (d := 20) hnx hI (hX _) (fun r1 h1 => ?_))
  refine aw_aload_n dL_law_1093 rfl ?_
  refine aw_aload_n dL_law_1094 rfl ?_
  refine aw_iload_n dL_law_1095 rfl ?_
  refine aw_iconst dL_law_1096 ?_
  refine aw_iadd dL_law_1097 ?_
  refine aw_sld dL_law_1098 (by omega) (by omega) ?_
  refine aw_callV (As := [_]) (ρ := (24, 0, 0)) (kn' := ((KN k).1 + 0, (KN k).2 + 0)) cv_L_121 dL_law_1099 rfl rfl (hc43 hnx) rfl rfl (Nat.le_of_ble_eq_true rfl) ⟨(Nat.le_of_ble_eq_true rfl), (Nat.le_of_ble_eq_true rfl)⟩ ⟨by show 29 * k + 52 + 0 ≤ 600000; omega, by show 1248 * k + 20532 + 0 ≤ 7302250; omega⟩ rfl (c_X11_rate (d := 20) hnx hI hA hLv (hX _) (fun r2 h2 => ?_))
  obtain rfl : r2 = r1 := h2.trans h1.symm
  refine aw_same_l (tgt := 2122) dL_law_1102 dL_law_1103 rfl ?_
  exact aw_wd ⟨by show 29 * k + 52 + 0 ≤ 29 * (k + 1) + 52; omega, by show 1248 * k + 20532 + 0 ≤ 1248 * (k + 1) + 20532; omega⟩ (hK _ _ _ _ _ _ (hG.mono ⟨by omega, by omega⟩))

set_option maxHeartbeats 1000000 in
theorem law_idle {Γ : GT} {nm : String} {b L : Nat} {xs : Nat → Int} {S T U V : St} {G : Gw} {nx k : Nat} (hG : GI k S T U V G nx) (hk : 6 * k + 6 ≤ L) (hL : L ≤ 3072) (hX : ∀ j, inI (xs j)) (hK : ∀ S2 T2 U2 V2 G2 nx2, GI ((k : Int) + 1) S2 T2 U2 V2 G2 nx2 → AW Γ (MLw nm) room_1 (PL Γ b L xs) (KN (k + 1)) 2122 [some (.ref b), some (rf Γ 0), some (rf Γ 43), some (vi (6 * (k : Int)))] [] (hp Γ S2 T2 U2 V2 G2) nx2) : AW Γ (MLw nm) room_1 (PL Γ b L xs) (KN k) 1108 [some (.ref b), some (rf Γ 0), some (rf Γ 43), some (vi (6 * (k : Int)))] [] (hp Γ S T U V G) nx := by
  have hnx := hG.1
  have hLv := hG.2.2.1
  have hI := hG.2.2.2.1
  have hA := hG.2.2.2.2.1
  have hM : 0 ≤ V 10 0 ∧ V 10 0 ≤ 10 := by have q := hG.2.2.2.2.2.2.2.2.1; have := q.2.1; have := q.2.2.1; omega
  refine aw_aload_n dL_law_1108 rfl ?_
  refine aw_aload_n dL_law_1109 rfl ?_
  refine aw_iload_n dL_law_1110 rfl ?_
  refine aw_iconst dL_law_1111 ?_
  refine aw_iadd dL_law_1112 ?_
  refine aw_sld dL_law_1113 (by omega) (by omega) ?_
  refine aw_aload_n dL_law_1114 rfl ?_
  refine aw_iload_n dL_law_1115 rfl ?_
  refine aw_iconst dL_law_1116 ?_
  refine aw_iadd dL_law_1117 ?_
  refine aw_sld dL_law_1118 (by omega) (by omega) ?_
  refine aw_callV (As := [_, _]) (ρ := (23, 0, 0)) (kn' := ((KN k).1 + 0, (KN k).2 + 0)) cv_L_122 dL_law_1119 rfl rfl (hc0 hnx) rfl rfl (Nat.le_of_ble_eq_true rfl) ⟨(Nat.le_of_ble_eq_true rfl), (Nat.le_of_ble_eq_true rfl)⟩ ⟨by show 29 * k + 52 + 0 ≤ 600000; omega, by show 1248 * k + 20532 + 0 ≤ 7302250; omega⟩ rfl (c_X10_idle (d := 20) hnx hI (hX _) (hX _) (fun r1 h1 => ?_))
  refine aw_aload_n dL_law_1122 rfl ?_
  refine aw_aload_n dL_law_1123 rfl ?_
  refine aw_iload_n dL_law_1124 rfl ?_
  refine aw_iconst dL_law_1125 ?_
  refine aw_iadd dL_law_1126 ?_
  refine aw_sld dL_law_1127 (by omega) (by omega) ?_
  refine aw_aload_n dL_law_1128 rfl ?_
  refine aw_iload_n dL_law_1129 rfl ?_
  refine aw_iconst dL_law_1130 ?_
  refine aw_iadd dL_law_1131 ?_
  refine aw_sld dL_law_1132 (by omega) (by omega) ?_
  refine aw_callV (As := [_, _]) (ρ := (25, 0, 0)) (kn' := ((KN k).1 + 0, (KN k).2 + 0)) cv_L_125 dL_law_1133 rfl rfl (hc43 hnx) rfl rfl (Nat.le_of_ble_eq_true rfl) ⟨(Nat.le_of_ble_eq_true rfl), (Nat.le_of_ble_eq_true rfl)⟩ ⟨by show 29 * k + 52 + 0 ≤ 600000; omega, by show 1248 * k + 20532 + 0 ≤ 7302250; omega⟩ rfl (c_X11_idle (d := 20) hnx hI hA hLv (hX _) (hX _) (fun r2 h2 => ?_))
  obtain rfl : r2 = r1 := h2.trans h1.symm
  refine aw_same_i (tgt := 2122) dL_law_1136 rfl ?_
  exact aw_wd ⟨by show 29 * k + 52 + 0 ≤ 29 * (k + 1) + 52; omega, by show 1248 * k + 20532 + 0 ≤ 1248 * (k + 1) + 20532; omega⟩ (hK _ _ _ _ _ _ (hG.mono ⟨by omega, by omega⟩))

set_option maxHeartbeats 1000000 in
theorem law_owed {Γ : GT} {nm : String} {b L : Nat} {xs : Nat → Int} {S T U V : St} {G : Gw} {nx k : Nat} (hG : GI k S T U V G nx) (hk : 6 * k + 6 ≤ L) (hL : L ≤ 3072) (hX : ∀ j, inI (xs j)) (hK : ∀ S2 T2 U2 V2 G2 nx2, GI ((k : Int) + 1) S2 T2 U2 V2 G2 nx2 → AW Γ (MLw nm) room_1 (PL Γ b L xs) (KN (k + 1)) 2122 [some (.ref b), some (rf Γ 0), some (rf Γ 43), some (vi (6 * (k : Int)))] [] (hp Γ S2 T2 U2 V2 G2) nx2) : AW Γ (MLw nm) room_1 (PL Γ b L xs) (KN k) 1141 [some (.ref b), some (rf Γ 0), some (rf Γ 43), some (vi (6 * (k : Int)))] [] (hp Γ S T U V G) nx := by
  have hnx := hG.1
  have hLv := hG.2.2.1
  have hI := hG.2.2.2.1
  have hA := hG.2.2.2.2.1
  have hM : 0 ≤ V 10 0 ∧ V 10 0 ≤ 10 := by have q := hG.2.2.2.2.2.2.2.2.1; have := q.2.1; have := q.2.2.1; omega
  refine aw_aload_n dL_law_1141 rfl ?_
  refine aw_aload_n dL_law_1142 rfl ?_
  refine aw_iload_n dL_law_1143 rfl ?_
  refine aw_iconst dL_law_1144 ?_
  refine aw_iadd dL_law_1145 ?_
  refine aw_sld dL_law_1146 (by omega) (by omega) ?_
  refine aw_callV (As := [_]) (ρ := (21, 0, 0)) (kn' := ((KN k).1 + 0, (KN k).2 + 0)) cv_L_126 dL_law_1147 rfl rfl (hc0 hnx) rfl rfl (Nat.le_of_ble_eq_true rfl) ⟨(Nat.le_of_ble_eq_true rfl), (Nat.le_of_ble_eq_true rfl)⟩ ⟨by show 29 * k + 52 + 0 ≤ 600000; omega, by show 1248 * k + 20532 + 0 ≤ 7302250; omega⟩ rfl (c_X10_owed (d := 20) hnx hI (hX _) (fun r1 h1 => ?_))
  refine aw_aload_n dL_law_1150 rfl ?_
  refine aw_aload_n dL_law_1151 rfl ?_
  refine aw_iload_n dL_law_1152 rfl ?_
  refine aw_iconst dL_law_1153 ?_
  refine aw_iadd dL_law_1154 ?_
  refine aw_sld dL_law_1155 (by omega) (by omega) ?_
  refine aw_callV (As := [_]) (ρ := (22, 0, 0)) (kn' := ((KN k).1 + 0, (KN k).2 + 0)) cv_L_129 dL_law_1156 rfl rfl (hc43 hnx) rfl rfl (Nat.le_of_ble_eq_true rfl) ⟨(Nat.le_of_ble_eq_true rfl), (Nat.le_of_ble_eq_true rfl)⟩ ⟨by show 29 * k + 52 + 0 ≤ 600000; omega, by show 1248 * k + 20532 + 0 ≤ 7302250; omega⟩ rfl (c_X11_owed (d := 20) hnx hI hA hLv (hX _) (fun r2 h2 => ?_))
  obtain rfl : r2 = r1 := h2.trans h1.symm
  refine aw_same_l (tgt := 2122) dL_law_1159 dL_law_1160 rfl ?_
  exact aw_wd ⟨by show 29 * k + 52 + 0 ≤ 29 * (k + 1) + 52; omega, by show 1248 * k + 20532 + 0 ≤ 1248 * (k + 1) + 20532; omega⟩ (hK _ _ _ _ _ _ (hG.mono ⟨by omega, by omega⟩))

set_option maxHeartbeats 1000000 in
theorem law_would {Γ : GT} {nm : String} {b L : Nat} {xs : Nat → Int} {S T U V : St} {G : Gw} {nx k : Nat} (hG : GI k S T U V G nx) (hk : 6 * k + 6 ≤ L) (hL : L ≤ 3072) (hX : ∀ j, inI (xs j)) (hK : ∀ S2 T2 U2 V2 G2 nx2, GI ((k : Int) + 1) S2 T2 U2 V2 G2 nx2 → AW Γ (MLw nm) room_1 (PL Γ b L xs) (KN (k + 1)) 2122 [some (.ref b), some (rf Γ 0), some (rf Γ 43), some (vi (6 * (k : Int)))] [] (hp Γ S2 T2 U2 V2 G2) nx2) : AW Γ (MLw nm) room_1 (PL Γ b L xs) (KN k) 1165 [some (.ref b), some (rf Γ 0), some (rf Γ 43), some (vi (6 * (k : Int)))] [] (hp Γ S T U V G) nx := by
  have hnx := hG.1
  have hLv := hG.2.2.1
  have hI := hG.2.2.2.1
  have hA := hG.2.2.2.2.1
  have hM : 0 ≤ V 10 0 ∧ V 10 0 ≤ 10 := by have q := hG.2.2.2.2.2.2.2.2.1; have := q.2.1; have := q.2.2.1; omega
  refine aw_aload_n dL_law_1165 rfl ?_
  refine aw_aload_n dL_law_1166 rfl ?_
  refine aw_iload_n dL_law_1167 rfl ?_
  refine aw_iconst dL_law_1168 ?_
  refine aw_iadd dL_law_1169 ?_
  refine aw_sld dL_law_1170 (by omega) (by omega) ?_
  refine aw_aload_n dL_law_1171 rfl ?_
  refine aw_iload_n dL_law_1172 rfl ?_
  refine aw_iconst dL_law_1173 ?_
  refine aw_iadd dL_law_1174 ?_
  refine aw_sld dL_law_1175 (by omega) (by omega) ?_
  refine aw_aload_n dL_law_1176 rfl ?_
  refine aw_iload_n dL_law_1177 rfl ?_
  refine aw_iconst dL_law_1178 ?_
  refine aw_iadd dL_law_1179 ?_
  refine aw_sld dL_law_1180 (by omega) (by omega) ?_
  refine aw_callV (As := [_, _, _]) (ρ := (25, 0, 0)) (kn' := ((KN k).1 + 0, (KN k).2 + 0)) cv_L_130 dL_law_1181 rfl rfl (hc0 hnx) rfl rfl (Nat.le_of_ble_eq_true rfl) ⟨(Nat.le_of_ble_eq_true rfl), (Nat.le_of_ble_eq_true rfl)⟩ ⟨by show 29 * k + 52 + 0 ≤ 600000; omega, by show 1248 * k + 20532 + 0 ≤ 7302250; omega⟩ rfl (c_X10_would (d := 20) hnx hI (hX _) (hX _) (hX _) (fun r1 h1 => ?_))
  refine aw_aload_n dL_law_1184 rfl ?_
  refine aw_aload_n dL_law_1185 rfl ?_
  refine aw_iload_n dL_law_1186 rfl ?_
  refine aw_iconst dL_law_1187 ?_
  refine aw_iadd dL_law_1188 ?_
  refine aw_sld dL_law_1189 (by omega) (by omega) ?_
  refine aw_aload_n dL_law_1190 rfl ?_
  refine aw_iload_n dL_law_1191 rfl ?_
  refine aw_iconst dL_law_1192 ?_
  refine aw_iadd dL_law_1193 ?_
  refine aw_sld dL_law_1194 (by omega) (by omega) ?_
  refine aw_aload_n dL_law_1195 rfl ?_
  refine aw_iload_n dL_law_1196 rfl ?_
  refine aw_iconst dL_law_1197 ?_
  refine aw_iadd dL_law_1198 ?_
  refine aw_sld dL_law_1199 (by omega) (by omega) ?_
  refine aw_callV (As := [_, _, _]) (ρ := (26, 0, 0)) (kn' := ((KN k).1 + 0, (KN k).2 + 0)) cv_L_133 dL_law_1200 rfl rfl (hc43 hnx) rfl rfl (Nat.le_of_ble_eq_true rfl) ⟨(Nat.le_of_ble_eq_true rfl), (Nat.le_of_ble_eq_true rfl)⟩ ⟨by show 29 * k + 52 + 0 ≤ 600000; omega, by show 1248 * k + 20532 + 0 ≤ 7302250; omega⟩ rfl (c_X11_would (d := 20) hnx hI hA hLv (hX _) (hX _) (hX _) (fun r2 h2 => ?_))
  obtain rfl : r2 = r1 := h2.trans h1.symm
  refine aw_same_i (tgt := 2122) dL_law_1203 rfl ?_
  exact aw_wd ⟨by show 29 * k + 52 + 0 ≤ 29 * (k + 1) + 52; omega, by show 1248 * k + 20532 + 0 ≤ 1248 * (k + 1) + 20532; omega⟩ (hK _ _ _ _ _ _ (hG.mono ⟨by omega, by omega⟩))

set_option maxHeartbeats 1000000 in
theorem law_lapses {Γ : GT} {nm : String} {b L : Nat} {xs : Nat → Int} {S T U V : St} {G : Gw} {nx k : Nat} (hG : GI k S T U V G nx) (hk : 6 * k + 6 ≤ L) (hL : L ≤ 3072) (hX : ∀ j, inI (xs j)) (hK : ∀ S2 T2 U2 V2 G2 nx2, GI ((k : Int) + 1) S2 T2 U2 V2 G2 nx2 → AW Γ (MLw nm) room_1 (PL Γ b L xs) (KN (k + 1)) 2122 [some (.ref b), some (rf Γ 0), some (rf Γ 43), some (vi (6 * (k : Int)))] [] (hp Γ S2 T2 U2 V2 G2) nx2) : AW Γ (MLw nm) room_1 (PL Γ b L xs) (KN k) 1208 [some (.ref b), some (rf Γ 0), some (rf Γ 43), some (vi (6 * (k : Int)))] [] (hp Γ S T U V G) nx := by
  have hnx := hG.1
  have hLv := hG.2.2.1
  have hI := hG.2.2.2.1
  have hA := hG.2.2.2.2.1
  have hM : 0 ≤ V 10 0 ∧ V 10 0 ≤ 10 := by have q := hG.2.2.2.2.2.2.2.2.1; have := q.2.1; have := q.2.2.1; omega
  refine aw_aload_n dL_law_1208 rfl ?_
  refine aw_aload_n dL_law_1209 rfl ?_
  refine aw_iload_n dL_law_1210 rfl ?_
  refine aw_iconst dL_law_1211 ?_
  refine aw_iadd dL_law_1212 ?_
  refine aw_sld dL_law_1213 (by omega) (by omega) ?_
  refine aw_callV (As := [_]) (ρ := (22, 0, 0)) (kn' := ((KN k).1 + 0, (KN k).2 + 0)) cv_L_134 dL_law_1214 rfl rfl (hc0 hnx) rfl rfl (Nat.le_of_ble_eq_true rfl) ⟨(Nat.le_of_ble_eq_true rfl), (Nat.le_of_ble_eq_true rfl)⟩ ⟨by show 29 * k + 52 + 0 ≤ 600000; omega, by show 1248 * k + 20532 + 0 ≤ 7302250; omega⟩ rfl (c_X10_lapses (d := 20) hnx hI (hX _) (fun r1 h1 => ?_))
  refine aw_aload_n dL_law_1217 rfl ?_
  refine aw_aload_n dL_law_1218 rfl ?_
  refine aw_iload_n dL_law_1219 rfl ?_
  refine aw_iconst dL_law_1220 ?_
  refine aw_iadd dL_law_1221 ?_
  refine aw_sld dL_law_1222 (by omega) (by omega) ?_
  refine aw_callV (As := [_]) (ρ := (24, 0, 0)) (kn' := ((KN k).1 + 0, (KN k).2 + 0)) cv_L_137 dL_law_1223 rfl rfl (hc43 hnx) rfl rfl (Nat.le_of_ble_eq_true rfl) ⟨(Nat.le_of_ble_eq_true rfl), (Nat.le_of_ble_eq_true rfl)⟩ ⟨by show 29 * k + 52 + 0 ≤ 600000; omega, by show 1248 * k + 20532 + 0 ≤ 7302250; omega⟩ rfl (c_X11_lapses (d := 20) hnx hI hA hLv (hX _) (fun r2 h2 => ?_))
  obtain rfl : r2 = r1 := h2.trans h1.symm
  refine aw_same_i (tgt := 2122) dL_law_1226 rfl ?_
  exact aw_wd ⟨by show 29 * k + 52 + 0 ≤ 29 * (k + 1) + 52; omega, by show 1248 * k + 20532 + 0 ≤ 1248 * (k + 1) + 20532; omega⟩ (hK _ _ _ _ _ _ (hG.mono ⟨by omega, by omega⟩))

set_option maxHeartbeats 1000000 in
theorem law_next {Γ : GT} {nm : String} {b L : Nat} {xs : Nat → Int} {S T U V : St} {G : Gw} {nx k : Nat} (hG : GI k S T U V G nx) (hk : 6 * k + 6 ≤ L) (hL : L ≤ 3072) (hX : ∀ j, inI (xs j)) (hK : ∀ S2 T2 U2 V2 G2 nx2, GI ((k : Int) + 1) S2 T2 U2 V2 G2 nx2 → AW Γ (MLw nm) room_1 (PL Γ b L xs) (KN (k + 1)) 2122 [some (.ref b), some (rf Γ 0), some (rf Γ 43), some (vi (6 * (k : Int)))] [] (hp Γ S2 T2 U2 V2 G2) nx2) : AW Γ (MLw nm) room_1 (PL Γ b L xs) (KN k) 1231 [some (.ref b), some (rf Γ 0), some (rf Γ 43), some (vi (6 * (k : Int)))] [] (hp Γ S T U V G) nx := by
  have hnx := hG.1
  have hLv := hG.2.2.1
  have hI := hG.2.2.2.1
  have hA := hG.2.2.2.2.1
  have hM : 0 ≤ V 10 0 ∧ V 10 0 ≤ 10 := by have q := hG.2.2.2.2.2.2.2.2.1; have := q.2.1; have := q.2.2.1; omega
  refine aw_aload_n dL_law_1231 rfl ?_
  refine aw_aload_n dL_law_1232 rfl ?_
  refine aw_iload_n dL_law_1233 rfl ?_
  refine aw_iconst dL_law_1234 ?_
  refine aw_iadd dL_law_1235 ?_
  refine aw_sld dL_law_1236 (by omega) (by omega) ?_
  refine aw_callV (As := [_]) (ρ := (23, 0, 0)) (kn' := ((KN k).1 + 0, (KN k).2 + 0)) cv_L_138 dL_law_1237 rfl rfl (hc0 hnx) rfl rfl (Nat.le_of_ble_eq_true rfl) ⟨(Nat.le_of_ble_eq_true rfl), (Nat.le_of_ble_eq_true rfl)⟩ ⟨by show 29 * k + 52 + 0 ≤ 600000; omega, by show 1248 * k + 20532 + 0 ≤ 7302250; omega⟩ rfl (c_X10_next (d := 20) hnx hI (hX _) (fun r1 h1 => ?_))
  refine aw_aload_n dL_law_1240 rfl ?_
  refine aw_aload_n dL_law_1241 rfl ?_
  refine aw_iload_n dL_law_1242 rfl ?_
  refine aw_iconst dL_law_1243 ?_
  refine aw_iadd dL_law_1244 ?_
  refine aw_sld dL_law_1245 (by omega) (by omega) ?_
  refine aw_callV (As := [_]) (ρ := (24, 0, 0)) (kn' := ((KN k).1 + 0, (KN k).2 + 0)) cv_L_141 dL_law_1246 rfl rfl (hc43 hnx) rfl rfl (Nat.le_of_ble_eq_true rfl) ⟨(Nat.le_of_ble_eq_true rfl), (Nat.le_of_ble_eq_true rfl)⟩ ⟨by show 29 * k + 52 + 0 ≤ 600000; omega, by show 1248 * k + 20532 + 0 ≤ 7302250; omega⟩ rfl (c_X11_next_ (d := 20) hnx hI hA hLv (hX _) (fun r2 h2 => ?_))
  obtain rfl : r2 = r1 := h2.trans h1.symm
  refine aw_same_i (tgt := 2122) dL_law_1249 rfl ?_
  exact aw_wd ⟨by show 29 * k + 52 + 0 ≤ 29 * (k + 1) + 52; omega, by show 1248 * k + 20532 + 0 ≤ 1248 * (k + 1) + 20532; omega⟩ (hK _ _ _ _ _ _ (hG.mono ⟨by omega, by omega⟩))

set_option maxHeartbeats 1000000 in
theorem law_best {Γ : GT} {nm : String} {b L : Nat} {xs : Nat → Int} {S T U V : St} {G : Gw} {nx k : Nat} (hG : GI k S T U V G nx) (hk : 6 * k + 6 ≤ L) (hL : L ≤ 3072) (hX : ∀ j, inI (xs j)) (hK : ∀ S2 T2 U2 V2 G2 nx2, GI ((k : Int) + 1) S2 T2 U2 V2 G2 nx2 → AW Γ (MLw nm) room_1 (PL Γ b L xs) (KN (k + 1)) 2122 [some (.ref b), some (rf Γ 0), some (rf Γ 43), some (vi (6 * (k : Int)))] [] (hp Γ S2 T2 U2 V2 G2) nx2) : AW Γ (MLw nm) room_1 (PL Γ b L xs) (KN k) 1254 [some (.ref b), some (rf Γ 0), some (rf Γ 43), some (vi (6 * (k : Int)))] [] (hp Γ S T U V G) nx := by
  have hnx := hG.1
  have hLv := hG.2.2.1
  have hI := hG.2.2.2.1
  have hA := hG.2.2.2.2.1
  have hM : 0 ≤ V 10 0 ∧ V 10 0 ≤ 10 := by have q := hG.2.2.2.2.2.2.2.2.1; have := q.2.1; have := q.2.2.1; omega
  refine aw_aload_n dL_law_1254 rfl ?_
  refine aw_aload_n dL_law_1255 rfl ?_
  refine aw_iload_n dL_law_1256 rfl ?_
  refine aw_iconst dL_law_1257 ?_
  refine aw_iadd dL_law_1258 ?_
  refine aw_sld dL_law_1259 (by omega) (by omega) ?_
  refine aw_aload_n dL_law_1260 rfl ?_
  refine aw_iload_n dL_law_1261 rfl ?_
  refine aw_iconst dL_law_1262 ?_
  refine aw_iadd dL_law_1263 ?_
  refine aw_sld dL_law_1264 (by omega) (by omega) ?_
  refine aw_aload_n dL_law_1265 rfl ?_
  refine aw_iload_n dL_law_1266 rfl ?_
  refine aw_iconst dL_law_1267 ?_
  refine aw_iadd dL_law_1268 ?_
  refine aw_sld dL_law_1269 (by omega) (by omega) ?_
  refine aw_callV (As := [_, _, _]) (ρ := (25, 0, 0)) (kn' := ((KN k).1 + 0, (KN k).2 + 0)) cv_L_142 dL_law_1270 rfl rfl (hc0 hnx) rfl rfl (Nat.le_of_ble_eq_true rfl) ⟨(Nat.le_of_ble_eq_true rfl), (Nat.le_of_ble_eq_true rfl)⟩ ⟨by show 29 * k + 52 + 0 ≤ 600000; omega, by show 1248 * k + 20532 + 0 ≤ 7302250; omega⟩ rfl (c_X10_best (d := 20) hnx hI (hX _) (hX _) (hX _) (fun r1 h1 => ?_))
  refine aw_aload_n dL_law_1273 rfl ?_
  refine aw_aload_n dL_law_1274 rfl ?_
  refine aw_iload_n dL_law_1275 rfl ?_
  refine aw_iconst dL_law_1276 ?_
  refine aw_iadd dL_law_1277 ?_
  refine aw_sld dL_law_1278 (by omega) (by omega) ?_
  refine aw_aload_n dL_law_1279 rfl ?_
  refine aw_iload_n dL_law_1280 rfl ?_
  refine aw_iconst dL_law_1281 ?_
  refine aw_iadd dL_law_1282 ?_
  refine aw_sld dL_law_1283 (by omega) (by omega) ?_
  refine aw_aload_n dL_law_1284 rfl ?_
  refine aw_iload_n dL_law_1285 rfl ?_
  refine aw_iconst dL_law_1286 ?_
  refine aw_iadd dL_law_1287 ?_
  refine aw_sld dL_law_1288 (by omega) (by omega) ?_
  refine aw_callV (As := [_, _, _]) (ρ := (26, 0, 0)) (kn' := ((KN k).1 + 0, (KN k).2 + 0)) cv_L_145 dL_law_1289 rfl rfl (hc43 hnx) rfl rfl (Nat.le_of_ble_eq_true rfl) ⟨(Nat.le_of_ble_eq_true rfl), (Nat.le_of_ble_eq_true rfl)⟩ ⟨by show 29 * k + 52 + 0 ≤ 600000; omega, by show 1248 * k + 20532 + 0 ≤ 7302250; omega⟩ rfl (c_X11_best (d := 20) hnx hI hA hLv (hX _) (hX _) (hX _) (fun r2 h2 => ?_))
  obtain rfl : r2 = r1 := h2.trans h1.symm
  refine aw_same_i (tgt := 2122) dL_law_1292 rfl ?_
  exact aw_wd ⟨by show 29 * k + 52 + 0 ≤ 29 * (k + 1) + 52; omega, by show 1248 * k + 20532 + 0 ≤ 1248 * (k + 1) + 20532; omega⟩ (hK _ _ _ _ _ _ (hG.mono ⟨by omega, by omega⟩))

set_option maxHeartbeats 1000000 in
theorem law_order {Γ : GT} {nm : String} {b L : Nat} {xs : Nat → Int} {S T U V : St} {G : Gw} {nx k : Nat} (hG : GI k S T U V G nx) (hk : 6 * k + 6 ≤ L) (hL : L ≤ 3072) (hX : ∀ j, inI (xs j)) (hK : ∀ S2 T2 U2 V2 G2 nx2, GI ((k : Int) + 1) S2 T2 U2 V2 G2 nx2 → AW Γ (MLw nm) room_1 (PL Γ b L xs) (KN (k + 1)) 2122 [some (.ref b), some (rf Γ 0), some (rf Γ 43), some (vi (6 * (k : Int)))] [] (hp Γ S2 T2 U2 V2 G2) nx2) : AW Γ (MLw nm) room_1 (PL Γ b L xs) (KN k) 1297 [some (.ref b), some (rf Γ 0), some (rf Γ 43), some (vi (6 * (k : Int)))] [] (hp Γ S T U V G) nx := by
  have hnx := hG.1
  have hLv := hG.2.2.1
  have hI := hG.2.2.2.1
  have hA := hG.2.2.2.2.1
  have hM : 0 ≤ V 10 0 ∧ V 10 0 ≤ 10 := by have q := hG.2.2.2.2.2.2.2.2.1; have := q.2.1; have := q.2.2.1; omega
  refine aw_aload_n dL_law_1297 rfl ?_
  refine aw_aload_n dL_law_1298 rfl ?_
  refine aw_iload_n dL_law_1299 rfl ?_
  refine aw_iconst dL_law_1300 ?_
  refine aw_iadd dL_law_1301 ?_
  refine aw_sld dL_law_1302 (by omega) (by omega) ?_
  refine aw_callV (As := [_]) (ρ := (23, 0, 0)) (kn' := ((KN k).1 + 0, (KN k).2 + 0)) cv_L_146 dL_law_1303 rfl rfl (hc0 hnx) rfl rfl (Nat.le_of_ble_eq_true rfl) ⟨(Nat.le_of_ble_eq_true rfl), (Nat.le_of_ble_eq_true rfl)⟩ ⟨by show 29 * k + 52 + 0 ≤ 600000; omega, by show 1248 * k + 20532 + 0 ≤ 7302250; omega⟩ rfl (c_X10_order (d := 20) hnx hI (hX _) (fun r1 h1 => ?_))
  refine aw_aload_n dL_law_1306 rfl ?_
  refine aw_aload_n dL_law_1307 rfl ?_
  refine aw_iload_n dL_law_1308 rfl ?_
  refine aw_iconst dL_law_1309 ?_
  refine aw_iadd dL_law_1310 ?_
  refine aw_sld dL_law_1311 (by omega) (by omega) ?_
  refine aw_callV (As := [_]) (ρ := (22, 0, 0)) (kn' := ((KN k).1 + 0, (KN k).2 + 0)) cv_L_149 dL_law_1312 rfl rfl (hc43 hnx) rfl rfl (Nat.le_of_ble_eq_true rfl) ⟨(Nat.le_of_ble_eq_true rfl), (Nat.le_of_ble_eq_true rfl)⟩ ⟨by show 29 * k + 52 + 0 ≤ 600000; omega, by show 1248 * k + 20532 + 0 ≤ 7302250; omega⟩ rfl (c_X11_order (d := 20) hnx hI hA hLv (hX _) (fun r2 h2 => ?_))
  obtain rfl : r2 = r1 := h2.trans h1.symm
  refine aw_same_i (tgt := 2122) dL_law_1315 rfl ?_
  exact aw_wd ⟨by show 29 * k + 52 + 0 ≤ 29 * (k + 1) + 52; omega, by show 1248 * k + 20532 + 0 ≤ 1248 * (k + 1) + 20532; omega⟩ (hK _ _ _ _ _ _ (hG.mono ⟨by omega, by omega⟩))

set_option maxHeartbeats 1000000 in
theorem law_focus {Γ : GT} {nm : String} {b L : Nat} {xs : Nat → Int} {S T U V : St} {G : Gw} {nx k : Nat} (hG : GI k S T U V G nx) (hk : 6 * k + 6 ≤ L) (hL : L ≤ 3072) (hX : ∀ j, inI (xs j)) (hK : ∀ S2 T2 U2 V2 G2 nx2, GI ((k : Int) + 1) S2 T2 U2 V2 G2 nx2 → AW Γ (MLw nm) room_1 (PL Γ b L xs) (KN (k + 1)) 2122 [some (.ref b), some (rf Γ 0), some (rf Γ 43), some (vi (6 * (k : Int)))] [] (hp Γ S2 T2 U2 V2 G2) nx2) : AW Γ (MLw nm) room_1 (PL Γ b L xs) (KN k) 1320 [some (.ref b), some (rf Γ 0), some (rf Γ 43), some (vi (6 * (k : Int)))] [] (hp Γ S T U V G) nx := by
  have hnx := hG.1
  have hLv := hG.2.2.1
  have hI := hG.2.2.2.1
  have hA := hG.2.2.2.2.1
  have hM : 0 ≤ V 10 0 ∧ V 10 0 ≤ 10 := by have q := hG.2.2.2.2.2.2.2.2.1; have := q.2.1; have := q.2.2.1; omega
  refine aw_aload_n dL_law_1320 rfl ?_
  refine aw_aload_n dL_law_1321 rfl ?_
  refine aw_iload_n dL_law_1322 rfl ?_
  refine aw_iconst dL_law_1323 ?_
  refine aw_iadd dL_law_1324 ?_
  refine aw_sld dL_law_1325 (by omega) (by omega) ?_
  refine aw_callV (As := [_]) (ρ := (22, 0, 0)) (kn' := ((KN k).1 + 0, (KN k).2 + 0)) cv_L_150 dL_law_1326 rfl rfl (hc0 hnx) rfl rfl (Nat.le_of_ble_eq_true rfl) ⟨(Nat.le_of_ble_eq_true rfl), (Nat.le_of_ble_eq_true rfl)⟩ ⟨by show 29 * k + 52 + 0 ≤ 600000; omega, by show 1248 * k + 20532 + 0 ≤ 7302250; omega⟩ rfl (c_X10_focus (d := 20) hnx hI (hX _) (fun r1 h1 => ?_))
  refine aw_aload_n dL_law_1329 rfl ?_
  refine aw_aload_n dL_law_1330 rfl ?_
  refine aw_iload_n dL_law_1331 rfl ?_
  refine aw_iconst dL_law_1332 ?_
  refine aw_iadd dL_law_1333 ?_
  refine aw_sld dL_law_1334 (by omega) (by omega) ?_
  refine aw_callV (As := [_]) (ρ := (22, 0, 0)) (kn' := ((KN k).1 + 0, (KN k).2 + 0)) cv_L_153 dL_law_1335 rfl rfl (hc43 hnx) rfl rfl (Nat.le_of_ble_eq_true rfl) ⟨(Nat.le_of_ble_eq_true rfl), (Nat.le_of_ble_eq_true rfl)⟩ ⟨by show 29 * k + 52 + 0 ≤ 600000; omega, by show 1248 * k + 20532 + 0 ≤ 7302250; omega⟩ rfl (c_X11_focus (d := 20) hnx hI hA hLv (hX _) (fun r2 h2 => ?_))
  obtain rfl : r2 = r1 := h2.trans h1.symm
  refine aw_same_l (tgt := 2122) dL_law_1338 dL_law_1339 rfl ?_
  exact aw_wd ⟨by show 29 * k + 52 + 0 ≤ 29 * (k + 1) + 52; omega, by show 1248 * k + 20532 + 0 ≤ 1248 * (k + 1) + 20532; omega⟩ (hK _ _ _ _ _ _ (hG.mono ⟨by omega, by omega⟩))

set_option maxHeartbeats 1000000 in
theorem law_carry {Γ : GT} {nm : String} {b L : Nat} {xs : Nat → Int} {S T U V : St} {G : Gw} {nx k : Nat} (hG : GI k S T U V G nx) (hk : 6 * k + 6 ≤ L) (hL : L ≤ 3072) (hX : ∀ j, inI (xs j)) (hK : ∀ S2 T2 U2 V2 G2 nx2, GI ((k : Int) + 1) S2 T2 U2 V2 G2 nx2 → AW Γ (MLw nm) room_1 (PL Γ b L xs) (KN (k + 1)) 2122 [some (.ref b), some (rf Γ 0), some (rf Γ 43), some (vi (6 * (k : Int)))] [] (hp Γ S2 T2 U2 V2 G2) nx2) : AW Γ (MLw nm) room_1 (PL Γ b L xs) (KN k) 1344 [some (.ref b), some (rf Γ 0), some (rf Γ 43), some (vi (6 * (k : Int)))] [] (hp Γ S T U V G) nx := by
  have hnx := hG.1
  have hLv := hG.2.2.1
  have hI := hG.2.2.2.1
  have hA := hG.2.2.2.2.1
  have hM : 0 ≤ V 10 0 ∧ V 10 0 ≤ 10 := by have q := hG.2.2.2.2.2.2.2.2.1; have := q.2.1; have := q.2.2.1; omega
  refine aw_aload_n dL_law_1344 rfl ?_
  refine aw_aload_n dL_law_1345 rfl ?_
  refine aw_iload_n dL_law_1346 rfl ?_
  refine aw_iconst dL_law_1347 ?_
  refine aw_iadd dL_law_1348 ?_
  refine aw_sld dL_law_1349 (by omega) (by omega) ?_
  refine aw_callV (As := [_]) (ρ := (22, 0, 0)) (kn' := ((KN k).1 + 0, (KN k).2 + 0)) cv_L_154 dL_law_1350 rfl rfl (hc0 hnx) rfl rfl (Nat.le_of_ble_eq_true rfl) ⟨(Nat.le_of_ble_eq_true rfl), (Nat.le_of_ble_eq_true rfl)⟩ ⟨by show 29 * k + 52 + 0 ≤ 600000; omega, by show 1248 * k + 20532 + 0 ≤ 7302250; omega⟩ rfl (c_X10_carry (d := 20) hnx hI (hX _) (fun r1 h1 => ?_))
  refine aw_aload_n dL_law_1353 rfl ?_
  refine aw_aload_n dL_law_1354 rfl ?_
  refine aw_iload_n dL_law_1355 rfl ?_
  refine aw_iconst dL_law_1356 ?_
  refine aw_iadd dL_law_1357 ?_
  refine aw_sld dL_law_1358 (by omega) (by omega) ?_
  refine aw_callV (As := [_]) (ρ := (22, 0, 0)) (kn' := ((KN k).1 + 0, (KN k).2 + 0)) cv_L_157 dL_law_1359 rfl rfl (hc43 hnx) rfl rfl (Nat.le_of_ble_eq_true rfl) ⟨(Nat.le_of_ble_eq_true rfl), (Nat.le_of_ble_eq_true rfl)⟩ ⟨by show 29 * k + 52 + 0 ≤ 600000; omega, by show 1248 * k + 20532 + 0 ≤ 7302250; omega⟩ rfl (c_X11_carry (d := 20) hnx hI hA hLv (hX _) (fun r2 h2 => ?_))
  obtain rfl : r2 = r1 := h2.trans h1.symm
  refine aw_same_i (tgt := 2122) dL_law_1362 rfl ?_
  exact aw_wd ⟨by show 29 * k + 52 + 0 ≤ 29 * (k + 1) + 52; omega, by show 1248 * k + 20532 + 0 ≤ 1248 * (k + 1) + 20532; omega⟩ (hK _ _ _ _ _ _ (hG.mono ⟨by omega, by omega⟩))

set_option maxHeartbeats 1000000 in
theorem law_window {Γ : GT} {nm : String} {b L : Nat} {xs : Nat → Int} {S T U V : St} {G : Gw} {nx k : Nat} (hG : GI k S T U V G nx) (hk : 6 * k + 6 ≤ L) (hL : L ≤ 3072) (hX : ∀ j, inI (xs j)) (hK : ∀ S2 T2 U2 V2 G2 nx2, GI ((k : Int) + 1) S2 T2 U2 V2 G2 nx2 → AW Γ (MLw nm) room_1 (PL Γ b L xs) (KN (k + 1)) 2122 [some (.ref b), some (rf Γ 0), some (rf Γ 43), some (vi (6 * (k : Int)))] [] (hp Γ S2 T2 U2 V2 G2) nx2) : AW Γ (MLw nm) room_1 (PL Γ b L xs) (KN k) 1367 [some (.ref b), some (rf Γ 0), some (rf Γ 43), some (vi (6 * (k : Int)))] [] (hp Γ S T U V G) nx := by
  have hnx := hG.1
  have hLv := hG.2.2.1
  have hI := hG.2.2.2.1
  have hA := hG.2.2.2.2.1
  have hM : 0 ≤ V 10 0 ∧ V 10 0 ≤ 10 := by have q := hG.2.2.2.2.2.2.2.2.1; have := q.2.1; have := q.2.2.1; omega
  refine aw_aload_n dL_law_1367 rfl ?_
  refine aw_callV (As := []) (ρ := (22, 0, 0)) (kn' := ((KN k).1 + 0, (KN k).2 + 0)) cv_L_158 dL_law_1368 rfl rfl (hc0 hnx) rfl rfl (Nat.le_of_ble_eq_true rfl) ⟨(Nat.le_of_ble_eq_true rfl), (Nat.le_of_ble_eq_true rfl)⟩ ⟨by show 29 * k + 52 + 0 ≤ 600000; omega, by show 1248 * k + 20532 + 0 ≤ 7302250; omega⟩ rfl (c_X10_window (d := 20) hnx hI (fun r1 h1 => ?_))
  refine aw_aload_n dL_law_1371 rfl ?_
  refine aw_callV (As := []) (ρ := (23, 0, 0)) (kn' := ((KN k).1 + 0, (KN k).2 + 0)) cv_L_161 dL_law_1372 rfl rfl (hc43 hnx) rfl rfl (Nat.le_of_ble_eq_true rfl) ⟨(Nat.le_of_ble_eq_true rfl), (Nat.le_of_ble_eq_true rfl)⟩ ⟨by show 29 * k + 52 + 0 ≤ 600000; omega, by show 1248 * k + 20532 + 0 ≤ 7302250; omega⟩ rfl (c_X11_window (d := 20) hnx hI hA hLv (fun r2 h2 => ?_))
  obtain rfl : r2 = r1 := h2.trans h1.symm
  refine aw_same_i (tgt := 2122) dL_law_1375 rfl ?_
  exact aw_wd ⟨by show 29 * k + 52 + 0 ≤ 29 * (k + 1) + 52; omega, by show 1248 * k + 20532 + 0 ≤ 1248 * (k + 1) + 20532; omega⟩ (hK _ _ _ _ _ _ (hG.mono ⟨by omega, by omega⟩))

set_option maxHeartbeats 1000000 in
theorem law_shareAt {Γ : GT} {nm : String} {b L : Nat} {xs : Nat → Int} {S T U V : St} {G : Gw} {nx k : Nat} (hG : GI k S T U V G nx) (hk : 6 * k + 6 ≤ L) (hL : L ≤ 3072) (hX : ∀ j, inI (xs j)) (hK : ∀ S2 T2 U2 V2 G2 nx2, GI ((k : Int) + 1) S2 T2 U2 V2 G2 nx2 → AW Γ (MLw nm) room_1 (PL Γ b L xs) (KN (k + 1)) 2122 [some (.ref b), some (rf Γ 0), some (rf Γ 43), some (vi (6 * (k : Int)))] [] (hp Γ S2 T2 U2 V2 G2) nx2) : AW Γ (MLw nm) room_1 (PL Γ b L xs) (KN k) 1380 [some (.ref b), some (rf Γ 0), some (rf Γ 43), some (vi (6 * (k : Int)))] [] (hp Γ S T U V G) nx := by
  have hnx := hG.1
  have hLv := hG.2.2.1
  have hI := hG.2.2.2.1
  have hA := hG.2.2.2.2.1
  have hM : 0 ≤ V 10 0 ∧ V 10 0 ≤ 10 := by have q := hG.2.2.2.2.2.2.2.2.1; have := q.2.1; have := q.2.2.1; omega
  refine aw_aload_n dL_law_1380 rfl ?_
  refine aw_aload_n dL_law_1381 rfl ?_
  refine aw_iload_n dL_law_1382 rfl ?_
  refine aw_iconst dL_law_1383 ?_
  refine aw_iadd dL_law_1384 ?_
  refine aw_sld dL_law_1385 (by omega) (by omega) ?_
  refine aw_aload_n dL_law_1386 rfl ?_
  refine aw_iload_n dL_law_1387 rfl ?_
  refine aw_iconst dL_law_1388 ?_
  refine aw_iadd dL_law_1389 ?_
  refine aw_sld dL_law_1390 (by omega) (by omega) ?_
  refine aw_aload_n dL_law_1391 rfl ?_
  refine aw_iload_n dL_law_1392 rfl ?_
  refine aw_iconst dL_law_1393 ?_
  refine aw_iadd dL_law_1394 ?_
  refine aw_sld dL_law_1395 (by omega) (by omega) ?_
  refine aw_callV (As := [_, _, _]) (ρ := (23, 0, 0)) (kn' := ((KN k).1 + 0, (KN k).2 + 0)) cv_L_162 dL_law_1396 rfl rfl (hc0 hnx) rfl rfl (Nat.le_of_ble_eq_true rfl) ⟨(Nat.le_of_ble_eq_true rfl), (Nat.le_of_ble_eq_true rfl)⟩ ⟨by show 29 * k + 52 + 0 ≤ 600000; omega, by show 1248 * k + 20532 + 0 ≤ 7302250; omega⟩ rfl (c_X10_shareAt (d := 20) hnx hI (hX _) (hX _) (hX _) (fun r1 h1 => ?_))
  refine aw_aload_n dL_law_1399 rfl ?_
  refine aw_aload_n dL_law_1400 rfl ?_
  refine aw_iload_n dL_law_1401 rfl ?_
  refine aw_iconst dL_law_1402 ?_
  refine aw_iadd dL_law_1403 ?_
  refine aw_sld dL_law_1404 (by omega) (by omega) ?_
  refine aw_aload_n dL_law_1405 rfl ?_
  refine aw_iload_n dL_law_1406 rfl ?_
  refine aw_iconst dL_law_1407 ?_
  refine aw_iadd dL_law_1408 ?_
  refine aw_sld dL_law_1409 (by omega) (by omega) ?_
  refine aw_aload_n dL_law_1410 rfl ?_
  refine aw_iload_n dL_law_1411 rfl ?_
  refine aw_iconst dL_law_1412 ?_
  refine aw_iadd dL_law_1413 ?_
  refine aw_sld dL_law_1414 (by omega) (by omega) ?_
  refine aw_callV (As := [_, _, _]) (ρ := (24, 0, 0)) (kn' := ((KN k).1 + 0, (KN k).2 + 0)) cv_L_165 dL_law_1415 rfl rfl (hc43 hnx) rfl rfl (Nat.le_of_ble_eq_true rfl) ⟨(Nat.le_of_ble_eq_true rfl), (Nat.le_of_ble_eq_true rfl)⟩ ⟨by show 29 * k + 52 + 0 ≤ 600000; omega, by show 1248 * k + 20532 + 0 ≤ 7302250; omega⟩ rfl (c_X11_shareAt (d := 20) hnx hI hA hLv (hX _) (hX _) (hX _) (fun r2 h2 => ?_))
  obtain rfl : r2 = r1 := h2.trans h1.symm
  refine aw_same_i (tgt := 2122) dL_law_1418 rfl ?_
  exact aw_wd ⟨by show 29 * k + 52 + 0 ≤ 29 * (k + 1) + 52; omega, by show 1248 * k + 20532 + 0 ≤ 1248 * (k + 1) + 20532; omega⟩ (hK _ _ _ _ _ _ (hG.mono ⟨by omega, by omega⟩))

set_option maxHeartbeats 1000000 in
theorem law_speed {Γ : GT} {nm : String} {b L : Nat} {xs : Nat → Int} {S T U V : St} {G : Gw} {nx k : Nat} (hG : GI k S T U V G nx) (hk : 6 * k + 6 ≤ L) (hL : L ≤ 3072) (hX : ∀ j, inI (xs j)) (hK : ∀ S2 T2 U2 V2 G2 nx2, GI ((k : Int) + 1) S2 T2 U2 V2 G2 nx2 → AW Γ (MLw nm) room_1 (PL Γ b L xs) (KN (k + 1)) 2122 [some (.ref b), some (rf Γ 0), some (rf Γ 43), some (vi (6 * (k : Int)))] [] (hp Γ S2 T2 U2 V2 G2) nx2) : AW Γ (MLw nm) room_1 (PL Γ b L xs) (KN k) 1423 [some (.ref b), some (rf Γ 0), some (rf Γ 43), some (vi (6 * (k : Int)))] [] (hp Γ S T U V G) nx := by
  have hnx := hG.1
  have hLv := hG.2.2.1
  have hI := hG.2.2.2.1
  have hA := hG.2.2.2.2.1
  have hM : 0 ≤ V 10 0 ∧ V 10 0 ≤ 10 := by have q := hG.2.2.2.2.2.2.2.2.1; have := q.2.1; have := q.2.2.1; omega
  refine aw_aload_n dL_law_1423 rfl ?_
  refine aw_aload_n dL_law_1424 rfl ?_
  refine aw_iload_n dL_law_1425 rfl ?_
  refine aw_iconst dL_law_1426 ?_
  refine aw_iadd dL_law_1427 ?_
  refine aw_sld dL_law_1428 (by omega) (by omega) ?_
  refine aw_callV (As := [_]) (ρ := (21, 0, 0)) (kn' := ((KN k).1 + 0, (KN k).2 + 0)) cv_L_166 dL_law_1429 rfl rfl (hc0 hnx) rfl rfl (Nat.le_of_ble_eq_true rfl) ⟨(Nat.le_of_ble_eq_true rfl), (Nat.le_of_ble_eq_true rfl)⟩ ⟨by show 29 * k + 52 + 0 ≤ 600000; omega, by show 1248 * k + 20532 + 0 ≤ 7302250; omega⟩ rfl (c_X10_speed (d := 20) hnx hI (hX _) (fun r1 h1 => ?_))
  refine aw_aload_n dL_law_1432 rfl ?_
  refine aw_aload_n dL_law_1433 rfl ?_
  refine aw_iload_n dL_law_1434 rfl ?_
  refine aw_iconst dL_law_1435 ?_
  refine aw_iadd dL_law_1436 ?_
  refine aw_sld dL_law_1437 (by omega) (by omega) ?_
  refine aw_callV (As := [_]) (ρ := (22, 0, 0)) (kn' := ((KN k).1 + 0, (KN k).2 + 0)) cv_L_169 dL_law_1438 rfl rfl (hc43 hnx) rfl rfl (Nat.le_of_ble_eq_true rfl) ⟨(Nat.le_of_ble_eq_true rfl), (Nat.le_of_ble_eq_true rfl)⟩ ⟨by show 29 * k + 52 + 0 ≤ 600000; omega, by show 1248 * k + 20532 + 0 ≤ 7302250; omega⟩ rfl (c_X11_speed (d := 20) hnx hI hA hLv (hX _) (fun r2 h2 => ?_))
  obtain rfl : r2 = r1 := h2.trans h1.symm
  refine aw_same_l (tgt := 2122) dL_law_1441 dL_law_1442 rfl ?_
  exact aw_wd ⟨by show 29 * k + 52 + 0 ≤ 29 * (k + 1) + 52; omega, by show 1248 * k + 20532 + 0 ≤ 1248 * (k + 1) + 20532; omega⟩ (hK _ _ _ _ _ _ (hG.mono ⟨by omega, by omega⟩))

set_option maxHeartbeats 1000000 in
theorem law_fastest {Γ : GT} {nm : String} {b L : Nat} {xs : Nat → Int} {S T U V : St} {G : Gw} {nx k : Nat} (hG : GI k S T U V G nx) (hk : 6 * k + 6 ≤ L) (hL : L ≤ 3072) (hX : ∀ j, inI (xs j)) (hK : ∀ S2 T2 U2 V2 G2 nx2, GI ((k : Int) + 1) S2 T2 U2 V2 G2 nx2 → AW Γ (MLw nm) room_1 (PL Γ b L xs) (KN (k + 1)) 2122 [some (.ref b), some (rf Γ 0), some (rf Γ 43), some (vi (6 * (k : Int)))] [] (hp Γ S2 T2 U2 V2 G2) nx2) : AW Γ (MLw nm) room_1 (PL Γ b L xs) (KN k) 1447 [some (.ref b), some (rf Γ 0), some (rf Γ 43), some (vi (6 * (k : Int)))] [] (hp Γ S T U V G) nx := by
  have hnx := hG.1
  have hLv := hG.2.2.1
  have hI := hG.2.2.2.1
  have hA := hG.2.2.2.2.1
  have hM : 0 ≤ V 10 0 ∧ V 10 0 ≤ 10 := by have q := hG.2.2.2.2.2.2.2.2.1; have := q.2.1; have := q.2.2.1; omega
  refine aw_aload_n dL_law_1447 rfl ?_
  refine aw_aload_n dL_law_1448 rfl ?_
  refine aw_iload_n dL_law_1449 rfl ?_
  refine aw_iconst dL_law_1450 ?_
  refine aw_iadd dL_law_1451 ?_
  refine aw_sld dL_law_1452 (by omega) (by omega) ?_
  refine aw_callV (As := [_]) (ρ := (22, 0, 0)) (kn' := ((KN k).1 + 0, (KN k).2 + 0)) cv_L_170 dL_law_1453 rfl rfl (hc0 hnx) rfl rfl (Nat.le_of_ble_eq_true rfl) ⟨(Nat.le_of_ble_eq_true rfl), (Nat.le_of_ble_eq_true rfl)⟩ ⟨by show 29 * k + 52 + 0 ≤ 600000; omega, by show 1248 * k + 20532 + 0 ≤ 7302250; omega⟩ rfl (c_X10_fastest (d := 20) hnx hI (hX _) (fun r1 h1 => ?_))
  refine aw_aload_n dL_law_1456 rfl ?_
  refine aw_aload_n dL_law_1457 rfl ?_
  refine aw_iload_n dL_law_1458 rfl ?_
  refine aw_iconst dL_law_1459 ?_
  refine aw_iadd dL_law_1460 ?_
  refine aw_sld dL_law_1461 (by omega) (by omega) ?_
  refine aw_callV (As := [_]) (ρ := (24, 0, 0)) (kn' := ((KN k).1 + 0, (KN k).2 + 0)) cv_L_173 dL_law_1462 rfl rfl (hc43 hnx) rfl rfl (Nat.le_of_ble_eq_true rfl) ⟨(Nat.le_of_ble_eq_true rfl), (Nat.le_of_ble_eq_true rfl)⟩ ⟨by show 29 * k + 52 + 0 ≤ 600000; omega, by show 1248 * k + 20532 + 0 ≤ 7302250; omega⟩ rfl (c_X11_fastest (d := 20) hnx hI hA hLv (hX _) (fun r2 h2 => ?_))
  obtain rfl : r2 = r1 := h2.trans h1.symm
  refine aw_same_i (tgt := 2122) dL_law_1465 rfl ?_
  exact aw_wd ⟨by show 29 * k + 52 + 0 ≤ 29 * (k + 1) + 52; omega, by show 1248 * k + 20532 + 0 ≤ 1248 * (k + 1) + 20532; omega⟩ (hK _ _ _ _ _ _ (hG.mono ⟨by omega, by omega⟩))

set_option maxHeartbeats 1000000 in
theorem law_log {Γ : GT} {nm : String} {b L : Nat} {xs : Nat → Int} {S T U V : St} {G : Gw} {nx k : Nat} (hG : GI k S T U V G nx) (hk : 6 * k + 6 ≤ L) (hL : L ≤ 3072) (hX : ∀ j, inI (xs j)) (hK : ∀ S2 T2 U2 V2 G2 nx2, GI ((k : Int) + 1) S2 T2 U2 V2 G2 nx2 → AW Γ (MLw nm) room_1 (PL Γ b L xs) (KN (k + 1)) 2122 [some (.ref b), some (rf Γ 0), some (rf Γ 43), some (vi (6 * (k : Int)))] [] (hp Γ S2 T2 U2 V2 G2) nx2) : AW Γ (MLw nm) room_1 (PL Γ b L xs) (KN k) 1470 [some (.ref b), some (rf Γ 0), some (rf Γ 43), some (vi (6 * (k : Int)))] [] (hp Γ S T U V G) nx := by
  have hnx := hG.1
  have hLv := hG.2.2.1
  have hI := hG.2.2.2.1
  have hA := hG.2.2.2.2.1
  have hM : 0 ≤ V 10 0 ∧ V 10 0 ≤ 10 := by have q := hG.2.2.2.2.2.2.2.2.1; have := q.2.1; have := q.2.2.1; omega
  refine aw_aload_n dL_law_1470 rfl ?_
  refine aw_aload_n dL_law_1471 rfl ?_
  refine aw_iload_n dL_law_1472 rfl ?_
  refine aw_iconst dL_law_1473 ?_
  refine aw_iadd dL_law_1474 ?_
  refine aw_sld dL_law_1475 (by omega) (by omega) ?_
  refine aw_aload_n dL_law_1476 rfl ?_
  refine aw_iload_n dL_law_1477 rfl ?_
  refine aw_iconst dL_law_1478 ?_
  refine aw_iadd dL_law_1479 ?_
  refine aw_sld dL_law_1480 (by omega) (by omega) ?_
  refine aw_aload_n dL_law_1481 rfl ?_
  refine aw_iload_n dL_law_1482 rfl ?_
  refine aw_iconst dL_law_1483 ?_
  refine aw_iadd dL_law_1484 ?_
  refine aw_sld dL_law_1485 (by omega) (by omega) ?_
  refine aw_callV (As := [_, _, _]) (ρ := (21, 0, 0)) (kn' := ((KN k).1 + 0, (KN k).2 + 0)) cv_L_174 dL_law_1486 rfl rfl (hc0 hnx) rfl rfl (Nat.le_of_ble_eq_true rfl) ⟨(Nat.le_of_ble_eq_true rfl), (Nat.le_of_ble_eq_true rfl)⟩ ⟨by show 29 * k + 52 + 0 ≤ 600000; omega, by show 1248 * k + 20532 + 0 ≤ 7302250; omega⟩ rfl (c_X10_log (d := 20) hnx hI (hX _) (hX _) (hX _) (fun r1 h1 => ?_))
  refine aw_aload_n dL_law_1489 rfl ?_
  refine aw_aload_n dL_law_1490 rfl ?_
  refine aw_iload_n dL_law_1491 rfl ?_
  refine aw_iconst dL_law_1492 ?_
  refine aw_iadd dL_law_1493 ?_
  refine aw_sld dL_law_1494 (by omega) (by omega) ?_
  refine aw_aload_n dL_law_1495 rfl ?_
  refine aw_iload_n dL_law_1496 rfl ?_
  refine aw_iconst dL_law_1497 ?_
  refine aw_iadd dL_law_1498 ?_
  refine aw_sld dL_law_1499 (by omega) (by omega) ?_
  refine aw_aload_n dL_law_1500 rfl ?_
  refine aw_iload_n dL_law_1501 rfl ?_
  refine aw_iconst dL_law_1502 ?_
  refine aw_iadd dL_law_1503 ?_
  refine aw_sld dL_law_1504 (by omega) (by omega) ?_
  refine aw_callV (As := [_, _, _]) (ρ := (22, 0, 0)) (kn' := ((KN k).1 + 0, (KN k).2 + 0)) cv_L_177 dL_law_1505 rfl rfl (hc43 hnx) rfl rfl (Nat.le_of_ble_eq_true rfl) ⟨(Nat.le_of_ble_eq_true rfl), (Nat.le_of_ble_eq_true rfl)⟩ ⟨by show 29 * k + 52 + 0 ≤ 600000; omega, by show 1248 * k + 20532 + 0 ≤ 7302250; omega⟩ rfl (c_X11_log (d := 20) hnx hI hA hLv (hX _) (hX _) (hX _) (fun r2 h2 => ?_))
  obtain rfl : r2 = r1 := h2.trans h1.symm
  refine aw_same_i (tgt := 2122) dL_law_1508 rfl ?_
  exact aw_wd ⟨by show 29 * k + 52 + 0 ≤ 29 * (k + 1) + 52; omega, by show 1248 * k + 20532 + 0 ≤ 1248 * (k + 1) + 20532; omega⟩ (hK _ _ _ _ _ _ (hG.mono ⟨by omega, by omega⟩))

set_option maxHeartbeats 1000000 in
theorem law_risk {Γ : GT} {nm : String} {b L : Nat} {xs : Nat → Int} {S T U V : St} {G : Gw} {nx k : Nat} (hG : GI k S T U V G nx) (hk : 6 * k + 6 ≤ L) (hL : L ≤ 3072) (hX : ∀ j, inI (xs j)) (hK : ∀ S2 T2 U2 V2 G2 nx2, GI ((k : Int) + 1) S2 T2 U2 V2 G2 nx2 → AW Γ (MLw nm) room_1 (PL Γ b L xs) (KN (k + 1)) 2122 [some (.ref b), some (rf Γ 0), some (rf Γ 43), some (vi (6 * (k : Int)))] [] (hp Γ S2 T2 U2 V2 G2) nx2) : AW Γ (MLw nm) room_1 (PL Γ b L xs) (KN k) 1513 [some (.ref b), some (rf Γ 0), some (rf Γ 43), some (vi (6 * (k : Int)))] [] (hp Γ S T U V G) nx := by
  have hnx := hG.1
  have hLv := hG.2.2.1
  have hI := hG.2.2.2.1
  have hA := hG.2.2.2.2.1
  have hM : 0 ≤ V 10 0 ∧ V 10 0 ≤ 10 := by have q := hG.2.2.2.2.2.2.2.2.1; have := q.2.1; have := q.2.2.1; omega
  refine aw_aload_n dL_law_1513 rfl ?_
  refine aw_aload_n dL_law_1514 rfl ?_
  refine aw_iload_n dL_law_1515 rfl ?_
  refine aw_iconst dL_law_1516 ?_
  refine aw_iadd dL_law_1517 ?_
  refine aw_sld dL_law_1518 (by omega) (by omega) ?_
  refine aw_callV (As := [_]) (ρ := (23, 0, 0)) (kn' := ((KN k).1 + 0, (KN k).2 + 0)) cv_L_178 dL_law_1519 rfl rfl (hc0 hnx) rfl rfl (Nat.le_of_ble_eq_true rfl) ⟨(Nat.le_of_ble_eq_true rfl), (Nat.le_of_ble_eq_true rfl)⟩ ⟨by show 29 * k + 52 + 0 ≤ 600000; omega, by show 1248 * k + 20532 + 0 ≤ 7302250; omega⟩ rfl (c_X10_risk (d := 20) hnx hI (hX _) (fun r1 h1 => ?_))
  refine aw_aload_n dL_law_1522 rfl ?_
  refine aw_aload_n dL_law_1523 rfl ?_
  refine aw_iload_n dL_law_1524 rfl ?_
  refine aw_iconst dL_law_1525 ?_
  refine aw_iadd dL_law_1526 ?_
  refine aw_sld dL_law_1527 (by omega) (by omega) ?_
  refine aw_callV (As := [_]) (ρ := (23, 0, 0)) (kn' := ((KN k).1 + 0, (KN k).2 + 0)) cv_L_181 dL_law_1528 rfl rfl (hc43 hnx) rfl rfl (Nat.le_of_ble_eq_true rfl) ⟨(Nat.le_of_ble_eq_true rfl), (Nat.le_of_ble_eq_true rfl)⟩ ⟨by show 29 * k + 52 + 0 ≤ 600000; omega, by show 1248 * k + 20532 + 0 ≤ 7302250; omega⟩ rfl (c_X11_risk (d := 20) hnx hI hA hLv (hX _) (fun r2 h2 => ?_))
  obtain rfl : r2 = r1 := h2.trans h1.symm
  refine aw_same_i (tgt := 2122) dL_law_1531 rfl ?_
  exact aw_wd ⟨by show 29 * k + 52 + 0 ≤ 29 * (k + 1) + 52; omega, by show 1248 * k + 20532 + 0 ≤ 1248 * (k + 1) + 20532; omega⟩ (hK _ _ _ _ _ _ (hG.mono ⟨by omega, by omega⟩))

set_option maxHeartbeats 1000000 in
theorem law_lacks {Γ : GT} {nm : String} {b L : Nat} {xs : Nat → Int} {S T U V : St} {G : Gw} {nx k : Nat} (hG : GI k S T U V G nx) (hk : 6 * k + 6 ≤ L) (hL : L ≤ 3072) (hX : ∀ j, inI (xs j)) (hK : ∀ S2 T2 U2 V2 G2 nx2, GI ((k : Int) + 1) S2 T2 U2 V2 G2 nx2 → AW Γ (MLw nm) room_1 (PL Γ b L xs) (KN (k + 1)) 2122 [some (.ref b), some (rf Γ 0), some (rf Γ 43), some (vi (6 * (k : Int)))] [] (hp Γ S2 T2 U2 V2 G2) nx2) : AW Γ (MLw nm) room_1 (PL Γ b L xs) (KN k) 1536 [some (.ref b), some (rf Γ 0), some (rf Γ 43), some (vi (6 * (k : Int)))] [] (hp Γ S T U V G) nx := by
  have hnx := hG.1
  have hLv := hG.2.2.1
  have hI := hG.2.2.2.1
  have hA := hG.2.2.2.2.1
  have hM : 0 ≤ V 10 0 ∧ V 10 0 ≤ 10 := by have q := hG.2.2.2.2.2.2.2.2.1; have := q.2.1; have := q.2.2.1; omega
  refine aw_aload_n dL_law_1536 rfl ?_
  refine aw_aload_n dL_law_1537 rfl ?_
  refine aw_iload_n dL_law_1538 rfl ?_
  refine aw_iconst dL_law_1539 ?_
  refine aw_iadd dL_law_1540 ?_
  refine aw_sld dL_law_1541 (by omega) (by omega) ?_
  refine aw_aload_n dL_law_1542 rfl ?_
  refine aw_iload_n dL_law_1543 rfl ?_
  refine aw_iconst dL_law_1544 ?_
  refine aw_iadd dL_law_1545 ?_
  refine aw_sld dL_law_1546 (by omega) (by omega) ?_
  refine aw_aload_n dL_law_1547 rfl ?_
  refine aw_iload_n dL_law_1548 rfl ?_
  refine aw_iconst dL_law_1549 ?_
  refine aw_iadd dL_law_1550 ?_
  refine aw_sld dL_law_1551 (by omega) (by omega) ?_
  refine aw_callV (As := [_, _, _]) (ρ := (22, 0, 0)) (kn' := ((KN k).1 + 0, (KN k).2 + 0)) cv_L_182 dL_law_1552 rfl rfl (hc0 hnx) rfl rfl (Nat.le_of_ble_eq_true rfl) ⟨(Nat.le_of_ble_eq_true rfl), (Nat.le_of_ble_eq_true rfl)⟩ ⟨by show 29 * k + 52 + 0 ≤ 600000; omega, by show 1248 * k + 20532 + 0 ≤ 7302250; omega⟩ rfl (c_X10_lacks (d := 20) hnx hI (hX _) (hX _) (hX _) (fun r1 h1 => ?_))
  refine aw_aload_n dL_law_1555 rfl ?_
  refine aw_aload_n dL_law_1556 rfl ?_
  refine aw_iload_n dL_law_1557 rfl ?_
  refine aw_iconst dL_law_1558 ?_
  refine aw_iadd dL_law_1559 ?_
  refine aw_sld dL_law_1560 (by omega) (by omega) ?_
  refine aw_aload_n dL_law_1561 rfl ?_
  refine aw_iload_n dL_law_1562 rfl ?_
  refine aw_iconst dL_law_1563 ?_
  refine aw_iadd dL_law_1564 ?_
  refine aw_sld dL_law_1565 (by omega) (by omega) ?_
  refine aw_aload_n dL_law_1566 rfl ?_
  refine aw_iload_n dL_law_1567 rfl ?_
  refine aw_iconst dL_law_1568 ?_
  refine aw_iadd dL_law_1569 ?_
  refine aw_sld dL_law_1570 (by omega) (by omega) ?_
  refine aw_callV (As := [_, _, _]) (ρ := (24, 0, 0)) (kn' := ((KN k).1 + 0, (KN k).2 + 0)) cv_L_185 dL_law_1571 rfl rfl (hc43 hnx) rfl rfl (Nat.le_of_ble_eq_true rfl) ⟨(Nat.le_of_ble_eq_true rfl), (Nat.le_of_ble_eq_true rfl)⟩ ⟨by show 29 * k + 52 + 0 ≤ 600000; omega, by show 1248 * k + 20532 + 0 ≤ 7302250; omega⟩ rfl (c_X11_lacks (d := 20) hnx hI hA hLv (hX _) (hX _) (hX _) (fun r2 h2 => ?_))
  obtain rfl : r2 = r1 := h2.trans h1.symm
  refine aw_same_i (tgt := 2122) dL_law_1574 rfl ?_
  exact aw_wd ⟨by show 29 * k + 52 + 0 ≤ 29 * (k + 1) + 52; omega, by show 1248 * k + 20532 + 0 ≤ 1248 * (k + 1) + 20532; omega⟩ (hK _ _ _ _ _ _ (hG.mono ⟨by omega, by omega⟩))

set_option maxHeartbeats 1000000 in
theorem law_pace {Γ : GT} {nm : String} {b L : Nat} {xs : Nat → Int} {S T U V : St} {G : Gw} {nx k : Nat} (hG : GI k S T U V G nx) (hk : 6 * k + 6 ≤ L) (hL : L ≤ 3072) (hX : ∀ j, inI (xs j)) (hK : ∀ S2 T2 U2 V2 G2 nx2, GI ((k : Int) + 1) S2 T2 U2 V2 G2 nx2 → AW Γ (MLw nm) room_1 (PL Γ b L xs) (KN (k + 1)) 2122 [some (.ref b), some (rf Γ 0), some (rf Γ 43), some (vi (6 * (k : Int)))] [] (hp Γ S2 T2 U2 V2 G2) nx2) : AW Γ (MLw nm) room_1 (PL Γ b L xs) (KN k) 1579 [some (.ref b), some (rf Γ 0), some (rf Γ 43), some (vi (6 * (k : Int)))] [] (hp Γ S T U V G) nx := by
  have hnx := hG.1
  have hLv := hG.2.2.1
  have hI := hG.2.2.2.1
  have hA := hG.2.2.2.2.1
  have hM : 0 ≤ V 10 0 ∧ V 10 0 ≤ 10 := by have q := hG.2.2.2.2.2.2.2.2.1; have := q.2.1; have := q.2.2.1; omega
  refine aw_aload_n dL_law_1579 rfl ?_
  refine aw_aload_n dL_law_1580 rfl ?_
  refine aw_iload_n dL_law_1581 rfl ?_
  refine aw_iconst dL_law_1582 ?_
  refine aw_iadd dL_law_1583 ?_
  refine aw_sld dL_law_1584 (by omega) (by omega) ?_
  refine aw_callV (As := [_]) (ρ := (23, 0, 0)) (kn' := ((KN k).1 + 0, (KN k).2 + 0)) cv_L_186 dL_law_1585 rfl rfl (hc0 hnx) rfl rfl (Nat.le_of_ble_eq_true rfl) ⟨(Nat.le_of_ble_eq_true rfl), (Nat.le_of_ble_eq_true rfl)⟩ ⟨by show 29 * k + 52 + 0 ≤ 600000; omega, by show 1248 * k + 20532 + 0 ≤ 7302250; omega⟩ rfl (c_X10_pace (d := 20) hnx hI (hX _) (fun r1 h1 => ?_))
  refine aw_aload_n dL_law_1588 rfl ?_
  refine aw_aload_n dL_law_1589 rfl ?_
  refine aw_iload_n dL_law_1590 rfl ?_
  refine aw_iconst dL_law_1591 ?_
  refine aw_iadd dL_law_1592 ?_
  refine aw_sld dL_law_1593 (by omega) (by omega) ?_
  refine aw_callV (As := [_]) (ρ := (22, 0, 0)) (kn' := ((KN k).1 + 0, (KN k).2 + 0)) cv_L_189 dL_law_1594 rfl rfl (hc43 hnx) rfl rfl (Nat.le_of_ble_eq_true rfl) ⟨(Nat.le_of_ble_eq_true rfl), (Nat.le_of_ble_eq_true rfl)⟩ ⟨by show 29 * k + 52 + 0 ≤ 600000; omega, by show 1248 * k + 20532 + 0 ≤ 7302250; omega⟩ rfl (c_X11_pace (d := 20) hnx hI hA hLv (hX _) (fun r2 h2 => ?_))
  obtain rfl : r2 = r1 := h2.trans h1.symm
  refine aw_same_i (tgt := 2122) dL_law_1597 rfl ?_
  exact aw_wd ⟨by show 29 * k + 52 + 0 ≤ 29 * (k + 1) + 52; omega, by show 1248 * k + 20532 + 0 ≤ 1248 * (k + 1) + 20532; omega⟩ (hK _ _ _ _ _ _ (hG.mono ⟨by omega, by omega⟩))

set_option maxHeartbeats 1000000 in
theorem law_peak {Γ : GT} {nm : String} {b L : Nat} {xs : Nat → Int} {S T U V : St} {G : Gw} {nx k : Nat} (hG : GI k S T U V G nx) (hk : 6 * k + 6 ≤ L) (hL : L ≤ 3072) (hX : ∀ j, inI (xs j)) (hK : ∀ S2 T2 U2 V2 G2 nx2, GI ((k : Int) + 1) S2 T2 U2 V2 G2 nx2 → AW Γ (MLw nm) room_1 (PL Γ b L xs) (KN (k + 1)) 2122 [some (.ref b), some (rf Γ 0), some (rf Γ 43), some (vi (6 * (k : Int)))] [] (hp Γ S2 T2 U2 V2 G2) nx2) : AW Γ (MLw nm) room_1 (PL Γ b L xs) (KN k) 1602 [some (.ref b), some (rf Γ 0), some (rf Γ 43), some (vi (6 * (k : Int)))] [] (hp Γ S T U V G) nx := by
  have hnx := hG.1
  have hLv := hG.2.2.1
  have hI := hG.2.2.2.1
  have hA := hG.2.2.2.2.1
  have hM : 0 ≤ V 10 0 ∧ V 10 0 ≤ 10 := by have q := hG.2.2.2.2.2.2.2.2.1; have := q.2.1; have := q.2.2.1; omega
  refine aw_aload_n dL_law_1602 rfl ?_
  refine aw_aload_n dL_law_1603 rfl ?_
  refine aw_iload_n dL_law_1604 rfl ?_
  refine aw_iconst dL_law_1605 ?_
  refine aw_iadd dL_law_1606 ?_
  refine aw_sld dL_law_1607 (by omega) (by omega) ?_
  refine aw_aload_n dL_law_1608 rfl ?_
  refine aw_iload_n dL_law_1609 rfl ?_
  refine aw_iconst dL_law_1610 ?_
  refine aw_iadd dL_law_1611 ?_
  refine aw_sld dL_law_1612 (by omega) (by omega) ?_
  refine aw_aload_n dL_law_1613 rfl ?_
  refine aw_iload_n dL_law_1614 rfl ?_
  refine aw_iconst dL_law_1615 ?_
  refine aw_iadd dL_law_1616 ?_
  refine aw_sld dL_law_1617 (by omega) (by omega) ?_
  refine aw_callV (As := [_, _, _]) (ρ := (22, 0, 0)) (kn' := ((KN k).1 + 0, (KN k).2 + 0)) cv_L_190 dL_law_1618 rfl rfl (hc0 hnx) rfl rfl (Nat.le_of_ble_eq_true rfl) ⟨(Nat.le_of_ble_eq_true rfl), (Nat.le_of_ble_eq_true rfl)⟩ ⟨by show 29 * k + 52 + 0 ≤ 600000; omega, by show 1248 * k + 20532 + 0 ≤ 7302250; omega⟩ rfl (c_X10_peak (d := 20) hnx hI (hX _) (hX _) (hX _) (fun r1 h1 => ?_))
  refine aw_aload_n dL_law_1621 rfl ?_
  refine aw_aload_n dL_law_1622 rfl ?_
  refine aw_iload_n dL_law_1623 rfl ?_
  refine aw_iconst dL_law_1624 ?_
  refine aw_iadd dL_law_1625 ?_
  refine aw_sld dL_law_1626 (by omega) (by omega) ?_
  refine aw_aload_n dL_law_1627 rfl ?_
  refine aw_iload_n dL_law_1628 rfl ?_
  refine aw_iconst dL_law_1629 ?_
  refine aw_iadd dL_law_1630 ?_
  refine aw_sld dL_law_1631 (by omega) (by omega) ?_
  refine aw_aload_n dL_law_1632 rfl ?_
  refine aw_iload_n dL_law_1633 rfl ?_
  refine aw_iconst dL_law_1634 ?_
  refine aw_iadd dL_law_1635 ?_
  refine aw_sld dL_law_1636 (by omega) (by omega) ?_
  refine aw_callV (As := [_, _, _]) (ρ := (22, 0, 0)) (kn' := ((KN k).1 + 0, (KN k).2 + 0)) cv_L_193 dL_law_1637 rfl rfl (hc43 hnx) rfl rfl (Nat.le_of_ble_eq_true rfl) ⟨(Nat.le_of_ble_eq_true rfl), (Nat.le_of_ble_eq_true rfl)⟩ ⟨by show 29 * k + 52 + 0 ≤ 600000; omega, by show 1248 * k + 20532 + 0 ≤ 7302250; omega⟩ rfl (c_X11_peak (d := 20) hnx hI hA hLv (hX _) (hX _) (hX _) (fun r2 h2 => ?_))
  obtain rfl : r2 = r1 := h2.trans h1.symm
  refine aw_same_i (tgt := 2122) dL_law_1640 rfl ?_
  exact aw_wd ⟨by show 29 * k + 52 + 0 ≤ 29 * (k + 1) + 52; omega, by show 1248 * k + 20532 + 0 ≤ 1248 * (k + 1) + 20532; omega⟩ (hK _ _ _ _ _ _ (hG.mono ⟨by omega, by omega⟩))

set_option maxHeartbeats 1000000 in
theorem law_even {Γ : GT} {nm : String} {b L : Nat} {xs : Nat → Int} {S T U V : St} {G : Gw} {nx k : Nat} (hG : GI k S T U V G nx) (hk : 6 * k + 6 ≤ L) (hL : L ≤ 3072) (hX : ∀ j, inI (xs j)) (hK : ∀ S2 T2 U2 V2 G2 nx2, GI ((k : Int) + 1) S2 T2 U2 V2 G2 nx2 → AW Γ (MLw nm) room_1 (PL Γ b L xs) (KN (k + 1)) 2122 [some (.ref b), some (rf Γ 0), some (rf Γ 43), some (vi (6 * (k : Int)))] [] (hp Γ S2 T2 U2 V2 G2) nx2) : AW Γ (MLw nm) room_1 (PL Γ b L xs) (KN k) 1645 [some (.ref b), some (rf Γ 0), some (rf Γ 43), some (vi (6 * (k : Int)))] [] (hp Γ S T U V G) nx := by
  have hnx := hG.1
  have hLv := hG.2.2.1
  have hI := hG.2.2.2.1
  have hA := hG.2.2.2.2.1
  have hM : 0 ≤ V 10 0 ∧ V 10 0 ≤ 10 := by have q := hG.2.2.2.2.2.2.2.2.1; have := q.2.1; have := q.2.2.1; omega
  refine aw_aload_n dL_law_1645 rfl ?_
  refine aw_aload_n dL_law_1646 rfl ?_
  refine aw_iload_n dL_law_1647 rfl ?_
  refine aw_iconst dL_law_1648 ?_
  refine aw_iadd dL_law_1649 ?_
  refine aw_sld dL_law_1650 (by omega) (by omega) ?_
  refine aw_aload_n dL_law_1651 rfl ?_
  refine aw_iload_n dL_law_1652 rfl ?_
  refine aw_iconst dL_law_1653 ?_
  refine aw_iadd dL_law_1654 ?_
  refine aw_sld dL_law_1655 (by omega) (by omega) ?_
  refine aw_callV (As := [_, _]) (ρ := (22, 0, 0)) (kn' := ((KN k).1 + 0, (KN k).2 + 0)) cv_L_194 dL_law_1656 rfl rfl (hc0 hnx) rfl rfl (Nat.le_of_ble_eq_true rfl) ⟨(Nat.le_of_ble_eq_true rfl), (Nat.le_of_ble_eq_true rfl)⟩ ⟨by show 29 * k + 52 + 0 ≤ 600000; omega, by show 1248 * k + 20532 + 0 ≤ 7302250; omega⟩ rfl (c_X10_even (d := 20) hnx hI (hX _) (hX _) (fun r1 h1 => ?_))
  refine aw_aload_n dL_law_1659 rfl ?_
  refine aw_aload_n dL_law_1660 rfl ?_
  refine aw_iload_n dL_law_1661 rfl ?_
  refine aw_iconst dL_law_1662 ?_
  refine aw_iadd dL_law_1663 ?_
  refine aw_sld dL_law_1664 (by omega) (by omega) ?_
  refine aw_aload_n dL_law_1665 rfl ?_
  refine aw_iload_n dL_law_1666 rfl ?_
  refine aw_iconst dL_law_1667 ?_
  refine aw_iadd dL_law_1668 ?_
  refine aw_sld dL_law_1669 (by omega) (by omega) ?_
  refine aw_callV (As := [_, _]) (ρ := (23, 0, 0)) (kn' := ((KN k).1 + 0, (KN k).2 + 0)) cv_L_197 dL_law_1670 rfl rfl (hc43 hnx) rfl rfl (Nat.le_of_ble_eq_true rfl) ⟨(Nat.le_of_ble_eq_true rfl), (Nat.le_of_ble_eq_true rfl)⟩ ⟨by show 29 * k + 52 + 0 ≤ 600000; omega, by show 1248 * k + 20532 + 0 ≤ 7302250; omega⟩ rfl (c_X11_even (d := 20) hnx hI hA hLv (hX _) (hX _) (fun r2 h2 => ?_))
  obtain rfl : r2 = r1 := h2.trans h1.symm
  refine aw_same_i (tgt := 2122) dL_law_1673 rfl ?_
  exact aw_wd ⟨by show 29 * k + 52 + 0 ≤ 29 * (k + 1) + 52; omega, by show 1248 * k + 20532 + 0 ≤ 1248 * (k + 1) + 20532; omega⟩ (hK _ _ _ _ _ _ (hG.mono ⟨by omega, by omega⟩))

set_option maxHeartbeats 1000000 in
theorem law_future {Γ : GT} {nm : String} {b L : Nat} {xs : Nat → Int} {S T U V : St} {G : Gw} {nx k : Nat} (hG : GI k S T U V G nx) (hk : 6 * k + 6 ≤ L) (hL : L ≤ 3072) (hX : ∀ j, inI (xs j)) (hK : ∀ S2 T2 U2 V2 G2 nx2, GI ((k : Int) + 1) S2 T2 U2 V2 G2 nx2 → AW Γ (MLw nm) room_1 (PL Γ b L xs) (KN (k + 1)) 2122 [some (.ref b), some (rf Γ 0), some (rf Γ 43), some (vi (6 * (k : Int)))] [] (hp Γ S2 T2 U2 V2 G2) nx2) : AW Γ (MLw nm) room_1 (PL Γ b L xs) (KN k) 1678 [some (.ref b), some (rf Γ 0), some (rf Γ 43), some (vi (6 * (k : Int)))] [] (hp Γ S T U V G) nx := by
  have hnx := hG.1
  have hLv := hG.2.2.1
  have hI := hG.2.2.2.1
  have hA := hG.2.2.2.2.1
  have hM : 0 ≤ V 10 0 ∧ V 10 0 ≤ 10 := by have q := hG.2.2.2.2.2.2.2.2.1; have := q.2.1; have := q.2.2.1; omega
  refine aw_aload_n dL_law_1678 rfl ?_
  refine aw_aload_n dL_law_1679 rfl ?_
  refine aw_iload_n dL_law_1680 rfl ?_
  refine aw_iconst dL_law_1681 ?_
  refine aw_iadd dL_law_1682 ?_
  refine aw_sld dL_law_1683 (by omega) (by omega) ?_
  refine aw_aload_n dL_law_1684 rfl ?_
  refine aw_iload_n dL_law_1685 rfl ?_
  refine aw_iconst dL_law_1686 ?_
  refine aw_iadd dL_law_1687 ?_
  refine aw_sld dL_law_1688 (by omega) (by omega) ?_
  refine aw_callV (As := [_, _]) (ρ := (23, 0, 0)) (kn' := ((KN k).1 + 0, (KN k).2 + 0)) cv_L_198 dL_law_1689 rfl rfl (hc0 hnx) rfl rfl (Nat.le_of_ble_eq_true rfl) ⟨(Nat.le_of_ble_eq_true rfl), (Nat.le_of_ble_eq_true rfl)⟩ ⟨by show 29 * k + 52 + 0 ≤ 600000; omega, by show 1248 * k + 20532 + 0 ≤ 7302250; omega⟩ rfl (c_X10_future (d := 20) hnx hI (hX _) (hX _) (fun r1 h1 => ?_))
  refine aw_aload_n dL_law_1692 rfl ?_
  refine aw_aload_n dL_law_1693 rfl ?_
  refine aw_iload_n dL_law_1694 rfl ?_
  refine aw_iconst dL_law_1695 ?_
  refine aw_iadd dL_law_1696 ?_
  refine aw_sld dL_law_1697 (by omega) (by omega) ?_
  refine aw_aload_n dL_law_1698 rfl ?_
  refine aw_iload_n dL_law_1699 rfl ?_
  refine aw_iconst dL_law_1700 ?_
  refine aw_iadd dL_law_1701 ?_
  refine aw_sld dL_law_1702 (by omega) (by omega) ?_
  refine aw_callV (As := [_, _]) (ρ := (24, 0, 0)) (kn' := ((KN k).1 + 0, (KN k).2 + 0)) cv_L_201 dL_law_1703 rfl rfl (hc43 hnx) rfl rfl (Nat.le_of_ble_eq_true rfl) ⟨(Nat.le_of_ble_eq_true rfl), (Nat.le_of_ble_eq_true rfl)⟩ ⟨by show 29 * k + 52 + 0 ≤ 600000; omega, by show 1248 * k + 20532 + 0 ≤ 7302250; omega⟩ rfl (c_X11_future (d := 20) hnx hI hA hLv (hX _) (hX _) (fun r2 h2 => ?_))
  obtain rfl : r2 = r1 := h2.trans h1.symm
  refine aw_same_i (tgt := 2122) dL_law_1706 rfl ?_
  exact aw_wd ⟨by show 29 * k + 52 + 0 ≤ 29 * (k + 1) + 52; omega, by show 1248 * k + 20532 + 0 ≤ 1248 * (k + 1) + 20532; omega⟩ (hK _ _ _ _ _ _ (hG.mono ⟨by omega, by omega⟩))

set_option maxHeartbeats 1000000 in
theorem law_likely {Γ : GT} {nm : String} {b L : Nat} {xs : Nat → Int} {S T U V : St} {G : Gw} {nx k : Nat} (hG : GI k S T U V G nx) (hk : 6 * k + 6 ≤ L) (hL : L ≤ 3072) (hX : ∀ j, inI (xs j)) (hK : ∀ S2 T2 U2 V2 G2 nx2, GI ((k : Int) + 1) S2 T2 U2 V2 G2 nx2 → AW Γ (MLw nm) room_1 (PL Γ b L xs) (KN (k + 1)) 2122 [some (.ref b), some (rf Γ 0), some (rf Γ 43), some (vi (6 * (k : Int)))] [] (hp Γ S2 T2 U2 V2 G2) nx2) : AW Γ (MLw nm) room_1 (PL Γ b L xs) (KN k) 1711 [some (.ref b), some (rf Γ 0), some (rf Γ 43), some (vi (6 * (k : Int)))] [] (hp Γ S T U V G) nx := by
  have hnx := hG.1
  have hLv := hG.2.2.1
  have hI := hG.2.2.2.1
  have hA := hG.2.2.2.2.1
  have hM : 0 ≤ V 10 0 ∧ V 10 0 ≤ 10 := by have q := hG.2.2.2.2.2.2.2.2.1; have := q.2.1; have := q.2.2.1; omega
  refine aw_aload_n dL_law_1711 rfl ?_
  refine aw_aload_n dL_law_1712 rfl ?_
  refine aw_iload_n dL_law_1713 rfl ?_
  refine aw_iconst dL_law_1714 ?_
  refine aw_iadd dL_law_1715 ?_
  refine aw_sld dL_law_1716 (by omega) (by omega) ?_
  refine aw_callV (As := [_]) (ρ := (22, 0, 0)) (kn' := ((KN k).1 + 0, (KN k).2 + 0)) cv_L_202 dL_law_1717 rfl rfl (hc0 hnx) rfl rfl (Nat.le_of_ble_eq_true rfl) ⟨(Nat.le_of_ble_eq_true rfl), (Nat.le_of_ble_eq_true rfl)⟩ ⟨by show 29 * k + 52 + 0 ≤ 600000; omega, by show 1248 * k + 20532 + 0 ≤ 7302250; omega⟩ rfl (c_X10_likely (d := 20) hnx hI (hX _) (fun r1 h1 => ?_))
  refine aw_aload_n dL_law_1720 rfl ?_
  refine aw_aload_n dL_law_1721 rfl ?_
  refine aw_iload_n dL_law_1722 rfl ?_
  refine aw_iconst dL_law_1723 ?_
  refine aw_iadd dL_law_1724 ?_
  refine aw_sld dL_law_1725 (by omega) (by omega) ?_
  refine aw_callV (As := [_]) (ρ := (24, 0, 0)) (kn' := ((KN k).1 + 0, (KN k).2 + 0)) cv_L_205 dL_law_1726 rfl rfl (hc43 hnx) rfl rfl (Nat.le_of_ble_eq_true rfl) ⟨(Nat.le_of_ble_eq_true rfl), (Nat.le_of_ble_eq_true rfl)⟩ ⟨by show 29 * k + 52 + 0 ≤ 600000; omega, by show 1248 * k + 20532 + 0 ≤ 7302250; omega⟩ rfl (c_X11_likely (d := 20) hnx hI hA hLv (hX _) (fun r2 h2 => ?_))
  obtain rfl : r2 = r1 := h2.trans h1.symm
  refine aw_same_l (tgt := 2122) dL_law_1729 dL_law_1730 rfl ?_
  exact aw_wd ⟨by show 29 * k + 52 + 0 ≤ 29 * (k + 1) + 52; omega, by show 1248 * k + 20532 + 0 ≤ 1248 * (k + 1) + 20532; omega⟩ (hK _ _ _ _ _ _ (hG.mono ⟨by omega, by omega⟩))

set_option maxHeartbeats 1000000 in
theorem law_root {Γ : GT} {nm : String} {b L : Nat} {xs : Nat → Int} {S T U V : St} {G : Gw} {nx k : Nat} (hG : GI k S T U V G nx) (hk : 6 * k + 6 ≤ L) (hL : L ≤ 3072) (hX : ∀ j, inI (xs j)) (hK : ∀ S2 T2 U2 V2 G2 nx2, GI ((k : Int) + 1) S2 T2 U2 V2 G2 nx2 → AW Γ (MLw nm) room_1 (PL Γ b L xs) (KN (k + 1)) 2122 [some (.ref b), some (rf Γ 0), some (rf Γ 43), some (vi (6 * (k : Int)))] [] (hp Γ S2 T2 U2 V2 G2) nx2) : AW Γ (MLw nm) room_1 (PL Γ b L xs) (KN k) 1735 [some (.ref b), some (rf Γ 0), some (rf Γ 43), some (vi (6 * (k : Int)))] [] (hp Γ S T U V G) nx := by
  have hnx := hG.1
  have hLv := hG.2.2.1
  have hI := hG.2.2.2.1
  have hA := hG.2.2.2.2.1
  have hM : 0 ≤ V 10 0 ∧ V 10 0 ≤ 10 := by have q := hG.2.2.2.2.2.2.2.2.1; have := q.2.1; have := q.2.2.1; omega
  refine aw_aload_n dL_law_1735 rfl ?_
  refine aw_aload_n dL_law_1736 rfl ?_
  refine aw_iload_n dL_law_1737 rfl ?_
  refine aw_iconst dL_law_1738 ?_
  refine aw_iadd dL_law_1739 ?_
  refine aw_sld dL_law_1740 (by omega) (by omega) ?_
  refine aw_aload_n dL_law_1741 rfl ?_
  refine aw_iload_n dL_law_1742 rfl ?_
  refine aw_iconst dL_law_1743 ?_
  refine aw_iadd dL_law_1744 ?_
  refine aw_sld dL_law_1745 (by omega) (by omega) ?_
  refine aw_callV (As := [_, _]) (ρ := (22, 0, 0)) (kn' := ((KN k).1 + 0, (KN k).2 + 0)) cv_L_206 dL_law_1746 rfl rfl (hc0 hnx) rfl rfl (Nat.le_of_ble_eq_true rfl) ⟨(Nat.le_of_ble_eq_true rfl), (Nat.le_of_ble_eq_true rfl)⟩ ⟨by show 29 * k + 52 + 0 ≤ 600000; omega, by show 1248 * k + 20532 + 0 ≤ 7302250; omega⟩ rfl (c_X10_root (d := 20) hnx hI (hX _) (hX _) (fun r1 h1 => ?_))
  refine aw_aload_n dL_law_1749 rfl ?_
  refine aw_aload_n dL_law_1750 rfl ?_
  refine aw_iload_n dL_law_1751 rfl ?_
  refine aw_iconst dL_law_1752 ?_
  refine aw_iadd dL_law_1753 ?_
  refine aw_sld dL_law_1754 (by omega) (by omega) ?_
  refine aw_aload_n dL_law_1755 rfl ?_
  refine aw_iload_n dL_law_1756 rfl ?_
  refine aw_iconst dL_law_1757 ?_
  refine aw_iadd dL_law_1758 ?_
  refine aw_sld dL_law_1759 (by omega) (by omega) ?_
  refine aw_callV (As := [_, _]) (ρ := (22, 0, 0)) (kn' := ((KN k).1 + 0, (KN k).2 + 0)) cv_L_209 dL_law_1760 rfl rfl (hc43 hnx) rfl rfl (Nat.le_of_ble_eq_true rfl) ⟨(Nat.le_of_ble_eq_true rfl), (Nat.le_of_ble_eq_true rfl)⟩ ⟨by show 29 * k + 52 + 0 ≤ 600000; omega, by show 1248 * k + 20532 + 0 ≤ 7302250; omega⟩ rfl (c_X11_root (d := 20) hnx hI hA hLv (hX _) (hX _) (fun r2 h2 => ?_))
  obtain rfl : r2 = r1 := h2.trans h1.symm
  refine aw_same_i (tgt := 2122) dL_law_1763 rfl ?_
  exact aw_wd ⟨by show 29 * k + 52 + 0 ≤ 29 * (k + 1) + 52; omega, by show 1248 * k + 20532 + 0 ≤ 1248 * (k + 1) + 20532; omega⟩ (hK _ _ _ _ _ _ (hG.mono ⟨by omega, by omega⟩))

set_option maxHeartbeats 1000000 in
theorem law_median {Γ : GT} {nm : String} {b L : Nat} {xs : Nat → Int} {S T U V : St} {G : Gw} {nx k : Nat} (hG : GI k S T U V G nx) (hk : 6 * k + 6 ≤ L) (hL : L ≤ 3072) (hX : ∀ j, inI (xs j)) (hK : ∀ S2 T2 U2 V2 G2 nx2, GI ((k : Int) + 1) S2 T2 U2 V2 G2 nx2 → AW Γ (MLw nm) room_1 (PL Γ b L xs) (KN (k + 1)) 2122 [some (.ref b), some (rf Γ 0), some (rf Γ 43), some (vi (6 * (k : Int)))] [] (hp Γ S2 T2 U2 V2 G2) nx2) : AW Γ (MLw nm) room_1 (PL Γ b L xs) (KN k) 1768 [some (.ref b), some (rf Γ 0), some (rf Γ 43), some (vi (6 * (k : Int)))] [] (hp Γ S T U V G) nx := by
  have hnx := hG.1
  have hLv := hG.2.2.1
  have hI := hG.2.2.2.1
  have hA := hG.2.2.2.2.1
  have hM : 0 ≤ V 10 0 ∧ V 10 0 ≤ 10 := by have q := hG.2.2.2.2.2.2.2.2.1; have := q.2.1; have := q.2.2.1; omega
  refine aw_aload_n dL_law_1768 rfl ?_
  refine aw_aload_n dL_law_1769 rfl ?_
  refine aw_iload_n dL_law_1770 rfl ?_
  refine aw_iconst dL_law_1771 ?_
  refine aw_iadd dL_law_1772 ?_
  refine aw_sld dL_law_1773 (by omega) (by omega) ?_
  refine aw_callV (As := [_]) (ρ := (24, 0, 0)) (kn' := ((KN k).1 + 0, (KN k).2 + 0)) cv_L_210 dL_law_1774 rfl rfl (hc0 hnx) rfl rfl (Nat.le_of_ble_eq_true rfl) ⟨(Nat.le_of_ble_eq_true rfl), (Nat.le_of_ble_eq_true rfl)⟩ ⟨by show 29 * k + 52 + 0 ≤ 600000; omega, by show 1248 * k + 20532 + 0 ≤ 7302250; omega⟩ rfl (c_X10_median (d := 20) hnx hI (hX _) (fun r1 h1 => ?_))
  refine aw_aload_n dL_law_1777 rfl ?_
  refine aw_aload_n dL_law_1778 rfl ?_
  refine aw_iload_n dL_law_1779 rfl ?_
  refine aw_iconst dL_law_1780 ?_
  refine aw_iadd dL_law_1781 ?_
  refine aw_sld dL_law_1782 (by omega) (by omega) ?_
  refine aw_callV (As := [_]) (ρ := (22, 0, 0)) (kn' := ((KN k).1 + 0, (KN k).2 + 0)) cv_L_213 dL_law_1783 rfl rfl (hc43 hnx) rfl rfl (Nat.le_of_ble_eq_true rfl) ⟨(Nat.le_of_ble_eq_true rfl), (Nat.le_of_ble_eq_true rfl)⟩ ⟨by show 29 * k + 52 + 0 ≤ 600000; omega, by show 1248 * k + 20532 + 0 ≤ 7302250; omega⟩ rfl (c_X11_median (d := 20) hnx hI hA hLv (hX _) (fun r2 h2 => ?_))
  obtain rfl : r2 = r1 := h2.trans h1.symm
  refine aw_same_i (tgt := 2122) dL_law_1786 rfl ?_
  exact aw_wd ⟨by show 29 * k + 52 + 0 ≤ 29 * (k + 1) + 52; omega, by show 1248 * k + 20532 + 0 ≤ 1248 * (k + 1) + 20532; omega⟩ (hK _ _ _ _ _ _ (hG.mono ⟨by omega, by omega⟩))

set_option maxHeartbeats 1000000 in
theorem law_stood {Γ : GT} {nm : String} {b L : Nat} {xs : Nat → Int} {S T U V : St} {G : Gw} {nx k : Nat} (hG : GI k S T U V G nx) (hk : 6 * k + 6 ≤ L) (hL : L ≤ 3072) (hX : ∀ j, inI (xs j)) (hK : ∀ S2 T2 U2 V2 G2 nx2, GI ((k : Int) + 1) S2 T2 U2 V2 G2 nx2 → AW Γ (MLw nm) room_1 (PL Γ b L xs) (KN (k + 1)) 2122 [some (.ref b), some (rf Γ 0), some (rf Γ 43), some (vi (6 * (k : Int)))] [] (hp Γ S2 T2 U2 V2 G2) nx2) : AW Γ (MLw nm) room_1 (PL Γ b L xs) (KN k) 1834 [some (.ref b), some (rf Γ 0), some (rf Γ 43), some (vi (6 * (k : Int)))] [] (hp Γ S T U V G) nx := by
  have hnx := hG.1
  have hLv := hG.2.2.1
  have hI := hG.2.2.2.1
  have hA := hG.2.2.2.2.1
  have hM : 0 ≤ V 10 0 ∧ V 10 0 ≤ 10 := by have q := hG.2.2.2.2.2.2.2.2.1; have := q.2.1; have := q.2.2.1; omega
  refine aw_aload_n dL_law_1834 rfl ?_
  refine aw_aload_n dL_law_1835 rfl ?_
  refine aw_iload_n dL_law_1836 rfl ?_
  refine aw_iconst dL_law_1837 ?_
  refine aw_iadd dL_law_1838 ?_
  refine aw_sld dL_law_1839 (by omega) (by omega) ?_
  refine aw_aload_n dL_law_1840 rfl ?_
  refine aw_iload_n dL_law_1841 rfl ?_
  refine aw_iconst dL_law_1842 ?_
  refine aw_iadd dL_law_1843 ?_
  refine aw_sld dL_law_1844 (by omega) (by omega) ?_
  refine aw_callV (As := [_, _]) (ρ := (22, 0, 0)) (kn' := ((KN k).1 + 0, (KN k).2 + 0)) cv_L_218 dL_law_1845 rfl rfl (hc0 hnx) rfl rfl (Nat.le_of_ble_eq_true rfl) ⟨(Nat.le_of_ble_eq_true rfl), (Nat.le_of_ble_eq_true rfl)⟩ ⟨by show 29 * k + 52 + 0 ≤ 600000; omega, by show 1248 * k + 20532 + 0 ≤ 7302250; omega⟩ rfl (c_X10_stood (d := 20) hnx hI (hX _) (hX _) (fun r1 h1 => ?_))
  refine aw_aload_n dL_law_1848 rfl ?_
  refine aw_aload_n dL_law_1849 rfl ?_
  refine aw_iload_n dL_law_1850 rfl ?_
  refine aw_iconst dL_law_1851 ?_
  refine aw_iadd dL_law_1852 ?_
  refine aw_sld dL_law_1853 (by omega) (by omega) ?_
  refine aw_aload_n dL_law_1854 rfl ?_
  refine aw_iload_n dL_law_1855 rfl ?_
  refine aw_iconst dL_law_1856 ?_
  refine aw_iadd dL_law_1857 ?_
  refine aw_sld dL_law_1858 (by omega) (by omega) ?_
  refine aw_callV (As := [_, _]) (ρ := (23, 0, 0)) (kn' := ((KN k).1 + 0, (KN k).2 + 0)) cv_L_221 dL_law_1859 rfl rfl (hc43 hnx) rfl rfl (Nat.le_of_ble_eq_true rfl) ⟨(Nat.le_of_ble_eq_true rfl), (Nat.le_of_ble_eq_true rfl)⟩ ⟨by show 29 * k + 52 + 0 ≤ 600000; omega, by show 1248 * k + 20532 + 0 ≤ 7302250; omega⟩ rfl (c_X11_stood (d := 20) hnx hI hA hLv (hX _) (hX _) (fun r2 h2 => ?_))
  obtain rfl : r2 = r1 := h2.trans h1.symm
  refine aw_same_i (tgt := 2122) dL_law_1862 rfl ?_
  exact aw_wd ⟨by show 29 * k + 52 + 0 ≤ 29 * (k + 1) + 52; omega, by show 1248 * k + 20532 + 0 ≤ 1248 * (k + 1) + 20532; omega⟩ (hK _ _ _ _ _ _ (hG.mono ⟨by omega, by omega⟩))

set_option maxHeartbeats 1000000 in
theorem law_owing {Γ : GT} {nm : String} {b L : Nat} {xs : Nat → Int} {S T U V : St} {G : Gw} {nx k : Nat} (hG : GI k S T U V G nx) (hk : 6 * k + 6 ≤ L) (hL : L ≤ 3072) (hX : ∀ j, inI (xs j)) (hK : ∀ S2 T2 U2 V2 G2 nx2, GI ((k : Int) + 1) S2 T2 U2 V2 G2 nx2 → AW Γ (MLw nm) room_1 (PL Γ b L xs) (KN (k + 1)) 2122 [some (.ref b), some (rf Γ 0), some (rf Γ 43), some (vi (6 * (k : Int)))] [] (hp Γ S2 T2 U2 V2 G2) nx2) : AW Γ (MLw nm) room_1 (PL Γ b L xs) (KN k) 1867 [some (.ref b), some (rf Γ 0), some (rf Γ 43), some (vi (6 * (k : Int)))] [] (hp Γ S T U V G) nx := by
  have hnx := hG.1
  have hLv := hG.2.2.1
  have hI := hG.2.2.2.1
  have hA := hG.2.2.2.2.1
  have hM : 0 ≤ V 10 0 ∧ V 10 0 ≤ 10 := by have q := hG.2.2.2.2.2.2.2.2.1; have := q.2.1; have := q.2.2.1; omega
  refine aw_aload_n dL_law_1867 rfl ?_
  refine aw_aload_n dL_law_1868 rfl ?_
  refine aw_iload_n dL_law_1869 rfl ?_
  refine aw_iconst dL_law_1870 ?_
  refine aw_iadd dL_law_1871 ?_
  refine aw_sld dL_law_1872 (by omega) (by omega) ?_
  refine aw_callV (As := [_]) (ρ := (22, 0, 0)) (kn' := ((KN k).1 + 0, (KN k).2 + 0)) cv_L_222 dL_law_1873 rfl rfl (hc0 hnx) rfl rfl (Nat.le_of_ble_eq_true rfl) ⟨(Nat.le_of_ble_eq_true rfl), (Nat.le_of_ble_eq_true rfl)⟩ ⟨by show 29 * k + 52 + 0 ≤ 600000; omega, by show 1248 * k + 20532 + 0 ≤ 7302250; omega⟩ rfl (c_X10_owing (d := 20) hnx hI (hX _) (fun r1 h1 => ?_))
  refine aw_aload_n dL_law_1876 rfl ?_
  refine aw_aload_n dL_law_1877 rfl ?_
  refine aw_iload_n dL_law_1878 rfl ?_
  refine aw_iconst dL_law_1879 ?_
  refine aw_iadd dL_law_1880 ?_
  refine aw_sld dL_law_1881 (by omega) (by omega) ?_
  refine aw_callV (As := [_]) (ρ := (23, 0, 0)) (kn' := ((KN k).1 + 0, (KN k).2 + 0)) cv_L_225 dL_law_1882 rfl rfl (hc43 hnx) rfl rfl (Nat.le_of_ble_eq_true rfl) ⟨(Nat.le_of_ble_eq_true rfl), (Nat.le_of_ble_eq_true rfl)⟩ ⟨by show 29 * k + 52 + 0 ≤ 600000; omega, by show 1248 * k + 20532 + 0 ≤ 7302250; omega⟩ rfl (c_X11_owing (d := 20) hnx hI hA hLv (hX _) (fun r2 h2 => ?_))
  obtain rfl : r2 = r1 := h2.trans h1.symm
  refine aw_same_i (tgt := 2122) dL_law_1885 rfl ?_
  exact aw_wd ⟨by show 29 * k + 52 + 0 ≤ 29 * (k + 1) + 52; omega, by show 1248 * k + 20532 + 0 ≤ 1248 * (k + 1) + 20532; omega⟩ (hK _ _ _ _ _ _ (hG.mono ⟨by omega, by omega⟩))

set_option maxHeartbeats 1000000 in
theorem law_holds {Γ : GT} {nm : String} {b L : Nat} {xs : Nat → Int} {S T U V : St} {G : Gw} {nx k : Nat} (hG : GI k S T U V G nx) (hk : 6 * k + 6 ≤ L) (hL : L ≤ 3072) (hX : ∀ j, inI (xs j)) (hK : ∀ S2 T2 U2 V2 G2 nx2, GI ((k : Int) + 1) S2 T2 U2 V2 G2 nx2 → AW Γ (MLw nm) room_1 (PL Γ b L xs) (KN (k + 1)) 2122 [some (.ref b), some (rf Γ 0), some (rf Γ 43), some (vi (6 * (k : Int)))] [] (hp Γ S2 T2 U2 V2 G2) nx2) : AW Γ (MLw nm) room_1 (PL Γ b L xs) (KN k) 1890 [some (.ref b), some (rf Γ 0), some (rf Γ 43), some (vi (6 * (k : Int)))] [] (hp Γ S T U V G) nx := by
  have hnx := hG.1
  have hLv := hG.2.2.1
  have hI := hG.2.2.2.1
  have hA := hG.2.2.2.2.1
  have hM : 0 ≤ V 10 0 ∧ V 10 0 ≤ 10 := by have q := hG.2.2.2.2.2.2.2.2.1; have := q.2.1; have := q.2.2.1; omega
  refine aw_aload_n dL_law_1890 rfl ?_
  refine aw_aload_n dL_law_1891 rfl ?_
  refine aw_iload_n dL_law_1892 rfl ?_
  refine aw_iconst dL_law_1893 ?_
  refine aw_iadd dL_law_1894 ?_
  refine aw_sld dL_law_1895 (by omega) (by omega) ?_
  refine aw_aload_n dL_law_1896 rfl ?_
  refine aw_iload_n dL_law_1897 rfl ?_
  refine aw_iconst dL_law_1898 ?_
  refine aw_iadd dL_law_1899 ?_
  refine aw_sld dL_law_1900 (by omega) (by omega) ?_
  refine aw_callV (As := [_, _]) (ρ := (23, 0, 0)) (kn' := ((KN k).1 + 0, (KN k).2 + 0)) cv_L_226 dL_law_1901 rfl rfl (hc0 hnx) rfl rfl (Nat.le_of_ble_eq_true rfl) ⟨(Nat.le_of_ble_eq_true rfl), (Nat.le_of_ble_eq_true rfl)⟩ ⟨by show 29 * k + 52 + 0 ≤ 600000; omega, by show 1248 * k + 20532 + 0 ≤ 7302250; omega⟩ rfl (c_X10_holds (d := 20) hnx hI (hX _) (hX _) (fun r1 h1 => ?_))
  refine aw_aload_n dL_law_1904 rfl ?_
  refine aw_aload_n dL_law_1905 rfl ?_
  refine aw_iload_n dL_law_1906 rfl ?_
  refine aw_iconst dL_law_1907 ?_
  refine aw_iadd dL_law_1908 ?_
  refine aw_sld dL_law_1909 (by omega) (by omega) ?_
  refine aw_aload_n dL_law_1910 rfl ?_
  refine aw_iload_n dL_law_1911 rfl ?_
  refine aw_iconst dL_law_1912 ?_
  refine aw_iadd dL_law_1913 ?_
  refine aw_sld dL_law_1914 (by omega) (by omega) ?_
  refine aw_callV (As := [_, _]) (ρ := (24, 0, 0)) (kn' := ((KN k).1 + 0, (KN k).2 + 0)) cv_L_229 dL_law_1915 rfl rfl (hc43 hnx) rfl rfl (Nat.le_of_ble_eq_true rfl) ⟨(Nat.le_of_ble_eq_true rfl), (Nat.le_of_ble_eq_true rfl)⟩ ⟨by show 29 * k + 52 + 0 ≤ 600000; omega, by show 1248 * k + 20532 + 0 ≤ 7302250; omega⟩ rfl (c_X11_holds (d := 20) hnx hI hA hLv (hX _) (hX _) (fun r2 h2 => ?_))
  obtain rfl : r2 = r1 := h2.trans h1.symm
  refine aw_same_i (tgt := 2122) dL_law_1918 rfl ?_
  exact aw_wd ⟨by show 29 * k + 52 + 0 ≤ 29 * (k + 1) + 52; omega, by show 1248 * k + 20532 + 0 ≤ 1248 * (k + 1) + 20532; omega⟩ (hK _ _ _ _ _ _ (hG.mono ⟨by omega, by omega⟩))

set_option maxHeartbeats 1000000 in
theorem law_total {Γ : GT} {nm : String} {b L : Nat} {xs : Nat → Int} {S T U V : St} {G : Gw} {nx k : Nat} (hG : GI k S T U V G nx) (hk : 6 * k + 6 ≤ L) (hL : L ≤ 3072) (hX : ∀ j, inI (xs j)) (hK : ∀ S2 T2 U2 V2 G2 nx2, GI ((k : Int) + 1) S2 T2 U2 V2 G2 nx2 → AW Γ (MLw nm) room_1 (PL Γ b L xs) (KN (k + 1)) 2122 [some (.ref b), some (rf Γ 0), some (rf Γ 43), some (vi (6 * (k : Int)))] [] (hp Γ S2 T2 U2 V2 G2) nx2) : AW Γ (MLw nm) room_1 (PL Γ b L xs) (KN k) 1923 [some (.ref b), some (rf Γ 0), some (rf Γ 43), some (vi (6 * (k : Int)))] [] (hp Γ S T U V G) nx := by
  have hnx := hG.1
  have hLv := hG.2.2.1
  have hI := hG.2.2.2.1
  have hA := hG.2.2.2.2.1
  have hM : 0 ≤ V 10 0 ∧ V 10 0 ≤ 10 := by have q := hG.2.2.2.2.2.2.2.2.1; have := q.2.1; have := q.2.2.1; omega
  refine aw_aload_n dL_law_1923 rfl ?_
  refine aw_aload_n dL_law_1924 rfl ?_
  refine aw_iload_n dL_law_1925 rfl ?_
  refine aw_iconst dL_law_1926 ?_
  refine aw_iadd dL_law_1927 ?_
  refine aw_sld dL_law_1928 (by omega) (by omega) ?_
  refine aw_callV (As := [_]) (ρ := (21, 0, 0)) (kn' := ((KN k).1 + 0, (KN k).2 + 0)) cv_L_230 dL_law_1929 rfl rfl (hc0 hnx) rfl rfl (Nat.le_of_ble_eq_true rfl) ⟨(Nat.le_of_ble_eq_true rfl), (Nat.le_of_ble_eq_true rfl)⟩ ⟨by show 29 * k + 52 + 0 ≤ 600000; omega, by show 1248 * k + 20532 + 0 ≤ 7302250; omega⟩ rfl (c_X10_total (d := 20) hnx hI (hX _) (fun r1 h1 => ?_))
  refine aw_aload_n dL_law_1932 rfl ?_
  refine aw_aload_n dL_law_1933 rfl ?_
  refine aw_iload_n dL_law_1934 rfl ?_
  refine aw_iconst dL_law_1935 ?_
  refine aw_iadd dL_law_1936 ?_
  refine aw_sld dL_law_1937 (by omega) (by omega) ?_
  refine aw_callV (As := [_]) (ρ := (21, 0, 0)) (kn' := ((KN k).1 + 0, (KN k).2 + 0)) cv_L_233 dL_law_1938 rfl rfl (hc43 hnx) rfl rfl (Nat.le_of_ble_eq_true rfl) ⟨(Nat.le_of_ble_eq_true rfl), (Nat.le_of_ble_eq_true rfl)⟩ ⟨by show 29 * k + 52 + 0 ≤ 600000; omega, by show 1248 * k + 20532 + 0 ≤ 7302250; omega⟩ rfl (c_X11_total (d := 20) hnx hI hA hLv (hX _) (fun r2 h2 => ?_))
  obtain rfl : r2 = r1 := h2.trans h1.symm
  refine aw_same_i (tgt := 2122) dL_law_1941 rfl ?_
  exact aw_wd ⟨by show 29 * k + 52 + 0 ≤ 29 * (k + 1) + 52; omega, by show 1248 * k + 20532 + 0 ≤ 1248 * (k + 1) + 20532; omega⟩ (hK _ _ _ _ _ _ (hG.mono ⟨by omega, by omega⟩))


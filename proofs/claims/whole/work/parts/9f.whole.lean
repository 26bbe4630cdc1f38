/-! the beginning -/
theorem Inv.zero : Inv 0 Z0 := by
  refine ⟨Z0_R, by omega, ?_, ?_, ?_, ?_, ?_, ?_, ?_, ?_, ?_, ?_, ?_⟩
  · exact ⟨by show (0 : Int) ≤ 0 ∧ (0 : Int) ≤ 4; omega, by show (0 : Int) ≤ 0 ∧ (0 : Int) ≤ 8; omega, by show (0 : Int) ≤ 0 ∧ (0 : Int) ≤ 60; omega, by show (0 : Int) ≤ 0 ∧ (0 : Int) ≤ 8; omega, by show (0 : Int) ≤ 0 ∧ (0 : Int) ≤ 3600; omega, fun _ => ⟨rfl, rfl⟩⟩
  · intro h; exact absurd (show (0 : Int) < 0 from h) (by omega)
  · intro x h0 h1; exact absurd (show x < 0 from h1) (by omega)
  · intro k h0 h1; show (0 : Int) ≤ 0 ∧ (0 : Int) ≤ 99999 * 0; omega
  · intro l h0 h1; exact absurd (show l < 0 from h1) (by omega)
  · intro x h0 h1; exact absurd (show x < 0 from h1) (by omega)
  · intro i x h0 h1; exact absurd (show i < 0 from h1) (by omega)
  · intro k h0; exact ⟨fun _ => by show (0 : Int) ≤ 0 ∧ (0 : Int) ≤ 99999 * 0; omega, fun _ => by show (0 : Int) ≤ 0 ∧ (0 : Int) ≤ 99999 * 0; omega, fun _ => by show (0 : Int) ≤ 0 ∧ (0 : Int) ≤ 99999 * 0; omega⟩
  · refine ⟨?_, ?_, ?_, ?_, ?_, ?_⟩
    · show (0 : Int) ≤ 0 ∧ (0 : Int) ≤ 99999 * 0; omega
    · show (0 : Int) ≤ 0 ∧ (0 : Int) ≤ 99999 * 0; omega
    · show (0 : Int) ≤ 0; omega
    · show (0 : Int) ≤ 0; omega
    · show (0 : Int) ≤ 0 ∧ (0 : Int) ≤ 99999 * 0; omega
    · show (0 : Int) + 0 + 0 ≤ 99999 * 0; omega
  · show (0 : Int) ≤ 99999 * 0; omega
  · intro i h0 h1; exact ⟨by show (0 : Int) ≤ 0; omega, by show (0 : Int) < (1060 + 0) * 4503599627370496; omega, Or.inl rfl⟩
theorem GI.zero : GI 0 Z0 Z0 U00 V00 G00 52 := by
  refine ⟨Nat.le_refl _, Z0_R, ?_, Inv.zero, fun f i _ => rfl, ⟨rfl, rfl, ⟨by show (0 : Int) ≤ 0; omega, by show (0 : Int) ≤ 400; omega⟩, fun j => ⟨by show (-128 : Int) ≤ 0; omega, by show (0 : Int) ≤ 127; omega⟩⟩, ⟨rfl, rfl, ⟨by show (-1 : Int) ≤ -1; omega, by show (-1 : Int) ≤ 3; omega⟩, ⟨by show (0 : Int) ≤ 0; omega, by show (0 : Int) ≤ 40; omega⟩, fun _ => rfl, fun k k0 k1 => absurd (show k < 0 from k1) (by omega), fun j => ⟨by show (-9223372036854775808 : Int) ≤ 0; omega, by show (0 : Int) < 9223372036854775808; omega⟩⟩, ⟨⟨0, rfl⟩, fun i _ _ => Or.inl (by show (-1 : Int) < 0; omega), fun i _ _ => Or.inl (by show (-1 : Int) < 0; omega), fun i i' _ _ _ _ _ _ => by show (-1 : Int) < 0; omega, fun i q _ _ _ _ _ => by show (-1 : Int) < 0; omega, fun q q' _ _ _ _ _ _ => by show (-1 : Int) < 0; omega⟩, ⟨⟨by show (0 : Int) ≤ 0; omega, by show (0 : Int) < 10; omega⟩, ⟨by show (0 : Int) ≤ 0; omega, by show (0 : Int) ≤ 10; omega⟩, rfl, fun t t0 t1 => absurd (show t < 0 from t1) (by omega)⟩, ⟨fun j => Or.inl rfl, fun q _ _ => Or.inl ⟨by show (-1 : Int) < 0; omega, rfl⟩⟩⟩
  intro f i
  unfold V00; split <;> exact ⟨by omega, by omega⟩
set_option maxHeartbeats 4000000 in
set_option maxRecDepth 20000 in
theorem law_start {Γ : GT} {nm : String} {b L : Nat} {xs : Nat → Int} {h : Nat → AC} (hL : L ≤ 3072) (hX : ∀ j, inI (xs j)) : AW Γ (MLw nm) room_1 (PL Γ b L xs) (0, 0) 0 [some (.ref b), none, none, none] [] h 0 := by
  refine aw_new (kn' := (1, 6)) nb_L_7 dL_law_0 (Nat.le_of_ble_eq_true rfl) (Nat.le_of_ble_eq_true rfl) rfl ?_
  refine aw_dup dL_law_3 rfl ?_
  refine aw_callI (As := []) (ρ := (23, 42, 1826)) (kn' := (43, 1832)) ci_L_9 dL_law_4 rfl rfl (Nat.le_of_ble_eq_true rfl) ⟨Nat.le_of_ble_eq_true rfl, Nat.le_of_ble_eq_true rfl⟩ ⟨Nat.le_of_ble_eq_true rfl, Nat.le_of_ble_eq_true rfl⟩ rfl (c_X10_init (d := 20) ⟨by omega, up_eq _ _ _⟩ (fun h1 e1 => ?_))
  refine aw_astore_n (ls' := [some (.ref b), some (rf Γ 0), none, none]) dL_law_7 (by show 1 < 4; decide) rfl ?_
  refine aw_new (kn' := (44, 1850)) nb_L_10 dL_law_8 (Nat.le_of_ble_eq_true rfl) (Nat.le_of_ble_eq_true rfl) rfl ?_
  refine aw_dup dL_law_11 rfl ?_
  refine aw_callI (As := []) (ρ := (21, 8, 18682)) (kn' := (52, 20532)) ci_L_12 dL_law_12 rfl rfl (Nat.le_of_ble_eq_true rfl) ⟨Nat.le_of_ble_eq_true rfl, Nat.le_of_ble_eq_true rfl⟩ ⟨Nat.le_of_ble_eq_true rfl, Nat.le_of_ble_eq_true rfl⟩ rfl (c_X11_init (d := 20) (nx := 44) (o := 43) ⟨by omega, up_eq _ _ _⟩ (fun h2 a2 b2 g0 g1 g2 g3 g4 g5 g6 g7 => ?_))
  have ecg : ∀ k, k < 52 → hp Γ Z0 Z0 U00 V00 G00 k = h2 k := by
    intro k hk
    by_cases q : k < 43
    · rw [a2 k (by omega) (by omega), up_ne (by omega), e1 k q]; rfl
    · rcases (show k = 43 ∨ k = 44 ∨ k = 45 ∨ k = 46 ∨ k = 47 ∨ k = 48 ∨ k = 49 ∨ k = 50 ∨ k = 51 by omega) with rfl | rfl | rfl | rfl | rfl | rfl | rfl | rfl | rfl
      · exact b2.symm
      · exact g0.symm
      · exact g1.symm
      · exact g2.symm
      · exact g3.symm
      · exact g4.symm
      · exact g5.symm
      · exact g6.symm
      · exact g7.symm
  refine aw_cg ecg ?_
  refine aw_astore_n (ls' := [some (.ref b), some (rf Γ 0), some (rf Γ 43), none]) dL_law_15 (by show 2 < 4; decide) rfl ?_
  refine aw_iconst dL_law_16 ?_
  refine aw_istore_n (ls' := [some (.ref b), some (rf Γ 0), some (rf Γ 43), some (vi 0)]) dL_law_17 (by show 3 < 4; decide) rfl ?_
  exact aw_ls2 (by rw [show 6 * ((0 : Nat) : Int) = 0 by omega]) (law_loop hL hX 0 (Nat.zero_le _) Z0 Z0 U00 V00 G00 52 GI.zero)

set_option maxHeartbeats 4000000 in
theorem whole_start {p : Program} {e : Env} {s : State} {m : MethodId} {below : List Frame} {meth : Method} {c : Code} (l : Launch) (hflags : l.flags = flags0) {b L : Nat} {xs : Nat → Int32} (hL : L ≤ 3072) (C0 : lw_At p s m meth c b L xs) : W p l e room_1 s m #[Value.ref b] below meth c s.heap [] 0 0 (lw_Z below #[Value.ref b] s) (entryFrame m ([Value.ref b] : List Value).toArray 4) := by
  obtain ⟨hx, hb, hr, hml, hown, hts, hXs, hbl, hlocks, hgv⟩ := id C0
  have hA : ∀ a : Nat, a < s.heap.size → ¬ (fun q : Nat => s.heap.size ≤ q) a := fun a h => Nat.not_le.mpr h
  obtain ⟨ad, had⟩ := Classical.axiomOfChoice (str_all hgv hts hA)
  obtain ⟨t0, z0, w0⟩ := sta_TOLD_LEAST hgv hts hA
  obtain ⟨t1, z1, w1⟩ := sta_TOLD_MOST hgv hts hA
  obtain ⟨t2, z2, w2⟩ := sta_LOGGED hgv hts hA
  obtain ⟨D, hD⟩ := cls_all hts
  obtain ⟨c0, p0⟩ := arr_int hts
  obtain ⟨c1, p1⟩ := arr_long hts
  obtain ⟨c2, p2⟩ := arr_byte hts
  obtain ⟨c3, p3⟩ := arr_boolean hts
  obtain ⟨c4, p4⟩ := arr_double hts
  obtain ⟨⟨c5, p5⟩, ao⟩ := arr_St hts
  obtain ⟨Γ, hΓ⟩ : ∃ Γ : GT, Γ = (l, s.heap.size, D, (fun k => if k = 0 then c0 else if k = 1 then c1 else if k = 2 then c2 else if k = 3 then c3 else if k = 4 then c4 else c5), (fun i => (ad i).1), (fun i => (ad i).2), (fun k => if k = 0 then t0 else if k = 1 then t1 else t2)) := ⟨_, rfl⟩
  have hGG : GG Γ s := by
    subst hΓ
    refine ⟨⟨hD, fun k q e => ?_⟩, nw_all hts, ⟨fun i q e => (had i q e).1, fun i hi => ?_, sta_CS hgv hts hA, ⟨z0, w0⟩, ⟨z1, w1⟩, ⟨z2, w2⟩, sta_SI hgv hts hA⟩, Nat.le_refl _, ao⟩
    · match k, e with
      | 0, e => cases e; exact p0
      | 1, e => cases e; exact p1
      | 2, e => cases e; exact p2
      | 3, e => cases e; exact p3
      | 4, e => cases e; exact p4
      | 5, e => cases e; exact p5
      | n + 6, e => exact absurd (show (none : Option (ClassId × FieldType)) = some q from e) (fun z => by cases z)
    · exact (had i _ (List.getElem?_eq_getElem hi)).2
  have hC : CX Γ (MLw meth.name) p s m #[Value.ref b] meth c := ⟨hx, hb, hr, hlocks, hml, hown, rfl, fun w hw => hts w (wl_tbl w hw), hGG⟩
  have hLV : LV 4 (lg_sl [Value.ref b] ++ List.replicate (4 - (lg_sl [Value.ref b]).length) Slot.unset).toArray [some (.ref b), none, none, none] := LV.en (as := [Value.ref b]) (n := 4) (Nat.le_of_ble_eq_true rfl)
  have hB : gB Γ = s.heap.size := by rw [hΓ]
  have hl2 : gL Γ = l := by rw [hΓ]
  have hSX : SXp Γ b L (fun j => (xs j).toInt) s := ⟨by rw [hB]; exact hbl, hB, by
    have e : (fun j => I ((xs j).toInt)) = xs := funext fun j => I_of _
    show va_X b L (fun j => I ((xs j).toInt)) s s.heap
    rw [e]; exact hXs⟩
  have hW := law_start (Γ := Γ) (nm := meth.name) (b := b) (xs := fun j => (xs j).toInt) (h := fun _ => ob 0 []) hL (fun j => inI_of _) p e s m #[Value.ref b] below meth c s.heap [] _ hC va_S.rf ⟨by rw [hB]; rfl, fun k hk => absurd hk (by omega)⟩ hLV
  rw [hl2] at hW
  rw [lg_entry_eq]
  intro T hT X
  obtain ⟨t, a1, b1⟩ := hW T hT X
  obtain ⟨q, r1, r2, r3⟩ := b1 hSX rfl
  exact ⟨t, a1, q, r1, r2, r3 s s.drawn rfl (Drawn.sameBut.refl _ _)⟩

set_option maxHeartbeats 4000000 in
theorem lw_walk (l : Launch) (hflags : l.flags = flags0) (b : Addr) (xs : List Int32) : MetFree l x (headSpec (Jvm.Cond.code x code maxLocals ret :: tables_1) room_1) (lw_P b xs) (fun _ _ _ _ _ => True) lw_Q := by
  refine MetFree.of_bodyS (code := code) (maxLocals := maxLocals) (ret := ret) (by decide) ?_ ?_
  · intro args s m h hn
    obtain ⟨meth, c, h1, h2, h3, h4, h5, h6, -, -⟩ := Cond.code_spec hn (atoms_spec (ws := Jvm.Cond.code x code maxLocals ret :: tables_1) h _ List.mem_cons_self)
    exact ⟨meth, c, h1, h2, h3, h4, h5, h6⟩
  · intro p e s m args below meth c s₁ B hml0 hP _
    obtain ⟨rfl, hx, hbd, hgv⟩ := hP
    obtain ⟨scr, harrAt, hlist, hof, hsmall⟩ := hx
    obtain ⟨hcb, hkn, -, -⟩ := State.arrayAt?_spec harrAt
    have hown : s.vm.findClass R_law = some m.cls := findClass_of_methodNamed B.named
    have hts0 : ∀ c ∈ (Jvm.Cond.code x code maxLocals ret :: tables_1), c.before #[Value.ref b] s = true := atoms_spec (ws := Jvm.Cond.code x code maxLocals ret :: tables_1) B.pre
    have hts : ∀ w ∈ lw_tbl, w.before #[Value.ref b] s = true := k2_hts_sels lw_privs (fun w hw => hts0 w (List.mem_cons_of_mem _ hw)) lw_privs_ok
    have hml : c.maxLocals = 4 := B.maxLocals_eq (hts0 _ List.mem_cons_self)
    have X₀ : Stand p l e room_1 s m #[Value.ref b] below meth c s₁ [] 0 0 := Stand.of_body B
    have hh0 : s₁.heap = s.heap := by rw [B.state]; rfl
    have hsz : scr.slots.size = xs.length := by rw [← Array.length_toList, hlist, List.length_map]
    have hval : ∀ j : Nat, j < xs.length → scr.slots[j]? = some (.int (xs.getD j 0)) := fun j hj => by
      rw [← Array.getElem?_toList, hlist]
      simp [hj]
    have hbl : b < s.heap.size := (Array.getElem?_eq_some_iff.mp hcb).1
    have hX : va_X b xs.length (fun j => xs.getD j 0) s s.heap := ⟨scr, hcb, hof, hkn, hsz, hval⟩
    have K : W p l e room_1 s m #[Value.ref b] below meth c s₁.heap [] 0 0 (lw_Z below #[Value.ref b] s) (entryFrame m ([Value.ref b] : List Value).toArray 4) := by
      rw [hh0]
      exact whole_start l hflags hbd ⟨B.exec, B.bytes, B.returns, hml, hown, hts, hX, hbl, B.notSynchronized, hgv⟩
    obtain ⟨t, a1, o, b1, b2, b3⟩ := K s₁ rfl X₀
    exact ⟨t, o, a1, b1, b2, b3⟩
theorem lw_pre_spec {args : Array Value} {s : State} (h : (Jvm.Cond.and given_1 narrow_1).before args s = true) (hr : rest_1_c.before args s = true) : ∃ (b : Addr) (xs : List Int32), lw_P b xs args s := by
  have hs := flat_of_before _ h
  have hq := flat_of_before _ hr
  have hc : (Cond.count 1).before args s = true := hs _ (by decide +kernel)
  have harr : (Cond.arrayOf (.arg 0) .int).before args s = true := hs _ (by decide +kernel)
  have hle : (Cond.le (.length (.arg 0)) (.int 3072)).before args s = true := hs _ (by decide +kernel)
  have hlen : (Cond.isInt (.length (.arg 0))).before args s = true := hq _ (by decide +kernel)
  have hall : (Cond.all (.arg 0) (.isInt (.elem (.arg 0) (.index 0)))).before args s = true := hq _ (by decide +kernel)
  obtain ⟨b, xs, hb, hx⟩ := State.ints_of_pre rfl harr hlen hall
  have hsm : xs.length < 2 ^ 31 := hx.choose_spec.2.2.2
  have hev : (Term.length (.arg 0)).eval args s none [] s = some (.int xs.length.toInt32) := hx.length_eval hb
  have hv := Cond.le_ints hev (show (Term.int 3072).eval args s none [] s = some (.int 3072) from rfl)
  have hd : xs.length.toInt32 ≤ 3072 := by
    simpa [Cond.before, Cond.holds, hv] using hle
  have hN : xs.length ≤ 3072 := (Int32.ofNat_le_ofNat hsm (by decide)).mp (show Int32.ofNat xs.length ≤ Int32.ofNat 3072 from hd)
  exact ⟨b, xs, Cond.one_arg hc (show args[0]? = some (.ref b) from hb), hx, hN, h⟩
theorem lw_comes (l : Launch) (hflags : l.flags = flags0) : Comes l x (Jvm.Cond.code x code maxLocals ret :: tables_1) room_1 (fun tb e args s => Calls_1 tb e args s ∧ rest_1 tb e args s ∧ Pre_1 tb e args s)
    (fun _ _ args s o t => lw_Q args s o t) := by
  intro p e ha hc hk s m args below hf hfit hheap happ hpre
  obtain ⟨b, xs, hP⟩ := lw_pre_spec hpre.2.2 hpre.2.1
  obtain ⟨k, o, h1, h2, h3, hQ⟩ := lw_walk l hflags b xs p e ha hc hk s m args below hf ((Spec.applies_iff_loose hf).mp happ).1 hP trivial
  exact ⟨k, o, h1, h2, h3, hQ⟩
theorem lw_frame {s t : State} {o : Outcome} {args : Array Value} (h : State.butDraws s t lw_cs (fun t1 => Framed s o t1 [] 600000 7302250)) :
    State.butDraws s t [Jvm.Choice.named "NaN.bits", Jvm.Choice.named "NaN.copy"] (fun t1 => Framed s o t1 (fieldLocs frame_1_writes args s ++ arrayLocs frame_1_arrays args s ++ staticLocs frame_1_statics s) 600000 7302250) := h
theorem lw_limb (L : Cond) (hL : ∀ (args : Array Value) (s t : State), L.after args s (.returned (some (.int 1))) t = true) :
    ArmFor flags0 classFile x code maxLocals ret World_1 tables_1 room_1 Calls_1 rest_1 Pre_1
      (fun tb e a s o t => postC L tb e a s o t ∧ State.butDraws s t [Jvm.Choice.named "NaN.bits", Jvm.Choice.named "NaN.copy"] (fun t1 => Framed s o t1 (fieldLocs frame_1_writes a s ++ arrayLocs frame_1_arrays a s ++ staticLocs frame_1_statics s) 600000 7302250)) := by
  intro l hflags _ _ p e ha hc hk s m args below hf hfit hheap happ hpre
  obtain ⟨k, o, h1, h2, h3, rfl, hF⟩ := lw_comes l hflags p e ha hc hk s m args below hf hfit hheap happ hpre
  exact ⟨k, _, h1, h2, h3, hL args s _, lw_frame hF⟩
theorem i_vc : Claimed_1_1 ∧ Claimed_1_2 := ⟨lw_limb limb_1_1 (fun args s t => by simp [limb_1_1, Cond.after, Cond.holds, Cond.value]), lw_limb limb_1_2 (fun args s t => Cond.after_iff.mpr (by
  first | (rw [show limb_1_2 = Cond.eq .result (.int 1) from rfl, Cond.eq_ints (x := 1) (y := 1) rfl rfl]; simp; done) | (simp [limb_1_2, Cond.value, Term.eval]; done)))⟩

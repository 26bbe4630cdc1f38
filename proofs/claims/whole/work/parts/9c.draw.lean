/-! a note that is a signalling NaN: the machine draws -/
abbrev nanCopy : Choice := Choice.named "NaN.copy"
theorem l2d_draw {E : CtlPost} {e : Env} {d : Bool} {acts : List Action} {s : State} {Q : Option Value → Pre} (v : Int64) (hv : (v.toUInt64 &&& 0x7fffffffffffffff > 0x7ff0000000000000 && v.toUInt64 &&& 0x0008000000000000 == 0) = true) (hq : Q (some (.double (if e.choices nanCopy (s.drawn.count nanCopy) % 2 == 0 then v.toUInt64 else v.toUInt64 ||| 0x0008000000000000))) true acts (s.draw nanCopy)) : wp (Native.java_lang_Float.bits.rowLongBitsToDouble.sem #[.long v]) Q E e d acts s := by
  rw [Native.java_lang_Float.bits.longBitsToDouble_on]
  simp only [hv, if_true, wp_bind', Jvm.W.choose, Jvm.W.mark, wp_pure']
  exact hq
section AWD
variable {Γ : GT} {M M' : MD} {R : Room} {Φ : PH} {kn kn' : Nat × Nat} {pc : Nat} {ls : List (Option Value)} {st : List Value} {h : Nat → AC} {nx : Nat}
def drewOk (Φ : PH) : Prop := ∀ (s : State) (args : Array Value) (below : List Frame) (d : Drawn) (t : State), s.drawn.sameBut d lw_cs → Φ (s.setDrawn d) args below t → Φ s args below t
theorem nanCopy_in (d : Drawn) : d.sameBut (d.next nanCopy) lw_cs := Drawn.sameBut.mono (Drawn.next_named d "NaN.copy") (fun c hc => by
  simp only [List.mem_cons, List.not_mem_nil, or_false] at hc
  rw [hc]; exact List.mem_cons_of_mem _ List.mem_cons_self)
theorem aw_l2dD {j : Nat} {x : Int64} (hΦ : drewOk Φ) (hl : Cond.methodLink M.1.cls j ⟨"java/lang/Double", "longBitsToDouble", "(J)D"⟩ ∈ WL) (hv : Cond.native ⟨"java/lang/Double", "longBitsToDouble", "(J)D"⟩ ∈ WL) (ht : Cond.static ⟨"java/lang/Double", "longBitsToDouble", "(J)D"⟩ ∈ WL) (hn : Cond.initialized "java/lang/Double" ∈ WL) (hx : vn_snl2d x = true) (hR : 1 ≤ R.frames ∧ (st.map fun v => v.category).sum + 15 ≤ R.locals) (hd : decode M.2.1 pc = .ok (.invokestatic j, 3)) (k : ∀ y : UInt64, (y = x.toUInt64 ∨ y = x.toUInt64 ||| 0x0008000000000000) → AW Γ M R Φ kn (pc + 3) ls (.double y :: st) h nx) : AW Γ M R Φ kn pc ls (.long x :: st) h nx := by
  intro p e s m args below meth c H locs lsa C hS hH hL
  have hts := C.2.2.2.2.2.2.2.1
  have hml : c.maxLocals = lsa.size := C.2.2.2.2.1.trans hL.1.symm
  intro T hT X
  obtain ⟨r, kS, methS, hnS, hmS, hkS, N⟩ := NativeOf.of_static (hts _ hv) (hts _ ht) (ps := [.long]) (ret := some .double) (by decide +kernel)
  have hinitS : kS.init = .initialized := Cond.initialized_spec (findClass_of_methodNamed hnS) hkS (hts _ hn)
  obtain ⟨vm', X', step⟩ := X.invokestatic C.1 C.2.2.2.2.2.1 (hts _ hl) hnS hmS N.static hkS hinitS (by decide) (g := F0 m pc lsa (.long x :: st)) rfl (argsL := [.long x]) (rest := st) (by rw [N.sig]; rfl) rfl (by rw [C.2.1]; exact hd)
  obtain ⟨kS', N'⟩ := N.alike X'.warmed.alike
  have hw : nativeFrameWords "java/lang/Double" "longBitsToDouble" 2 = 4 := by decide
  have hseen : seenByNative methS #[.long x] = #[.long x] := by simp [seenByNative, N.static, N.sig, narrow]
  obtain ⟨y, hy⟩ : ∃ y : UInt64, y = (if e.choices nanCopy ((((T.setVm vm').setTop (F0 m pc lsa st)).pushFrame (.native { method := r, args := seenByNative methS #[.long x], locked := none })).drawn.count nanCopy) % 2 == 0 then x.toUInt64 else x.toUInt64 ||| 0x0008000000000000) := ⟨_, rfl⟩
  have hy2 : y = x.toUInt64 ∨ y = x.toUInt64 ||| 0x0008000000000000 := by
    rw [hy]; split
    · exact Or.inl rfl
    · exact Or.inr rfl
  have hdr : T.drawn = s.drawn := X.drawn_eq
  have hsd : s.drawn.sameBut (T.drawn.next nanCopy) lw_cs := by rw [hdr]; exact nanCopy_in _
  obtain ⟨t, a1, b1⟩ := k y hy2 p e (s.setDrawn (T.drawn.next nanCopy)) m args below meth c H locs lsa (C.drew _) hS hH hL ((T.setVm vm').setDrawn (T.drawn.next nanCopy)) hT (X'.drew _)
  refine ⟨t, step t fun acts => ?_, hΦ s args below _ t hsd b1⟩
  refine Steps.nativeEnds (g := F0 m pc lsa st) (row := Native.java_lang_Float.bits.rowLongBitsToDouble) (v := some (.double y)) (T := fun u => u.draw nanCopy) X'.here acts N'.cls N'.meth N'.boot N'.native N'.noCode N'.noLock
    (by rw [N'.className, N'.name, N'.desc]; exact longBitsToDouble_row p) (by rw [N'.className, N'.name]; exact X'.notFull (g := F0 m pc lsa st) (by show lsa.size = _; rw [hml]) (vars := nativeFrameWords "java/lang/Double" "longBitsToDouble" 2) hR.1 (by show 2 * 0 + (st.map fun v => v.category).sum + _ ≤ _; omega)) (fun _ => rfl) rfl (fun _ => X'.here.code) ?_ (by rw [C.2.1]; exact hd) a1
  intro Q hq
  rw [hseen] at hq ⊢
  rw [hy, hseen] at hq
  exact l2d_draw x hx (hq _ _)
theorem gRunD {p : Program} {e : Env} {s : State} {m : MethodId} {args a : Array Value} {below : List Frame} {meth : Method} {c : Code} {H : Heap} {locs : List Loc} {lsa : Array Slot} {st0 : List Value} {mc ms : Nat} (hΦ : drewOk Φ) (C : CX Γ M p s m args meth c) (hS : va_S (gF Γ) s.heap H locs) (hL : LV M.2.2.1 lsa ls)
    (hr : va_RunD lw_cs p (gL Γ) e R s m args below meth c H locs kn.1 kn.2 mc ms (F0 m pc lsa st0) st (Qcx Γ (fun r h' nx' => AW Γ M R Φ (kn.1 + mc, kn.2 + ms) (pc + 3) ls (ret' r st) h' nx') a) (gF Γ)) : W p (gL Γ) e R s m args below meth c H locs kn.1 kn.2 (Φ s args below) (F0 m pc lsa st0) := by
  intro T hT X
  obtain ⟨v, st₀, t, T', L, d', hd', h0, X', hLo, e1, e2, ⟨r, h', nx', hv, hQ, hH', hz, hk⟩, go⟩ := hr T hT X
  cases hv
  rw [ret_eq] at hQ
  obtain ⟨t2, a1, b1⟩ := hQ p e (s.setDrawn d') m args below meth c t.heap (locs ++ L) lsa (C.drew d') ⟨Nat.le_trans hS.1 (by rw [← h0]; exact hz), fun q h1 h2 => by rw [hk q (Nat.not_le.mp h2), h0]; exact hS.2.1 q h1 h2, fun q hq => (List.mem_append.mp hq).elim (hS.2.2 q) (hLo q)⟩ hH' hL T' e1 X'
  exact ⟨t2, go t2 a1, hΦ s args below d' t2 hd' b1⟩
def AMD (Γ : GT) (M : MD) (ρ : RM) (as : List Value) (h : Nat → AC) (nx : Nat) (Q : QT) : Prop := MetD lw_cs (gL Γ) M.1 (wsM M) (rmm ρ) (Pcx Γ as h nx) (Qcx Γ Q) ρ.2.1 ρ.2.2 (gF Γ)
def MFD (Γ : GT) (Q : QT) (ρ : RM) : PH := fun s args below => MQD lw_cs below (Qcx Γ Q) args s ρ.2.1 ρ.2.2 (gF Γ)
theorem MFD.drew (Γ : GT) (Q : QT) (ρ : RM) : drewOk (MFD Γ Q ρ) := by
  intro s args below d t hd hh
  obtain ⟨d2, a, b⟩ := hh
  exact ⟨d2, hd.trans a, b⟩
theorem PL.drewOk (Γ : GT) (b L : Nat) (xs : Nat → Int) : Jvm.Pilot.@@N@@.drewOk (PL Γ b L xs) := fun _ _ _ _ _ hd hh => PL.drew hd hh
theorem aw_D {Q : QT} {ρ : RM} (k : AW Γ M R (MF Γ Q ρ) kn pc ls st h nx) : AW Γ M R (MFD Γ Q ρ) kn pc ls st h nx := by
  intro p e s m args below meth c H locs lsa C hS hH hL T hT X
  obtain ⟨t, a, b⟩ := k p e s m args below meth c H locs lsa C hS hH hL T hT X
  exact ⟨t, a, s.drawn, Drawn.sameBut.refl _ _, b⟩
theorem am_ofD {ρ : RM} {as : List Value} {Q : QT} (hy : plainName M.1.cls = true) (hn : (lg_sl as).length ≤ M.2.2.1) (hl : en as M.2.2.1 = ls) (k : AW Γ M (rmm ρ) (MFD Γ Q ρ) (0, 0) 0 ls [] h nx) : AMD Γ M ρ as h nx Q := by
  refine MetD.ofW (cc := M.2.1) (maxL := M.2.2.1) (ret := M.2.2.2) hy rfl ?_
  intro p e s m args below meth c s₁ B hml hv hd0
  obtain ⟨rfl, hG, hH⟩ := hv
  rw [lg_entry_eq]
  have hts := atoms_spec (ws := wsM M) B.pre
  exact k p e s m _ below meth c s.heap [] _ ⟨B.exec, B.bytes, B.returns, B.notSynchronized, hml, findClass_of_methodNamed B.named, (name_of_methodNamed B.named B.method).1, fun w hw => hts w (List.mem_cons_of_mem _ hw), hG⟩ va_S.rf hH (hl ▸ LV.en hn)
theorem aw_callVD {j n o ci : Nat} {As st0 fs : List Value} {ρ : RM} {q : vw_C} (hΦ : drewOk Φ) (B : CV M.1.cls j M' n) (hd : decode M.2.1 pc = .ok (.invokevirtual j, 3)) (hs : st0 = As.reverse ++ rf Γ o :: st) (hn : As.length = n) (hr : hat h nx o (ob ci fs)) (hc : vwCl[ci]? = some q) (hq : q.1 = M'.1.cls) (hW : (st.map fun v => v.category).sum ≤ 8) (hR : ρ.1 + 1 ≤ R.frames ∧ 48 * ρ.1 + 48 ≤ R.locals) (hf : kn.1 + ρ.2.1 ≤ R.cells ∧ kn.2 + ρ.2.2 ≤ R.slots) (hk : kn' = (kn.1 + ρ.2.1, kn.2 + ρ.2.2))
    (k : AMD Γ M' ρ (rf Γ o :: As) h nx (fun r h' nx' => AW Γ M R Φ kn' (pc + 3) ls (ret' r st) h' nx')) : AW Γ M R Φ kn pc ls st0 h nx := by
  intro p e s m args below meth c H locs lsa C hS hH hL
  subst hs; subst hk
  have hts := C.2.2.2.2.2.2.2.1
  have hG := C.2.2.2.2.2.2.2.2
  refine gRunD hΦ C hS hL (va_runV_D (nL := M.2.2.1) (Ts := WL) (own := M.1.cls) (C := M'.1.cls) ⟨C.1, C.2.1, C.2.2.2.2.1, C.2.2.2.2.2.1, hts⟩ k ⟨gCB B.1 hts hR B.2.2.2, hts _ B.2.1, hts _ B.2.2.1⟩ ⟨gdP, ?_, fun U hU hW => gdU hG hS hH hU hW⟩ rfl hn hL.1 rfl (by show 2 * 0 + _ ≤ 8; omega) hd hf)
  have := va_recv hG.1 (hH.P hr.1 hr.2) hc (q0 := 0) (ci := ci) rfl
  rw [← hq]
  exact this
end AWD
theorem isn_val {y : UInt64} (h : isNaN64 y = true) : FP.Core.val64 y = .nan := by
  rw [isNaN64_iff] at h
  have e : y.toNat &&& 0x7fffffffffffffff = y.toNat % 9223372036854775808 := by
    rw [show (0x7fffffffffffffff : Nat) = 2 ^ 63 - 1 by decide, Nat.and_two_pow_sub_one_eq_mod]
  rw [e] at h
  have h1 : y.toNat / 4503599627370496 % 2048 = 2047 := by omega
  have h2 : ¬ y.toNat % 4503599627370496 = 0 := by omega
  have hE : FP.Core.fieldE FP.Core.b64 y.toNat = y.toNat / 4503599627370496 % 2048 := rfl
  have hT : FP.Core.fieldT FP.Core.b64 y.toNat = y.toNat % 4503599627370496 := rfl
  have hX : FP.Core.b64.exps - 1 = 2047 := rfl
  unfold FP.Core.val64 FP.Core.decode
  rw [hE, hT, hX, if_pos h1, if_neg h2]
theorem sn_nan {x : Int64} (h : vn_snl2d x = true) {y : UInt64} (hy : y = x.toUInt64 ∨ y = x.toUInt64 ||| 0x0008000000000000) : FP.Core.val64 y = .nan := by
  have h1 : isNaN64 x.toUInt64 = true := by
    unfold vn_snl2d at h; rw [Bool.and_eq_true] at h; exact h.1
  apply isn_val
  rcases hy with rfl | rfl
  · exact h1
  · exact isNaN64_or_left h1

set_option maxHeartbeats 1000000 in
theorem c_X11_noteD {Γ : GT} {S T U V : St} {G : Gw} {nx d : Nat} {Q : QT} (hnx : 52 ≤ nx) {k v : Int} (hL : RgL V) (h15 : V 15 0 = 2) (h16 : 0 ≤ V 16 0 ∧ V 16 0 ≤ 40) (hk : 0 ≤ k ∧ k < V 16 0) (hv : inL v) (hz : vn_snl2d (L v) = true) (hQ : RgL (u1 V 7 k (cn 2 v)) → Q (some (vi k)) (hp Γ S T U (u1 V 7 k (cn 2 v)) G) nx) : AMD Γ MX11_note (d + 2, 0, 0) [rf Γ 43, vi k, vi 2, vl v] (hp Γ S T U V G) nx Q := by
  refine am_ofD (by decide) (Nat.le_of_ble_eq_true rfl) (ls := [some (rf Γ 43), some _, some _, some _, none]) rfl ?_
  have cv := cn_in (s := 2) hv
  refine aw_iload_n dX11_note_0 rfl ?_
  refine aw_i2l dX11_note_1 (by omega) ?_
  refine aw_lconst0 dX11_note_2 ?_
  refine aw_ldc2 dX11_note_3 qk_X11_301 ?_
  refine aw_st (st' := vl 3 :: _) rfl ?_
  refine aw_callS (As := [_, _, _]) (ρ := (_, 0, 0)) (kn' := (0, 0)) cs_X11_51 dX11_note_6 rfl rfl (Nat.le_of_ble_eq_true rfl) (rmR _ _ _) ⟨Nat.le_refl _, Nat.le_refl _⟩ rfl (c_X11_in hnx (by omega) (fun r6 h6 => ?_))
  rcases h6 with ⟨rfl, h6⟩ | ⟨rfl, h6⟩
  · skip
    refine aw_if_ne (tgt := 14) dX11_note_9 rfl (by decide) (fun _ => ?_) (fun c => absurd c (by decide))
    refine aw_aload_n dX11_note_14 rfl ?_
    refine aw_getf fg_X11_36 dX11_note_15 (hc43 hnx) rfl ?_
    refine aw_iconst dX11_note_18 ?_
    refine aw_icmp_ne (tgt := 25) dX11_note_19 rfl (by omega) (fun c19 => ?_) (fun c19 => ?_)
    · skip
      refine aw_iload_n dX11_note_25 rfl ?_
      refine aw_i2l dX11_note_26 (by omega) ?_
      refine aw_lconst0 dX11_note_27 ?_
      refine aw_aload_n dX11_note_28 rfl ?_
      refine aw_getf fg_X11_353 dX11_note_29 (hc43 hnx) rfl ?_
      refine aw_iconst dX11_note_32 ?_
      refine aw_isub dX11_note_33 ?_
      refine aw_i2l dX11_note_34 (by omega) ?_
      refine aw_callS (As := [_, _, _]) (ρ := (_, 0, 0)) (kn' := (0, 0)) cs_X11_51 dX11_note_35 rfl rfl (Nat.le_of_ble_eq_true rfl) (rmR _ _ _) ⟨Nat.le_refl _, Nat.le_refl _⟩ rfl (c_X11_in hnx (by omega) (fun r35 h35 => ?_))
      rcases h35 with ⟨rfl, h35⟩ | ⟨rfl, h35⟩
      · skip
        refine aw_if_ne (tgt := 44) dX11_note_38 rfl (by decide) (fun _ => ?_) (fun c => absurd c (by decide))
        refine aw_iload_n dX11_note_44 rfl ?_
        refine aw_aload_n dX11_note_45 rfl ?_
        refine aw_getf fg_X11_36 dX11_note_46 (hc43 hnx) rfl ?_
        refine aw_icmp_eq (tgt := 55) dX11_note_49 rfl (by omega) (fun c49 => ?_) (fun c49 => ?_)
        · skip
          refine aw_iload_n dX11_note_55 rfl ?_
          refine aw_if_ne (tgt := 72) dX11_note_56 rfl (by omega) (fun c56 => ?_) (fun c56 => ?_)
          · skip
            refine aw_iload_n dX11_note_72 rfl ?_
            refine aw_iconst dX11_note_73 ?_
            refine aw_icmp_ne (tgt := 93) dX11_note_74 rfl (by omega) (fun c74 => ?_) (fun c74 => ?_)
            · skip
              refine aw_aload_n dX11_note_93 rfl ?_
              refine aw_getf fg_X11_33 dX11_note_94 (hc43 hnx) rfl ?_
              refine aw_iload_n dX11_note_97 rfl ?_
              refine aw_iload_n dX11_note_98 rfl ?_
              refine aw_iconst dX11_note_99 ?_
              refine aw_icmp_ne (tgt := 113) dX11_note_100 rfl (by omega) (fun c100 => ?_) (fun c100 => ?_)
              · skip
                exact absurd c100 (by omega)
              · skip
                refine aw_lload_n dX11_note_103 rfl ?_
                refine aw_l2dD (MFD.drew _ _ _) qm_X11_260 qv_java_lang_Double_longBitsToDouble qt_java_lang_Double_longBitsToDouble qn_Jxe99ae hz (rmN _ _ _ (Nat.le_of_ble_eq_true rfl)) dX11_note_104 (fun y hy => ?_)
                refine aw_callS (As := [_]) (ρ := (_, 0, 0)) (kn' := (0, 0)) cs_X11_276 dX11_note_107 rfl rfl (Nat.le_of_ble_eq_true rfl) (rmR _ _ _) ⟨Nat.le_refl _, Nat.le_refl _⟩ rfl (c_dtl1 hnx (sn_nan hz hy) ?_)
                refine aw_svl (a := cn 2 v) (by unfold cn; rw [if_pos ⟨rfl, nanP_val.mpr (sn_nan hz (Or.inl rfl))⟩]) ?_
                refine aw_goto (tgt := 114) dX11_note_110 rfl ?_
                refine aw_lastV dX11_note_114 (hc51 hnx) (by omega) (by decide) hL cv (fun _ => hu51) (fun hL => ?_)
                refine aw_iload_n dX11_note_115 rfl ?_
                exact aw_D (aw_ireturn dX11_note_116 rfl rfl ⟨Nat.le_refl _, Nat.le_refl _⟩ (hQ hL))
            · skip
              exact absurd c74 (by omega)
          · skip
            exact absurd c56 (by omega)
        · skip
          exact absurd c49 (by omega)
      · skip
        refine aw_if_ne (tgt := 44) dX11_note_38 rfl (by decide) (fun c => absurd c (by decide)) (fun _ => ?_)
        exact absurd h35 (by omega)
    · skip
      exact absurd c19 (by omega)
  · skip
    refine aw_if_ne (tgt := 14) dX11_note_9 rfl (by decide) (fun c => absurd c (by decide)) (fun _ => ?_)
    exact absurd h6 (by omega)


/-! THE CLAIM OUT OF ONE WALK OF THE LAW'S BODY. Your part is whole_start (and what it stands on); all else here is the same for every law, but numbers. -/
def R_law : String := "DiamondBookLaw"
def lw_P (b : Addr) (xs : List Int32) (args : Array Value) (s : State) : Prop := args = #[.ref b] ∧ s.IntsAt b xs ∧ xs.length ≤ 3072 ∧ (Jvm.Cond.and given_1 narrow_1).before args s = true
def lw_Q (_ : Array Value) (s : State) (o : Outcome) (t : State) : Prop := o = .returned (some (.int 1)) ∧ Framed s o t [] 601024 7293034
def lw_Z (below : List Frame) (a : Array Value) (s : State) : State → Prop := fun t => ∃ o, t.status = .running ∧ Ended t below o ∧ lw_Q a s o t
/-- the law's own end, with 1 on the stack, nothing written that was there before, its room as the claim has it -/
theorem lw_ret {p : Program} {l : Launch} {e : Env} {s : State} {m : MethodId} {below : List Frame} {meth : Method} {c : Code} {b : Nat} (hx : p.tables.exec = Jvm.exec) (hb : c.code = code) (hr : meth.sig.returnType = ret) (hlocks : meth.locks = false) {pc : Nat} {H : Heap} {ls : Array Slot} (hdg : decode code pc = .ok (.ireturn, 1)) : W p l e room_1 s m #[Value.ref b] below meth c H [] 601024 7293034 (lw_Z below #[Value.ref b] s) (F0 m pc ls [.int 1]) := by
  intro T hT X
  obtain ⟨fs, hret, hrun, hended, hW, hframe⟩ := X.leave (v := some (.int 1)) (hlocks := hlocks) (fun h => by rw [hr] at h; cases h)
  have hmeth' : T.vm.method? m = some meth := X.method'
  refine ⟨T.setFrames fs, ?_, .returned (some (.int 1)), hrun, hended, rfl, ⟨_, rfl⟩, hW, hframe⟩
  jvm_step X.here [X.here.top, hx, hb, hdg, hmeth', hr, ret, narrow_b1]
  (try refine ⟨rfl, ?_⟩); (try refine ⟨rfl, ?_⟩)
  first | (intro acts; rw [hret _ acts rfl rfl rfl]) | rw [hret _ _ rfl rfl rfl]
  exact Steps.refl _
/-- what holds at the law's entry: the machine, the code, the tables' words (any of lw_tbl by 'hts w (by decide +kernel)'), the script of L ints xs at the cell b, what the Statement gives of the start (any of its parts by flat_of_before) -/
def lw_At (p : Program) (s : State) (m : MethodId) (meth : Method) (c : Code) (b L : Nat) (xs : Nat → Int32) : Prop :=
  p.tables.exec = Jvm.exec ∧ c.code = code ∧ meth.sig.returnType = ret ∧ c.maxLocals = 7 ∧ s.vm.findClass R_law = some m.cls ∧ (∀ w ∈ lw_tbl, w.before #[Value.ref b] s = true) ∧ va_X b L xs s s.heap ∧ b < s.heap.size ∧ meth.locks = false ∧ (Jvm.Cond.and given_1 narrow_1).before #[Value.ref b] s = true
theorem enX : ∀ X ∈ XN, Cond.castable X X ∈ lw_tbl := by decide +kernel
theorem enD : ∀ y ∈ DN, Cond.declares y ∈ lw_tbl := by decide +kernel
theorem enF : ∀ q ∈ NF, Cond.fieldLinkNest q.1 q.2.1 q.2.2.1 q.2.2.2.1 q.2.2.2.2.1 q.2.2.2.2.2 ∈ lw_tbl := by decide +kernel
theorem enM : ∀ q ∈ NM, Cond.methodLinkNest q.1 q.2.1 q.2.2.1 q.2.2.2 ∈ lw_tbl := by decide +kernel
theorem enS : ∀ q ∈ SW, Cond.stringRef RX5 q.1 q.2 ∈ lw_tbl := by decide +kernel
theorem enN : ∀ q ∈ NCL, Cond.not (Cond.castable q.1 q.2) ∈ flatC (Cond.and given_1 narrow_1) := by decide +kernel
theorem kl_RL_8 : Cond.classLink RL 8 RX5 ∈ UW := UW_m (i := 55) (by decide +kernel) (by decide +kernel)
theorem kl_RL_92 : Cond.classLink RL 92 RX6 ∈ UW := UW_m (i := 779) (by decide +kernel) (by decide +kernel)
theorem TG_0 : TG 0 0 ([0, 1, 2, 3, 4, 5, 6, 7, 8, 9, 10, 11, 12, 13, 14, 400, 402, 404, 405, 406, 407, 408, 409, 410, 411, 412, 413, 414, 415, 416, 417, 419, 420, 421, 422, 425, 427, 428, 429, 430, 431, 432, 433, 434, 435, 436, 437] ++ [399]) := by
  refine ⟨by decide, by decide, fun k => ?_⟩
  simp [ftags]
  omega
theorem preA_of {D : Gt} {A : Nat → Prop} {own : String} {cc : ByteArray} {n : Nat} {ret : Option FieldType} {tb : List ExceptionTableEntry} {p : Program} {s : State} {m : MethodId} {args : Array Value} {meth : Method} {c : Code} {S : St} (C : CX D A own cc n ret tb p s m args meth c) (h3 : va_AO RX3 s) (h0 : va_AO RX0 s) {H : Heap} {locs : List Loc} {As : List Value} (hP : va_P D.1 vwCl (wS S) H) (hD : va_D A (wS S)) (hS : va_S A s.heap H locs) : PreS s H (va_Pc As (PreA D S H.size)) As := by
  obtain ⟨hb, hq⟩ := pre_of (As := As) C hP hD hS
  refine ⟨fun a U g mk q => ?_, fun U hU hW => ⟨rfl, (hq U hU hW).2, va_AO.moved hW.alike h3, va_AO.moved hW.alike h0⟩⟩
  obtain ⟨q0, q1, q2, q3⟩ := q
  exact ⟨q0, (PreB.blind (As := As) a U g mk ⟨q0, q1⟩).2, va_AO.moved (u := U) (U := U.calling g mk a) (Vm.Alike.refl U.vm) q2, va_AO.moved (u := U) (U := U.calling g mk a) (Vm.Alike.refl U.vm) q3⟩
theorem r_callIA {D : Gt} {A : Nat → Prop} {own : String} {cc : ByteArray} {n : Nat} {ret : Option FieldType} {tb : List ExceptionTableEntry} {p : Program} {l : Launch} {e : Env} {R : Room} {s : State} {m : MethodId} {args : Array Value} {below : List Frame} {meth : Method} {c : Code} {cells slots : Nat} {Q : State → Prop} {S : St} {pc : Nat} {L : List (Option Value)} {st : List Value} (C : CX D A own cc n ret tb p s m args meth c) (h3 : va_AO RX3 s) (h0 : va_AO RX0 s) {y : MethodName} {cc' : ByteArray} {n' na index : Nat} {rm : Room} {mc ms : Nat} {post : St → Prop} {As st0 : List Value} {a : Nat} (hM : ∀ sz : Nat, vx_Met l y (uws y cc' n' none) rm (va_Pc (.ref a :: As) (PreA D S sz)) (va_Qv post (PoB D (wA S sz)) (wA S sz)) (XCs D S (wA S sz) nX) mc ms (wA S sz)) (hl2 : Cond.methodLink own index y ∈ UW) (hi : Cond.instanceMethod y ∈ UW) (hini : Cond.initialized y.cls ∈ UW) (hcd : Cond.code y cc' n' none ∈ UW) (hd : y.cls ≠ "java/lang/invoke/MethodHandle" ∧ y.cls ≠ "java/lang/invoke/VarHandle" ∧ (parseMethodDescriptor y.desc).map (fun d => d.parameters.length) = some na) (hyn : y.name = "<init>") (hst : st0 = As.reverse ++ .ref a :: st) (hna : As.length = na) (hcat : (st.map fun v => v.category).sum ≤ 8) (hrm : rm.cells = mc ∧ rm.slots = ms) (hR : rm.frames + 1 ≤ R.frames ∧ 8 + (n' + 11) + rm.locals ≤ R.locals) (hf : cells + mc ≤ R.cells ∧ slots + ms ≤ R.slots) (d : decode cc pc = .ok (.invokespecial index, 3)) (kk : ∀ S1 : St, post S1 → V D A n S1 p l e R s m args below meth c (cells + mc) (slots + ms) Q (pc + 3) L st) : V D A n S p l e R s m args below meth c cells slots Q pc L st0 := fun H locs ls hP hD hS hl =>
  vx_callv (vx_runI C.1 (hM H.size) ⟨words_of C hl2 hini hcd hd hrm.1 hrm.2 hR, hyn, C.1.2.2.2.2 _ hi⟩ (preA_of C h3 h0 hP hD hS) rfl hna hl.1.1 hst (lv_room hcat) d hf) hS (fun q _ hq => wA_sub C.2.2.2.2.2.2.1 hD hS q hq) (fun q hq => wA_sub C.2.2.2.2.2.2.1 hD hS q hq) (fun q _ hq => wA_sub C.2.2.2.2.2.2.1 hD hS q hq) (fun E ce q9 u t H1 locs1 ht _ _ hx hz hk hS1 h1 h2 h3 => hx.1.elim) (fun u t H1 locs1 ht _ hp hb hz hk hS1 => kk u hp H1 locs1 ls (by have hq := hb.1; rw [ht] at hq; exact hq) (hb.2.weaken (fun _ q _ hq => wA_sub C.2.2.2.2.2.2.1 hD hS _ hq)) hS1 hl)
set_option maxRecDepth 100000 in
set_option maxHeartbeats 4000000 in
theorem law_loop {D : Gt} {tb : List ExceptionTableEntry} {p : Program} {l : Launch} {e : Env} {s : State} {m : MethodId} {below : List Frame} {meth : Method} {c : Code} {b Ls : Nat} {xs : Nat → Int32} (hfl : l.stackTraces = false) (C : CX D (fun q : Nat => s.heap.size ≤ q) RL code 7 ret tb p s m #[Value.ref b] meth c) (hNC : NC s) (hX : va_X b Ls xs s s.heap) (hbl : b < s.heap.size) (hL : Ls ≤ 3072) :
    ∀ (z k : Nat) (T : List Nat) (ad : Nat → Nat) (σ : Mm) (nr ng np nb : Nat) (x5 x6 : Option Value), TG nr ng T → INV nr ng np nb σ → 6 * k ≤ Ls → Ls < 6 * (k + z) → V D (fun q : Nat => s.heap.size ≤ q) 7 (T, ad, cO D ad σ) p l e room_1 s m #[Value.ref b] below meth c (1000 + 40 * k) (10000 + 400 * k) (lw_Z below #[Value.ref b] s) 23 [some (.ref b), some (.ref (ad 0)), some (.ref (ad 400)), some (.ref (ad 399)), some (.int (nI (6 * k))), x5, x6] [] := by
  have hbA : ¬ (fun q : Nat => s.heap.size ≤ q) b := Nat.not_le.mpr hbl
  intro z
  induction z with
  | zero => intro k T ad σ nr ng np nb x5 x6 hT hI h1 h2; omega
  | succ z ih =>
    intro k T ad σ nr ng np nb x5 x6 hT hI h1 h2
    refine r_iload4 (pc := 23) C dL_law_23 ?_
    refine r_aload0 (pc := 25) C dL_law_25 ?_
    refine r_slen C hX hbl hbA (pc := 26) dL_law_26 ?_
    refine r_bipush (pc := 27) C (v := nI 6) dL_law_27 (by decide) ?_
    refine r_isub (pc := 29) C dL_law_29 ?_
    refine r_icmp_gt (pc := 30) C (tgt := 1630) dL_law_30 (by decide) (fun c1 => ?_) (fun c1 => ?_)
    · refine r_iconst (pc := 1630) C (v := 1) dL_law_1630 (by decide) ?_
      intro H locs ls hP hD hS hl
      refine va_forget (fun q hq => hS.2.2 q hq) ?_
      refine W.widen (k := 601024) (n := 7293034) (by omega) (by omega) ?_
      exact lw_ret C.1.1 C.1.2.1 C.2.2.2.2.1 C.2.2.2.2.2.1 dL_law_1631
    · have hi6 : 6 * k + 6 ≤ Ls := by
        have h3 := pk_sub_toInt (a := Ls) (b := 6) (by omega) (by omega)
        rw [Int32.lt_iff_toInt_lt, h3, nI_toInt (by omega)] at c1
        omega
      have hcc : 1000 + 40 * k + 40 ≤ room_1.cells ∧ 10000 + 400 * k + 400 ≤ room_1.slots := ⟨by show _ ≤ 601024; omega, by show _ ≤ 7293034; omega⟩
      have next : ∀ (T2 : List Nat) (ad2 : Nat → Nat) (σ2 : Mm) (nr2 ng2 np2 nb2 : Nat) (x5 x6 : Option Value), TG nr2 ng2 T2 → INV nr2 ng2 np2 nb2 σ2 → V D (fun q : Nat => s.heap.size ≤ q) 7 (T2, ad2, cO D ad2 σ2) p l e room_1 s m #[Value.ref b] below meth c (1000 + 40 * k + 40) (10000 + 400 * k + 400) (lw_Z below #[Value.ref b] s) 1624 [some (.ref b), some (.ref (ad2 0)), some (.ref (ad2 400)), some (.ref (ad2 399)), some (.int (nI (6 * k))), x5, x6] [] := by
        intro T2 ad2 σ2 nr2 ng2 np2 nb2 x5 x6 hT2 hI2
        refine r_iinc4 (pc := 1624) C (v := nI (6 * (k + 1))) dL_law_1624 (nI_add (6 * k) 6) ?_
        refine r_goto (pc := 1627) C (tgt := 23) dL_law_1627 (by decide) ?_
        exact r_wid (k := 1000 + 40 * (k + 1)) (z := 10000 + 400 * (k + 1)) (by omega) (by omega) (ih (k + 1) T2 ad2 σ2 nr2 ng2 np2 nb2 x5 x6 hT2 hI2 (by omega) (by omega))
      refine r_aload0 (pc := 33) C dL_law_33 ?_
      refine r_iload4 (pc := 34) C dL_law_34 ?_
      refine r_sld C hX hbl hbA (pc := 36) (k := 6 * k) rfl (by omega) hL dL_law_36 ?_
      refine r_bipush (pc := 37) C (v := 31) dL_law_37 (by decide) ?_
      refine r_iand (pc := 39) C dL_law_39 ?_
      generalize xs (6 * k) &&& 31 = y
      · skip
        by_cases hy0 : y = 0
        · refine r_tin (pc := 40) (tgt := 148) C dL_law_40 hy0 (by decide) (by decide) rfl (by decide) ?_
          exact lc_parcel C hNC hX hbl hbA hfl hT hI (by omega) hL hcc (fun T2 ad2 σ2 nr2 ng2 np2 nb2 x5 x6 h1 h2 => next T2 ad2 σ2 nr2 ng2 np2 nb2 x5 x6 h1 h2)
        · by_cases hy1 : y = 1
          · refine r_tin (pc := 40) (tgt := 204) C dL_law_40 hy1 (by decide) (by decide) rfl (by decide) ?_
            exact lc_stone C hNC hX hbl hbA hfl hT hI (by omega) hL hcc (fun T2 ad2 σ2 nr2 ng2 np2 nb2 x5 x6 h1 h2 => next T2 ad2 σ2 nr2 ng2 np2 nb2 x5 x6 h1 h2)
          · by_cases hy2 : y = 2
            · refine r_tin (pc := 40) (tgt := 308) C dL_law_40 hy2 (by decide) (by decide) rfl (by decide) ?_
              exact lc_drift C hNC hX hbl hbA hfl hT hI (by omega) hL hcc (fun T2 ad2 σ2 nr2 ng2 np2 nb2 x5 x6 h1 h2 => next T2 ad2 σ2 nr2 ng2 np2 nb2 x5 x6 h1 h2)
            · by_cases hy3 : y = 3
              · refine r_tin (pc := 40) (tgt := 376) C dL_law_40 hy3 (by decide) (by decide) rfl (by decide) ?_
                exact lc_sort C hNC hX hbl hbA hfl hT hI (by omega) hL hcc (fun T2 ad2 σ2 nr2 ng2 np2 nb2 x5 x6 h1 h2 => next T2 ad2 σ2 nr2 ng2 np2 nb2 x5 x6 h1 h2)
              · by_cases hy4 : y = 4
                · refine r_tin (pc := 40) (tgt := 444) C dL_law_40 hy4 (by decide) (by decide) rfl (by decide) ?_
                  exact lc_price C hNC hX hbl hbA hfl hT hI (by omega) hL hcc (fun T2 ad2 σ2 nr2 ng2 np2 nb2 x5 x6 h1 h2 => next T2 ad2 σ2 nr2 ng2 np2 nb2 x5 x6 h1 h2)
                · by_cases hy5 : y = 5
                  · refine r_tin (pc := 40) (tgt := 524) C dL_law_40 hy5 (by decide) (by decide) rfl (by decide) ?_
                    exact lc_value C hNC hX hbl hbA hfl hT hI (by omega) hL hcc (fun T2 ad2 σ2 nr2 ng2 np2 nb2 x5 x6 h1 h2 => next T2 ad2 σ2 nr2 ng2 np2 nb2 x5 x6 h1 h2)
                  · by_cases hy6 : y = 6
                    · refine r_tin (pc := 40) (tgt := 580) C dL_law_40 hy6 (by decide) (by decide) rfl (by decide) ?_
                      exact lc_stoneIs C hNC hX hbl hbA hfl hT hI (by omega) hL hcc (fun T2 ad2 σ2 nr2 ng2 np2 nb2 x5 x6 h1 h2 => next T2 ad2 σ2 nr2 ng2 np2 nb2 x5 x6 h1 h2)
                    · by_cases hy7 : y = 7
                      · refine r_tin (pc := 40) (tgt := 648) C dL_law_40 hy7 (by decide) (by decide) rfl (by decide) ?_
                        exact lc_boxes C hNC hX hbl hbA hfl hT hI (by omega) hL hcc (fun T2 ad2 σ2 nr2 ng2 np2 nb2 x5 x6 h1 h2 => next T2 ad2 σ2 nr2 ng2 np2 nb2 x5 x6 h1 h2)
                      · by_cases hy8 : y = 8
                        · refine r_tin (pc := 40) (tgt := 704) C dL_law_40 hy8 (by decide) (by decide) rfl (by decide) ?_
                          exact lc_boxValue C hNC hX hbl hbA hfl hT hI (by omega) hL hcc (fun T2 ad2 σ2 nr2 ng2 np2 nb2 x5 x6 h1 h2 => next T2 ad2 σ2 nr2 ng2 np2 nb2 x5 x6 h1 h2)
                        · by_cases hy9 : y = 9
                          · refine r_tin (pc := 40) (tgt := 760) C dL_law_40 hy9 (by decide) (by decide) rfl (by decide) ?_
                            exact lc_offered C hNC hX hbl hbA hfl hT hI (by omega) hL hcc (fun T2 ad2 σ2 nr2 ng2 np2 nb2 x5 x6 h1 h2 => next T2 ad2 σ2 nr2 ng2 np2 nb2 x5 x6 h1 h2)
                          · by_cases hy10 : y = 10
                            · refine r_tin (pc := 40) (tgt := 816) C dL_law_40 hy10 (by decide) (by decide) rfl (by decide) ?_
                              exact lc_take C hNC hX hbl hbA hfl hT hI (by omega) hL hcc (fun T2 ad2 σ2 nr2 ng2 np2 nb2 x5 x6 h1 h2 => next T2 ad2 σ2 nr2 ng2 np2 nb2 x5 x6 h1 h2)
                            · by_cases hy11 : y = 11
                              · refine r_tin (pc := 40) (tgt := 900) C dL_law_40 hy11 (by decide) (by decide) rfl (by decide) ?_
                                exact lc_tender C hNC hX hbl hbA hfl hT hI (by omega) hL hcc (fun T2 ad2 σ2 nr2 ng2 np2 nb2 x5 x6 h1 h2 => next T2 ad2 σ2 nr2 ng2 np2 nb2 x5 x6 h1 h2)
                              · by_cases hy12 : y = 12
                                · refine r_tin (pc := 40) (tgt := 948) C dL_law_40 hy12 (by decide) (by decide) rfl (by decide) ?_
                                  exact lc_bid C hNC hX hbl hbA hfl hT hI (by omega) hL hcc (fun T2 ad2 σ2 nr2 ng2 np2 nb2 x5 x6 h1 h2 => next T2 ad2 σ2 nr2 ng2 np2 nb2 x5 x6 h1 h2)
                                · by_cases hy13 : y = 13
                                  · refine r_tin (pc := 40) (tgt := 1016) C dL_law_40 hy13 (by decide) (by decide) rfl (by decide) ?_
                                    exact lc_close C hNC hX hbl hbA hfl hT hI (by omega) hL hcc (fun T2 ad2 σ2 nr2 ng2 np2 nb2 x5 x6 h1 h2 => next T2 ad2 σ2 nr2 ng2 np2 nb2 x5 x6 h1 h2)
                                  · by_cases hy14 : y = 14
                                    · refine r_tin (pc := 40) (tgt := 1060) C dL_law_40 hy14 (by decide) (by decide) rfl (by decide) ?_
                                      exact lc_plan C hNC hX hbl hbA hfl hT hI (by omega) hL hcc (fun T2 ad2 σ2 nr2 ng2 np2 nb2 x5 x6 h1 h2 => next T2 ad2 σ2 nr2 ng2 np2 nb2 x5 x6 h1 h2)
                                    · by_cases hy15 : y = 15
                                      · refine r_tin (pc := 40) (tgt := 1116) C dL_law_40 hy15 (by decide) (by decide) rfl (by decide) ?_
                                        exact lc_planAnew C hNC hX hbl hbA hfl hT hI (by omega) hL hcc (fun T2 ad2 σ2 nr2 ng2 np2 nb2 x5 x6 h1 h2 => next T2 ad2 σ2 nr2 ng2 np2 nb2 x5 x6 h1 h2)
                                      · by_cases hy16 : y = 16
                                        · refine r_tin (pc := 40) (tgt := 1172) C dL_law_40 hy16 (by decide) (by decide) rfl (by decide) ?_
                                          exact lc_cut C hNC hX hbl hbA hfl hT hI (by omega) hL hcc (fun T2 ad2 σ2 nr2 ng2 np2 nb2 x5 x6 h1 h2 => next T2 ad2 σ2 nr2 ng2 np2 nb2 x5 x6 h1 h2)
                                        · by_cases hy17 : y = 17
                                          · refine r_tin (pc := 40) (tgt := 1228) C dL_law_40 hy17 (by decide) (by decide) rfl (by decide) ?_
                                            exact lc_recut C hNC hX hbl hbA hfl hT hI (by omega) hL hcc (fun T2 ad2 σ2 nr2 ng2 np2 nb2 x5 x6 h1 h2 => next T2 ad2 σ2 nr2 ng2 np2 nb2 x5 x6 h1 h2)
                                          · by_cases hy18 : y = 18
                                            · refine r_tin (pc := 40) (tgt := 1296) C dL_law_40 hy18 (by decide) (by decide) rfl (by decide) ?_
                                              exact lc_polished C hNC hX hbl hbA hfl hT hI (by omega) hL hcc (fun T2 ad2 σ2 nr2 ng2 np2 nb2 x5 x6 h1 h2 => next T2 ad2 σ2 nr2 ng2 np2 nb2 x5 x6 h1 h2)
                                            · by_cases hy19 : y = 19
                                              · refine r_tin (pc := 40) (tgt := 1364) C dL_law_40 hy19 (by decide) (by decide) rfl (by decide) ?_
                                                exact lc_scale C hNC hX hbl hbA hfl hT hI (by omega) hL hcc (fun T2 ad2 σ2 nr2 ng2 np2 nb2 x5 x6 h1 h2 => next T2 ad2 σ2 nr2 ng2 np2 nb2 x5 x6 h1 h2)
                                              · by_cases hy20 : y = 20
                                                · refine r_tin (pc := 40) (tgt := 1432) C dL_law_40 hy20 (by decide) (by decide) rfl (by decide) ?_
                                                  exact lc_look C hNC hX hbl hbA hfl hT hI (by omega) hL hcc (fun T2 ad2 σ2 nr2 ng2 np2 nb2 x5 x6 h1 h2 => next T2 ad2 σ2 nr2 ng2 np2 nb2 x5 x6 h1 h2)
                                                · by_cases hy21 : y = 21
                                                  · refine r_tin (pc := 40) (tgt := 1500) C dL_law_40 hy21 (by decide) (by decide) rfl (by decide) ?_
                                                    exact lc_paper C hNC hX hbl hbA hfl hT hI (by omega) hL hcc (fun T2 ad2 σ2 nr2 ng2 np2 nb2 x5 x6 h1 h2 => next T2 ad2 σ2 nr2 ng2 np2 nb2 x5 x6 h1 h2)
                                                  · by_cases hy22 : y = 22
                                                    · refine r_tin (pc := 40) (tgt := 1568) C dL_law_40 hy22 (by decide) (by decide) rfl (by decide) ?_
                                                      exact lc_all C hNC hX hbl hbA hfl hT hI (by omega) hL hcc (fun T2 ad2 σ2 nr2 ng2 np2 nb2 x5 x6 h1 h2 => next T2 ad2 σ2 nr2 ng2 np2 nb2 x5 x6 h1 h2)
                                                    · refine r_tout (pc := 40) (tgt := 1624) C dL_law_40 (tsw (N := 23) (by decide) (fun k hk => by
                                                        rcases (show k = 0 ∨ k = 1 ∨ k = 2 ∨ k = 3 ∨ k = 4 ∨ k = 5 ∨ k = 6 ∨ k = 7 ∨ k = 8 ∨ k = 9 ∨ k = 10 ∨ k = 11 ∨ k = 12 ∨ k = 13 ∨ k = 14 ∨ k = 15 ∨ k = 16 ∨ k = 17 ∨ k = 18 ∨ k = 19 ∨ k = 20 ∨ k = 21 ∨ k = 22 by omega) with rfl | rfl | rfl | rfl | rfl | rfl | rfl | rfl | rfl | rfl | rfl | rfl | rfl | rfl | rfl | rfl | rfl | rfl | rfl | rfl | rfl | rfl | rfl
                                                        · exact hy0
                                                        · exact hy1
                                                        · exact hy2
                                                        · exact hy3
                                                        · exact hy4
                                                        · exact hy5
                                                        · exact hy6
                                                        · exact hy7
                                                        · exact hy8
                                                        · exact hy9
                                                        · exact hy10
                                                        · exact hy11
                                                        · exact hy12
                                                        · exact hy13
                                                        · exact hy14
                                                        · exact hy15
                                                        · exact hy16
                                                        · exact hy17
                                                        · exact hy18
                                                        · exact hy19
                                                        · exact hy20
                                                        · exact hy21
                                                        · exact hy22)) (by decide) ?_
                                                      exact r_wid (k := 1000 + 40 * k + 40) (z := 10000 + 400 * k + 400) (by omega) (by omega) (next T ad σ nr ng np nb _ _ hT hI)
set_option maxRecDepth 100000 in
set_option maxHeartbeats 4000000 in
theorem law_begin {D : Gt} {tb : List ExceptionTableEntry} {p : Program} {l : Launch} {e : Env} {s : State} {m : MethodId} {below : List Frame} {meth : Method} {c : Code} {b Ls : Nat} {xs : Nat → Int32} (hfl : l.stackTraces = false) (C : CX D (fun q : Nat => s.heap.size ≤ q) RL code 7 ret tb p s m #[Value.ref b] meth c) (hNC : NC s) (ha3 : va_AO RX3 s) (ha0 : va_AO RX0 s) (hX : va_X b Ls xs s s.heap) (hbl : b < s.heap.size) (hL : Ls ≤ 3072) (f0 : Nat → va_E) : V D (fun q : Nat => s.heap.size ≤ q) 7 ([], (fun _ => 0), f0) p l e room_1 s m #[Value.ref b] below meth c 0 0 (lw_Z below #[Value.ref b] s) 0 [some (.ref b), none, none, none, none, none, none] [] := by
  refine r_new (pc := 0) C inU5 (ci := 5) (t := 0) (fs := [.null, .int 0, .null, .int 0, .null, .null, .null, .null, .null, .int 0, .null, .null, .int 0, .int 0, .null, .null, .null]) rfl tyX5 tyX5_ok kl_RL_8 ia_L5 iz_L5 (fun j hj => by
    rcases j with _ | _ | _ | _ | _ | _ | _ | _ | _ | _ | _ | _ | _ | _ | _ | _ | _ | j <;> first | rfl | omega) (by decide) (by decide) dL_law_0 (fun q0 => ?_)
  refine r_dup (pc := 3) C dL_law_3 rfl ?_
  refine r_callIA (pc := 4) C ha3 ha0 (c_X5_init l D (au (fun _ => 0) 0 q0) f0 (a := q0) rfl) ml_RL_91 im_X5_init ini_X5_init cd_X5_init hd_RL_91 rfl rfl rfl (Nat.le_of_ble_eq_true rfl) ⟨rfl, rfl⟩ (by decide) (by decide) dL_law_4 ?_
  rintro _ ⟨ad1, rfl, h10⟩
  refine r_astore1 (pc := 7) C dL_law_7 ?_
  refine r_new (pc := 8) C inU6 (ci := 6) (t := 400) (fs := [.int 0, .int 0, .null, .int 0, .null, .null, .null, .null, .null, .null, .null, .null, .null, .null, .null, .null, .null, .null, .int 0, .null, .null, .null, .null, .int 0, .int 0, .null, .int 0, .null, .null, .null, .null, .null, .null, .null, .null, .null, .null, .null, .int 0]) rfl tyX6 tyX6_ok kl_RL_92 ia_L6 iz_L6 (fun j hj => by
    rcases j with _ | _ | _ | _ | _ | _ | _ | _ | _ | _ | _ | _ | _ | _ | _ | _ | _ | _ | _ | _ | _ | _ | _ | _ | _ | _ | _ | _ | _ | _ | _ | _ | _ | _ | _ | _ | _ | _ | _ | j <;> first | rfl | omega) (not_in (by decide)) (by decide) dL_law_8 (fun q4 => ?_)
  refine r_cg (ad2 := au ad1 400 q4) (g := va_up (cO D (au ad1 400 q4) s0) 400 (.inr (6, [.int 0, .int 0, .null, .int 0, .null, .null, .null, .null, .null, .null, .null, .null, .null, .null, .null, .null, .null, .null, .int 0, .null, .null, .null, .null, .int 0, .int 0, .null, .int 0, .null, .null, .null, .null, .null, .null, .null, .null, .null, .null, .null, .int 0]))) (fun _ _ => rfl) (fun k hk => ?_) ?_
  · rcases (show k = 0 ∨ k = 1 ∨ k = 2 ∨ k = 3 ∨ k = 4 ∨ k = 5 ∨ k = 6 ∨ k = 7 ∨ k = 8 ∨ k = 9 ∨ k = 10 ∨ k = 11 ∨ k = 12 ∨ k = 13 ∨ k = 14 ∨ k = 400 by simpa using hk) with rfl | rfl | rfl | rfl | rfl | rfl | rfl | rfl | rfl | rfl | rfl | rfl | rfl | rfl | rfl | rfl <;> rfl
  refine r_dup (pc := 11) C dL_law_11 rfl ?_
  refine V_st (st2 := [.ref ((au ad1 400 q4) 400), .ref q4]) rfl ?_
  refine r_callI (pc := 12) C (t := 400) (ex := nX) (As := []) (c_X6_init l D (au ad1 400 q4) (a := au ad1 400 q4 400) rfl) ml_RL_94 im_X6_init ini_X6_init cd_X6_init hd_RL_94 rfl rfl rfl (Nat.le_of_ble_eq_true rfl) ⟨rfl, rfl⟩ (by decide) (by decide) dL_law_12 (fun _ _ _ _ _ _ (hx : False) => hx.elim) ?_
  rintro _ ⟨ad2, h2, rfl⟩
  refine r_astore2 (pc := 15) C dL_law_15 ?_
  refine r_iconst (pc := 16) C (v := nI 1) dL_law_16 (by decide) ?_
  refine r_newa_long (pc := 17) C (t := 399) (N := 1) rfl (by decide) (not_in (by decide)) (by decide) dL_law_17 (fun q3 => ?_)
  refine r_cg (ad2 := (au ad2 399 q3)) (g := cO D (au ad2 399 q3) s0) (fun _ _ => rfl) (fun k hk => ?_) ?_
  · rcases (show (k = 0 ∨ k = 1 ∨ k = 2 ∨ k = 3 ∨ k = 4 ∨ k = 5 ∨ k = 6 ∨ k = 7 ∨ k = 8 ∨ k = 9 ∨ k = 10 ∨ k = 11 ∨ k = 12 ∨ k = 13 ∨ k = 14 ∨ k = 400 ∨ k = 402 ∨ k = 404 ∨ k = 405 ∨ k = 406 ∨ k = 407 ∨ k = 408 ∨ k = 409 ∨ k = 410 ∨ k = 411 ∨ k = 412 ∨ k = 413 ∨ k = 414 ∨ k = 415 ∨ k = 416 ∨ k = 417 ∨ k = 419 ∨ k = 420 ∨ k = 421 ∨ k = 422 ∨ k = 425 ∨ k = 427 ∨ k = 428 ∨ k = 429 ∨ k = 430 ∨ k = 431 ∨ k = 432 ∨ k = 433 ∨ k = 434 ∨ k = 435 ∨ k = 436 ∨ k = 437) ∨ k = 399 by simpa [or_assoc] using hk) with (rfl | rfl | rfl | rfl | rfl | rfl | rfl | rfl | rfl | rfl | rfl | rfl | rfl | rfl | rfl | rfl | rfl | rfl | rfl | rfl | rfl | rfl | rfl | rfl | rfl | rfl | rfl | rfl | rfl | rfl | rfl | rfl | rfl | rfl | rfl | rfl | rfl | rfl | rfl | rfl | rfl | rfl | rfl | rfl | rfl | rfl | rfl) | rfl <;> rfl
  refine r_astore3 (pc := 19) C dL_law_19 ?_
  refine r_iconst (pc := 20) C (v := nI (6 * 0)) dL_law_20 (by decide) ?_
  refine r_istore4 (pc := 21) C dL_law_21 ?_
  refine r_wid (k := 1000 + 40 * 0) (z := 10000 + 400 * 0) (by decide) (by decide) ?_
  have e0 : ad2 0 = q0 := (h2 0 (by decide)).trans h10
  have e4 : ad2 400 = q4 := h2 400 (by decide)
  refine V_c (L2 := [some (.ref b), some (.ref ((au ad2 399 q3) 0)), some (.ref ((au ad2 399 q3) 400)), some (.ref ((au ad2 399 q3) 399)), some (.int (nI (6 * 0))), none, none]) rfl (by rw [show (au ad2 399 q3) 0 = ad2 0 from rfl, show (au ad2 399 q3) 400 = ad2 400 from rfl, e0, e4]; rfl) ?_
  exact law_loop hfl C hNC hX hbl hL 513 0 _ _ _ 0 0 0 0 _ _ TG_0 INV_0 (Nat.zero_le _) (by omega)
theorem whole_start {p : Program} {e : Env} {s : State} {m : MethodId} {below : List Frame} {meth : Method} {c : Code} (l : Launch) (hflags : l.flags = flags0) {b L : Nat} {xs : Nat → Int32} (hL : L ≤ 3072) (C0 : lw_At p s m meth c b L xs) : W p l e room_1 s m #[Value.ref b] below meth c s.heap [] 0 0 (lw_Z below #[Value.ref b] s) (entryFrame m ([Value.ref b] : List Value).toArray 7) := by
  obtain ⟨hx, hb, hr, hml, hown, hts, hX, hbl, hlocks, hgv⟩ := C0
  have hfl : l.stackTraces = false := by unfold Launch.stackTraces; rw [hflags]; decide
  have hUW : ∀ w ∈ UW, w.before #[Value.ref b] s = true := fun w hw => hts w (List.mem_filter.mp hw).1
  have hnw : ∀ w ∈ lw_tbl, w.before #[Value.ref b] s = true := hts
  obtain ⟨k0, j0, hk0⟩ := u_known (C := RX0) (T := TX0) (N := 9) (n := 9) hUW inU0 (hUW _ ia_L0)
  obtain ⟨k1, j1, hk1⟩ := u_known (C := RX1) (T := TX1) (N := 5) (n := 5) hUW inU1 (hUW _ ia_L1)
  obtain ⟨k2, j2, hk2⟩ := u_known (C := RX2) (T := TX2) (N := 1) (n := 1) hUW inU2 (hUW _ ia_L2)
  obtain ⟨k3, j3, hk3⟩ := u_known (C := RX3) (T := TX3) (N := 12) (n := 12) hUW inU3 (hUW _ ia_L3)
  obtain ⟨k4, j4, hk4⟩ := u_known (C := RX4) (T := TX4) (N := 3) (n := 3) hUW inU4 (hUW _ ia_L4)
  obtain ⟨k5, j5, hk5⟩ := u_known (C := RX5) (T := TX5) (N := 17) (n := 17) hUW inU5 (hUW _ ia_L5)
  obtain ⟨k6, j6, hk6⟩ := u_known (C := RX6) (T := TX6) (N := 39) (n := 39) hUW inU6 (hUW _ ia_L6)
  obtain ⟨dC, dI, hKc⟩ : ∃ (dC : Nat → ClassId) (dI : Nat → Nat → Nat), ∀ (k : Nat) (q : vw_C), vwCl[k]? = some q → u_Kn s q.1 q.2.1 q.2.2 (dC k) (dI k) := by
    refine ⟨fun k => if k = 0 then k0 else if k = 1 then k1 else if k = 2 then k2 else if k = 3 then k3 else if k = 4 then k4 else if k = 5 then k5 else k6, fun k => if k = 0 then j0 else if k = 1 then j1 else if k = 2 then j2 else if k = 3 then j3 else if k = 4 then j4 else if k = 5 then j5 else j6, ?_⟩
    intro k q hq
    match k, hq with
    | 0, hq => cases hq; exact hk0
    | 1, hq => cases hq; exact hk1
    | 2, hq => cases hq; exact hk2
    | 3, hq => cases hq; exact hk3
    | 4, hq => cases hq; exact hk4
    | 5, hq => cases hq; exact hk5
    | 6, hq => cases hq; exact hk6
    | k + 7, hq => simp [vwCl] at hq
  obtain ⟨a0, ka0, cp0, f0, g0, h0⟩ := Cond.arrayClass_spec (hUW _ ac_int)
  obtain ⟨a1, ka1, cp1, f1, g1, h1⟩ := Cond.arrayClass_spec (hUW _ ac_boolean)
  obtain ⟨a2, ka2, cp2, f2, g2, h2⟩ := Cond.arrayClass_spec (hUW _ ac_long)
  have hao3 : va_AO RX3 s := va_AO.of (hnw _ (List.mem_of_getElem? (i := 64) (by decide +kernel)))
  obtain ⟨cp3, a3, ka3, e3, -, g3, h3, f3⟩ := Cond.arrayOver_spec (va_AO.use (A := #[]) hao3)
  have hao0 : va_AO RX0 s := va_AO.of (hnw _ (List.mem_of_getElem? (i := 95) (by decide +kernel)))
  obtain ⟨cp4, a4, ka4, e4, -, g4, h4, f4⟩ := Cond.arrayOver_spec (va_AO.use (A := #[]) hao0)
  have hD : ∃ D : Gt, va_K D.1 vwCl (tyG D) s := by
    refine ⟨((dC, dI), fun k => if k = 0 then a0 else if k = 1 then a1 else if k = 2 then a2 else if k = 3 then a3 else a4), hKc, fun k q hq => ?_⟩
    match k, hq with
    | 0, hq => cases hq; exact ⟨fun N z => ⟨(fun k h => by cases h), ka0, g0, cp0, h0⟩, f0⟩
    | 1, hq => cases hq; exact ⟨fun N z => ⟨(fun k h => by cases h), ka1, g1, cp1, h1⟩, f1⟩
    | 2, hq => cases hq; exact ⟨fun N z => ⟨(fun k h => by cases h), ka2, g2, cp2, h2⟩, f2⟩
    | 3, hq => cases hq; exact ⟨fun N z => ⟨(fun k h => by cases h), ka3, g3, cp3, h3⟩, ka3, cp3, g3, h3, e3, f3⟩
    | 4, hq => cases hq; exact ⟨fun N z => ⟨(fun k h => by cases h), ka4, g4, cp4, h4⟩, ka4, cp4, g4, h4, e4, f4⟩
    | k + 5, hq => simp [tyG] at hq
  obtain ⟨D, hK⟩ := hD
  have hfl5 := hk5.2
  have hEN : EN s := by
    refine ⟨⟨fun X hX => ?_, fun y hy => ?_⟩, fun q hq => ?_, fun q hq => ?_, fun q hq => ?_⟩
    · exact va_Nw.of rfl (hnw _ (enX X hX))
    · exact va_Nw.of rfl (hnw _ (enD y hy))
    · exact va_Nw.of rfl (hnw _ (enF q hq))
    · exact va_Nw.of rfl (hnw _ (enM q hq))
    · have h1 := hnw _ (enS q hq)
      obtain ⟨cid, hcid⟩ : ∃ cid, s.vm.findClass RX5 = some cid := ⟨_, hk5.2.1⟩
      obtain ⟨-, -, -, sa, -, -, -, -, -, hev⟩ := Cond.stringRef_spec hcid h1
      exact ⟨sa, vk_R.of h1 hev⟩
  have hflat := flat_of_before _ hgv
  have hA0 : ∀ a : Nat, a < s.heap.size → ¬ (fun q : Nat => s.heap.size ≤ q) a := fun a h => Nat.not_le.mpr h
  have hSZ : SZ (fun q : Nat => s.heap.size ≤ q) s s.heap := ⟨vx_Zqof (hnw _ (List.mem_of_getElem? (i := 193) (by decide +kernel))) (hnw _ (List.mem_of_getElem? (i := 45) (by decide +kernel))) (hflat _ (by decide +kernel)) hA0, vx_Zqof (hnw _ (List.mem_of_getElem? (i := 195) (by decide +kernel))) (hnw _ (List.mem_of_getElem? (i := 45) (by decide +kernel))) (hflat _ (by decide +kernel)) hA0⟩
  have hNC : NC s := fun q hq => va_Nc.of (hflat _ (enN q hq))
  have C : CX D (fun q : Nat => s.heap.size ≤ q) RL code 7 ret c.exceptionTable.toList p s m #[Value.ref b] meth c := ⟨⟨hx, hb, hml, hown, hUW⟩, hK, hEN, hSZ, hr, hlocks, fun _ h => h, rfl⟩
  have hV := law_begin (e := e) (below := below) hfl C hNC hao3 hao0 hX hbl hL (fun _ => .inr (0, []))
  rw [lg_entry_eq]
  exact hV s.heap [] _ (fun k q h => by simp [wS] at h) ⟨fun i j p q h => by simp [wS] at h, fun k q h => by simp [wS] at h⟩ va_S.rf (lL_entry (As := [.ref b]) (n := 7) (catc rfl cat0) (Nat.le_of_ble_eq_true rfl))

set_option maxHeartbeats 4000000 in
theorem lw_walk (l : Launch) (hflags : l.flags = flags0) (b : Addr) (xs : List Int32) : MetFree l x (headSpec (Jvm.Cond.code x code maxLocals ret :: tables_1) room_1) (lw_P b xs) (fun _ _ _ _ _ => True) lw_Q := by
  refine MetFree.of_bodyS (code := code) (maxLocals := maxLocals) (ret := ret) (by decide) ?_ ?_
  · intro args s m h hn
    obtain ⟨meth, c, h1, h2, h3, h4, h5, h6, -, -⟩ := Cond.code_spec hn (atoms_spec (ws := Jvm.Cond.code x code maxLocals ret :: tables_1) h _ List.mem_cons_self)
    exact ⟨meth, c, h1, h2, h3, h4, h5, h6⟩
  · intro p e s m args below meth c s₁ B hml0 hP _
    obtain ⟨rfl, hx, hbd, hgv⟩ := hP
    obtain ⟨scr, harrAt, hlist, hof, hsmall⟩ := hx
    obtain ⟨hcb, hkn, -, -⟩ := State.arrayAt?_spec harrAt
    have hown : s.vm.findClass R_law = some m.cls := findClass_of_methodNamed B.named
    have hts0 : ∀ c ∈ (Jvm.Cond.code x code maxLocals ret :: tables_1), c.before #[Value.ref b] s = true := atoms_spec (ws := Jvm.Cond.code x code maxLocals ret :: tables_1) B.pre
    have hts : ∀ w ∈ lw_tbl, w.before #[Value.ref b] s = true := k2_hts_sels lw_privs (fun w hw => hts0 w (List.mem_cons_of_mem _ hw)) lw_privs_ok
    have hml : c.maxLocals = 7 := B.maxLocals_eq (hts0 _ List.mem_cons_self)
    have X₀ : Stand p l e room_1 s m #[Value.ref b] below meth c s₁ [] 0 0 := Stand.of_body B
    have hh0 : s₁.heap = s.heap := by rw [B.state]; rfl
    have hsz : scr.slots.size = xs.length := by rw [← Array.length_toList, hlist, List.length_map]
    have hval : ∀ j : Nat, j < xs.length → scr.slots[j]? = some (.int (xs.getD j 0)) := fun j hj => by
      rw [← Array.getElem?_toList, hlist]
      simp [hj]
    have hbl : b < s.heap.size := (Array.getElem?_eq_some_iff.mp hcb).1
    have hX : va_X b xs.length (fun j => xs.getD j 0) s s.heap := ⟨scr, hcb, hof, hkn, hsz, hval⟩
    have K : W p l e room_1 s m #[Value.ref b] below meth c s₁.heap [] 0 0 (lw_Z below #[Value.ref b] s) (entryFrame m ([Value.ref b] : List Value).toArray 7) := by
      rw [hh0]
      exact whole_start l hflags hbd ⟨B.exec, B.bytes, B.returns, hml, hown, hts, hX, hbl, B.notSynchronized, hgv⟩
    obtain ⟨t, a1, o, b1, b2, b3⟩ := K s₁ rfl X₀
    exact ⟨t, o, a1, b1, b2, b3⟩
theorem lw_pre_spec {args : Array Value} {s : State} (h : (Jvm.Cond.and given_1 narrow_1).before args s = true) (hr : rest_1_c.before args s = true) : ∃ (b : Addr) (xs : List Int32), lw_P b xs args s := by
  have hs := flat_of_before _ h
  have hq := flat_of_before _ hr
  have hc : (Cond.count 1).before args s = true := hs _ (by decide +kernel)
  have harr : (Cond.arrayOf (.arg 0) .int).before args s = true := hs _ (by decide +kernel)
  have hle : (Cond.le (.length (.arg 0)) (.int 3072)).before args s = true := hs _ (by decide +kernel)
  have hlen : (Cond.isInt (.length (.arg 0))).before args s = true := hq _ (by decide +kernel)
  have hall : (Cond.all (.arg 0) (.isInt (.elem (.arg 0) (.index 0)))).before args s = true := hq _ (by decide +kernel)
  obtain ⟨b, xs, hb, hx⟩ := State.ints_of_pre rfl harr hlen hall
  have hsm : xs.length < 2 ^ 31 := hx.choose_spec.2.2.2
  have hev : (Term.length (.arg 0)).eval args s none [] s = some (.int xs.length.toInt32) := hx.length_eval hb
  have hv := Cond.le_ints hev (show (Term.int 3072).eval args s none [] s = some (.int 3072) from rfl)
  have hd : xs.length.toInt32 ≤ 3072 := by
    simpa [Cond.before, Cond.holds, hv] using hle
  have hN : xs.length ≤ 3072 := (Int32.ofNat_le_ofNat hsm (by decide)).mp (show Int32.ofNat xs.length ≤ Int32.ofNat 3072 from hd)
  exact ⟨b, xs, Cond.one_arg hc (show args[0]? = some (.ref b) from hb), hx, hN, h⟩
theorem lw_comes (l : Launch) (hflags : l.flags = flags0) : Comes l x (Jvm.Cond.code x code maxLocals ret :: tables_1) room_1 (fun tb e args s => Calls_1 tb e args s ∧ rest_1 tb e args s ∧ Pre_1 tb e args s)
    (fun _ _ args s o t => lw_Q args s o t) := by
  intro p e ha hc hk s m args below hf hfit hheap happ hpre
  obtain ⟨b, xs, hP⟩ := lw_pre_spec hpre.2.2 hpre.2.1
  obtain ⟨k, o, h1, h2, h3, hQ⟩ := lw_walk l hflags b xs p e ha hc hk s m args below hf ((Spec.applies_iff_loose hf).mp happ).1 hP trivial
  exact ⟨k, o, h1, h2, h3, hQ⟩
theorem lw_frame {s t : State} {o : Outcome} {args : Array Value} (h : Framed s o t [] 601024 7293034) :
    Framed s o t (fieldLocs frame_1_writes args s ++ arrayLocs frame_1_arrays args s ++ staticLocs frame_1_statics s) 601024 7293034 := h
theorem lw_limb (L : Cond) (hL : ∀ (args : Array Value) (s t : State), L.after args s (.returned (some (.int 1))) t = true) :
    ArmFor flags0 classFile x code maxLocals ret World_1 tables_1 room_1 Calls_1 rest_1 Pre_1
      (fun tb e a s o t => postC L tb e a s o t ∧ Framed s o t (fieldLocs frame_1_writes a s ++ arrayLocs frame_1_arrays a s ++ staticLocs frame_1_statics s) 601024 7293034) := by
  intro l hflags _ _ p e ha hc hk s m args below hf hfit hheap happ hpre
  obtain ⟨k, o, h1, h2, h3, rfl, hF⟩ := lw_comes l hflags p e ha hc hk s m args below hf hfit hheap happ hpre
  exact ⟨k, _, h1, h2, h3, hL args s _, lw_frame hF⟩
theorem i_vc : Claimed_1_1 ∧ Claimed_1_2 := ⟨lw_limb limb_1_1 (fun args s t => by simp [limb_1_1, Cond.after, Cond.holds, Cond.value]), lw_limb limb_1_2 (fun args s t => Cond.after_iff.mpr (by
  first | (rw [show limb_1_2 = Cond.eq .result (.int 1) from rfl, Cond.eq_ints (x := 1) (y := 1) rfl rfl]; simp; done) | (simp [limb_1_2, Cond.value, Term.eval]; done)))⟩

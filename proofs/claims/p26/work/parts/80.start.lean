/-! THE CLAIM OUT OF ONE WALK OF THE LAW'S BODY. Your part is whole_start (and what it stands on); all else here is the same for every law, but numbers. -/
def R_law : String := "DiamondBookLaw"
def lw_P (b : Addr) (xs : List Int32) (args : Array Value) (s : State) : Prop := args = #[.ref b] ∧ s.IntsAt b xs ∧ xs.length ≤ 260 ∧ (Jvm.Cond.and given_1 narrow_1).before args s = true
def lw_Q (_ : Array Value) (s : State) (o : Outcome) (t : State) : Prop := o = .returned (some (.int 1)) ∧ Framed s o t [] 621632 7236801
def lw_Z (below : List Frame) (a : Array Value) (s : State) : State → Prop := fun t => ∃ o, t.status = .running ∧ Ended t below o ∧ lw_Q a s o t
/-- the law's own end, with 1 on the stack, nothing written that was there before, its room as the claim has it -/
theorem lw_ret {p : Program} {l : Launch} {e : Env} {s : State} {m : MethodId} {below : List Frame} {meth : Method} {c : Code} {b : Nat} (hx : p.tables.exec = Jvm.exec) (hb : c.code = code) (hr : meth.sig.returnType = ret) (hlocks : meth.locks = false) {pc : Nat} {H : Heap} {ls : Array Slot} (hdg : decode code pc = .ok (.ireturn, 1)) : W p l e room_1 s m #[Value.ref b] below meth c H [] 621632 7236801 (lw_Z below #[Value.ref b] s) (F0 m pc ls [.int 1]) := by
  intro T hT X
  obtain ⟨fs, hret, hrun, hended, hW, hframe⟩ := X.leave (v := some (.int 1)) (hlocks := hlocks) (fun h => by rw [hr] at h; cases h)
  have hmeth' : T.vm.method? m = some meth := X.method'
  refine ⟨T.setFrames fs, ?_, .returned (some (.int 1)), hrun, hended, rfl, ⟨_, rfl⟩, hW, hframe⟩
  jvm_step X.here [X.here.top, hx, hb, hdg, hmeth', hr, ret, narrow_b1]
  (try refine ⟨rfl, ?_⟩); (try refine ⟨rfl, ?_⟩)
  first | (intro acts; rw [hret _ acts rfl rfl rfl]) | rw [hret _ _ rfl rfl rfl]
  exact Steps.refl _
/-- what holds at the law's entry: the machine, the code, the tables' words (any of lw_tbl by 'hts w (by decide +kernel)'), the script of L ints xs at the cell b, what the Statement gives of the start (any of its parts by flat_of_before) -/
def lw_At (p : Program) (s : State) (m : MethodId) (meth : Method) (c : Code) (b L : Nat) (xs : Nat → Int32) : Prop :=
  p.tables.exec = Jvm.exec ∧ c.code = code ∧ meth.sig.returnType = ret ∧ c.maxLocals = 15 ∧ s.vm.findClass R_law = some m.cls ∧ (∀ w ∈ lw_tbl, w.before #[Value.ref b] s = true) ∧ va_X b L xs s s.heap ∧ b < s.heap.size ∧ meth.locks = false ∧ (Jvm.Cond.and given_1 narrow_1).before #[Value.ref b] s = true
theorem enX : ∀ X ∈ XN, Cond.castable X X ∈ lw_tbl := by decide +kernel
theorem enD : ∀ y ∈ DN, Cond.declares y ∈ lw_tbl := by decide +kernel
theorem enF : ∀ q ∈ NF, Cond.fieldLinkNest q.1 q.2.1 q.2.2.1 q.2.2.2.1 q.2.2.2.2.1 q.2.2.2.2.2 ∈ lw_tbl := by decide +kernel
theorem enM : ∀ q ∈ NM, Cond.methodLinkNest q.1 q.2.1 q.2.2.1 q.2.2.2 ∈ lw_tbl := by decide +kernel
theorem enS : ∀ q ∈ SW, Cond.stringRef RX5 q.1 q.2 ∈ lw_tbl := by decide +kernel
theorem enN : ∀ q ∈ NCL, Cond.not (Cond.castable q.1 q.2) ∈ flatC (Cond.and given_1 narrow_1) := by decide +kernel
theorem kl_RL_9 : Cond.classLink RL 9 RX5 ∈ UW := UW_m (i := 35) (by decide +kernel) (by decide +kernel)
theorem TG_0 : TG 0 0 ([0, 1, 2, 3, 4, 5, 6, 7, 8, 9, 10, 11, 12, 13, 14]) := by
  refine ⟨by decide, by decide, fun k => ?_⟩
  simp [ftags]
  omega
theorem preA_of {D : Gt} {A : Nat → Prop} {own : String} {cc : ByteArray} {n : Nat} {ret : Option FieldType} {tb : List ExceptionTableEntry} {p : Program} {s : State} {m : MethodId} {args : Array Value} {meth : Method} {c : Code} {S : St} (C : CX D A own cc n ret tb p s m args meth c) (h3 : va_AO RX3 s) (h0 : va_AO RX0 s) {H : Heap} {locs : List Loc} {As : List Value} (hP : va_P D.1 vwCl (wS S) H) (hD : va_D A (wS S)) (hS : va_S A s.heap H locs) : PreS s H (va_Pc As (PreA D S H.size)) As := by
  obtain ⟨hb, hq⟩ := pre_of (As := As) C hP hD hS
  refine ⟨fun a U g mk q => ?_, fun U hU hW => ⟨rfl, (hq U hU hW).2, va_AO.moved hW.alike h3, va_AO.moved hW.alike h0⟩⟩
  obtain ⟨q0, q1, q2, q3⟩ := q
  exact ⟨q0, (PreB.blind (As := As) a U g mk ⟨q0, q1⟩).2, va_AO.moved (u := U) (U := U.calling g mk a) (Vm.Alike.refl U.vm) q2, va_AO.moved (u := U) (U := U.calling g mk a) (Vm.Alike.refl U.vm) q3⟩
theorem r_callIA {D : Gt} {A : Nat → Prop} {own : String} {cc : ByteArray} {n : Nat} {ret : Option FieldType} {tb : List ExceptionTableEntry} {p : Program} {l : Launch} {e : Env} {R : Room} {s : State} {m : MethodId} {args : Array Value} {below : List Frame} {meth : Method} {c : Code} {cells slots : Nat} {Q : State → Prop} {S : St} {pc : Nat} {L : List (Option Value)} {st : List Value} (C : CX D A own cc n ret tb p s m args meth c) (h3 : va_AO RX3 s) (h0 : va_AO RX0 s) {y : MethodName} {cc' : ByteArray} {n' na index : Nat} {rm : Room} {mc ms : Nat} {post : St → Prop} {As st0 : List Value} {a : Nat} (hM : ∀ sz : Nat, vx_Met l y (uws y cc' n' none) rm (va_Pc (.ref a :: As) (PreA D S sz)) (va_Qv post (PoB D (wA S sz)) (wA S sz)) (XCs D S (wA S sz) nX) mc ms (wA S sz)) (hl2 : Cond.methodLink own index y ∈ UW) (hi : Cond.instanceMethod y ∈ UW) (hini : Cond.initialized y.cls ∈ UW) (hcd : Cond.code y cc' n' none ∈ UW) (hd : y.cls ≠ "java/lang/invoke/MethodHandle" ∧ y.cls ≠ "java/lang/invoke/VarHandle" ∧ (parseMethodDescriptor y.desc).map (fun d => d.parameters.length) = some na) (hyn : y.name = "<init>") (hst : st0 = As.reverse ++ .ref a :: st) (hna : As.length = na) (hcat : (st.map fun v => v.category).sum ≤ 8) (hrm : rm.cells = mc ∧ rm.slots = ms) (hR : rm.frames + 1 ≤ R.frames ∧ 8 + (n' + 11) + rm.locals ≤ R.locals) (hf : cells + mc ≤ R.cells ∧ slots + ms ≤ R.slots) (d : decode cc pc = .ok (.invokespecial index, 3)) (kk : ∀ S1 : St, post S1 → V D A n S1 p l e R s m args below meth c (cells + mc) (slots + ms) Q (pc + 3) L st) : V D A n S p l e R s m args below meth c cells slots Q pc L st0 := fun H locs ls hP hD hS hl =>
  vx_callv (vx_runI C.1 (hM H.size) ⟨words_of C hl2 hini hcd hd hrm.1 hrm.2 hR, hyn, C.1.2.2.2.2 _ hi⟩ (preA_of C h3 h0 hP hD hS) rfl hna hl.1.1 hst (lv_room hcat) d hf) hS (fun q _ hq => wA_sub C.2.2.2.2.2.2.1 hD hS q hq) (fun q hq => wA_sub C.2.2.2.2.2.2.1 hD hS q hq) (fun q _ hq => wA_sub C.2.2.2.2.2.2.1 hD hS q hq) (fun E ce q9 u t H1 locs1 ht _ _ hx hz hk hS1 h1 h2 h3 => hx.1.elim) (fun u t H1 locs1 ht _ hp hb hz hk hS1 => kk u hp H1 locs1 ls (by have hq := hb.1; rw [ht] at hq; exact hq) (hb.2.weaken (fun _ q _ hq => wA_sub C.2.2.2.2.2.2.1 hD hS _ hq)) hS1 hl)
theorem r_sw2 {D : Gt} {A : Nat → Prop} {n : Nat} {p : Program} {l : Launch} {e : Env} {R : Room} {s : State} {m : MethodId} {args : Array Value} {below : List Frame} {meth : Method} {c : Code} {cells slots : Nat} {Q : State → Prop} {pc : Nat} {L : List (Option Value)} {st : List Value} {S1 S2 : St} (kk : V D A n (jS S2 S1) p l e R s m args below meth c cells slots Q pc L st) : V D A n (jS S1 S2) p l e R s m args below meth c cells slots Q pc L st := fun H locs ls hP hD hS hl => kk H locs ls (by rw [jw] at hP ⊢; exact va_P.app (jP_r hP) (jP_l hP)) (by rw [jw] at hD ⊢; exact va_D.app (jD_r hD) (jD_l hD) (jD_x hD).s) hS hl
theorem r_callIA1 {D : Gt} {A : Nat → Prop} {own : String} {cc : ByteArray} {n : Nat} {ret : Option FieldType} {tb : List ExceptionTableEntry} {p : Program} {l : Launch} {e : Env} {R : Room} {s : State} {m : MethodId} {args : Array Value} {below : List Frame} {meth : Method} {c : Code} {cells slots : Nat} {Q : State → Prop} {S1 S2 : St} {pc : Nat} {L : List (Option Value)} {st : List Value} (C : CX D A own cc n ret tb p s m args meth c) (h3 : va_AO RX3 s) (h0 : va_AO RX0 s) {y : MethodName} {cc' : ByteArray} {n' na index : Nat} {rm : Room} {mc ms : Nat} {post : St → Prop} {As st0 : List Value} {a : Nat} (hM : ∀ sz : Nat, vx_Met l y (uws y cc' n' none) rm (va_Pc (.ref a :: As) (PreA D S1 sz)) (va_Qv post (PoB D (wA S1 sz)) (wA S1 sz)) (XCs D S1 (wA S1 sz) nX) mc ms (wA S1 sz)) (hl2 : Cond.methodLink own index y ∈ UW) (hi : Cond.instanceMethod y ∈ UW) (hini : Cond.initialized y.cls ∈ UW) (hcd : Cond.code y cc' n' none ∈ UW) (hd : y.cls ≠ "java/lang/invoke/MethodHandle" ∧ y.cls ≠ "java/lang/invoke/VarHandle" ∧ (parseMethodDescriptor y.desc).map (fun d => d.parameters.length) = some na) (hyn : y.name = "<init>") (hst : st0 = As.reverse ++ .ref a :: st) (hna : As.length = na) (hcat : (st.map fun v => v.category).sum ≤ 8) (hrm : rm.cells = mc ∧ rm.slots = ms) (hR : rm.frames + 1 ≤ R.frames ∧ 8 + (n' + 11) + rm.locals ≤ R.locals) (hf : cells + mc ≤ R.cells ∧ slots + ms ≤ R.slots) (d : decode cc pc = .ok (.invokespecial index, 3)) (kk : ∀ S0 : St, post S0 → V D A n (jS S0 S2) p l e R s m args below meth c (cells + mc) (slots + ms) Q (pc + 3) L st) : V D A n (jS S1 S2) p l e R s m args below meth c cells slots Q pc L st0 := fun H locs ls hP hD hS hl => by
  rw [jw] at hP hD
  have hP1 := jP_l hP
  have hD1 := jD_l hD
  refine vx_callv (vx_runI C.1 (hM H.size) ⟨words_of C hl2 hini hcd hd hrm.1 hrm.2 hR, hyn, C.1.2.2.2.2 _ hi⟩ (preA_of C h3 h0 hP1 hD1 hS) rfl hna hl.1.1 hst (lv_room hcat) d hf) hS (fun q _ hq => wA_sub C.2.2.2.2.2.2.1 hD1 hS q hq) (fun q hq => wA_sub C.2.2.2.2.2.2.1 hD1 hS q hq) (fun q _ hq => wA_sub C.2.2.2.2.2.2.1 hD1 hS q hq) (fun E ce q9 u t H1 locs1 ht _ _ hx hz hk hS1 h1 h2 h3 => hx.1.elim) (fun u t H1 locs1 ht _ hp hb hz hk hS1 => ?_)
  have hb1 := hb.1
  rw [ht] at hb1
  obtain ⟨z1, z2⟩ := jn hP hD (wA_sub C.2.2.2.2.2.2.1 hD1 hS) hk hb1 hb.2
  exact kk u hp H1 locs1 ls (by rw [jw]; exact z1) (by rw [jw]; exact z2) hS1 hl
set_option maxRecDepth 100000 in
set_option maxHeartbeats 4000000 in
theorem law_do {D : Gt} {tb : List ExceptionTableEntry} {p : Program} {l : Launch} {e : Env} {s : State} {m : MethodId} {below : List Frame} {meth : Method} {c : Code} {b : Nat} (hfl : l.stackTraces = false) (C : CX D (fun q : Nat => s.heap.size ≤ q) RL code 15 ret tb p s m #[Value.ref b] meth c) (hNC : NC s) {T1 : List Nat} {ad1 : Nat → Nat} {σ : Mm} {T2 : List Nat} {ad2 : Nat → Nat} {τ : Mm} {ax : Nat} {h : Nat → Int32} {nr ng nb k v i q K : Nat} {C0 : Nat → Prop} {π : Nat → Nat} {x8 x13 x14 : Option Value} (hT1 : TG nr ng T1) (hT2 : TG nr ng T2) (hJ : J nr ng 3 nb C0 π σ τ) (hO : ∀ k, k < ng → h k = nI (π k)) (hv : v < 2 ^ 30) (hq : 0 < ng → q < ng) (hk : k < 58) (next : ∀ (T3 : List Nat) (ad3 : Nat → Nat) (σ3 : Mm) (T4 : List Nat) (ad4 : Nat → Nat) (τ3 : Mm) (h3 : Nat → Int32) (nr3 ng3 nb3 : Nat) (C3 : Nat → Prop) (π3 : Nat → Nat) (x13 x14 : Option Value), TG nr3 ng3 T3 → TG nr3 ng3 T4 → J nr3 ng3 3 nb3 C3 π3 σ3 τ3 → (∀ k, k < ng3 → h3 k = nI (π3 k)) → V D (fun q : Nat => s.heap.size ≤ q) 15 (WJ D T3 ad3 σ3 T4 ad4 τ3 ax h3) p l e room_1 s m #[Value.ref b] below meth c ((1000 + 3300 * k) + 240) ((10000 + 21000 * k) + 2400) (lw_Z below #[Value.ref b] s) 1037 [some (.ref b), some (.ref (ad3 0)), some (.ref (ad4 0)), some (.ref ax), some (.int (nI nr3)), some (.int (nI ng3)), some (.int 1), some (.int (nI k)), x8, some (.int (nI v)), some (.int (nI K)), some (.int (nI i)), some (.int (nI q)), x13, x14] []) : V D (fun q : Nat => s.heap.size ≤ q) 15 (WJ D T1 ad1 σ T2 ad2 τ ax h) p l e room_1 s m #[Value.ref b] below meth c (1000 + 3300 * k) (10000 + 21000 * k) (lw_Z below #[Value.ref b] s) 175 [some (.ref b), some (.ref (ad1 0)), some (.ref (ad2 0)), some (.ref ax), some (.int (nI nr)), some (.int (nI ng)), some (.int 1), some (.int (nI k)), x8, some (.int (nI v)), some (.int (nI K)), some (.int (nI i)), some (.int (nI q)), x13, x14] [] := by
  have hnr14 := hJ.2.2.2.2.2.2
  have hng56 := hJ.ng56
  have at990 : V D (fun q : Nat => s.heap.size ≤ q) 15 (WJ D T1 ad1 σ T2 ad2 τ ax h) p l e room_1 s m #[Value.ref b] below meth c (1000 + 3300 * k) (10000 + 21000 * k) (lw_Z below #[Value.ref b] s) 990 [some (.ref b), some (.ref (ad1 0)), some (.ref (ad2 0)), some (.ref ax), some (.int (nI nr)), some (.int (nI ng)), some (.int 1), some (.int (nI k)), x8, some (.int (nI v)), some (.int (nI K)), some (.int (nI i)), some (.int (nI q)), x13, x14] [] := by
    refine r_iload5 (pc := 990) C dL_law_990 ?_
    refine r_if_le (pc := 992) C (tgt := 1037) dL_law_992 (by decide) (fun c1 => ?_) (fun c1 => ?_)
    · exact r_wid (k := (1000 + 3300 * k) + 240) (z := (10000 + 21000 * k) + 2400) (by omega) (by omega) (next T1 ad1 σ T2 ad2 τ h nr ng nb C0 π _ _ hT1 hT2 hJ hO)
    · have h0 : 0 < ng := Nat.pos_of_ne_zero (fun z => c1 (by rw [z]; decide))
      exact lk_paper C hNC hfl hT1 hT2 hJ hO hv ⟨by omega, by omega⟩ (hq h0) next
  have at319 : V D (fun q : Nat => s.heap.size ≤ q) 15 (WJ D T1 ad1 σ T2 ad2 τ ax h) p l e room_1 s m #[Value.ref b] below meth c (1000 + 3300 * k) (10000 + 21000 * k) (lw_Z below #[Value.ref b] s) 319 [some (.ref b), some (.ref (ad1 0)), some (.ref (ad2 0)), some (.ref ax), some (.int (nI nr)), some (.int (nI ng)), some (.int 1), some (.int (nI k)), x8, some (.int (nI v)), some (.int (nI K)), some (.int (nI i)), some (.int (nI q)), x13, x14] [] := by
    refine r_iload10 (pc := 319) C dL_law_319 ?_
    refine r_bipush (pc := 321) C (v := nI 8) dL_law_321 (by decide) ?_
    refine r_icmp_ge (pc := 323) C (tgt := 367) dL_law_323 (by decide) (fun _ => ?_) (fun _ => ?_)
    rotate_left
    · exact lk_sort C hNC hfl hT1 hT2 hJ hO hv ⟨by omega, by omega⟩ next
    refine r_iload10 (pc := 367) C dL_law_367 ?_
    refine r_bipush (pc := 369) C (v := nI 8) dL_law_369 (by decide) ?_
    refine r_icmp_ne (pc := 371) C (tgt := 517) dL_law_371 (by decide) (fun _ => ?_) (fun _ => ?_)
    rotate_left
    · exact lk_set C hNC hfl hT1 hT2 hJ hO hv ⟨by omega, by omega⟩ next
    refine r_iload10 (pc := 517) C dL_law_517 ?_
    refine r_bipush (pc := 519) C (v := nI 11) dL_law_519 (by decide) ?_
    refine r_icmp_ge (pc := 521) C (tgt := 561) dL_law_521 (by decide) (fun _ => ?_) (fun _ => ?_)
    rotate_left
    · exact lk_boxes C hNC hfl hT1 hT2 hJ hO hv ⟨by omega, by omega⟩ next
    refine r_iload10 (pc := 561) C dL_law_561 ?_
    refine r_bipush (pc := 563) C (v := nI 11) dL_law_563 (by decide) ?_
    refine r_icmp_ne (pc := 565) C (tgt := 625) dL_law_565 (by decide) (fun _ => ?_) (fun _ => ?_)
    rotate_left
    · exact lk_take C hNC hfl hT1 hT2 hJ hO hv ⟨by omega, by omega⟩ next
    refine r_iload10 (pc := 625) C dL_law_625 ?_
    refine r_bipush (pc := 627) C (v := nI 12) dL_law_627 (by decide) ?_
    refine r_icmp_ne (pc := 629) C (tgt := 716) dL_law_629 (by decide) (fun _ => ?_) (fun _ => ?_)
    rotate_left
    · exact lk_tender C hNC hfl hT1 hT2 hJ hO hv ⟨by omega, by omega⟩ next
    refine r_iload10 (pc := 716) C dL_law_716 ?_
    refine r_bipush (pc := 718) C (v := nI 13) dL_law_718 (by decide) ?_
    refine r_icmp_ne (pc := 720) C (tgt := 798) dL_law_720 (by decide) (fun _ => ?_) (fun _ => ?_)
    rotate_left
    · exact lk_bid C hNC hfl hT1 hT2 hJ hO hv ⟨by omega, by omega⟩ next
    refine r_iload10 (pc := 798) C dL_law_798 ?_
    refine r_bipush (pc := 800) C (v := nI 16) dL_law_800 (by decide) ?_
    refine r_icmp_ge (pc := 802) C (tgt := 889) dL_law_802 (by decide) (fun _ => ?_) (fun _ => ?_)
    rotate_left
    · exact lk_cut C hNC hfl hT1 hT2 hJ hO hv ⟨by omega, by omega⟩ next
    refine r_iload10 (pc := 889) C dL_law_889 ?_
    refine r_bipush (pc := 891) C (v := nI 16) dL_law_891 (by decide) ?_
    refine r_icmp_ne (pc := 893) C (tgt := 990) dL_law_893 (by decide) (fun _ => ?_) (fun _ => ?_)
    · exact at990
    refine r_iload5 (pc := 896) C dL_law_896 ?_
    refine r_if_le (pc := 898) C (tgt := 990) dL_law_898 (by decide) (fun _ => ?_) (fun c1 => ?_)
    · exact at990
    have h0 : 0 < ng := Nat.pos_of_ne_zero (fun z => c1 (by rw [z]; decide))
    exact lk_look C hNC hfl hT1 hT2 hJ hO hv ⟨by omega, by omega⟩ (hq h0) next
  refine r_iload10 (pc := 175) C dL_law_175 ?_
  refine r_iconst (pc := 177) C (v := nI 3) dL_law_177 (by decide) ?_
  refine r_icmp_ge (pc := 178) C (tgt := 319) dL_law_178 (by decide) (fun _ => ?_) (fun _ => ?_)
  · exact at319
  refine r_iload4 (pc := 181) C dL_law_181 ?_
  refine r_bipush (pc := 183) C (v := nI 14) dL_law_183 (by decide) ?_
  refine r_icmp_geN (pc := 185) C (tgt := 319) dL_law_185 (by decide) (by omega) (by omega) (fun _ => ?_) (fun c1 => ?_)
  · exact at319
  exact lk_stone C hNC hfl hT1 hT2 hJ hO hv ⟨by omega, by omega⟩ c1 next
set_option maxRecDepth 100000 in
set_option maxHeartbeats 4000000 in
theorem law_loop {D : Gt} {tb : List ExceptionTableEntry} {p : Program} {l : Launch} {e : Env} {s : State} {m : MethodId} {below : List Frame} {meth : Method} {c : Code} {b Ls : Nat} {xs : Nat → Int32} (hfl : l.stackTraces = false) (C : CX D (fun q : Nat => s.heap.size ≤ q) RL code 15 ret tb p s m #[Value.ref b] meth c) (hNC : NC s) (hX : va_X b Ls xs s s.heap) (hbl : b < s.heap.size) (hL : Ls ≤ 260) (ax : Nat) :
    ∀ (z k : Nat) (T1 : List Nat) (ad1 : Nat → Nat) (σ : Mm) (T2 : List Nat) (ad2 : Nat → Nat) (τ : Mm) (h : Nat → Int32) (nr ng nb : Nat) (C0 : Nat → Prop) (π : Nat → Nat) (x8 x9 x10 x11 x12 x13 x14 : Option Value), TG nr ng T1 → TG nr ng T2 → J nr ng 3 nb C0 π σ τ → (∀ k, k < ng → h k = nI (π k)) → 3 ≤ k → k ≤ 58 → 58 < k + z → V D (fun q : Nat => s.heap.size ≤ q) 15 (WJ D T1 ad1 σ T2 ad2 τ ax h) p l e room_1 s m #[Value.ref b] below meth c (1000 + 3300 * k) (10000 + 21000 * k) (lw_Z below #[Value.ref b] s) 98 [some (.ref b), some (.ref (ad1 0)), some (.ref (ad2 0)), some (.ref ax), some (.int (nI nr)), some (.int (nI ng)), some (.int 1), some (.int (nI k)), x8, x9, x10, x11, x12, x13, x14] [] := by
  have hbA : ¬ (fun q : Nat => s.heap.size ≤ q) b := Nat.not_le.mpr hbl
  intro z
  induction z with
  | zero => intro k T1 ad1 σ T2 ad2 τ h nr ng nb C0 π x8 x9 x10 x11 x12 x13 x14 hT1 hT2 hJ hO h3 h58 hz; omega
  | succ z ih =>
    intro k T1 ad1 σ T2 ad2 τ h nr ng nb C0 π x8 x9 x10 x11 x12 x13 x14 hT1 hT2 hJ hO h3 h58 hz
    have hnr14 := hJ.2.2.2.2.2.2
    have hng56 := hJ.ng56
    refine r_iload7 (pc := 98) C dL_law_98 ?_
    refine r_bipush (pc := 100) C (v := nI 58) dL_law_100 (by decide) ?_
    refine r_icmp_geN (pc := 102) C (tgt := 1068) dL_law_102 (by decide) (by omega) (by omega) (fun c1 => ?_) (fun c1 => ?_)
    · refine r_iload6 (pc := 1068) C dL_law_1068 ?_
      intro H locs ls hP hD hS hl
      refine va_forget (fun q hq => hS.2.2 q hq) ?_
      refine W.widen (k := 621632) (n := 7236801) (by omega) (by omega) ?_
      exact lw_ret C.1.1 C.1.2.1 C.2.2.2.2.1 C.2.2.2.2.2.1 dL_law_1070
    refine r_iload6 (pc := 105) C dL_law_105 ?_
    refine r_if_eq (pc := 107) C (tgt := 1068) dL_law_107 (by decide) (fun h => absurd h (by decide)) (fun _ => ?_)
    refine r_aload0 (pc := 110) C dL_law_110 ?_
    refine r_iload7 (pc := 111) C dL_law_111 ?_
    refine r_drawn (pc := 113) C hX hbl hbA (by omega) (k := k) rfl (by omega) (Nat.le_of_ble_eq_true rfl) ⟨by decide, by decide, by show _ ≤ 621632; omega, by show _ ≤ 7236801; omega⟩ dL_law_113 ?_
    obtain ⟨Z, hZ, eZ⟩ := dV_30 Ls xs k
    rw [eZ]
    refine r_istore8 (pc := 116) C dL_law_116 ?_
    refine r_iload8 (pc := 118) C dL_law_118 ?_
    refine r_bipush (pc := 120) C (v := nI 18) dL_law_120 (by decide) ?_
    refine r_idiv (pc := 122) C dL_law_122 (by decide) ?_
    rw [pk_div (a := Z) (d := 18) (by omega) (by decide) (by decide)]
    obtain ⟨v, hv, ev⟩ : ∃ v, v < 2 ^ 30 ∧ Z / 18 = v := ⟨_, by omega, rfl⟩
    rw [ev]
    refine r_istore9 (pc := 123) C dL_law_123 ?_
    have next : ∀ (K i q : Nat) (T3 : List Nat) (ad3 : Nat → Nat) (σ3 : Mm) (T4 : List Nat) (ad4 : Nat → Nat) (τ3 : Mm) (h3 : Nat → Int32) (nr3 ng3 nb3 : Nat) (C3 : Nat → Prop) (π3 : Nat → Nat) (x13 x14 : Option Value), TG nr3 ng3 T3 → TG nr3 ng3 T4 → J nr3 ng3 3 nb3 C3 π3 σ3 τ3 → (∀ k, k < ng3 → h3 k = nI (π3 k)) → V D (fun q : Nat => s.heap.size ≤ q) 15 (WJ D T3 ad3 σ3 T4 ad4 τ3 ax h3) p l e room_1 s m #[Value.ref b] below meth c ((1000 + 3300 * k) + 240) ((10000 + 21000 * k) + 2400) (lw_Z below #[Value.ref b] s) 1037 [some (.ref b), some (.ref (ad3 0)), some (.ref (ad4 0)), some (.ref ax), some (.int (nI nr3)), some (.int (nI ng3)), some (.int 1), some (.int (nI k)), some (.int (nI Z)), some (.int (nI v)), some (.int (nI K)), some (.int (nI i)), some (.int (nI q)), x13, x14] [] := by
      intro K i q T3 ad3 σ3 T4 ad4 τ3 h3 nr3 ng3 nb3 C3 π3 y13 y14 hT3 hT4 hJ3 hO3
      refine r_iload6 (pc := 1037) C dL_law_1037 ?_
      refine r_if_eq (pc := 1039) C (tgt := 1059) dL_law_1039 (by decide) (fun h => absurd h (by decide)) (fun _ => ?_)
      refine r_aload1 (pc := 1042) C dL_law_1042 ?_
      refine r_aload2 (pc := 1043) C dL_law_1043 ?_
      refine r_iload4 (pc := 1044) C dL_law_1044 ?_
      refine r_iload5 (pc := 1046) C dL_law_1046 ?_
      refine r_aload3 (pc := 1048) C dL_law_1048 ?_
      refine r_callN (pc := 1049) C hNC (c_L_areAlike l D hfl T3 ad3 σ3 T4 ad4 τ3 ax h3 hT3 hT4 hJ3 hO3) ml_RL_121 st_L_areAlike ini_L cd_L_areAlike hd_RL_121 rfl rfl (Nat.le_of_ble_eq_true rfl) ⟨rfl, rfl⟩ (by decide) ⟨by show _ ≤ 621632; omega, by show _ ≤ 7236801; omega⟩ dL_law_1049 ?_
      rintro _ _ ⟨rfl, rfl⟩
      refine r_if_eq (pc := 1052) C (tgt := 1059) dL_law_1052 (by decide) (fun h => absurd h (by decide)) (fun _ => ?_)
      refine r_iconst (pc := 1055) C (v := 1) dL_law_1055 (by decide) ?_
      refine r_goto (pc := 1056) C (tgt := 1060) dL_law_1056 (by decide) ?_
      refine r_istore6 (pc := 1060) C dL_law_1060 ?_
      refine r_iinc7 (pc := 1062) C dL_law_1062 (nI_1 k) ?_
      refine r_goto (pc := 1065) C (tgt := 98) dL_law_1065 (by decide) ?_
      exact r_wid (k := 1000 + 3300 * (k + 1)) (z := 10000 + 21000 * (k + 1)) (by omega) (by omega) (ih (k + 1) T3 ad3 σ3 T4 ad4 τ3 h3 nr3 ng3 nb3 C3 π3 _ _ _ _ _ _ _ hT3 hT4 hJ3 hO3 (by omega) (by omega) (by omega))
    have at159 : ∀ K i : Nat, V D (fun q : Nat => s.heap.size ≤ q) 15 (WJ D T1 ad1 σ T2 ad2 τ ax h) p l e room_1 s m #[Value.ref b] below meth c (1000 + 3300 * k) (10000 + 21000 * k) (lw_Z below #[Value.ref b] s) 159 [some (.ref b), some (.ref (ad1 0)), some (.ref (ad2 0)), some (.ref ax), some (.int (nI nr)), some (.int (nI ng)), some (.int 1), some (.int (nI k)), some (.int (nI Z)), some (.int (nI v)), some (.int (nI K)), some (.int (nI i)), x12, x13, x14] [] := by
      intro K i
      refine r_iload5 (pc := 159) C dL_law_159 ?_
      refine r_if_ne (pc := 161) C (tgt := 168) dL_law_161 (by decide) (fun c2 => ?_) (fun c2 => ?_)
      · have h0 : 0 < ng := Nat.pos_of_ne_zero (fun z => c2 (by rw [z]; decide))
        refine r_iload9 (pc := 168) C dL_law_168 ?_
        refine r_iload5 (pc := 170) C dL_law_170 ?_
        refine r_irem (pc := 172) C dL_law_172 c2 ?_
        rw [pk_rem (a := v) (d := ng) (by omega) h0 (by omega)]
        refine r_istore12 (pc := 173) C dL_law_173 ?_
        exact law_do hfl C hNC hT1 hT2 hJ hO hv (fun _ => Nat.mod_lt _ h0) c1 (next K i (v % ng))
      · refine r_iconst (pc := 164) C (v := nI 0) dL_law_164 (by decide) ?_
        refine r_goto (pc := 165) C (tgt := 173) dL_law_165 (by decide) ?_
        refine r_istore12 (pc := 173) C dL_law_173 ?_
        have h0 : ng = 0 := by
          have h1 : nI ng = nI 0 := c2
          exact (nI_eq (by omega) (by decide)).mp h1
        exact law_do hfl C hNC hT1 hT2 hJ hO hv (fun z => absurd z (by omega)) c1 (next K i 0)
    have at143 : ∀ K : Nat, V D (fun q : Nat => s.heap.size ≤ q) 15 (WJ D T1 ad1 σ T2 ad2 τ ax h) p l e room_1 s m #[Value.ref b] below meth c (1000 + 3300 * k) (10000 + 21000 * k) (lw_Z below #[Value.ref b] s) 143 [some (.ref b), some (.ref (ad1 0)), some (.ref (ad2 0)), some (.ref ax), some (.int (nI nr)), some (.int (nI ng)), some (.int 1), some (.int (nI k)), some (.int (nI Z)), some (.int (nI v)), some (.int (nI K)), x11, x12, x13, x14] [] := by
      intro K
      refine r_iload4 (pc := 143) C dL_law_143 ?_
      refine r_if_ne (pc := 145) C (tgt := 152) dL_law_145 (by decide) (fun c2 => ?_) (fun c2 => ?_)
      · have h0 : 0 < nr := Nat.pos_of_ne_zero (fun z => c2 (by rw [z]; decide))
        refine r_iload9 (pc := 152) C dL_law_152 ?_
        refine r_iload4 (pc := 154) C dL_law_154 ?_
        refine r_irem (pc := 156) C dL_law_156 c2 ?_
        rw [pk_rem (a := v) (d := nr) (by omega) h0 (by omega)]
        refine r_istore11 (pc := 157) C dL_law_157 ?_
        exact at159 K (v % nr)
      · refine r_iconst (pc := 148) C (v := nI 0) dL_law_148 (by decide) ?_
        refine r_goto (pc := 149) C (tgt := 157) dL_law_149 (by decide) ?_
        refine r_istore11 (pc := 157) C dL_law_157 ?_
        exact at159 K 0
    refine r_iload7 (pc := 125) C dL_law_125 ?_
    refine r_bipush (pc := 127) C (v := nI 7) dL_law_127 (by decide) ?_
    refine r_icmp_ge (pc := 129) C (tgt := 136) dL_law_129 (by decide) (fun _ => ?_) (fun _ => ?_)
    · refine r_iload8 (pc := 136) C dL_law_136 ?_
      refine r_bipush (pc := 138) C (v := nI 18) dL_law_138 (by decide) ?_
      refine r_irem (pc := 140) C dL_law_140 (by decide) ?_
      rw [pk_rem (a := Z) (d := 18) (by omega) (by decide) (by decide)]
      refine r_istore10 (pc := 141) C dL_law_141 ?_
      exact at143 _
    · refine r_iconst (pc := 132) C (v := nI 0) dL_law_132 (by decide) ?_
      refine r_goto (pc := 133) C (tgt := 141) dL_law_133 (by decide) ?_
      refine r_istore10 (pc := 141) C dL_law_141 ?_
      exact at143 0
theorem J_00 : J 0 0 0 0 (fun _ => False) (fun k => k) s0 s0 := by
  refine ⟨⟨⟨fun i _ => ⟨fun h => absurd rfl h, fun h => absurd h (by omega)⟩, fun i _ => ⟨fun h => absurd rfl h, fun h => absurd h (by omega)⟩, ⟨rfl, by decide⟩, rfl, rfl, ⟨rfl, by decide⟩, fun i h => absurd h (by omega)⟩, ⟨fun _ _ => rfl, fun _ _ => rfl⟩, fun _ => ⟨b18_0, b18_0, b18_0⟩, ⟨fun i h => absurd h (by omega), Or.inl rfl, fun i h => absurd h (by omega)⟩⟩, fun _ _ _ => rfl, fun i h => absurd h (by omega), fun k h => absurd h (by omega), ⟨fun k h => absurd h (by omega), fun a b h => absurd h (by omega)⟩, by decide, by decide⟩
set_option maxRecDepth 100000 in
set_option maxHeartbeats 4000000 in
theorem law_first {D : Gt} {tb : List ExceptionTableEntry} {p : Program} {l : Launch} {e : Env} {s : State} {m : MethodId} {below : List Frame} {meth : Method} {c : Code} {b Ls : Nat} {xs : Nat → Int32} (hfl : l.stackTraces = false) (C : CX D (fun q : Nat => s.heap.size ≤ q) RL code 15 ret tb p s m #[Value.ref b] meth c) (hNC : NC s) (hX : va_X b Ls xs s s.heap) (hbl : b < s.heap.size) (hL : Ls ≤ 260) (ax : Nat) (ad1 ad2 : Nat → Nat) :
    ∀ (z k : Nat) (σ τ : Mm), J 0 0 k 0 (fun _ => False) (fun k => k) σ τ → k ≤ 3 → 3 < k + z → V D (fun q : Nat => s.heap.size ≤ q) 15 (WJ D [0, 1, 2, 3, 4, 5, 6, 7, 8, 9, 10, 11, 12, 13, 14] ad1 σ [0, 1, 2, 3, 4, 5, 6, 7, 8, 9, 10, 11, 12, 13, 14] ad2 τ ax (fun _ => 0)) p l e room_1 s m #[Value.ref b] below meth c (200 + 120 * k) (2000 + 1200 * k) (lw_Z below #[Value.ref b] s) 33 [some (.ref b), some (.ref (ad1 0)), some (.ref (ad2 0)), some (.ref ax), some (.int (nI 0)), some (.int (nI 0)), some (.int 1), some (.int (nI k)), none, none, none, none, none, none, none] [] := by
  have hbA : ¬ (fun q : Nat => s.heap.size ≤ q) b := Nat.not_le.mpr hbl
  intro z
  induction z with
  | zero => intro k σ τ hJ h1 h2; omega
  | succ z ih =>
      intro k σ τ hJ h1 h2
      refine r_iload7 (pc := 33) C dL_law_33 ?_
      refine r_iconst (pc := 35) C (v := nI 3) dL_law_35 (by decide) ?_
      refine r_icmp_geN (pc := 36) C (tgt := 95) dL_law_36 (by decide) (by omega) (by omega) (fun c1 => ?_) (fun c1 => ?_)
      · have hk3 : k = 3 := by omega
        subst hk3
        refine r_iconst (pc := 95) C (v := nI 3) dL_law_95 (by decide) ?_
        refine r_istore7 (pc := 96) C dL_law_96 ?_
        exact r_wid (k := 1000 + 3300 * 3) (z := 10000 + 21000 * 3) (by decide) (by decide) (law_loop hfl C hNC hX hbl hL ax 56 3 _ ad1 σ _ ad2 τ _ 0 0 0 _ _ _ _ _ _ _ _ _ TG_0 TG_0 hJ (fun k h => absurd h (by omega)) (by omega) (by omega) (by omega))
      refine r_iload6 (pc := 39) C dL_law_39 ?_
      refine r_if_eq (pc := 41) C (tgt := 86) dL_law_41 (by decide) (fun h => absurd h (by decide)) (fun _ => ?_)
      obtain ⟨Z, hZ, eZ⟩ := dV_30 Ls xs k
      have ha : Z % 4 < 4 := Nat.mod_lt _ (by decide)
      refine r_aload1 (pc := 44) C dL_law_44 ?_
      refine r_iconst (pc := 45) C (v := 0) dL_law_45 (by decide) ?_
      refine r_aload0 (pc := 46) C dL_law_46 ?_
      refine r_iload7 (pc := 47) C dL_law_47 ?_
      refine r_drawn (pc := 49) C hX hbl hbA (by omega) (k := k) rfl (by omega) (Nat.le_of_ble_eq_true rfl) ⟨by decide, by decide, by show _ ≤ 621632; omega, by show _ ≤ 7236801; omega⟩ dL_law_49 ?_
      rw [eZ]
      refine r_iconst (pc := 52) C (v := nI 4) dL_law_52 (by decide) ?_
      refine r_irem (pc := 53) C dL_law_53 (by decide) ?_
      rw [pk_rem (a := Z) (d := 4) (by omega) (by decide) (by decide)]
      refine r_iconst (pc := 54) C (v := 0) dL_law_54 (by decide) ?_
      refine r_callW1 (pc := 55) C hNC (c_L_does_0 l D [0, 1, 2, 3, 4, 5, 6, 7, 8, 9, 10, 11, 12, 13, 14] ad1 σ TG_0 (nI (Z % 4)) 0 (c_X5_parcel l D hfl [0, 1, 2, 3, 4, 5, 6, 7, 8, 9, 10, 11, 12, 13, 14] ad1 σ TG_0 hJ.ic (nI (Z % 4))) heIS3) ml_RL_98 st_L_does ini_L cdW_L_does hd_RL_98 rfl rfl (Nat.le_of_ble_eq_true rfl) ⟨rfl, rfl⟩ (by decide) ⟨by show _ ≤ 621632; omega, by show _ ≤ 7236801; omega⟩ dL_law_55 ?_
      intro r0 Y0 hp0
      obtain ⟨e0, rfl⟩ := W_parcel1 ha (by omega) hp0
      refine r_iload7 (pc := 58) C dL_law_58 ?_
      refine r_icmp_ne (pc := 60) C (tgt := 86) dL_law_60 (by decide) (fun h => absurd e0 h) (fun _ => ?_)
      refine r_aload2 (pc := 63) C dL_law_63 ?_
      refine r_iconst (pc := 64) C (v := 0) dL_law_64 (by decide) ?_
      refine r_aload0 (pc := 65) C dL_law_65 ?_
      refine r_iload7 (pc := 66) C dL_law_66 ?_
      refine r_drawn (pc := 68) C hX hbl hbA (by omega) (k := k) rfl (by omega) (Nat.le_of_ble_eq_true rfl) ⟨by decide, by decide, by show _ ≤ 621632; omega, by show _ ≤ 7236801; omega⟩ dL_law_68 ?_
      rw [eZ]
      refine r_iconst (pc := 71) C (v := nI 4) dL_law_71 (by decide) ?_
      refine r_irem (pc := 72) C dL_law_72 (by decide) ?_
      rw [pk_rem (a := Z) (d := 4) (by omega) (by decide) (by decide)]
      refine r_iconst (pc := 73) C (v := 0) dL_law_73 (by decide) ?_
      refine r_callW2 (pc := 74) C hNC (c_L_does_0 l D [0, 1, 2, 3, 4, 5, 6, 7, 8, 9, 10, 11, 12, 13, 14] ad2 τ TG_0 (nI (Z % 4)) 0 (c_X5_parcel l D hfl [0, 1, 2, 3, 4, 5, 6, 7, 8, 9, 10, 11, 12, 13, 14] ad2 τ TG_0 hJ.ic2 (nI (Z % 4))) heIS3) ml_RL_98 st_L_does ini_L cdW_L_does hd_RL_98 rfl rfl (Nat.le_of_ble_eq_true rfl) ⟨rfl, rfl⟩ (by decide) ⟨by show _ ≤ 621632; omega, by show _ ≤ 7236801; omega⟩ dL_law_74 ?_
      intro r1 Y1 hp1
      obtain ⟨e1, rfl⟩ := W_parcel2 ha (by omega) hp1
      refine r_iload7 (pc := 77) C dL_law_77 ?_
      refine r_icmp_ne (pc := 79) C (tgt := 86) dL_law_79 (by decide) (fun h => absurd e1 h) (fun _ => ?_)
      refine r_iconst (pc := 82) C (v := 1) dL_law_82 (by decide) ?_
      refine r_goto (pc := 83) C (tgt := 87) dL_law_83 (by decide) ?_
      refine r_istore6 (pc := 87) C dL_law_87 ?_
      refine r_iinc7 (pc := 89) C dL_law_89 (nI_1 k) ?_
      refine r_goto (pc := 92) C (tgt := 33) dL_law_92 (by decide) ?_
      exact r_wid (k := 200 + 120 * (k + 1)) (z := 2000 + 1200 * (k + 1)) (by omega) (by omega) (ih (k + 1) _ _ (J_parcel hJ (by omega) ha) (by omega) (by omega))
set_option maxRecDepth 100000 in
set_option maxHeartbeats 4000000 in
theorem law_begin {D : Gt} {tb : List ExceptionTableEntry} {p : Program} {l : Launch} {e : Env} {s : State} {m : MethodId} {below : List Frame} {meth : Method} {c : Code} {b Ls : Nat} {xs : Nat → Int32} (hfl : l.stackTraces = false) (C : CX D (fun q : Nat => s.heap.size ≤ q) RL code 15 ret tb p s m #[Value.ref b] meth c) (hNC : NC s) (ha3 : va_AO RX3 s) (ha0 : va_AO RX0 s) (hX : va_X b Ls xs s s.heap) (hbl : b < s.heap.size) (hL : Ls ≤ 260) (f0 : Nat → va_E) : V D (fun q : Nat => s.heap.size ≤ q) 15 ([], (fun _ => 0), f0) p l e room_1 s m #[Value.ref b] below meth c 0 0 (lw_Z below #[Value.ref b] s) 0 [some (.ref b), none, none, none, none, none, none, none, none, none, none, none, none, none, none] [] := by
  refine r_new (pc := 0) C inU5 (ci := 5) (t := 0) (fs := [.null, .int 0, .null, .int 0, .null, .null, .null, .null, .null, .int 0, .null, .null, .int 0, .int 0, .null, .null, .null]) rfl tyX5 tyX5_ok kl_RL_9 ia_L5 iz_L5 (fun j hj => by
    rcases j with _ | _ | _ | _ | _ | _ | _ | _ | _ | _ | _ | _ | _ | _ | _ | _ | _ | j <;> first | rfl | omega) (by decide) (by decide) dL_law_0 (fun q0 => ?_)
  refine r_dup (pc := 3) C dL_law_3 rfl ?_
  refine r_callIA (pc := 4) C ha3 ha0 (c_X5_init l D (au (fun _ => 0) 0 q0) f0 (a := q0) rfl) ml_RL_101 im_X5_init ini_X5_init cd_X5_init hd_RL_101 rfl rfl rfl (Nat.le_of_ble_eq_true rfl) ⟨rfl, rfl⟩ (by decide) (by decide) dL_law_4 ?_
  rintro _ ⟨ad1, rfl, h10⟩
  refine r_astore1 (pc := 7) C dL_law_7 ?_
  refine r_new (pc := 8) C inU5 (ci := 5) (t := 15) (fs := [.null, .int 0, .null, .int 0, .null, .null, .null, .null, .null, .int 0, .null, .null, .int 0, .int 0, .null, .null, .null]) rfl tyX5 tyX5_ok kl_RL_9 ia_L5 iz_L5 (fun j hj => by
    rcases j with _ | _ | _ | _ | _ | _ | _ | _ | _ | _ | _ | _ | _ | _ | _ | _ | _ | j <;> first | rfl | omega) (not_in (by decide)) (by decide) dL_law_8 (fun q1 => ?_)
  refine r_eq (S1 := jS ([0, 1, 2, 3, 4, 5, 6, 7, 8, 9, 10, 11, 12, 13, 14], ad1, cO D ad1 s0) ([0], au (fun _ => 0) 0 q1, va_up f0 0 (.inr (5, [.null, .int 0, .null, .int 0, .null, .null, .null, .null, .null, .int 0, .null, .null, .int 0, .int 0, .null, .null, .null])))) ?_ ?_
  · rw [jw, ← wS_new (not_in (by decide))]
    rfl
  refine r_sw2 ?_
  refine r_dup (pc := 11) C dL_law_11 rfl ?_
  refine r_callIA1 (pc := 12) C ha3 ha0 (c_X5_init l D (au (fun _ => 0) 0 q1) f0 (a := q1) rfl) ml_RL_101 im_X5_init ini_X5_init cd_X5_init hd_RL_101 rfl rfl rfl (Nat.le_of_ble_eq_true rfl) ⟨rfl, rfl⟩ (by decide) (by decide) dL_law_12 ?_
  rintro _ ⟨ad2, rfl, h20⟩
  refine r_sw2 ?_
  refine r_astore2 (pc := 15) C dL_law_15 ?_
  refine r_bipush (pc := 16) C (v := nI 64) dL_law_16 (by decide) ?_
  have h100 : (100 : Nat) ∉ (List.map (fun k => 2 * k) [0, 1, 2, 3, 4, 5, 6, 7, 8, 9, 10, 11, 12, 13, 14] ++ List.map (fun k => 2 * k + 1) [0, 1, 2, 3, 4, 5, 6, 7, 8, 9, 10, 11, 12, 13, 14]) := not_in (by decide)
  refine r_newa_int (pc := 18) C (t := 100) (N := 64) rfl (by decide) h100 (by decide) dL_law_18 (fun q3 => ?_)
  refine r_eq (S1 := WJ D [0, 1, 2, 3, 4, 5, 6, 7, 8, 9, 10, 11, 12, 13, 14] ad1 s0 [0, 1, 2, 3, 4, 5, 6, 7, 8, 9, 10, 11, 12, 13, 14] ad2 s0 q3 (fun _ => 0)) ?_ ?_
  · rw [← wS_new h100, jw, jw]
    exact (congrArg (fun z => z ++ wS (oX D q3 64 (fun _ => 0))) (jw ([0, 1, 2, 3, 4, 5, 6, 7, 8, 9, 10, 11, 12, 13, 14], ad1, cO D ad1 s0) ([0, 1, 2, 3, 4, 5, 6, 7, 8, 9, 10, 11, 12, 13, 14], ad2, cO D ad2 s0))).trans (List.append_assoc _ _ _)
  refine r_astore3 (pc := 20) C dL_law_20 ?_
  refine r_iconst (pc := 21) C (v := nI 0) dL_law_21 (by decide) ?_
  refine r_istore4 (pc := 22) C dL_law_22 ?_
  refine r_iconst (pc := 24) C (v := nI 0) dL_law_24 (by decide) ?_
  refine r_istore5 (pc := 25) C dL_law_25 ?_
  refine r_iconst (pc := 27) C (v := 1) dL_law_27 (by decide) ?_
  refine r_istore6 (pc := 28) C dL_law_28 ?_
  refine r_iconst (pc := 30) C (v := nI 0) dL_law_30 (by decide) ?_
  refine r_istore7 (pc := 31) C dL_law_31 ?_
  refine r_wid (k := 200 + 120 * 0) (z := 2000 + 1200 * 0) (by decide) (by decide) ?_
  rw [← h10, ← h20]
  exact law_first hfl C hNC hX hbl hL q3 ad1 ad2 4 0 s0 s0 J_00 (Nat.zero_le _) (by omega)
theorem whole_start {p : Program} {e : Env} {s : State} {m : MethodId} {below : List Frame} {meth : Method} {c : Code} (l : Launch) (hflags : l.flags = flags0) {b L : Nat} {xs : Nat → Int32} (hL : L ≤ 260) (C0 : lw_At p s m meth c b L xs) : W p l e room_1 s m #[Value.ref b] below meth c s.heap [] 0 0 (lw_Z below #[Value.ref b] s) (entryFrame m ([Value.ref b] : List Value).toArray 15) := by
  obtain ⟨hx, hb, hr, hml, hown, hts, hX, hbl, hlocks, hgv⟩ := C0
  have hfl : l.stackTraces = false := by unfold Launch.stackTraces; rw [hflags]; decide
  have hUW : ∀ w ∈ UW, w.before #[Value.ref b] s = true := fun w hw => hts w (List.mem_filter.mp hw).1
  have hnw : ∀ w ∈ lw_tbl, w.before #[Value.ref b] s = true := hts
  obtain ⟨k0, j0, hk0⟩ := u_known (C := RX0) (T := TX0) (N := 9) (n := 9) hUW inU0 (hUW _ ia_L0)
  obtain ⟨k1, j1, hk1⟩ := u_known (C := RX1) (T := TX1) (N := 5) (n := 5) hUW inU1 (hUW _ ia_L1)
  obtain ⟨k2, j2, hk2⟩ := u_known (C := RX2) (T := TX2) (N := 1) (n := 1) hUW inU2 (hUW _ ia_L2)
  obtain ⟨k3, j3, hk3⟩ := u_known (C := RX3) (T := TX3) (N := 12) (n := 12) hUW inU3 (hUW _ ia_L3)
  obtain ⟨k4, j4, hk4⟩ := u_known (C := RX4) (T := TX4) (N := 3) (n := 3) hUW inU4 (hUW _ ia_L4)
  obtain ⟨k5, j5, hk5⟩ := u_known (C := RX5) (T := TX5) (N := 17) (n := 17) hUW inU5 (hUW _ ia_L5)
  obtain ⟨dC, dI, hKc⟩ : ∃ (dC : Nat → ClassId) (dI : Nat → Nat → Nat), ∀ (k : Nat) (q : vw_C), vwCl[k]? = some q → u_Kn s q.1 q.2.1 q.2.2 (dC k) (dI k) := by
    refine ⟨fun k => if k = 0 then k0 else if k = 1 then k1 else if k = 2 then k2 else if k = 3 then k3 else if k = 4 then k4 else k5, fun k => if k = 0 then j0 else if k = 1 then j1 else if k = 2 then j2 else if k = 3 then j3 else if k = 4 then j4 else j5, ?_⟩
    intro k q hq
    match k, hq with
    | 0, hq => cases hq; exact hk0
    | 1, hq => cases hq; exact hk1
    | 2, hq => cases hq; exact hk2
    | 3, hq => cases hq; exact hk3
    | 4, hq => cases hq; exact hk4
    | 5, hq => cases hq; exact hk5
    | k + 6, hq => simp [vwCl] at hq
  obtain ⟨a0, ka0, cp0, f0, g0, h0⟩ := Cond.arrayClass_spec (hUW _ ac_int)
  have hao3 : va_AO RX3 s := va_AO.of (hnw _ (List.mem_of_getElem? (i := 44) (by decide +kernel)))
  obtain ⟨cp3, a3, ka3, e3, -, g3, h3, f3⟩ := Cond.arrayOver_spec (va_AO.use (A := #[]) hao3)
  have hao0 : va_AO RX0 s := va_AO.of (hnw _ (List.mem_of_getElem? (i := 75) (by decide +kernel)))
  obtain ⟨cp4, a4, ka4, e4, -, g4, h4, f4⟩ := Cond.arrayOver_spec (va_AO.use (A := #[]) hao0)
  have hD : ∃ D : Gt, va_K D.1 vwCl (tyG D) s := by
    refine ⟨((dC, dI), fun k => if k = 0 then a0 else if k = 3 then a3 else a4), hKc, fun k q hq => ?_⟩
    match k, hq with
    | 0, hq => cases hq; exact ⟨fun N z => ⟨(fun k h => by cases h), ka0, g0, cp0, h0⟩, f0⟩
    | 1, hq => cases hq; exact ⟨fun N z => ⟨(fun k h => by cases h), ka3, g3, cp3, h3⟩, ka3, cp3, g3, h3, e3, f3⟩
    | 2, hq => cases hq; exact ⟨fun N z => ⟨(fun k h => by cases h), ka4, g4, cp4, h4⟩, ka4, cp4, g4, h4, e4, f4⟩
    | k + 3, hq => simp [tyG] at hq
  obtain ⟨D, hK⟩ := hD
  have hfl5 := hk5.2
  have hEN : EN s := by
    refine ⟨⟨fun X hX => ?_, fun y hy => ?_⟩, fun q hq => ?_, fun q hq => ?_, fun q hq => ?_⟩
    · exact va_Nw.of rfl (hnw _ (enX X hX))
    · exact va_Nw.of rfl (hnw _ (enD y hy))
    · exact va_Nw.of rfl (hnw _ (enF q hq))
    · exact va_Nw.of rfl (hnw _ (enM q hq))
    · have h1 := hnw _ (enS q hq)
      obtain ⟨cid, hcid⟩ : ∃ cid, s.vm.findClass RX5 = some cid := ⟨_, hk5.2.1⟩
      obtain ⟨-, -, -, sa, -, -, -, -, -, hev⟩ := Cond.stringRef_spec hcid h1
      exact ⟨sa, vk_R.of h1 hev⟩
  have hflat := flat_of_before _ hgv
  have hA0 : ∀ a : Nat, a < s.heap.size → ¬ (fun q : Nat => s.heap.size ≤ q) a := fun a h => Nat.not_le.mpr h
  have hSZ : SZ (fun q : Nat => s.heap.size ≤ q) s s.heap := ⟨vx_Zqof (hnw _ (List.mem_of_getElem? (i := 178) (by decide +kernel))) (hnw _ (List.mem_of_getElem? (i := 25) (by decide +kernel))) (hflat _ (by decide +kernel)) hA0, vx_Zqof (hnw _ (List.mem_of_getElem? (i := 180) (by decide +kernel))) (hnw _ (List.mem_of_getElem? (i := 25) (by decide +kernel))) (hflat _ (by decide +kernel)) hA0⟩
  have hNC : NC s := fun q hq => va_Nc.of (hflat _ (enN q hq))
  have C : CX D (fun q : Nat => s.heap.size ≤ q) RL code 15 ret c.exceptionTable.toList p s m #[Value.ref b] meth c := ⟨⟨hx, hb, hml, hown, hUW⟩, hK, hEN, hSZ, hr, hlocks, fun _ h => h, rfl⟩
  have hV := law_begin (e := e) (below := below) hfl C hNC hao3 hao0 hX hbl hL (fun _ => .inr (0, []))
  rw [lg_entry_eq]
  exact hV s.heap [] _ (fun k q h => by simp [wS] at h) ⟨fun i j p q h => by simp [wS] at h, fun k q h => by simp [wS] at h⟩ va_S.rf (lL_entry (As := [.ref b]) (n := 15) (catc rfl cat0) (Nat.le_of_ble_eq_true rfl))

set_option maxHeartbeats 4000000 in
theorem lw_walk (l : Launch) (hflags : l.flags = flags0) (b : Addr) (xs : List Int32) : MetFree l x (headSpec (Jvm.Cond.code x code maxLocals ret :: tables_1) room_1) (lw_P b xs) (fun _ _ _ _ _ => True) lw_Q := by
  refine MetFree.of_bodyS (code := code) (maxLocals := maxLocals) (ret := ret) (by decide) ?_ ?_
  · intro args s m h hn
    obtain ⟨meth, c, h1, h2, h3, h4, h5, h6, -, -⟩ := Cond.code_spec hn (atoms_spec (ws := Jvm.Cond.code x code maxLocals ret :: tables_1) h _ List.mem_cons_self)
    exact ⟨meth, c, h1, h2, h3, h4, h5, h6⟩
  · intro p e s m args below meth c s₁ B hml0 hP _
    obtain ⟨rfl, hx, hbd, hgv⟩ := hP
    obtain ⟨scr, harrAt, hlist, hof, hsmall⟩ := hx
    obtain ⟨hcb, hkn, -, -⟩ := State.arrayAt?_spec harrAt
    have hown : s.vm.findClass R_law = some m.cls := findClass_of_methodNamed B.named
    have hts0 : ∀ c ∈ (Jvm.Cond.code x code maxLocals ret :: tables_1), c.before #[Value.ref b] s = true := atoms_spec (ws := Jvm.Cond.code x code maxLocals ret :: tables_1) B.pre
    have hts : ∀ w ∈ lw_tbl, w.before #[Value.ref b] s = true := k2_hts_sels lw_privs (fun w hw => hts0 w (List.mem_cons_of_mem _ hw)) lw_privs_ok
    have hml : c.maxLocals = 15 := B.maxLocals_eq (hts0 _ List.mem_cons_self)
    have X₀ : Stand p l e room_1 s m #[Value.ref b] below meth c s₁ [] 0 0 := Stand.of_body B
    have hh0 : s₁.heap = s.heap := by rw [B.state]; rfl
    have hsz : scr.slots.size = xs.length := by rw [← Array.length_toList, hlist, List.length_map]
    have hval : ∀ j : Nat, j < xs.length → scr.slots[j]? = some (.int (xs.getD j 0)) := fun j hj => by
      rw [← Array.getElem?_toList, hlist]
      simp [hj]
    have hbl : b < s.heap.size := (Array.getElem?_eq_some_iff.mp hcb).1
    have hX : va_X b xs.length (fun j => xs.getD j 0) s s.heap := ⟨scr, hcb, hof, hkn, hsz, hval⟩
    have K : W p l e room_1 s m #[Value.ref b] below meth c s₁.heap [] 0 0 (lw_Z below #[Value.ref b] s) (entryFrame m ([Value.ref b] : List Value).toArray 15) := by
      rw [hh0]
      exact whole_start l hflags hbd ⟨B.exec, B.bytes, B.returns, hml, hown, hts, hX, hbl, B.notSynchronized, hgv⟩
    obtain ⟨t, a1, o, b1, b2, b3⟩ := K s₁ rfl X₀
    exact ⟨t, o, a1, b1, b2, b3⟩
theorem lw_pre_spec {args : Array Value} {s : State} (h : (Jvm.Cond.and given_1 narrow_1).before args s = true) (hr : rest_1_c.before args s = true) : ∃ (b : Addr) (xs : List Int32), lw_P b xs args s := by
  have hs := flat_of_before _ h
  have hq := flat_of_before _ hr
  have hc : (Cond.count 1).before args s = true := hs _ (by decide +kernel)
  have harr : (Cond.arrayOf (.arg 0) .int).before args s = true := hs _ (by decide +kernel)
  have hle : (Cond.le (.length (.arg 0)) (.int 260)).before args s = true := hs _ (by decide +kernel)
  have hlen : (Cond.isInt (.length (.arg 0))).before args s = true := hq _ (by decide +kernel)
  have hall : (Cond.all (.arg 0) (.isInt (.elem (.arg 0) (.index 0)))).before args s = true := hq _ (by decide +kernel)
  obtain ⟨b, xs, hb, hx⟩ := State.ints_of_pre rfl harr hlen hall
  have hsm : xs.length < 2 ^ 31 := hx.choose_spec.2.2.2
  have hev : (Term.length (.arg 0)).eval args s none [] s = some (.int xs.length.toInt32) := hx.length_eval hb
  have hv := Cond.le_ints hev (show (Term.int 260).eval args s none [] s = some (.int 260) from rfl)
  have hd : xs.length.toInt32 ≤ 260 := by
    simpa [Cond.before, Cond.holds, hv] using hle
  have hN : xs.length ≤ 260 := (Int32.ofNat_le_ofNat hsm (by decide)).mp (show Int32.ofNat xs.length ≤ Int32.ofNat 260 from hd)
  exact ⟨b, xs, Cond.one_arg hc (show args[0]? = some (.ref b) from hb), hx, hN, h⟩
theorem lw_comes (l : Launch) (hflags : l.flags = flags0) : Comes l x (Jvm.Cond.code x code maxLocals ret :: tables_1) room_1 (fun tb e args s => Calls_1 tb e args s ∧ rest_1 tb e args s ∧ Pre_1 tb e args s)
    (fun _ _ args s o t => lw_Q args s o t) := by
  intro p e ha hc hk s m args below hf hfit hheap happ hpre
  obtain ⟨b, xs, hP⟩ := lw_pre_spec hpre.2.2 hpre.2.1
  obtain ⟨k, o, h1, h2, h3, hQ⟩ := lw_walk l hflags b xs p e ha hc hk s m args below hf ((Spec.applies_iff_loose hf).mp happ).1 hP trivial
  exact ⟨k, o, h1, h2, h3, hQ⟩
theorem lw_frame {s t : State} {o : Outcome} {args : Array Value} (h : Framed s o t [] 621632 7236801) :
    Framed s o t (fieldLocs frame_1_writes args s ++ arrayLocs frame_1_arrays args s ++ staticLocs frame_1_statics s) 621632 7236801 := h
theorem lw_limb (L : Cond) (hL : ∀ (args : Array Value) (s t : State), L.after args s (.returned (some (.int 1))) t = true) :
    ArmFor flags0 classFile x code maxLocals ret World_1 tables_1 room_1 Calls_1 rest_1 Pre_1
      (fun tb e a s o t => postC L tb e a s o t ∧ Framed s o t (fieldLocs frame_1_writes a s ++ arrayLocs frame_1_arrays a s ++ staticLocs frame_1_statics s) 621632 7236801) := by
  intro l hflags _ _ p e ha hc hk s m args below hf hfit hheap happ hpre
  obtain ⟨k, o, h1, h2, h3, rfl, hF⟩ := lw_comes l hflags p e ha hc hk s m args below hf hfit hheap happ hpre
  exact ⟨k, _, h1, h2, h3, hL args s _, lw_frame hF⟩
theorem i_vc : Claimed_1_1 ∧ Claimed_1_2 := ⟨lw_limb limb_1_1 (fun args s t => by simp [limb_1_1, Cond.after, Cond.holds, Cond.value]), lw_limb limb_1_2 (fun args s t => Cond.after_iff.mpr (by
  first | (rw [show limb_1_2 = Cond.eq .result (.int 1) from rfl, Cond.eq_ints (x := 1) (y := 1) rfl rfl]; simp; done) | (simp [limb_1_2, Cond.value, Term.eval]; done)))⟩
